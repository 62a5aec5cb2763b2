/-! WHAT THE CELLS' NUMBERS BECOME: the mathematics that both sides, class and model, are tied to -/
def oI (o : Option Nat) : Int32 := match o with
  | none => -6
  | some i => nI i
theorem nI_ne6 {i : Nat} (h : i < 2 ^ 31) : ¬ nI i = -6 := by
  intro e
  have h1 := nI_toInt h
  rw [e] at h1
  have h2 : ((-6 : Int32)).toInt = -6 := by decide
  omega
theorem oI_6 {o : Option Nat} (h : ∀ i, o = some i → i < 2 ^ 31) : oI o = -6 ↔ o = none := by
  cases o with
  | none => simp [oI]
  | some i => simp [oI, nI_ne6 (h i rfl)]
theorem oI_inj {o u : Option Nat} (h : ∀ i, o = some i → i < 2 ^ 31) (hu : ∀ i, u = some i → i < 2 ^ 31) : oI o = oI u ↔ o = u := by
  cases o with
  | none =>
    cases u with
    | none => simp
    | some j => simpa [oI, eq_comm] using nI_ne6 (hu j rfl)
  | some i =>
    cases u with
    | none => simpa [oI] using nI_ne6 (h i rfl)
    | some j => simpa [oI] using nI_eq (h i rfl) (hu j rfl)
/-- a weight is kept from 0 to 99 -/
def clS (x : Int32) : Int32 := if 0 < (if x < 99 then x else 99) then (if x < 99 then x else 99) else 0
/-- the first greatest one above 0, among n; and how great -/
def wfL (g : Fn) : Nat → Option Nat × Int32
  | 0 => (none, 0)
  | n + 1 => if g n ≤ (wfL g n).2 then wfL g n else (some n, g n)
theorem wfL_in (g : Fn) : ∀ (n i : Nat), (wfL g n).1 = some i → i < n
  | 0, i, h => by simp [wfL] at h
  | n + 1, i, h => by
    unfold wfL at h
    split at h
    · have := wfL_in g n i h; omega
    · simp at h; omega
theorem wfL_cg {f g : Fn} : ∀ {n : Nat}, (∀ j, j < n → f j = g j) → wfL f n = wfL g n
  | 0, _ => rfl
  | n + 1, h => by
    unfold wfL
    rw [wfL_cg (fun j hj => h j (by omega)), h n (by omega)]
def wfS (r : Fn) (m : Nat) : Option Nat := (wfL (fun w => r (14 * m + w)) 14).1
def haS (r : Fn) (w : Nat) : Option Nat := (wfL (fun m => r (14 * m + w)) 6).1
theorem wfS_in {r : Fn} {m i : Nat} (h : wfS r m = some i) : i < 14 := wfL_in _ _ _ h
theorem haS_in {r : Fn} {w i : Nat} (h : haS r w = some i) : i < 6 := wfL_in _ _ _ h
theorem wfS_6 {r : Fn} {m : Nat} : oI (wfS r m) = -6 ↔ wfS r m = none := oI_6 (fun _ h => by have := wfS_in h; omega)
theorem haS_6 {r : Fn} {w : Nat} : oI (haS r w) = -6 ↔ haS r w = none := oI_6 (fun _ h => by have := haS_in h; omega)
theorem wfS_ij {r s : Fn} {m o : Nat} : oI (wfS r m) = oI (wfS s o) ↔ wfS r m = wfS s o := oI_inj (fun _ h => by have := wfS_in h; omega) (fun _ h => by have := wfS_in h; omega)
theorem wfS_is {r : Fn} {m w : Nat} (hw : w < 2 ^ 31) : oI (wfS r m) = nI w ↔ wfS r m = some w := oI_inj (u := some w) (fun _ h => by have := wfS_in h; omega) (fun i h => by cases h; exact hw)
theorem haS_is {r : Fn} {m w : Nat} (hw : w < 2 ^ 31) : oI (haS r m) = nI w ↔ haS r m = some w := oI_inj (u := some w) (fun _ h => by have := haS_in h; omega) (fun i h => by cases h; exact hw)
/-- what a speaker learns -/
def lnS (age gain : Int32) : Int32 := if 1 < gain - age / 20 then gain - age / 20 else 1
/-- one weight changes -/
def chS (V : Vs) (k m w : Nat) (d : Int32) : Vs := up2 V k (14 * m + w) (clS (V k (14 * m + w) + d))
/-- a word is preferred: its weight grows by a, those of the first i others become less -/
def prL (V : Vs) (k m w : Nat) (a loss : Int32) (i : Nat) : Vs := fun r j => if r = k ∧ j = 14 * m + w then clS (V r j + a) else if r = k ∧ 14 * m ≤ j ∧ j < 14 * m + i then clS (V r j + -loss) else V r j
def prS (V : Vs) (k m w : Nat) (a loss : Int32) : Vs := prL V k m w a loss 14
theorem prL_0 {V : Vs} {k m w : Nat} {a loss : Int32} : prL V k m w a loss 0 = chS V k m w a := by
  funext r j
  unfold prL chS up2
  by_cases h : r = k ∧ j = 14 * m + w
  · rw [if_pos h, if_pos h, h.1, h.2]
  · rw [if_neg h, if_neg h, if_neg (by omega)]
theorem prL_s {V : Vs} {k m w i : Nat} {a loss : Int32} (hi : ¬ i = w) : chS (prL V k m w a loss i) k m i (-loss) = prL V k m w a loss (i + 1) := by
  have e : prL V k m w a loss i k (14 * m + i) = V k (14 * m + i) := by
    unfold prL
    rw [if_neg (by omega), if_neg (by omega)]
  funext r j
  unfold chS
  rw [e]
  by_cases h : r = k ∧ j = 14 * m + i
  · obtain ⟨rfl, rfl⟩ := h
    rw [up2_s]
    unfold prL
    rw [if_neg (by omega), if_pos (by omega)]
  · rw [up2_n h]
    unfold prL
    by_cases h2 : r = k ∧ j = 14 * m + w
    · rw [if_pos h2, if_pos h2]
    · rw [if_neg h2, if_neg h2]
      by_cases h3 : r = k ∧ 14 * m ≤ j ∧ j < 14 * m + i
      · rw [if_pos h3, if_pos (by omega)]
      · rw [if_neg h3, if_neg (by omega)]
theorem prL_e {V : Vs} {k m w : Nat} {a loss : Int32} : prL V k m w a loss w = prL V k m w a loss (w + 1) := by
  funext r j
  unfold prL
  by_cases h2 : r = k ∧ j = 14 * m + w
  · rw [if_pos h2, if_pos h2]
  · rw [if_neg h2, if_neg h2]
    by_cases h3 : r = k ∧ 14 * m ≤ j ∧ j < 14 * m + w
    · rw [if_pos h3, if_pos (by omega)]
    · rw [if_neg h3, if_neg (by omega)]
/-- the hearer forgets the word for the first i other meanings -/
def fmL (V : Vs) (k m w : Nat) (loss : Int32) (i : Nat) : Vs := fun r j => if r = k ∧ j % 14 = w ∧ j / 14 < i ∧ j / 14 ≠ m then clS (V r j + -loss) else V r j
def fmS (V : Vs) (k m w : Nat) (loss : Int32) : Vs := fmL V k m w loss 6
theorem fmL_0 {V : Vs} {k m w : Nat} {loss : Int32} : fmL V k m w loss 0 = V := by
  funext r j
  unfold fmL
  rw [if_neg (by omega)]
theorem fmL_s {V : Vs} {k m w i : Nat} {loss : Int32} (hw : w < 14) (hi : ¬ i = m) : chS (fmL V k m w loss i) k i w (-loss) = fmL V k m w loss (i + 1) := by
  have e : fmL V k m w loss i k (14 * i + w) = V k (14 * i + w) := by
    unfold fmL
    rw [if_neg (by omega)]
  funext r j
  unfold chS
  rw [e]
  by_cases h : r = k ∧ j = 14 * i + w
  · obtain ⟨rfl, rfl⟩ := h
    rw [up2_s]
    unfold fmL
    rw [if_pos (by omega)]
  · rw [up2_n h]
    unfold fmL
    by_cases h3 : r = k ∧ j % 14 = w ∧ j / 14 < i ∧ j / 14 ≠ m
    · rw [if_pos h3, if_pos (by omega)]
    · rw [if_neg h3, if_neg (by omega)]
theorem fmL_e {V : Vs} {k m w : Nat} {loss : Int32} : fmL V k m w loss m = fmL V k m w loss (m + 1) := by
  funext r j
  unfold fmL
  by_cases h3 : r = k ∧ j % 14 = w ∧ j / 14 < m ∧ j / 14 ≠ m
  · rw [if_pos h3, if_pos (by omega)]
  · rw [if_neg h3, if_neg (by omega)]
def smL (g : Fn) : Nat → Int32
  | 0 => 0
  | n + 1 => smL g n + g n
/-- for how many of the first n meanings there is a word -/
def cwN (r : Fn) : Nat → Nat
  | 0 => 0
  | n + 1 => cwN r n + (if wfS r n = none then 0 else 1)
/-- pairs of meanings with one word: with meaning m, among the t behind it; then of the first n meanings with those behind -/
def ccI (r : Fn) (m : Nat) : Nat → Nat
  | 0 => 0
  | t + 1 => ccI r m t + (if wfS r m ≠ none ∧ wfS r m = wfS r (m + 1 + t) then 1 else 0)
def ccN (r : Fn) : Nat → Nat
  | 0 => 0
  | n + 1 => ccN r n + ccI r n (5 - n)
/-- a life begins: the first n weights, with a share of the teacher's -/
def blL (V : Vs) (k : Nat) (t : Option Nat) (sh : Int32) (n : Nat) : Vs := fun r j => if r = 11 ∧ j = k then 0 else if r = 12 ∧ j = k then 0 else if r = k ∧ j < n then clS (match t with | none => 0 | some t => V t j * sh / 100) else V r j
def blS (V : Vs) (k : Nat) (t : Option Nat) (sh : Int32) : Vs := blL V k t sh 84
theorem blL_0 {V : Vs} {k : Nat} {t : Option Nat} {sh : Int32} : up2 (up2 V 11 k 0) 12 k 0 = blL V k t sh 0 := by
  funext r j
  unfold blL up2
  by_cases h1 : r = 11 ∧ j = k
  · rw [if_pos h1, if_neg (by omega), if_pos h1]
  · rw [if_neg h1]
    by_cases h2 : r = 12 ∧ j = k
    · rw [if_pos h2, if_neg h1, if_pos h2]
    · rw [if_neg h2, if_neg h2, if_neg h1, if_neg (by omega)]
theorem blL_t {V : Vs} {k n t j : Nat} {sh : Int32} (ht : t < 8) (hk : k < 8) (h : t ≠ k) : blL V k (some t) sh n t j = V t j := by
  unfold blL
  rw [if_neg (by omega), if_neg (by omega), if_neg (by omega)]
theorem blL_s {V : Vs} {k n : Nat} {t : Option Nat} {sh : Int32} (hk : k < 8) : up2 (blL V k t sh n) k n (clS (match t with | none => 0 | some t => V t n * sh / 100)) = blL V k t sh (n + 1) := by
  funext r j
  by_cases h : r = k ∧ j = n
  · obtain ⟨rfl, rfl⟩ := h
    rw [up2_s]
    unfold blL
    rw [if_neg (by omega), if_neg (by omega), if_pos (by omega)]
  · rw [up2_n h]
    unfold blL
    by_cases h1 : r = 11 ∧ j = k
    · rw [if_pos h1, if_pos h1]
    rw [if_neg h1, if_neg h1]
    by_cases h2 : r = 12 ∧ j = k
    · rw [if_pos h2, if_pos h2]
    rw [if_neg h2, if_neg h2]
    by_cases h3 : r = k ∧ j < n
    · rw [if_pos h3, if_pos (by omega)]
    · rw [if_neg h3, if_neg (by omega)]

