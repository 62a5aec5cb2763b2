/-! the class's object, seen from its parts -/
def kpV (VV : Cs) (p : Nat) : Cs := upV VV (2 + p) (cpV (VV (2 + p)) (VV 0))
theorem kpV_0 {VV : Cs} {p : Nat} : kpV VV p 0 = VV 0 := upV_n (by omega)
theorem kpV_1 {VV : Cs} {p : Nat} : kpV VV p 1 = VV 1 := upV_n (by omega)
section W2
variable {E : xEnv} {σ : Sg} {B p k : Nat} {VV : Cs} {nx sz len : Int32} {tx : Fn}
theorem bs_0 : bs B 0 = B + 1 := rfl
theorem bs_1 : bs B 1 = B + 21 := rfl
theorem bs_s : bs B (2 + p) = B + 43 + 20 * p := by unfold bs; rw [if_neg (by omega)]; omega
theorem cput_v0 : vput E (cput E σ B VV nx sz len tx) (B + 1) (VV 0) = cput E σ B VV nx sz len tx := cput_v (i := 0) (by decide)
theorem cput_w0 {W : Vs} : vput E (cput E σ B VV nx sz len tx) (B + 1) W = cput E σ B (upV VV 0 W) nx sz len tx := cput_w (i := 0) (by decide)
theorem cput_v1 : vput E (cput E σ B VV nx sz len tx) (B + 21) (VV 1) = cput E σ B VV nx sz len tx := cput_v (i := 1) (by decide)
theorem cput_w1 {W : Vs} : vput E (cput E σ B VV nx sz len tx) (B + 21) W = cput E σ B (upV VV 1 W) nx sz len tx := cput_w (i := 1) (by decide)
theorem cput_vs (hp : p < 6) : vput E (cput E σ B VV nx sz len tx) (B + 43 + 20 * p) (VV (2 + p)) = cput E σ B VV nx sz len tx := by
  rw [← bs_s]; exact cput_v (by omega)
theorem cput_ws (hp : p < 6) {W : Vs} : vput E (cput E σ B VV nx sz len tx) (B + 43 + 20 * p) W = cput E σ B (upV VV (2 + p) W) nx sz len tx := by
  rw [← bs_s]; exact cput_w (by omega)
/-- the village itself is V -/
theorem cput_is0 {V : Vs} (h : VV 0 = V) : cput E σ B VV nx sz len tx = vput E (cput E σ B VV nx sz len tx) (B + 1) V := by rw [← h]; exact cput_v0.symm
theorem cput_is1 {V : Vs} (h : VV 1 = V) : cput E σ B VV nx sz len tx = vput E (cput E σ B VV nx sz len tx) (B + 21) V := by rw [← h]; exact cput_v1.symm
theorem cput_h0 : cput E σ B VV nx sz len tx (B + 1) = some (.inr (3, vfs (B + 1) (VV 0))) := by rw [← cput_v0]; exact vput_0
theorem cput_h1 : cput E σ B VV nx sz len tx (B + 21) = some (.inr (3, vfs (B + 21) (VV 1))) := by rw [← cput_v1]; exact vput_0
theorem cput_hv (hp : p < 6) : cput E σ B VV nx sz len tx (B + 43 + 20 * p) = some (.inr (3, vfs (B + 43 + 20 * p) (VV (2 + p)))) := by rw [← cput_vs hp]; exact vput_0
theorem cput_hs (hk : k < 8) : cput E σ B VV nx sz len tx (B + 1 + 2 + 2 * k) = some (.inr (2, sfs (B + 1) (VV 0) k)) := by rw [← cput_v0]; exact vput_s hk
theorem cput_hs1 (hk : k < 8) : cput E σ B VV nx sz len tx (B + 21 + 2 + 2 * k) = some (.inr (2, sfs (B + 21) (VV 1) k)) := by rw [← cput_v1]; exact vput_s hk
/-- two villages at once -/
theorem cput_k1 (hp : p < 6) : cput E σ B VV nx sz len tx = vput E (vput E (cput E σ B VV nx sz len tx) (B + 43 + 20 * p) (VV (2 + p))) (B + 1) (VV 0) := by rw [cput_vs hp, cput_v0]
theorem cput_k2 (hp : p < 6) {X : Vs} : vput E (vput E (cput E σ B VV nx sz len tx) (B + 43 + 20 * p) X) (B + 1) (VV 0) = cput E σ B (upV VV (2 + p) X) nx sz len tx := by
  rw [cput_ws hp]
  exact (cput_is0 (upV_n (by omega))).symm
theorem cput_r1 (hp : p < 6) : cput E σ B VV nx sz len tx = vput E (vput E (cput E σ B VV nx sz len tx) (B + 1) (VV 0)) (B + 43 + 20 * p) (VV (2 + p)) := by rw [cput_v0, cput_vs hp]
theorem cput_r2 (hp : p < 6) {X : Vs} : vput E (vput E (cput E σ B VV nx sz len tx) (B + 1) X) (B + 43 + 20 * p) (VV (2 + p)) = cput E σ B (upV VV 0 X) nx sz len tx := by
  rw [cput_w0, ← bs_s]
  have h := cput_v (E := E) (σ := σ) (B := B) (VV := upV VV 0 X) (nx := nx) (sz := sz) (len := len) (tx := tx) (i := 2 + p) (by omega)
  rw [upV_n (by omega)] at h
  exact h
/-- the trial village gets the village's state -/
theorem cput_t1 : cput E σ B VV nx sz len tx = vput E (vput E (cput E σ B VV nx sz len tx) (B + 21) (VV 1)) (B + 1) (VV 0) := by rw [cput_v1, cput_v0]
theorem cput_t2 {X : Vs} : vput E (vput E (cput E σ B VV nx sz len tx) (B + 21) X) (B + 1) (VV 0) = cput E σ B (upV VV 1 X) nx sz len tx := by
  rw [cput_w1]
  exact (cput_is0 (upV_n (by omega))).symm
theorem cput_tt : tput E (cput E σ B VV nx sz len tx) (B + 163) len tx = cput E σ B VV nx sz len tx := cput_t
theorem cput_l (x : Int32) : xup (cput E σ B VV nx sz len tx) (B + 163) (.inr (0, ([.ref (B + 164), .int len] : List Value).set 1 (.int x))) = cput E σ B VV nx sz x tx := by
  rw [← cput_t (len := len) (len2 := x) (tx := tx) (tx2 := tx), ← tput_l (len := len) x, cput_tt]
theorem cput_p0 {x : Int32} : xup (cput E σ B VV nx sz len tx) (B + 1) (.inr (3, (vfs (B + 1) (VV 0)).set 3 (.int x))) = cput E σ B (upV VV 0 (up2 (VV 0) 9 0 x)) nx sz len tx := by
  rw [← cput_w0, ← vput_v0, cput_v0]
theorem cput_pa {x : Int32} (hk : k < 8) : xup (cput E σ B VV nx sz len tx) (B + 1 + 2 + 2 * k) (.inr (2, (sfs (B + 1) (VV 0) k).set 2 (.int x))) = cput E σ B (upV VV 0 (up2 (VV 0) 11 k x)) nx sz len tx := by
  rw [← cput_w0, ← vput_a hk, cput_v0]
end W2
theorem mod6 {p : Nat} (hp : p < 6) : nI p + 1 - (nI p + 1) / 6 * 6 = nI ((p + 1) % 6) := by
  rw [nI_1, show (6 : Int32) = nI 6 from rfl, pk_rem (by omega) (by decide) (by decide)]
theorem mod5 {p : Nat} (hp : p < 6) : nI p + 6 - 1 - (nI p + 6 - 1) / 6 * 6 = nI ((p + 5) % 6) := by
  rw [show (6 : Int32) = nI 6 from rfl, nI_add, show (1 : Int32) = nI 1 from rfl, pk_sub (by omega), pk_rem (by omega) (by decide) (by decide)]
  rfl
theorem min6 {z : Nat} (hz : z ≤ 6) : (if nI z + 1 < 6 then nI z + 1 else (6 : Int32)) = nI (min 6 (z + 1)) := by
  rw [nI_1, show (6 : Int32) = nI 6 from rfl]
  by_cases h : z + 1 < 6
  · rw [if_pos (nI_lt h (by omega)), Nat.min_eq_right (by omega)]
  · rw [if_neg (nI_nlt (by omega) (by omega)), Nat.min_eq_left (by omega)]
theorem char_n {c : Nat} (h : c < 65536) : vp_nar .char (nI c) = nI c := by
  unfold vp_nar
  rw [(pk_charN h).1]
/-! the text -/
def sgS (n : Nat) (tx : Fn) (j : Nat) : Int32 := if j < n then tx j else 0
abbrev gesP (s : Int32) : Prop := s = 119 ∨ s = 110
abbrev digP (s : Int32) : Prop := 48 ≤ s ∧ s ≤ 57
def astS (s : Int32) : Nat := if s = 42 then 8 else 11
def aenS (s : Int32) : Nat := if s = 59 then 0 else 11
def exS (j : Nat) (s : Int32) : Nat :=
  if j = 0 then (if 48 ≤ s ∧ s ≤ 55 then 1 else 11)
  else if j = 1 then (if s = 46 then 2 else 11)
  else if j = 2 then (if 48 ≤ s ∧ s ≤ 53 then 3 else 11)
  else if j = 3 then (if s = 61 then 4 else 11)
  else if j = 4 then (if gesP s then 5 else 11)
  else if j = 5 then (if gesP s then 6 else astS s)
  else if j = 6 then (if gesP s then 7 else astS s)
  else if j = 7 then astS s
  else if j = 8 then (if s = 48 then 10 else if digP s then 9 else 11)
  else if j = 9 then (if digP s then 10 else aenS s)
  else if j = 10 then aenS s
  else 11
/-- where the reader stands after i characters -/
def auS (tx : Fn) : Nat → Nat
  | 0 => 0
  | i + 1 => exS (auS tx i) (tx i)
def feS (tx : Fn) (n : Nat) : Int32 := match (List.range n).find? (fun i => decide (auS tx (i + 1) = 11)) with
  | some i => nI i
  | none => if auS tx n = 9 ∨ auS tx n = 10 then -6 else nI n
theorem ite_le {c : Prop} [Decidable c] {a b n : Nat} (h1 : a ≤ n) (h2 : b ≤ n) : (if c then a else b) ≤ n := by split <;> assumption
theorem astS_le {s : Int32} : astS s ≤ 11 := ite_le (by decide) (by decide)
theorem aenS_le {s : Int32} : aenS s ≤ 11 := ite_le (by decide) (by decide)
theorem exS_le {j : Nat} {s : Int32} : exS j s ≤ 11 := by
  unfold exS
  have a : ∀ {c : Prop} [Decidable c] (x y : Nat), x ≤ 11 → y ≤ 11 → (if c then x else y) ≤ 11 := fun x y h1 h2 => ite_le h1 h2
  exact ite_le (a _ _ (by decide) (by decide)) (ite_le (a _ _ (by decide) (by decide)) (ite_le (a _ _ (by decide) (by decide)) (ite_le (a _ _ (by decide) (by decide)) (ite_le (a _ _ (by decide) (by decide)) (ite_le (a _ _ (by decide) astS_le) (ite_le (a _ _ (by decide) astS_le) (ite_le astS_le (ite_le (a _ _ (by decide) (a _ _ (by decide) (by decide))) (ite_le (a _ _ (by decide) aenS_le) (ite_le aenS_le (by decide)))))))))))
theorem auS_le {tx : Fn} : ∀ i, auS tx i ≤ 11
  | 0 => Nat.zero_le _
  | i + 1 => exS_le
theorem exS_11 {s : Int32} : exS 11 s = 11 := rfl
theorem ex_0 {s : Int32} : exS 0 s = if 48 ≤ s ∧ s ≤ 55 then 1 else 11 := rfl
theorem ex_1 {s : Int32} : exS 1 s = if s = 46 then 2 else 11 := rfl
theorem ex_2 {s : Int32} : exS 2 s = if 48 ≤ s ∧ s ≤ 53 then 3 else 11 := rfl
theorem ex_3 {s : Int32} : exS 3 s = if s = 61 then 4 else 11 := rfl
theorem ex_4 {s : Int32} : exS 4 s = if gesP s then 5 else 11 := rfl
theorem ex_5 {s : Int32} : exS 5 s = if gesP s then 6 else astS s := rfl
theorem ex_6 {s : Int32} : exS 6 s = if gesP s then 7 else astS s := rfl
theorem ex_7 {s : Int32} : exS 7 s = astS s := rfl
theorem ex_8 {s : Int32} : exS 8 s = if s = 48 then 10 else if digP s then 9 else 11 := rfl
theorem ex_9 {s : Int32} : exS 9 s = if digP s then 10 else aenS s := rfl
theorem ex_10 {s : Int32} : exS 10 s = aenS s := rfl
theorem sg_in {n j : Nat} {tx : Fn} (h : j < n) : sgS n tx j = tx j := if_pos h
theorem nI_neL {a b : Nat} (ha : a < 2 ^ 31) (hb : b < 2 ^ 31) (h : a ≠ b) : ¬ nI a = nI b := fun z => h ((nI_eq ha hb).mp z)
theorem auS_st {tx : Fn} {i j : Nat} (h : auS tx i = 11) : auS tx (i + j) = 11 := by
  induction j with
  | zero => exact h
  | succ j ih =>
    show exS (auS tx (i + j)) _ = 11
    rw [ih]; rfl
theorem feS_c (tx : Fn) (n : Nat) : (∃ q, q < n ∧ (∀ j, j ≤ q → auS tx j ≠ 11) ∧ auS tx (q + 1) = 11 ∧ feS tx n = nI q) ∨ ((∀ j, j ≤ n → auS tx j ≠ 11) ∧ (auS tx n = 9 ∨ auS tx n = 10) ∧ feS tx n = -6) ∨ ((∀ j, j ≤ n → auS tx j ≠ 11) ∧ ¬ (auS tx n = 9 ∨ auS tx n = 10) ∧ feS tx n = nI n) := by
  unfold feS
  cases hf : (List.range n).find? (fun i => decide (auS tx (i + 1) = 11)) with
  | some q =>
    left
    have h0 := List.find?_some hf
    have h1 : auS tx (q + 1) = 11 := of_decide_eq_true h0
    have h2 := List.mem_range.mp (List.mem_of_find?_eq_some hf)
    refine ⟨q, h2, fun j hj e => ?_, h1, rfl⟩
    have h3 := List.find?_eq_some_iff_append.mp hf
    obtain ⟨-, as, bs, hab, hno⟩ := h3
    cases j with
    | zero => exact absurd e (by show ¬ (0 : Nat) = 11; decide)
    | succ i =>
      have hi : i ∈ as := by
        have hlen : as.length = q := by
          have h5 : (List.range n)[as.length]? = some q := by rw [hab]; simp
          rw [List.getElem?_range (by
            have := congrArg List.length hab
            simp at this
            omega)] at h5
          exact Option.some.inj h5
        have h6 : (List.range n)[i]? = some i := List.getElem?_range (by omega)
        rw [hab, List.getElem?_append_left (by omega)] at h6
        exact List.mem_of_getElem? h6
      have := hno i hi
      simp [e] at this
  | none =>
    right
    have hall : ∀ j, j ≤ n → auS tx j ≠ 11 := by
      intro j hj e
      cases j with
      | zero => exact absurd e (by show ¬ (0 : Nat) = 11; decide)
      | succ i =>
        have := List.find?_eq_none.mp hf i (List.mem_range.mpr (by omega))
        exact this (decide_eq_true e)
    by_cases h : auS tx n = 9 ∨ auS tx n = 10
    · exact Or.inl ⟨hall, h, if_pos h⟩
    · exact Or.inr ⟨hall, h, if_neg h⟩

