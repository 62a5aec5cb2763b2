section XO
variable {E : xEnv} {σ : Sg} {b c k : Nat} {V W : Vs}
theorem xup_o {a : Nat} {e : va_E} (h : a < c ∨ c + 20 ≤ a) : xup (vput E σ c W) a e = vput E (xup σ a e) c W := by
  funext q
  by_cases h1 : c ≤ q ∧ q < c + 20
  · rw [xup_n (by omega), vput_in h1.1 h1.2, vput_in h1.1 h1.2]
  · rw [vput_out (by omega)]
    by_cases h2 : q = a
    · subst h2; rw [xup_s, xup_s]
    · rw [xup_n h2, xup_n h2, vput_out (by omega)]
end XO
def upr (V : Vs) (r : Nat) (g : Fn) : Vs := fun p => if p = r then g else V p
theorem upr_s {V : Vs} {r : Nat} {g : Fn} : upr V r g r = g := if_pos rfl
theorem upr_n {V : Vs} {r p : Nat} {g : Fn} (h : p ≠ r) : upr V r g p = V p := if_neg h
/-- one speaker is copied -/
def cpK (V W : Vs) (k : Nat) : Vs := up2 (up2 (up2 (upr V k (W k)) 10 k (W 10 k)) 11 k (W 11 k)) 12 k (W 12 k)
def cpL (V W : Vs) (i : Nat) : Vs := fun r j => if r < i ∨ ((r = 10 ∨ r = 11 ∨ r = 12) ∧ j < i) then W r j else V r j
theorem cpL_0 {V W : Vs} : cpL V W 0 = V := by
  funext r j
  unfold cpL
  rw [if_neg (by omega)]
theorem cpK_at {V W : Vs} {k r j : Nat} (hk : k < 8) : cpK V W k r j = if r = k ∨ ((r = 10 ∨ r = 11 ∨ r = 12) ∧ j = k) then W r j else V r j := by
  unfold cpK
  by_cases h : r = k
  · subst h
    rw [if_pos (Or.inl rfl), up2_n (by omega), up2_n (by omega), up2_n (by omega), upr_s]
  · by_cases h2 : j = k
    · subst h2
      by_cases a : r = 12
      · subst a; rw [up2_s, if_pos (by omega)]
      rw [up2_n (by omega)]
      by_cases a2 : r = 11
      · subst a2; rw [up2_s, if_pos (by omega)]
      rw [up2_n (by omega)]
      by_cases a3 : r = 10
      · subst a3; rw [up2_s, if_pos (by omega)]
      rw [up2_n (by omega), upr_n h, if_neg (by omega)]
    · rw [up2_n (by omega), up2_n (by omega), up2_n (by omega), upr_n h, if_neg (by omega)]
theorem cpL_s {V W : Vs} {i : Nat} (hi : i < 8) : cpK (cpL V W i) W i = cpL V W (i + 1) := by
  funext r j
  rw [cpK_at hi]
  unfold cpL
  by_cases h : r = i ∨ ((r = 10 ∨ r = 11 ∨ r = 12) ∧ j = i)
  · rw [if_pos h, if_pos (by omega)]
  · rw [if_neg h]
    by_cases h2 : r < i ∨ ((r = 10 ∨ r = 11 ∨ r = 12) ∧ j < i)
    · rw [if_pos h2, if_pos (by omega)]
    · rw [if_neg h2, if_neg (by omega)]
theorem cpy84 {f g : Fn} : ∀ j, j < 84 → va_cpy f g (0 : Int32).toNatClampNeg (0 : Int32).toNatClampNeg (84 : Int32).toNatClampNeg j = f j := fun j hj => by
  rw [show (0 : Int32).toNatClampNeg = 0 from rfl, show (84 : Int32).toNatClampNeg = 84 from rfl]
  exact sb_cpy0 hj
theorem cpy4 {f g : Fn} : ∀ j, j < 4 → va_cpy f g (0 : Int32).toNatClampNeg (0 : Int32).toNatClampNeg (4 : Int32).toNatClampNeg j = f j := fun j hj => by
  rw [show (0 : Int32).toNatClampNeg = 0 from rfl, show (4 : Int32).toNatClampNeg = 4 from rfl]
  exact sb_cpy0 hj
theorem vput_rowk {E : xEnv} {σ : Sg} {b k : Nat} {V : Vs} {g : Fn} (hk : k < 8) : xup (vput E σ b V) (b + 3 + 2 * k) (.inl (xI E, 84, .inl g)) = vput E σ b (upr V k g) := by
  rw [← vput_rw (V2 := upr V k g) hk (fun r h => upr_n h), upr_s]
theorem vput_row8 {E : xEnv} {σ : Sg} {b : Nat} {V : Vs} {g : Fn} : xup (vput E σ b V) (b + 18) (.inl (xI E, 4, .inl g)) = vput E σ b (upr V 8 g) := by
  rw [← vput_r8 (V2 := upr V 8 g) (fun r h => upr_n h), upr_s]
theorem vput_row13 {E : xEnv} {σ : Sg} {b : Nat} {V : Vs} {g : Fn} : xup (vput E σ b V) (b + 19) (.inl (xI E, 14, .inl g)) = vput E σ b (upr V 13 g) := by
  rw [← vput_r13 (V2 := upr V 13 g) (fun r h => upr_n h), upr_s]

