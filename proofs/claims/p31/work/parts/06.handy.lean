/-! handier rows, loops -/
theorem nI_inc (n : Nat) : nI n + Int32.ofInt 1 = nI (n + 1) := (nI_succ n).symm
theorem inc1 (x : Int32) : x + Int32.ofInt 1 = x + 1 := rfl
theorem x_for {P : Nat → Prop} (n : Nat) (h0 : P n) (hs : ∀ i, i < n → P (i + 1) → P i) : ∀ i, i ≤ n → P i := by
  intro i hi
  obtain ⟨d, rfl⟩ : ∃ d, n = i + d := ⟨n - i, by omega⟩
  clear hi
  induction d generalizing i with
  | zero => exact h0
  | succ d ih => exact hs i (by omega) (ih (i + 1) (by rw [show i + 1 + d = i + (d + 1) by omega]; exact h0) (fun j hj => hs j (by omega)))
section XH
variable {k : xT} {l : Launch} {E : xEnv} {B : Nat} {cc : ByteArray} {nL : Nat} {ret : Option FieldType} {own mn : String} {fr lo ce sl N a b : Nat} {σ : Sg} {pc : Nat} {lv : List (Option Value)} {st : List Value}
theorem x_iald2 (C : xC k l E B cc nL ret own mn fr lo ce sl) {a0 n q : Nat} {f : Nat → Int32} {i : Int32} (he : σ a0 = some (.inl (xI E, n, .inl f))) (hi : i = nI q) (hq : q < n) (hn : n < 2 ^ 31) (d : decode cc pc = .ok (.iaload, 1))
    (kk : xX k N a b σ (pc + 1) lv (.int (f q) :: st)) : xX k N a b σ pc lv (.int i :: .ref a0 :: st) := by
  subst hi
  refine x_iald C he (vp_in_nI hq hn) d ?_
  rw [nI_clamp (by omega)]
  exact kk
theorem x_cald2 (C : xC k l E B cc nL ret own mn fr lo ce sl) {a0 n q : Nat} {f : Nat → Int32} {i : Int32} (he : σ a0 = some (.inl (xCh E, n, .inl f))) (hi : i = nI q) (hq : q < n) (hn : n < 2 ^ 31) (d : decode cc pc = .ok (.caload, 1))
    (kk : xX k N a b σ (pc + 1) lv (.int (f q) :: st)) : xX k N a b σ pc lv (.int i :: .ref a0 :: st) := by
  subst hi
  refine x_cald C he (vp_in_nI hq hn) d ?_
  rw [nI_clamp (by omega)]
  exact kk
theorem x_aald2 (C : xC k l E B cc nL ret own mn fr lo ce sl) {a0 n q t0 : Nat} {cA : ClassId} {Cn : String} {f : Nat → Option Nat} {i : Int32} (he : σ a0 = some (.inl (cA, n, .inr (.inr (.inr (.inr f)))))) (ht : (xtys E)[t0]? = some (cA, .object Cn)) (hi : i = nI q) (hq : q < n) (hn : n < 2 ^ 31) (d : decode cc pc = .ok (.aaload, 1))
    (kk : xX k N a b σ (pc + 1) lv (va_rf (f q) :: st)) : xX k N a b σ pc lv (.int i :: .ref a0 :: st) := by
  subst hi
  refine x_aald C he ht (vp_in_nI hq hn) rfl d ?_
  rw [nI_clamp (by omega)]
  exact kk
theorem x_iast2 (C : xC k l E B cc nL ret own mn fr lo ce sl) {a0 n q : Nat} {f g : Nat → Int32} {i x : Int32} {σ2 : Sg} (he : σ a0 = some (.inl (xI E, n, .inl f))) (hi : i = nI q) (hq : q < n) (hn : n < 2 ^ 31) (hg : ∀ j, j < n → upd f q x j = g j) (hs : xup σ a0 (.inl (xI E, n, .inl g)) = σ2) (d : decode cc pc = .ok (.iastore, 1))
    (kk : xX k N a b σ2 (pc + 1) lv st) : xX k N a b σ pc lv (.int x :: .int i :: .ref a0 :: st) := by
  subst hi
  exact x_iast C he (vp_in_nI hq hn) (by rw [nI_clamp (by omega)]; exact hg) hs d kk
theorem x_cast2 (C : xC k l E B cc nL ret own mn fr lo ce sl) {a0 n q : Nat} {f g : Nat → Int32} {i x : Int32} {σ2 : Sg} (he : σ a0 = some (.inl (xCh E, n, .inl f))) (hi : i = nI q) (hq : q < n) (hn : n < 2 ^ 31) (hg : ∀ j, j < n → upd f q (vp_nar .char x) j = g j) (hs : xup σ a0 (.inl (xCh E, n, .inl g)) = σ2) (d : decode cc pc = .ok (.castore, 1))
    (kk : xX k N a b σ2 (pc + 1) lv st) : xX k N a b σ pc lv (.int x :: .int i :: .ref a0 :: st) := by
  subst hi
  exact x_cast C he (vp_in_nI hq hn) (by rw [nI_clamp (by omega)]; exact hg) hs d kk
/-- a truth value under 'ifeq', 'ifne' -/
theorem x_beq (C : xC k l E B cc nL ret own mn fr lo ce sl) {p : Prop} [Decidable p] {off : Int} (tgt : Nat) (d : decode cc pc = .ok (.ifCond .eq off, 3)) (ht : (pc : Int) + off = (tgt : Int))
    (kt : ¬ p → xX k N a b σ tgt lv st) (kf : p → xX k N a b σ (pc + 3) lv st) : xX k N a b σ pc lv (.int (xb p) :: st) := by
  refine x_if_eq C tgt d ht (fun h => kt ?_) (fun h => kf ?_)
  · intro hp; rw [xb, if_pos hp] at h; exact absurd h (by decide)
  · by_cases hp : p
    · exact hp
    · rw [xb, if_neg hp] at h; exact absurd rfl h
theorem x_bne (C : xC k l E B cc nL ret own mn fr lo ce sl) {p : Prop} [Decidable p] {off : Int} (tgt : Nat) (d : decode cc pc = .ok (.ifCond .ne off, 3)) (ht : (pc : Int) + off = (tgt : Int))
    (kt : p → xX k N a b σ tgt lv st) (kf : ¬ p → xX k N a b σ (pc + 3) lv st) : xX k N a b σ pc lv (.int (xb p) :: st) := by
  refine x_if_ne C tgt d ht (fun h => kt ?_) (fun h => kf ?_)
  · by_cases hp : p
    · exact hp
    · rw [xb, if_neg hp] at h; exact absurd rfl h
  · intro hp; rw [xb, if_pos hp] at h; exact absurd h (by decide)
/-- the flag of a speaker who is there -/
theorem x_feq (C : xC k l E B cc nL ret own mn fr lo ce sl) {c : Int32} {off : Int} (tgt : Nat) (d : decode cc pc = .ok (.ifCond .eq off, 3)) (ht : (pc : Int) + off = (tgt : Int))
    (kt : ¬ c = 1 → xX k N a b σ tgt lv st) (kf : c = 1 → xX k N a b σ (pc + 3) lv st) : xX k N a b σ pc lv (.int (xfl c) :: st) := x_beq C tgt d ht kt kf
theorem x_fne (C : xC k l E B cc nL ret own mn fr lo ce sl) {c : Int32} {off : Int} (tgt : Nat) (d : decode cc pc = .ok (.ifCond .ne off, 3)) (ht : (pc : Int) + off = (tgt : Int))
    (kt : c = 1 → xX k N a b σ tgt lv st) (kf : ¬ c = 1 → xX k N a b σ (pc + 3) lv st) : xX k N a b σ pc lv (.int (xfl c) :: st) := x_bne C tgt d ht kt kf
end XH
theorem ix14 (a b : Nat) : nI a * 14 + nI b = nI (14 * a + b) := by
  rw [show (14 : Int32) = nI 14 from rfl, pk_mul, nI_add, Nat.mul_comm]
theorem b_t {p : Prop} [Decidable p] (h : p) : xb p = 1 := if_pos h
theorem b_f {p : Prop} [Decidable p] (h : ¬ p) : xb p = 0 := if_neg h
theorem b_n (p : Prop) [Decidable p] : narrow .boolean (.int (xb p)) = .int (xb p) := by unfold xb; split <;> rfl
theorem bd_in {i c : Nat} (h : i < c) (hc : c < 2 ^ 31) : (0 : Int32) ≤ nI i ∧ nI i < nI c := ⟨nI_pos' (by omega), nI_lt h hc⟩
theorem bd_of {x : Int32} {c : Nat} (hc : c < 2 ^ 31) (h : 0 ≤ x ∧ x < nI c) : ∃ i, i < c ∧ x = nI i := by
  rcases pk_ix x hc with h1 | h1 | h1
  · exact absurd h.1 (by simpa using h1)
  · exact absurd h.2 (by simpa using h1)
  · exact h1
/-- a local that is no longer asked -/
def xdrop : List (Option Value) → Nat → List (Option Value)
  | [], _ => []
  | _ :: l, 0 => none :: l
  | o :: l, n + 1 => o :: xdrop l n
theorem xget_drop : ∀ (lv : List (Option Value)) (i j : Nat) (x : Value), xget (xdrop lv i) j = some x → xget lv j = some x
  | [], _, _, _, h => by simp [xdrop, xget] at h
  | o :: l, 0, 0, x, h => by simp [xdrop, xget] at h
  | o :: l, 0, j + 1, x, h => h
  | o :: l, i + 1, 0, x, h => h
  | o :: l, i + 1, j + 1, x, h => xget_drop l i j x h
/-- fewer locals are known -/
def xle : List (Option Value) → List (Option Value) → Prop
  | [], _ => True
  | none :: l, l2 => xle l (l2.drop 1)
  | some v :: l, l2 => l2.head? = some (some v) ∧ xle l (l2.drop 1)
theorem xle_get : ∀ (l1 l2 : List (Option Value)) (j : Nat) (x : Value), xle l1 l2 → xget l1 j = some x → xget l2 j = some x
  | [], _, _, _, _, h => by simp [xget] at h
  | none :: l, l2, 0, x, _, h => by simp [xget] at h
  | none :: l, [], j + 1, x, hl, h => xle_get l [] j x hl h
  | none :: l, o :: l2, j + 1, x, hl, h => xle_get l l2 j x hl h
  | some v :: l, [], 0, x, hl, h => by simp [xle] at hl
  | some v :: l, o :: l2, 0, x, hl, h => by
    simp only [xle, List.head?_cons, Option.some.injEq] at hl
    simp only [xget] at h ⊢
    rw [hl.1]; exact h
  | some v :: l, [], j + 1, x, hl, h => by simp [xle] at hl
  | some v :: l, o :: l2, j + 1, x, hl, h => xle_get l l2 j x hl.2 h
theorem xX.less {k : xT} {N a b : Nat} {σ : Sg} {pc : Nat} {lv lv2 : List (Option Value)} {st : List Value} (h : xle lv2 lv) (kk : xX k N a b σ pc lv2 st) : xX k N a b σ pc lv st := by
  obtain ⟨p, l0, e, R, s, m, args, below, meth, c, Q, E0, B0, nL0⟩ := k
  intro H locs ls hh hS hl
  refine kk H locs ls hh hS ⟨hl.1, hl.2.1, fun q hq => ?_⟩
  obtain ⟨-, h2⟩ := xmem_get _ 0 q hq
  rw [Nat.sub_zero] at h2
  have h3 := xget_mem lv 0 q.1 q.2 (xle_get lv2 lv q.1 q.2 h h2)
  rw [Nat.zero_add] at h3
  exact hl.2.2 _ h3
theorem xX.cl {k : xT} {N a b : Nat} {σ σ2 : Sg} {pc : Nat} {lv lv2 : List (Option Value)} {st st2 : List Value} (kk : xX k N a b σ2 pc lv2 st2) (h : σ = σ2) (h2 : xle lv2 lv) (h3 : st = st2) : xX k N a b σ pc lv st := by
  subst h; subst h3
  exact kk.less h2

