/-! what the law counts in a village of four, and what the class counts -/
section C4
variable {V : Vs} {Q : Fn} {R : Nat → Fn} {A : Nat} {c y : Int32}
theorem LR.cn (H : LR V Q R A c y) : cnN (V 10) 8 = cnN (V 10) 4 := by
  have s : ∀ k, 4 ≤ k → k < 8 → cnN (V 10) (k + 1) = cnN (V 10) k := fun k h4 h8 => by
    rw [cnN, if_neg (H.hi h4 h8), Nat.add_zero]
  rw [s 7 (by decide) (by decide), s 6 (by decide) (by decide), s 5 (by decide) (by decide), s 4 (by decide) (by decide)]
theorem LR.sw (H : LR V Q R A c y) : swL V 8 = swL V 4 := by
  have s : ∀ k, 4 ≤ k → k < 8 → swL V (k + 1) = swL V k := fun k h4 h8 => by
    rw [swL, if_neg (H.hi h4 h8)]
  rw [s 7 (by decide) (by decide), s 6 (by decide) (by decide), s 5 (by decide) (by decide), s 4 (by decide) (by decide)]
theorem LR.bs (H : LR V Q R A c y) (h : Nat) : bsL V h 8 = bsL V h 4 := by
  have s : ∀ k, 4 ≤ k → k < 8 → bsL V h (k + 1) = bsL V h k := fun k h4 h8 => bsL_sk (Or.inl (H.hi h4 h8))
  rw [s 7 (by decide) (by decide), s 6 (by decide) (by decide), s 5 (by decide) (by decide), s 4 (by decide) (by decide)]
theorem LR.cu (H : LR V Q R A c y) (m w : Nat) : cuN V m w 8 = cuN V m w 4 := by
  have s : ∀ k, 4 ≤ k → k < 8 → cuN V m w (k + 1) = cuN V m w k := fun k h4 h8 => by
    rw [cuN, if_neg (fun z => H.hi h4 h8 z.1), Nat.add_zero]
  rw [s 7 (by decide) (by decide), s 6 (by decide) (by decide), s 5 (by decide) (by decide), s 4 (by decide) (by decide)]
theorem LR.cu10 (H : LR V Q R A c y) {m w : Nat} (hm : m < 6) (hw : 10 ≤ w) : ∀ n, n ≤ 4 → cuN V m w n = 0
  | 0, _ => rfl
  | n + 1, hn => by
    rw [cuN, H.cu10 hm hw n (by omega), if_neg]
    rintro ⟨h1, h2⟩
    have := wf_10 (H.row (by omega) h1) hm h2
    omega
/-- the most common word -/
theorem LR.cm (H : LR V Q R A c y) {m : Nat} (hm : m < 6) {o : Option Nat} (h : isG (fun w => nI (cuN V m w 4)) 0 10 o) : o = cmS V m := by
  rw [isG_e h]
  unfold cmS
  rw [wfL_cg (g := fun w => nI (cuN V m w 4)) (fun j _ => congrArg nI (H.cu m j))]
  exact (wfL_z (g := fun w => nI (cuN V m w 4)) (n := 10) 4 (fun i h1 h2 => by rw [H.cu10 hm h1 4 (Nat.le_refl _)]; rfl)).symm
theorem LR_uc (H : LR V Q R A c y) : ∀ n, LR (usC V n) Q R A c y
  | 0 => H
  | n + 1 => LR_us (LR_uc H n)
end C4
def twN (r : Fn) (m : Nat) : Nat → Nat
  | 0 => 0
  | k + 1 => twN r m k + (if wfS r m ≠ none ∧ wfS r k = wfS r m then 1 else 0)
def twT (r : Fn) : Nat → Nat
  | 0 => 0
  | m + 1 => twT r m + twN r m m
def PP (r : Fn) (a b : Nat) : Nat := if wfS r a ≠ none ∧ wfS r a = wfS r b then 1 else 0
def LL (r : Fn) (a b : Nat) : Nat := if wfS r b ≠ none ∧ wfS r a = wfS r b then 1 else 0
theorem LL_e (r : Fn) (a b : Nat) : LL r a b = PP r a b := by
  unfold LL PP
  by_cases h : wfS r a = wfS r b
  · rw [h]
  · rw [if_neg (fun z => h z.2), if_neg (fun z => h z.2)]
theorem tw_e {r : Fn} : twT r 6 = ccN r 6 := by
  have c0 : ccN r 6 = 0 + (0 + PP r 0 1 + PP r 0 2 + PP r 0 3 + PP r 0 4 + PP r 0 5) + (0 + PP r 1 2 + PP r 1 3 + PP r 1 4 + PP r 1 5) + (0 + PP r 2 3 + PP r 2 4 + PP r 2 5) + (0 + PP r 3 4 + PP r 3 5) + (0 + PP r 4 5) + (0) := rfl
  have t0 : twT r 6 = 0 + (0) + (0 + LL r 0 1) + (0 + LL r 0 2 + LL r 1 2) + (0 + LL r 0 3 + LL r 1 3 + LL r 2 3) + (0 + LL r 0 4 + LL r 1 4 + LL r 2 4 + LL r 3 4) + (0 + LL r 0 5 + LL r 1 5 + LL r 2 5 + LL r 3 5 + LL r 4 5) := rfl
  rw [c0, t0]
  simp only [LL_e]
  omega
section OI
variable {r : Fn} {m : Nat}
theorem wfS_lt : oI (wfS r m) < 0 ↔ wfS r m = none := oI_neg (fun i h => by have := wfS_in h; omega)
theorem wfS_ge : 0 ≤ oI (wfS r m) ↔ wfS r m ≠ none := ⟨fun h z => absurd (wfS_lt.mpr z) (Int32.not_lt.mpr h), fun h => Int32.not_lt.mp (fun z => h (wfS_lt.mp z))⟩
theorem wfS_os (r : Fn) (m : Nat) : wfS r m = none ∨ ∃ w, wfS r m = some w := by
  cases wfS r m with
  | none => exact Or.inl rfl
  | some w => exact Or.inr ⟨w, rfl⟩
end OI
theorem cw_s {r : Fn} {m : Nat} : nI (cwN r m) + (if wfS r m = none then (0 : Int32) else 1) = nI (cwN r (m + 1)) := by
  rw [cwN]
  by_cases h : wfS r m = none
  · rw [if_pos h, if_pos h, Int32.add_zero, Nat.add_zero]
  · rw [if_neg h, if_neg h, nI_1]
theorem tw_s {r : Fn} {m k a : Nat} : nI (a + twN r m k) + (if wfS r m ≠ none ∧ wfS r k = wfS r m then (1 : Int32) else 0) = nI (a + twN r m (k + 1)) := by
  rw [twN]
  by_cases h : wfS r m ≠ none ∧ wfS r k = wfS r m
  · rw [if_pos h, if_pos h, nI_1, Nat.add_assoc]
  · rw [if_neg h, if_neg h, Int32.add_zero, Nat.add_zero]
theorem ag_s {V : Vs} {a b m : Nat} : nI (agN V a b m) + (if wfS (V a) m ≠ none ∧ wfS (V a) m = wfS (V b) m then (1 : Int32) else 0) = nI (agN V a b (m + 1)) := by
  rw [agN]
  by_cases h : wfS (V a) m ≠ none ∧ wfS (V a) m = wfS (V b) m
  · rw [if_pos h, if_pos h, nI_1]
  · rw [if_neg h, if_neg h, Int32.add_zero, Nat.add_zero]
theorem cu_n {V : Vs} {m t : Nat} (h : ∀ w, ¬ (V 10 t = 1 ∧ wfS (V t) m = some w)) : (fun w => nI (cuN V m w t)) = (fun w => nI (cuN V m w (t + 1))) := by
  funext w
  rw [cuN, if_neg (h w), Nat.add_zero]
theorem cu_t {V : Vs} {m t w : Nat} (h1 : V 10 t = 1) (h2 : wfS (V t) m = some w) : ∀ j, j < 10 → upd (fun w => nI (cuN V m w t)) w (nI (cuN V m w t) + 1) j = (fun w => nI (cuN V m w (t + 1))) j := fun j _ => by
  dsimp only
  by_cases e : j = w
  · subst e
    rw [pk_us, cuN, if_pos ⟨h1, h2⟩, nI_1]
  · rw [pk_un e, cuN, if_neg (fun z => e (Option.some.inj (z.2.symm.trans h2))), Nat.add_zero]
theorem usC_s {VV : Cs} {m : Nat} : upV (upV VV 0 (usC (VV 0) m)) 0 (usR (upV VV 0 (usC (VV 0) m) 0) m 8) = upV VV 0 (usC (VV 0) (m + 1)) := by
  rw [upV_u, upV_s]; rfl
theorem cm_uc {V : Vs} {m : Nat} : cmS (usC V m) m = cmS V m := cmS_cg (fun r h => usC_r h m)
theorem cn_uc {V : Vs} {m : Nat} : cnN (usC V m 10) 8 = cnN (V 10) 8 := by rw [usC_r (by decide)]
theorem sw_uc {V : Vs} {m : Nat} : ∀ n, n ≤ 8 → swL (usC V m) n = swL V n
  | 0, _ => rfl
  | n + 1, hn => by rw [swL, swL, sw_uc n (by omega), usC_r (by decide), usC_r (show n ≠ 13 by omega)]
/-- nobody by that number -/
theorem no_k {V : Vs} {k : Nat} (hk : k < 8) (hp : ¬ V 10 k = 1) : ¬ ∃ q, q < 8 ∧ nI k = nI q ∧ V 10 q = 1 := by
  rintro ⟨q, h1, h2, h3⟩
  have := (nI_eq (by omega) (by omega)).mp h2
  subst this
  exact hp h3
theorem xX.fr {k : xT} {N a b : Nat} {σ : Sg} {pc : Nat} {lv : List (Option Value)} {st : List Value} (kk : σ N = none → xX k N a b σ pc lv st) : xX k N a b σ pc lv st := by
  obtain ⟨p, l0, e, R, s, m, args, below, meth, c, Q, E0, B0, nL0⟩ := k
  intro H locs ls hh hS hl
  exact kk (hh.fresh (Nat.le_refl _)) H locs ls hh hS hl
theorem wput_cs {E : xEnv} {σ : Sg} {B : Nat} {VV : Cs} {nx sz len : Int32} {tx : Fn} {Q : Fn} {R : Nat → Fn} : wput E (cput E σ B VV nx sz len tx) (B + 165) Q R = cput E (wput E σ (B + 165) Q R) B VV nx sz len tx := wput_c (Nat.le_refl _)
/-- a word that is known, heard -/
theorem c_L_heard_o {l : Launch} {E : xEnv} {B N : Nat} {σ : Sg} {a0 w : Nat} {f : Fn} {o : Option Nat} (he : σ a0 = some (.inl (xI E, 60, .inl f))) (hw : w < 10) (ho : o = some w) : xM l yL_heard cL_heard 4 (some .int) 0 0 0 0 E B [.int (oI o), .ref a0] N σ N σ (some (.int (oI (hdS f w)))) := by
  subst ho
  exact c_L_heard he hw
