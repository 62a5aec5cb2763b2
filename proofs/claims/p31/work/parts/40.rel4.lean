/-! where nobody is, nothing is -/
theorem LR_abs {V : Vs} {Q Q2 : Fn} {R : Nat → Fn} {A k : Nat} {c y : Int32} {g : Fn} (H : LR V Q R A c y) (hk : k < 4) (hp : ¬ V 10 k = 1) (hQ : ∀ j, j ≠ 9 + k → Q2 j = Q j) (hQk : Q2 (9 + k) = -1) (hg : ∀ j, j < 60 → g j = 0) : LR V Q2 (upR R k g) A c y :=
  LR_k hk H H.1 rfl (fun _ _ => rfl) H.2.2.1.2.2.2.1 (fun i _ _ => ⟨rfl, rfl, rfl, rfl⟩) (fun j hj => hQ j (by omega)) (fun i hi hne => ⟨hQ _ (by omega), hQ _ (by omega)⟩) (fun i _ hne => upR_n hne) (Or.inr ⟨hp, hQk, by rw [upR_s]; exact hg⟩)
def zrF (f : Fn) (n : Nat) : Fn := fun j => if j < n then 0 else f j
theorem zrF_0 {f : Fn} : zrF f 0 = f := by
  funext j
  unfold zrF
  rw [if_neg (by omega)]
theorem zrF_s {f : Fn} {n : Nat} : upd (zrF f n) n 0 = zrF f (n + 1) := by
  funext j
  unfold zrF
  by_cases e : j = n
  · subst e
    rw [pk_us, if_pos (by omega)]
  · rw [pk_un e]
    by_cases h : j < n
    · rw [if_pos h, if_pos (by omega)]
    · rw [if_neg h, if_neg (by omega)]
theorem zrF_z {f : Fn} : ∀ j, j < 60 → zrF f 60 j = 0 := fun j h => if_pos h
theorem cn_up {P P2 : Fn} {k : Nat} (hp : P k = 1) (h2 : ¬ P2 k = 1) (h : ∀ j, j ≠ k → P2 j = P j) : ∀ n, cnN P2 n + (if k < n then 1 else 0) = cnN P n
  | 0 => rfl
  | n + 1 => by
    have ih := cn_up hp h2 h n
    rw [cnN, cnN]
    by_cases e : n = k
    · subst e
      rw [if_neg h2, if_pos hp, if_pos (by omega)]
      rw [if_neg (by omega)] at ih
      omega
    · rw [h n e]
      by_cases hn : k < n
      · have e3 : (if k < n + 1 then 1 else 0) = (1 : Nat) := if_pos (by omega)
        rw [if_pos hn] at ih; rw [e3]; omega
      · have e3 : (if k < n + 1 then 1 else 0) = (0 : Nat) := if_neg (by omega)
        rw [if_neg hn] at ih; rw [e3]; omega
theorem go_cn {V : Vs} {Q : Fn} {R : Nat → Fn} {A k : Nat} {c y : Int32} (H : LR V Q R A c y) (hk : k < 4) (hp : V 10 k = 1) : nI (cnN (up2 V 10 k 0 10) 8) = nI (cnN (V 10) 4) - 1 := by
  have h := cn_up (P := V 10) (P2 := up2 V 10 k 0 10) hp (by rw [up2_s]; decide) (fun j hj => up2_n (by omega)) 8
  rw [if_pos (by omega), H.cn] at h
  rw [← h, nI_pred]
theorem ct_s {P : Fn} {n : Nat} : nI (cnN P n) - 1 + (if P n = 1 then (1 : Int32) else 0) = nI (cnN P (n + 1)) - 1 := by
  rw [cnN]
  by_cases h : P n = 1
  · rw [if_pos h, if_pos h, ← nI_1, Int32.sub_add_cancel, Int32.add_sub_cancel]
  · rw [if_neg h, if_neg h, Int32.add_zero, Nat.add_zero]
theorem upd_e {Q : Fn} {j : Nat} {x : Int32} (h : Q j = x) : upd Q j x = Q := by
  funext i
  by_cases e : i = j
  · subst e; rw [pk_us, h]
  · rw [pk_un e]
theorem kp_0 {VV : Cs} {p : Nat} {W : Vs} : upV (kpV VV p) 0 W 0 = W := upV_s
theorem md6 {p : Nat} : (p + 1) % 6 < 6 := Nat.mod_lt _ (by decide)
theorem mn6 {z : Nat} : min 6 (z + 1) ≤ 6 := Nat.min_le_left _ _
