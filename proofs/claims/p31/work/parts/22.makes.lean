/-! what is made: the cells of new objects, and how the village grows -/
theorem xX.nn {k : xT} {N N2 a b a2 b2 : Nat} {σ : Sg} {pc : Nat} {lv : List (Option Value)} {st : List Value} (kk : xX k N2 a2 b2 σ pc lv st) (h : N = N2) (ha : a ≤ a2) (hb : b ≤ b2) : xX k N a b σ pc lv st := by
  subst h
  exact xX.widen ha hb kk
theorem xX.cl2 {k : xT} {N N2 a b a2 b2 : Nat} {σ σ2 : Sg} {pc : Nat} {lv lv2 : List (Option Value)} {st st2 : List Value} (kk : xX k N2 a2 b2 σ2 pc lv2 st2) (hN : N = N2) (ha : a ≤ a2) (hb : b ≤ b2) (h : σ = σ2) (h2 : xle lv2 lv) (h3 : st = st2) : xX k N a b σ pc lv st :=
  (xX.cl (kk.widen ha hb |> fun z => xX.nn z hN (Nat.le_refl _) (Nat.le_refl _)) h h2 h3)
def bl_X0 : List Value := [.null, .int 0]
def bl_X1 : List Value := [.null, .int 0, .int 0]
def bl_X2 : List Value := [.null, .int 0, .int 0, .int 0]
def bl_X3 : List Value := [.null, .null, .null, .int 0, .int 0, .int 0, .int 0, .int 0]
def bl_X4 : List Value := [.null, .null, .null, .null]
theorem bl_X0_ok : ∀ j, j < 2 → defaultValue (tyX0 j) = vp_V bl_X0 j := fun j hj => by
  rcases (show j = 0 ∨ j = 1 by omega) with rfl | rfl <;> rfl
theorem bl_X1_ok : ∀ j, j < 3 → defaultValue (tyX1 j) = vp_V bl_X1 j := fun j hj => by
  rcases (show j = 0 ∨ j = 1 ∨ j = 2 by omega) with rfl | rfl | rfl <;> rfl
theorem bl_X2_ok : ∀ j, j < 4 → defaultValue (tyX2 j) = vp_V bl_X2 j := fun j hj => by
  rcases (show j = 0 ∨ j = 1 ∨ j = 2 ∨ j = 3 by omega) with rfl | rfl | rfl | rfl <;> rfl
theorem bl_X3_ok : ∀ j, j < 8 → defaultValue (tyX3 j) = vp_V bl_X3 j := fun j hj => by
  rcases (show j = 0 ∨ j = 1 ∨ j = 2 ∨ j = 3 ∨ j = 4 ∨ j = 5 ∨ j = 6 ∨ j = 7 by omega) with rfl | rfl | rfl | rfl | rfl | rfl | rfl | rfl <;> rfl
theorem bl_X4_ok : ∀ j, j < 4 → defaultValue (tyX4 j) = vp_V bl_X4 j := fun j hj => by
  rcases (show j = 0 ∨ j = 1 ∨ j = 2 ∨ j = 3 by omega) with rfl | rfl | rfl | rfl <;> rfl
/-- a village as it is made: i speakers stand -/
def vgr (E : xEnv) (σ : Sg) (b i : Nat) (fs : List Value) (o18 o19 : Option va_E) : Sg := fun a =>
  if a = b then some (.inr (3, fs))
  else if a = b + 1 then some (.inl (xSp E, 8, .inr (.inr (.inr (.inr (fun k => if k < i then some (b + 2 + 2 * k) else none))))))
  else if b + 2 ≤ a ∧ a < b + 2 + 2 * i then some (if (a - b) % 2 = 0 then .inr (2, [.ref (a + 1), .int 0, .int 0, .int 0]) else .inl (xI E, 84, .inl (fun _ => 0)))
  else if a = b + 18 then o18
  else if a = b + 19 then o19
  else σ a
section GR
variable {E : xEnv} {σ : Sg} {b i : Nat} {fs : List Value} {o18 o19 : Option va_E}
theorem vgr_b : vgr E σ b i fs o18 o19 b = some (.inr (3, fs)) := if_pos rfl
theorem vgr_1 : vgr E σ b i fs o18 o19 (b + 1) = some (.inl (xSp E, 8, .inr (.inr (.inr (.inr (fun k => if k < i then some (b + 2 + 2 * k) else none)))))) := by
  unfold vgr
  rw [if_neg (by omega), if_pos rfl]
theorem vgr_18 (hi : i ≤ 8) : vgr E σ b i fs o18 o19 (b + 18) = o18 := by
  unfold vgr
  rw [if_neg (by omega), if_neg (by omega), if_neg (by omega), if_pos rfl]
theorem vgr_fs {fs2 : List Value} : xup (vgr E σ b i fs o18 o19) b (.inr (3, fs2)) = vgr E σ b i fs2 o18 o19 := by
  funext a
  by_cases h : a = b
  · subst h; rw [xup_s, vgr_b]
  · rw [xup_n h]; unfold vgr; rw [if_neg h, if_neg h]
theorem vgr_o18 (hi : i ≤ 8) {e : va_E} : xup (vgr E σ b i fs o18 o19) (b + 18) e = vgr E σ b i fs (some e) o19 := by
  funext a
  by_cases h : a = b + 18
  · subst h; rw [xup_s, vgr_18 hi]
  · rw [xup_n h]; unfold vgr; rw [if_neg (c := a = b + 18) h, if_neg (c := a = b + 18) h]
theorem vgr_o19 (hi : i ≤ 8) {e : va_E} : xup (vgr E σ b i fs o18 o19) (b + 19) e = vgr E σ b i fs o18 (some e) := by
  funext a
  by_cases h : a = b + 19
  · subst h; rw [xup_s]; unfold vgr; rw [if_neg (by omega), if_neg (by omega), if_neg (by omega), if_neg (by omega), if_pos rfl]
  · rw [xup_n h]; unfold vgr; rw [if_neg (c := a = b + 19) h, if_neg (c := a = b + 19) h]
theorem vgr_0 {σ0 : Sg} (h : σ0 b = some (.inr (3, fs))) : xup σ0 (b + 1) (.inl (xSp E, 8, .inr (.inr (.inr (.inr (fun _ => none)))))) = vgr E σ0 b 0 fs (σ0 (b + 18)) (σ0 (b + 19)) := by
  funext a
  by_cases h1 : a = b + 1
  · subst h1
    rw [xup_s, vgr_1]
    congr 6
  · rw [xup_n h1]
    unfold vgr
    by_cases h2 : a = b
    · subst h2; rw [if_pos rfl, h]
    rw [if_neg h2, if_neg h1, if_neg (by omega)]
    by_cases h3 : a = b + 18
    · subst h3; rw [if_pos rfl]
    rw [if_neg h3]
    by_cases h4 : a = b + 19
    · subst h4; rw [if_pos rfl]
    rw [if_neg h4]
theorem vgr_s (hi : i < 8) : xup (xup (xup (xup (vgr E σ b i fs o18 o19) (b + 2 + 2 * i) (.inr (2, bl_X2))) (b + 2 + 2 * i + 1) (.inl (xI E, 84, .inl (fun _ => 0)))) (b + 2 + 2 * i) (.inr (2, [.ref (b + 2 + 2 * i + 1), .int 0, .int 0, .int 0]))) (b + 1) (.inl (xSp E, 8, .inr (.inr (.inr (.inr (fun k => if k < i + 1 then some (b + 2 + 2 * k) else none)))))) = vgr E σ b (i + 1) fs o18 o19 := by
  funext a
  by_cases h1 : a = b + 1
  · subst h1; rw [xup_s, vgr_1]
  rw [xup_n h1]
  by_cases h2 : a = b + 2 + 2 * i
  · subst h2
    rw [xup_s]
    unfold vgr
    rw [if_neg (by omega), if_neg (by omega), if_pos (by omega), if_pos (by omega)]
  rw [xup_n h2]
  by_cases h3 : a = b + 2 + 2 * i + 1
  · subst h3
    rw [xup_s]
    unfold vgr
    rw [if_neg (by omega), if_neg (by omega), if_pos (by omega), if_neg (by omega)]
  rw [xup_n h3, xup_n h2]
  unfold vgr
  by_cases h4 : a = b
  · rw [if_pos h4, if_pos h4]
  rw [if_neg h4, if_neg h4, if_neg h1, if_neg h1]
  by_cases h5 : b + 2 ≤ a ∧ a < b + 2 + 2 * i
  · rw [if_pos h5, if_pos (show b + 2 ≤ a ∧ a < b + 2 + 2 * (i + 1) by omega)]
  · rw [if_neg h5, if_neg (show ¬ (b + 2 ≤ a ∧ a < b + 2 + 2 * (i + 1)) by omega)]
end GR
/-- a new village's numbers -/
def V0 : Vs := fun r j => if r = 8 then (if j = 0 then 4 else if j = 1 then 1 else if j = 2 then 60 else if j = 3 then 50 else 0) else if r = 9 ∧ j = 0 then 1 else 0
theorem vgr_e {E : xEnv} {σ : Sg} {b : Nat} : xup (vgr E σ b 8 [.ref (b + 1), .ref (b + 18), .ref (b + 19), .int 1, .int 0, .int 0, .int 0, .int 0] (some (.inl (xI E, 4, .inl (V0 8)))) (some (.inl (xI E, 14, .inl (fun _ => 0))))) (b + 1) (.inl (xSp E, 8, .inr (.inr (.inr (.inr (fun k => some (b + 2 + 2 * k))))))) = vput E σ b V0 := by
  funext a
  by_cases h : b ≤ a ∧ a < b + 20
  · obtain ⟨o, rfl⟩ : ∃ o, a = b + o := ⟨a - b, by omega⟩
    rw [vput_in h.1 h.2, Nat.add_sub_cancel_left]
    have ho : o < 20 := by omega
    clear h
    revert o ho
    refine vcases ?_ ?_ ?_ ?_ ?_ ?_
    · rw [xup_n (by omega)]; exact vgr_b
    · rw [xup_s]; rfl
    · rw [xup_n (by omega)]; exact vgr_18 (by decide)
    · rw [xup_n (by omega)]; unfold vgr; rw [if_neg (by omega), if_neg (by omega), if_neg (by omega), if_neg (by omega), if_pos rfl]; rfl
    · intro k hk
      rw [xup_n (by omega), vcell_s hk]
      unfold vgr
      rw [if_neg (by omega), if_neg (by omega), if_pos (by omega), if_pos (by omega)]
      show _ = some ((Sum.inr (2, [.ref (b + 3 + 2 * k), .int (xfl (V0 10 k)), .int (V0 11 k), .int (V0 12 k)])) : va_E)
      rw [show b + (2 + 2 * k) + 1 = b + 3 + 2 * k by omega]
      rfl
    · intro k hk
      rw [xup_n (by omega), vcell_w hk]
      unfold vgr
      rw [if_neg (by omega), if_neg (by omega), if_pos (by omega), if_neg (by omega)]
      congr 5
      funext j
      unfold V0
      rw [if_neg (by omega), if_neg (by omega)]
  · rw [xup_n (by omega), vput_out (by omega)]
    unfold vgr
    rw [if_neg (by omega), if_neg (by omega), if_neg (by omega), if_neg (by omega), if_neg (by omega)]
/-- an array of references: places beyond its length may be told as one likes -/
theorem x_contq {k : xT} {N a b : Nat} {σ : Sg} {pc : Nat} {lv : List (Option Value)} {st : List Value} {a0 n : Nat} {cA : ClassId} {f g : Nat → Option Nat} (he : σ a0 = some (.inl (cA, n, .inr (.inr (.inr (.inr f)))))) (hg : ∀ j, j < n → f j = g j) {σ2 : Sg} (hs : xup σ a0 (.inl (cA, n, .inr (.inr (.inr (.inr g))))) = σ2) (kk : xX k N a b σ2 pc lv st) : xX k N a b σ pc lv st := by
  obtain ⟨p, l0, e, R, s, m, args, below, meth, c, Q, E0, B0, nL0⟩ := k
  subst hs
  intro H locs ls hh hS hl
  refine kk H locs ls (hh.put he rfl (fun _ _ => rfl) ?_) hS hl
  have h := (hh.2.2 a0 _ he).2
  have h2 : H[a0]? = some (vp_cell cA (n, .inr (.inr (.inr (.inr f))))) := h
  show H[a0]? = some (vp_cell cA (n, .inr (.inr (.inr (.inr g)))))
  rw [h2, vp_cell_q, vp_cell_q]
  unfold arrV
  congr 2
  congr 1
  funext j
  show va_rf (f j.val) = va_rf (g j.val)
  rw [hg j.val j.isLt]
theorem x_aast2 {k : xT} {l : Launch} {E : xEnv} {B : Nat} {cc : ByteArray} {nL : Nat} {ret : Option FieldType} {own mn : String} {fr lo ce sl N a b : Nat} {σ : Sg} {pc : Nat} {lv : List (Option Value)} {st : List Value} (C : xC k l E B cc nL ret own mn fr lo ce sl) {a0 n t0 v ci q : Nat} {cA : ClassId} {r : vw_C} {f g : Nat → Option Nat} {vs : List Value} {i : Int32} {σ9 : Sg} (he : σ a0 = some (.inl (cA, n, .inr (.inr (.inr (.inr f)))))) (ht : (xtys E)[t0]? = some (cA, .object r.1)) (hv : σ v = some (.inr (ci, vs))) (hc : vwCl[ci]? = some r) (hi : i = nI q) (hq : q < n) (hn : n < 2 ^ 31) (hg : ∀ j, j < n → va_up f q (some v) j = g j) (hs : xup σ a0 (.inl (cA, n, .inr (.inr (.inr (.inr g))))) = σ9) (d : decode cc pc = .ok (.aastore, 1))
    (kk : xX k N a b σ9 (pc + 1) lv st) : xX k N a b σ pc lv (.ref v :: .int i :: .ref a0 :: st) := by
  subst hi
  exact x_aast C he ht hv hc (vp_in_nI hq hn) (by rw [nI_clamp (by omega)]; exact hg) hs d kk
theorem st_V0 : upd (upd (upd (upd (fun _ => 0) 0 4) 1 1) 2 60) 3 50 = V0 8 := by
  funext j
  unfold V0 upd
  rw [if_pos rfl]
  by_cases h3 : j = 3
  · subst h3; rfl
  by_cases h2 : j = 2
  · subst h2; rfl
  by_cases h1 : j = 1
  · subst h1; rfl
  by_cases h0 : j = 0
  · subst h0; rfl
  simp [h0, h1, h2, h3]
/-- saved states as they are made: i villages stand -/
def sgr (E : xEnv) (σ : Sg) (h i : Nat) (fs : List Value) : Sg := fun a =>
  if a = h then some (.inr (1, fs))
  else if a = h + 1 then some (.inl (xVi E, 6, .inr (.inr (.inr (.inr (fun k => if k < i then some (h + 2 + 20 * k) else none))))))
  else if h + 2 ≤ a ∧ a < h + 2 + 20 * i then some (vcell E (h + 2 + 20 * ((a - (h + 2)) / 20)) V0 ((a - (h + 2)) % 20))
  else σ a
section SR
variable {E : xEnv} {σ : Sg} {h i : Nat} {fs : List Value}
theorem sgr_h : sgr E σ h i fs h = some (.inr (1, fs)) := if_pos rfl
theorem sgr_1 : sgr E σ h i fs (h + 1) = some (.inl (xVi E, 6, .inr (.inr (.inr (.inr (fun k => if k < i then some (h + 2 + 20 * k) else none)))))) := by
  unfold sgr
  rw [if_neg (by omega), if_pos rfl]
theorem sgr_fs {fs2 : List Value} : xup (sgr E σ h i fs) h (.inr (1, fs2)) = sgr E σ h i fs2 := by
  funext a
  by_cases h1 : a = h
  · subst h1; rw [xup_s, sgr_h]
  · rw [xup_n h1]; unfold sgr; rw [if_neg h1, if_neg h1]
theorem sgr_0 {σ0 : Sg} (h0 : σ0 h = some (.inr (1, fs))) : xup σ0 (h + 1) (.inl (xVi E, 6, .inr (.inr (.inr (.inr (fun _ => none)))))) = sgr E σ0 h 0 fs := by
  funext a
  by_cases h1 : a = h + 1
  · subst h1
    rw [xup_s, sgr_1]
    congr 6
  · rw [xup_n h1]
    unfold sgr
    by_cases h2 : a = h
    · subst h2; rw [if_pos rfl, h0]
    rw [if_neg h2, if_neg h1, if_neg (by omega)]
theorem sgr_s {e : va_E} : xup (vput E (xup (sgr E σ h i fs) (h + 2 + 20 * i) e) (h + 2 + 20 * i) V0) (h + 1) (.inl (xVi E, 6, .inr (.inr (.inr (.inr (fun k => if k < i + 1 then some (h + 2 + 20 * k) else none)))))) = sgr E σ h (i + 1) fs := by
  funext a
  by_cases h1 : a = h + 1
  · subst h1; rw [xup_s, sgr_1]
  rw [xup_n h1]
  by_cases h2 : h + 2 + 20 * i ≤ a ∧ a < h + 2 + 20 * i + 20
  · rw [vput_in h2.1 h2.2]
    unfold sgr
    rw [if_neg (by omega), if_neg (by omega), if_pos (by omega), show (a - (h + 2)) / 20 = i by omega, show (a - (h + 2)) % 20 = a - (h + 2 + 20 * i) by omega]
  · rw [vput_out (by omega), xup_n (by omega)]
    unfold sgr
    by_cases h4 : a = h
    · rw [if_pos h4, if_pos h4]
    rw [if_neg h4, if_neg h4, if_neg h1, if_neg h1]
    by_cases h5 : h + 2 ≤ a ∧ a < h + 2 + 20 * i
    · rw [if_pos h5, if_pos (show h + 2 ≤ a ∧ a < h + 2 + 20 * (i + 1) by omega)]
    · rw [if_neg h5, if_neg (show ¬ (h + 2 ≤ a ∧ a < h + 2 + 20 * (i + 1)) by omega)]
end SR
/-- all that a new object of the class has -/
def spt (E : xEnv) (σ : Sg) (h : Nat) : Sg := xup (sgr E σ h 6 [.ref (h + 1), .int 0, .int 0]) (h + 1) (.inl (xVi E, 6, .inr (.inr (.inr (.inr (fun k => some (h + 2 + 20 * k)))))))
theorem spt_out {E : xEnv} {σ : Sg} {h a : Nat} (h1 : a < h ∨ h + 122 ≤ a) : spt E σ h a = σ a := by
  unfold spt
  rw [xup_n (by omega)]
  unfold sgr
  rw [if_neg (by omega), if_neg (by omega), if_neg (by omega)]
theorem cnew {E : xEnv} {σ : Sg} {B : Nat} {e1 e2 e3 e4 e5 : va_E} {f1 f2 f3 : va_E} :
    xup (xup (xup (xup (xup (spt E (xup (xup (vput E (xup (xup (vput E (xup (xup σ B e1) (B + 1) e2) (B + 1) V0) B f1) (B + 21) e3) (B + 21) V0) B f2) (B + 41) e4) (B + 41)) B f3) (B + 163) e5) (B + 164) (.inl (xCh E, 80, .inl (fun _ => 0)))) (B + 163) (.inr (0, [.ref (B + 164), .int 0]))) B (.inr (4, [.ref (B + 1), .ref (B + 21), .ref (B + 41), .ref (B + 163)])) = cput E σ B (fun _ => V0) (nI 0) (nI 0) (nI 0) (fun _ => 0) := by
  funext a
  by_cases h : B ≤ a ∧ a < B + 165
  · obtain ⟨o, rfl⟩ : ∃ o, a = B + o := ⟨a - B, by omega⟩
    rw [cput_in h.1 h.2, Nat.add_sub_cancel_left]
    unfold ccell
    by_cases c0 : o = 0
    · subst c0; rw [if_pos rfl]; exact xup_s
    rw [if_neg c0, xup_n (by omega)]
    by_cases c1 : o = 163
    · subst c1
      rw [xup_s, if_neg (by omega), if_neg (by omega), if_neg (by omega), if_neg (by omega), if_pos rfl]; rfl
    rw [xup_n (by omega)]
    by_cases c2 : o = 164
    · subst c2
      rw [xup_s, if_neg (by omega), if_neg (by omega), if_neg (by omega), if_neg (by omega), if_neg (by omega)]
    rw [xup_n (by omega), xup_n (by omega), xup_n (by omega)]
    by_cases c3 : o < 41
    · rw [if_pos c3, spt_out (by omega), xup_n (by omega), xup_n (by omega)]
      by_cases c4 : o < 21
      · rw [vput_out (by omega), xup_n (by omega), xup_n (by omega), vput_in (by omega) (by omega), show (o - 1) / 20 = 0 by omega, show (o - 1) % 20 = B + o - (B + 1) by omega]
      · rw [vput_in (by omega) (by omega), show (o - 1) / 20 = 1 by omega, show (o - 1) % 20 = B + o - (B + 21) by omega]
    rw [if_neg c3]
    unfold spt
    by_cases c5 : o = 41
    · subst c5
      rw [if_pos rfl, xup_n (by omega)]; exact sgr_h
    rw [if_neg c5]
    by_cases c6 : o = 42
    · subst c6
      rw [if_pos rfl]; exact xup_s
    rw [if_neg c6, if_pos (by omega), xup_n (by omega)]
    unfold sgr
    rw [if_neg (by omega), if_neg (by omega), if_pos (by omega), show B + o - (B + 41 + 2) = o - 43 by omega]
  · rw [xup_n (by omega), xup_n (by omega), xup_n (by omega), xup_n (by omega), xup_n (by omega), spt_out (by omega), xup_n (by omega), xup_n (by omega), vput_out (by omega), xup_n (by omega), xup_n (by omega), vput_out (by omega), xup_n (by omega), xup_n (by omega), cput_out (by omega)]
/-- a new model -/
theorem fl_V0 : ∀ j, j < 705 → upd (upd (upd (upd (upd (fun _ => (0 : Int32)) 0 1) 5 4) 6 1) 7 60) 8 50 j = flat V0 j := by
  refine flcases (fun j h => ?_) (fun j h => ?_) (fun s h => ?_) (fun s h => ?_) (fun s h => ?_) (fun s h j hj => ?_)
  · rw [fl_9 h, pk_un (by omega), pk_un (by omega), pk_un (by omega), pk_un (by omega)]
    by_cases e : j = 0
    · subst e; rfl
    · rw [pk_un e]; unfold V0; rw [if_neg (by omega), if_neg (by omega)]
  · rw [fl_8 h]
    rcases (show j = 0 ∨ j = 1 ∨ j = 2 ∨ j = 3 by omega) with rfl | rfl | rfl | rfl <;> rfl
  · rw [fl_10 h, pk_un (by omega), pk_un (by omega), pk_un (by omega), pk_un (by omega), pk_un (by omega)]; rfl
  · rw [fl_11 h, pk_un (by omega), pk_un (by omega), pk_un (by omega), pk_un (by omega), pk_un (by omega)]; rfl
  · rw [fl_12 h, pk_un (by omega), pk_un (by omega), pk_un (by omega), pk_un (by omega), pk_un (by omega)]; rfl
  · rw [fl_w hj, pk_un (by omega), pk_un (by omega), pk_un (by omega), pk_un (by omega), pk_un (by omega)]
    unfold V0; rw [if_neg (by omega), if_neg (by omega)]
theorem xup_u {σ : Sg} {a : Nat} {e e2 : va_E} : xup (xup σ a e) a e2 = xup σ a e2 := by
  funext q
  by_cases h : q = a
  · subst h; rw [xup_s, xup_s]
  · rw [xup_n h, xup_n h, xup_n h]
theorem mnew {E : xEnv} {σ : Sg} {M : Nat} {e0 e1 e2 e3 : va_E} {a1 : va_E} :
    xup (xup (xup (xup (xup (xup (xup (xup (xup (xup σ M e0) (M + 1) a1) M e1) (M + 2) (.inl (xI E, 705, .inl (fun _ => 0)))) M e2) (M + 3) (.inl (xI E, 4230, .inl (fun _ => 0)))) M e3) (M + 4) (.inl (xI E, 80, .inl (fun _ => 0)))) M (.inr (5, mfs M (fun _ => 0)))) (M + 1) (.inl (xI E, 705, .inl (flat V0))) = mput E σ M V0 (fun _ => 0) (fun _ => 0) (fun _ => 0) (fun _ => 0) := by
  funext a
  by_cases h : M ≤ a ∧ a < M + 5
  · obtain ⟨o, rfl⟩ : ∃ o, a = M + o := ⟨a - M, by omega⟩
    rw [mput_in h.1 h.2, Nat.add_sub_cancel_left]
    rcases (show o = 0 ∨ o = 1 ∨ o = 2 ∨ o = 3 ∨ o = 4 by omega) with rfl | rfl | rfl | rfl | rfl
    · rw [xup_n (by omega)]; exact xup_s
    · rw [xup_s]; rfl
    · rw [xup_n (by omega), xup_n (by omega), xup_n (by omega), xup_n (by omega), xup_n (by omega), xup_n (by omega), xup_s]; rfl
    · rw [xup_n (by omega), xup_n (by omega), xup_n (by omega), xup_n (by omega), xup_s]; rfl
    · rw [xup_n (by omega), xup_n (by omega), xup_s]; rfl
  · rw [xup_n (by omega), xup_n (by omega), xup_n (by omega), xup_n (by omega), xup_n (by omega), xup_n (by omega), xup_n (by omega), xup_n (by omega), xup_n (by omega), xup_n (by omega), mput_out (by omega)]
theorem va_grow {n i : Nat} (g : Nat → Nat) : ∀ j, j < n → va_up (fun k => if k < i then some (g k) else none) i (some (g i)) j = (fun k => if k < i + 1 then some (g k) else none) j := fun j _ => by
  by_cases h : j = i
  · subst h
    show (if j = j then some (g j) else _) = if j < j + 1 then some (g j) else none
    rw [if_pos rfl, if_pos (by omega)]
  · show (if j = i then some (g i) else if j < i then some (g j) else none) = if j < i + 1 then some (g j) else none
    rw [if_neg h]
    by_cases h2 : j < i
    · rw [if_pos h2, if_pos (by omega)]
    · rw [if_neg h2, if_neg (by omega)]

