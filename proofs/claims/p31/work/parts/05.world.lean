/-! THE WORLDS. A village at b: 20 cells; the class's object at B: 165 cells; the model's object at M: 5 cells. A village's numbers V: rows 0..7 weights of a speaker, 8 settings, 9 seed, meetings, successes, children, years; 10 there, 11 age, 12 meetings of a speaker; 13 users. -/
abbrev Vs : Type := Nat → Nat → Int32
abbrev Fn : Type := Nat → Int32
def up2 (V : Vs) (r j : Nat) (x : Int32) : Vs := fun p q => if p = r ∧ q = j then x else V p q
def xfl (c : Int32) : Int32 := if c = 1 then 1 else 0
def xb (p : Prop) [Decidable p] : Int32 := if p then 1 else 0
def vfs (b : Nat) (V : Vs) : List Value := [.ref (b + 1), .ref (b + 18), .ref (b + 19), .int (V 9 0), .int (V 9 1), .int (V 9 2), .int (V 9 3), .int (V 9 4)]
def sfs (b : Nat) (V : Vs) (k : Nat) : List Value := [.ref (b + 3 + 2 * k), .int (xfl (V 10 k)), .int (V 11 k), .int (V 12 k)]
def vcell (E : xEnv) (b : Nat) (V : Vs) (o : Nat) : va_E :=
  if o = 0 then .inr (3, vfs b V)
  else if o = 1 then .inl (xSp E, 8, .inr (.inr (.inr (.inr (fun k => some (b + 2 + 2 * k))))))
  else if o = 18 then .inl (xI E, 4, .inl (V 8))
  else if o = 19 then .inl (xI E, 14, .inl (V 13))
  else if o % 2 = 0 then .inr (2, sfs b V ((o - 2) / 2))
  else .inl (xI E, 84, .inl (V ((o - 3) / 2)))
def vput (E : xEnv) (σ : Sg) (b : Nat) (V : Vs) : Sg := fun a => if b ≤ a ∧ a < b + 20 then some (vcell E b V (a - b)) else σ a
section WV
variable {E : xEnv} {σ : Sg} {b k : Nat} {V : Vs}
theorem vput_in {a : Nat} (h1 : b ≤ a) (h2 : a < b + 20) : vput E σ b V a = some (vcell E b V (a - b)) := if_pos ⟨h1, h2⟩
theorem vput_out {a : Nat} (h : a < b ∨ b + 20 ≤ a) : vput E σ b V a = σ a := if_neg (by omega)
theorem vput_0 : vput E σ b V b = some (.inr (3, vfs b V)) := by rw [vput_in (Nat.le_refl _) (by omega), Nat.sub_self]; rfl
theorem vput_1 : vput E σ b V (b + 1) = some (.inl (xSp E, 8, .inr (.inr (.inr (.inr (fun k => some (b + 2 + 2 * k))))))) := by rw [vput_in (by omega) (by omega), Nat.add_sub_cancel_left]; rfl
theorem vput_18 : vput E σ b V (b + 18) = some (.inl (xI E, 4, .inl (V 8))) := by rw [vput_in (by omega) (by omega), Nat.add_sub_cancel_left]; rfl
theorem vput_19 : vput E σ b V (b + 19) = some (.inl (xI E, 14, .inl (V 13))) := by rw [vput_in (by omega) (by omega), Nat.add_sub_cancel_left]; rfl
theorem vcell_s (hk : k < 8) : vcell E b V (2 + 2 * k) = .inr (2, sfs b V k) := by
  unfold vcell
  rw [if_neg (by omega), if_neg (by omega), if_neg (by omega), if_neg (by omega), if_pos (by omega), show (2 + 2 * k - 2) / 2 = k by omega]
theorem vcell_w (hk : k < 8) : vcell E b V (3 + 2 * k) = .inl (xI E, 84, .inl (V k)) := by
  unfold vcell
  rw [if_neg (by omega), if_neg (by omega), if_neg (by omega), if_neg (by omega), if_neg (by omega), show (3 + 2 * k - 3) / 2 = k by omega]
theorem vput_s (hk : k < 8) : vput E σ b V (b + 2 + 2 * k) = some (.inr (2, sfs b V k)) := by
  rw [vput_in (by omega) (by omega), show b + 2 + 2 * k - b = 2 + 2 * k by omega, vcell_s hk]
theorem vput_w (hk : k < 8) : vput E σ b V (b + 3 + 2 * k) = some (.inl (xI E, 84, .inl (V k))) := by
  rw [vput_in (by omega) (by omega), show b + 3 + 2 * k - b = 3 + 2 * k by omega, vcell_w hk]
/-- every cell of a village, by its place -/
theorem vcases {P : Nat → Prop} (h0 : P 0) (h1 : P 1) (h18 : P 18) (h19 : P 19) (hs : ∀ k, k < 8 → P (2 + 2 * k)) (hw : ∀ k, k < 8 → P (3 + 2 * k)) : ∀ o, o < 20 → P o := by
  intro o ho
  by_cases e0 : o = 0
  · exact e0 ▸ h0
  by_cases e1 : o = 1
  · exact e1 ▸ h1
  by_cases e2 : o = 18
  · exact e2 ▸ h18
  by_cases e3 : o = 19
  · exact e3 ▸ h19
  by_cases e4 : o % 2 = 0
  · have h := hs ((o - 2) / 2) (by omega)
    rw [show 2 + 2 * ((o - 2) / 2) = o by omega] at h
    exact h
  · have h := hw ((o - 3) / 2) (by omega)
    rw [show 3 + 2 * ((o - 3) / 2) = o by omega] at h
    exact h
/-- one cell of a village is another one: the village's numbers are others -/
theorem vput_up {V2 : Vs} {o : Nat} {e : va_E} (ho : o < 20) (he : e = vcell E b V2 o) (hr : ∀ o2, o2 < 20 → o2 ≠ o → vcell E b V o2 = vcell E b V2 o2) : xup (vput E σ b V) (b + o) e = vput E σ b V2 := by
  funext a
  by_cases ha : a = b + o
  · subst ha
    rw [xup_s, vput_in (by omega) (by omega), Nat.add_sub_cancel_left, he]
  · rw [xup_n ha]
    by_cases hb : b ≤ a ∧ a < b + 20
    · rw [vput_in hb.1 hb.2, vput_in hb.1 hb.2, hr (a - b) (by omega) (by omega)]
    · rw [vput_out (by omega), vput_out (by omega)]
theorem vcell_cong {V2 : Vs} (h0 : vfs b V = vfs b V2) (h8 : V 8 = V2 8) (h13 : V 13 = V2 13) (hs : ∀ k, k < 8 → sfs b V k = sfs b V2 k) (hw : ∀ k, k < 8 → V k = V2 k) : ∀ o, o < 20 → vcell E b V o = vcell E b V2 o :=
  vcases (by show (Sum.inr _ : va_E) = Sum.inr _; rw [h0]) rfl (by show (Sum.inl _ : va_E) = Sum.inl _; rw [h8]) (by show (Sum.inl _ : va_E) = Sum.inl _; rw [h13]) (fun k hk => by rw [vcell_s hk, vcell_s hk, hs k hk]) (fun k hk => by rw [vcell_w hk, vcell_w hk, hw k hk])
end WV
theorem up2_s {V : Vs} {r j : Nat} {x : Int32} : up2 V r j x r j = x := by simp [up2]
theorem up2_n {V : Vs} {r j p q : Nat} {x : Int32} (h : ¬ (p = r ∧ q = j)) : up2 V r j x p q = V p q := by simp [up2, h]
theorem up2_r {V : Vs} {r j p : Nat} {x : Int32} (h : p ≠ r) : up2 V r j x p = V p := by funext q; simp [up2, h]
theorem up2_u {V : Vs} {r j : Nat} {x : Int32} : up2 V r j x r = upd (V r) j x := by funext q; simp [up2, upd]
theorem xfl_1 : xfl 1 = 1 := by decide
theorem xfl_0 : xfl 0 = 0 := by decide
theorem xfl_x (c : Int32) : xfl (xfl c) = xfl c := by unfold xfl; split <;> decide
theorem xfl_e (c : Int32) : xfl c = 0 ↔ ¬ c = 1 := by
  unfold xfl
  split
  · rename_i h; simp [h]
  · rename_i h; simp [h]
theorem xfl_nar (c : Int32) : narrow .boolean (.int (xfl c)) = .int (xfl c) := by unfold xfl; split <;> rfl
theorem xfl_fit (c : Int32) : fits .boolean (.int (xfl c)) = true := by unfold xfl; split <;> rfl
section WV2
variable {E : xEnv} {σ : Sg} {b k : Nat} {V V2 : Vs}
theorem sfs_cong (h1 : xfl (V 10 k) = xfl (V2 10 k)) (h2 : V 11 k = V2 11 k) (h3 : V 12 k = V2 12 k) : sfs b V k = sfs b V2 k := by unfold sfs; rw [h1, h2, h3]
theorem vput_r9 (h : ∀ r, r ≠ 9 → V2 r = V r) : xup (vput E σ b V) b (.inr (3, vfs b V2)) = vput E σ b V2 := by
  have h1 := vput_up (E := E) (σ := σ) (b := b) (V := V) (V2 := V2) (o := 0) (e := .inr (3, vfs b V2)) (by omega) rfl (vcases (P := fun o => o ≠ 0 → vcell E b V o = vcell E b V2 o) (fun z => absurd rfl z) (fun _ => rfl)
    (fun _ => by show (Sum.inl _ : va_E) = Sum.inl _; rw [h 8 (by omega)]) (fun _ => by show (Sum.inl _ : va_E) = Sum.inl _; rw [h 13 (by omega)])
    (fun k hk _ => by rw [vcell_s hk, vcell_s hk, sfs_cong (V2 := V2) (by rw [h 10 (by omega)]) (by rw [h 11 (by omega)]) (by rw [h 12 (by omega)])]) (fun k hk _ => by rw [vcell_w hk, vcell_w hk, h k (by omega)]))
  exact h1
theorem vfs_cong (h : V2 9 = V 9) : vfs b V = vfs b V2 := by unfold vfs; rw [h]
theorem vput_rs (hk : k < 8) (h : ∀ r, r ≠ 10 → r ≠ 11 → r ≠ 12 → V2 r = V r) (hj : ∀ r j, j ≠ k → V2 r j = V r j) : xup (vput E σ b V) (b + 2 + 2 * k) (.inr (2, sfs b V2 k)) = vput E σ b V2 := by
  have h1 := vput_up (E := E) (σ := σ) (b := b) (V := V) (V2 := V2) (o := 2 + 2 * k) (e := .inr (2, sfs b V2 k)) (by omega) (vcell_s hk).symm (vcases (P := fun o => o ≠ 2 + 2 * k → vcell E b V o = vcell E b V2 o) (fun _ => by show (Sum.inr _ : va_E) = Sum.inr _; rw [vfs_cong (V2 := V2) (h 9 (by omega) (by omega) (by omega))]) (fun _ => rfl)
    (fun _ => by show (Sum.inl _ : va_E) = Sum.inl _; rw [h 8 (by omega) (by omega) (by omega)]) (fun _ => by show (Sum.inl _ : va_E) = Sum.inl _; rw [h 13 (by omega) (by omega) (by omega)])
    (fun i hi z => by rw [vcell_s hi, vcell_s hi, sfs_cong (V2 := V2) (by rw [hj 10 i (by omega)]) (by rw [hj 11 i (by omega)]) (by rw [hj 12 i (by omega)])]) (fun i hi _ => by rw [vcell_w hi, vcell_w hi, h i (by omega) (by omega) (by omega)]))
  rw [show b + 2 + 2 * k = b + (2 + 2 * k) by omega]
  exact h1
theorem vput_rw (hk : k < 8) (h : ∀ r, r ≠ k → V2 r = V r) : xup (vput E σ b V) (b + 3 + 2 * k) (.inl (xI E, 84, .inl (V2 k))) = vput E σ b V2 := by
  have h1 := vput_up (E := E) (σ := σ) (b := b) (V := V) (V2 := V2) (o := 3 + 2 * k) (e := .inl (xI E, 84, .inl (V2 k))) (by omega) (vcell_w hk).symm (vcases (P := fun o => o ≠ 3 + 2 * k → vcell E b V o = vcell E b V2 o) (fun _ => by show (Sum.inr _ : va_E) = Sum.inr _; rw [vfs_cong (V2 := V2) (h 9 (by omega))]) (fun _ => rfl)
    (fun _ => by show (Sum.inl _ : va_E) = Sum.inl _; rw [h 8 (by omega)]) (fun _ => by show (Sum.inl _ : va_E) = Sum.inl _; rw [h 13 (by omega)])
    (fun i hi z => by rw [vcell_s hi, vcell_s hi, sfs_cong (V2 := V2) (by rw [h 10 (by omega)]) (by rw [h 11 (by omega)]) (by rw [h 12 (by omega)])]) (fun i hi z => by rw [vcell_w hi, vcell_w hi, h i (by omega)]))
  rw [show b + 3 + 2 * k = b + (3 + 2 * k) by omega]
  exact h1
theorem vput_r8 (h : ∀ r, r ≠ 8 → V2 r = V r) : xup (vput E σ b V) (b + 18) (.inl (xI E, 4, .inl (V2 8))) = vput E σ b V2 :=
  vput_up (E := E) (σ := σ) (b := b) (V := V) (V2 := V2) (o := 18) (e := .inl (xI E, 4, .inl (V2 8))) (by omega) rfl (vcases (P := fun o => o ≠ 18 → vcell E b V o = vcell E b V2 o) (fun _ => by show (Sum.inr _ : va_E) = Sum.inr _; rw [vfs_cong (V2 := V2) (h 9 (by omega))]) (fun _ => rfl)
    (fun z => absurd rfl z) (fun _ => by show (Sum.inl _ : va_E) = Sum.inl _; rw [h 13 (by omega)])
    (fun i hi z => by rw [vcell_s hi, vcell_s hi, sfs_cong (V2 := V2) (by rw [h 10 (by omega)]) (by rw [h 11 (by omega)]) (by rw [h 12 (by omega)])]) (fun i hi z => by rw [vcell_w hi, vcell_w hi, h i (by omega)]))
theorem vput_r13 (h : ∀ r, r ≠ 13 → V2 r = V r) : xup (vput E σ b V) (b + 19) (.inl (xI E, 14, .inl (V2 13))) = vput E σ b V2 :=
  vput_up (E := E) (σ := σ) (b := b) (V := V) (V2 := V2) (o := 19) (e := .inl (xI E, 14, .inl (V2 13))) (by omega) rfl (vcases (P := fun o => o ≠ 19 → vcell E b V o = vcell E b V2 o) (fun _ => by show (Sum.inr _ : va_E) = Sum.inr _; rw [vfs_cong (V2 := V2) (h 9 (by omega))]) (fun _ => rfl)
    (fun _ => by show (Sum.inl _ : va_E) = Sum.inl _; rw [h 8 (by omega)]) (fun z => absurd rfl z)
    (fun i hi z => by rw [vcell_s hi, vcell_s hi, sfs_cong (V2 := V2) (by rw [h 10 (by omega)]) (by rw [h 11 (by omega)]) (by rw [h 12 (by omega)])]) (fun i hi z => by rw [vcell_w hi, vcell_w hi, h i (by omega)]))
-- the writes, one by one
theorem vput_v0 (x : Int32) : xup (vput E σ b V) b (.inr (3, (vfs b V).set 3 (.int x))) = vput E σ b (up2 V 9 0 x) := by
  rw [← vput_r9 (V2 := up2 V 9 0 x) (fun r h => up2_r h)]; simp [vfs, up2]
theorem vput_v1 (x : Int32) : xup (vput E σ b V) b (.inr (3, (vfs b V).set 4 (.int x))) = vput E σ b (up2 V 9 1 x) := by
  rw [← vput_r9 (V2 := up2 V 9 1 x) (fun r h => up2_r h)]; simp [vfs, up2]
theorem vput_v2 (x : Int32) : xup (vput E σ b V) b (.inr (3, (vfs b V).set 5 (.int x))) = vput E σ b (up2 V 9 2 x) := by
  rw [← vput_r9 (V2 := up2 V 9 2 x) (fun r h => up2_r h)]; simp [vfs, up2]
theorem vput_v3 (x : Int32) : xup (vput E σ b V) b (.inr (3, (vfs b V).set 6 (.int x))) = vput E σ b (up2 V 9 3 x) := by
  rw [← vput_r9 (V2 := up2 V 9 3 x) (fun r h => up2_r h)]; simp [vfs, up2]
theorem vput_v4 (x : Int32) : xup (vput E σ b V) b (.inr (3, (vfs b V).set 7 (.int x))) = vput E σ b (up2 V 9 4 x) := by
  rw [← vput_r9 (V2 := up2 V 9 4 x) (fun r h => up2_r h)]; simp [vfs, up2]
theorem vput_p (hk : k < 8) (x : Int32) : xup (vput E σ b V) (b + 2 + 2 * k) (.inr (2, (sfs b V k).set 1 (.int (xfl x)))) = vput E σ b (up2 V 10 k x) := by
  rw [← vput_rs (V2 := up2 V 10 k x) hk (fun r h _ _ => up2_r h) (fun r j h => up2_n (fun z => h z.2))]; simp [sfs, up2]
theorem vput_p1 (hk : k < 8) : xup (vput E σ b V) (b + 2 + 2 * k) (.inr (2, (sfs b V k).set 1 (.int 1))) = vput E σ b (up2 V 10 k 1) := vput_p hk 1
theorem vput_p0 (hk : k < 8) : xup (vput E σ b V) (b + 2 + 2 * k) (.inr (2, (sfs b V k).set 1 (.int 0))) = vput E σ b (up2 V 10 k 0) := vput_p hk 0
theorem vput_a (hk : k < 8) (x : Int32) : xup (vput E σ b V) (b + 2 + 2 * k) (.inr (2, (sfs b V k).set 2 (.int x))) = vput E σ b (up2 V 11 k x) := by
  rw [← vput_rs (V2 := up2 V 11 k x) hk (fun r _ h _ => up2_r h) (fun r j h => up2_n (fun z => h z.2))]; simp [sfs, up2]
theorem vput_m (hk : k < 8) (x : Int32) : xup (vput E σ b V) (b + 2 + 2 * k) (.inr (2, (sfs b V k).set 3 (.int x))) = vput E σ b (up2 V 12 k x) := by
  rw [← vput_rs (V2 := up2 V 12 k x) hk (fun r _ _ h => up2_r h) (fun r j h => up2_n (fun z => h z.2))]; simp [sfs, up2]
theorem vput_wt (hk : k < 8) (j : Nat) (x : Int32) : xup (vput E σ b V) (b + 3 + 2 * k) (.inl (xI E, 84, .inl (upd (V k) j x))) = vput E σ b (up2 V k j x) := by
  rw [← vput_rw (V2 := up2 V k j x) hk (fun r h => up2_r h), up2_u]
theorem vput_st (j : Nat) (x : Int32) : xup (vput E σ b V) (b + 18) (.inl (xI E, 4, .inl (upd (V 8) j x))) = vput E σ b (up2 V 8 j x) := by
  rw [← vput_r8 (V2 := up2 V 8 j x) (fun r h => up2_r h), up2_u]
theorem vput_us (j : Nat) (x : Int32) : xup (vput E σ b V) (b + 19) (.inl (xI E, 14, .inl (upd (V 13) j x))) = vput E σ b (up2 V 13 j x) := by
  rw [← vput_r13 (V2 := up2 V 13 j x) (fun r h => up2_r h), up2_u]
theorem vput_vv {W : Vs} : vput E (vput E σ b V) b W = vput E σ b W := by
  funext a
  by_cases hb : b ≤ a ∧ a < b + 20
  · rw [vput_in hb.1 hb.2, vput_in hb.1 hb.2]
  · rw [vput_out (by omega), vput_out (by omega), vput_out (by omega)]
theorem vput_comm {c : Nat} {W : Vs} (h : b + 20 ≤ c ∨ c + 20 ≤ b) : vput E (vput E σ b V) c W = vput E (vput E σ c W) b V := by
  funext a
  by_cases hb : b ≤ a ∧ a < b + 20
  · rw [vput_in (b := b) hb.1 hb.2, vput_out (by omega), vput_in hb.1 hb.2]
  · rw [vput_out (b := b) (by omega)]
    by_cases hc : c ≤ a ∧ a < c + 20
    · rw [vput_in hc.1 hc.2, vput_in hc.1 hc.2]
    · rw [vput_out (by omega), vput_out (by omega), vput_out (by omega)]
end WV2
/-! the class's object -/
def bs (B i : Nat) : Nat := if i < 2 then B + 1 + 20 * i else B + 3 + 20 * i
abbrev Cs : Type := Nat → Vs
def upV (VV : Cs) (i : Nat) (W : Vs) : Cs := fun j => if j = i then W else VV j
theorem upV_s {VV : Cs} {i : Nat} {W : Vs} : upV VV i W i = W := by simp [upV]
theorem upV_n {VV : Cs} {i j : Nat} {W : Vs} (h : j ≠ i) : upV VV i W j = VV j := by simp [upV, h]
theorem upV_e {VV : Cs} {i : Nat} : upV VV i (VV i) = VV := by
  funext j
  by_cases h : j = i
  · subst h; exact upV_s
  · exact upV_n h
theorem upV_u {VV : Cs} {i : Nat} {W X : Vs} : upV (upV VV i W) i X = upV VV i X := by
  funext j
  by_cases h : j = i
  · subst h; rw [upV_s, upV_s]
  · rw [upV_n h, upV_n h, upV_n h]
def ccell (E : xEnv) (B : Nat) (VV : Cs) (nx sz len : Int32) (tx : Fn) (o : Nat) : va_E :=
  if o = 0 then .inr (4, [.ref (B + 1), .ref (B + 21), .ref (B + 41), .ref (B + 163)])
  else if o < 41 then vcell E (B + 1 + 20 * ((o - 1) / 20)) (VV ((o - 1) / 20)) ((o - 1) % 20)
  else if o = 41 then .inr (1, [.ref (B + 42), .int nx, .int sz])
  else if o = 42 then .inl (xVi E, 6, .inr (.inr (.inr (.inr (fun k => some (B + 43 + 20 * k))))))
  else if o < 163 then vcell E (B + 43 + 20 * ((o - 43) / 20)) (VV (2 + (o - 43) / 20)) ((o - 43) % 20)
  else if o = 163 then .inr (0, [.ref (B + 164), .int len])
  else .inl (xCh E, 80, .inl tx)
def cput (E : xEnv) (σ : Sg) (B : Nat) (VV : Cs) (nx sz len : Int32) (tx : Fn) : Sg := fun a => if B ≤ a ∧ a < B + 165 then some (ccell E B VV nx sz len tx (a - B)) else σ a
def tput (E : xEnv) (σ : Sg) (h : Nat) (len : Int32) (tx : Fn) : Sg := fun a => if a = h then some (.inr (0, [.ref (h + 1), .int len])) else if a = h + 1 then some (.inl (xCh E, 80, .inl tx)) else σ a
section WC
variable {E : xEnv} {σ : Sg} {B i : Nat} {VV : Cs} {nx sz len : Int32} {tx : Fn}
theorem cput_in {a : Nat} (h1 : B ≤ a) (h2 : a < B + 165) : cput E σ B VV nx sz len tx a = some (ccell E B VV nx sz len tx (a - B)) := if_pos ⟨h1, h2⟩
theorem cput_out {a : Nat} (h : a < B ∨ B + 165 ≤ a) : cput E σ B VV nx sz len tx a = σ a := if_neg (by omega)
theorem cput_0 : cput E σ B VV nx sz len tx B = some (.inr (4, [.ref (B + 1), .ref (B + 21), .ref (B + 41), .ref (B + 163)])) := by rw [cput_in (by omega) (by omega), Nat.sub_self]; rfl
theorem cput_41 : cput E σ B VV nx sz len tx (B + 41) = some (.inr (1, [.ref (B + 42), .int nx, .int sz])) := by rw [cput_in (by omega) (by omega), Nat.add_sub_cancel_left]; rfl
theorem cput_42 : cput E σ B VV nx sz len tx (B + 42) = some (.inl (xVi E, 6, .inr (.inr (.inr (.inr (fun k => some (B + 43 + 20 * k))))))) := by rw [cput_in (by omega) (by omega), Nat.add_sub_cancel_left]; rfl
theorem cput_163 : cput E σ B VV nx sz len tx (B + 163) = some (.inr (0, [.ref (B + 164), .int len])) := by rw [cput_in (by omega) (by omega), Nat.add_sub_cancel_left]; rfl
theorem cput_164 : cput E σ B VV nx sz len tx (B + 164) = some (.inl (xCh E, 80, .inl tx)) := by rw [cput_in (by omega) (by omega), Nat.add_sub_cancel_left]; rfl
theorem bs_in (hi : i < 8) : B ≤ bs B i ∧ bs B i + 20 ≤ B + 165 := by unfold bs; split <;> omega
theorem ccell_v (hi : i < 8) {o : Nat} (ho : o < 20) : ccell E B VV nx sz len tx (bs B i + o - B) = vcell E (bs B i) (VV i) o := by
  unfold ccell bs
  by_cases h : i < 2
  · rw [if_pos h]
    have e : B + 1 + 20 * i + o - B = 1 + 20 * i + o := by omega
    rw [e, if_neg (by omega), if_pos (by omega), show (1 + 20 * i + o - 1) / 20 = i by omega, show (1 + 20 * i + o - 1) % 20 = o by omega]
  · rw [if_neg h]
    have e : B + 3 + 20 * i + o - B = 3 + 20 * i + o := by omega
    rw [e, if_neg (by omega), if_neg (by omega), if_neg (by omega), if_neg (by omega), if_pos (by omega), show (3 + 20 * i + o - 43) / 20 = i - 2 by omega, show (3 + 20 * i + o - 43) % 20 = o by omega, show 2 + (i - 2) = i by omega, show B + 43 + 20 * (i - 2) = B + 3 + 20 * i by omega]
theorem cput_vc (hi : i < 8) {o : Nat} (ho : o < 20) : cput E σ B VV nx sz len tx (bs B i + o) = some (vcell E (bs B i) (VV i) o) := by
  have h := bs_in (B := B) hi
  rw [cput_in (by omega) (by omega), ccell_v hi ho]
theorem cput_v (hi : i < 8) : vput E (cput E σ B VV nx sz len tx) (bs B i) (VV i) = cput E σ B VV nx sz len tx := by
  funext a
  by_cases h : bs B i ≤ a ∧ a < bs B i + 20
  · obtain ⟨o, rfl⟩ : ∃ o, a = bs B i + o := ⟨a - bs B i, by omega⟩
    rw [vput_in h.1 h.2, cput_vc hi (by omega), Nat.add_sub_cancel_left]
  · rw [vput_out (by omega)]
theorem ccell_n {W : Vs} {o : Nat} (hi : i < 8) (ho : o < 165) (h : B + o < bs B i ∨ bs B i + 20 ≤ B + o) : ccell E B (upV VV i W) nx sz len tx o = ccell E B VV nx sz len tx o := by
  unfold bs at h
  unfold ccell
  by_cases h0 : o = 0
  · rw [if_pos h0, if_pos h0]
  rw [if_neg h0, if_neg h0]
  by_cases h1 : o < 41
  · rw [if_pos h1, if_pos h1, upV_n (show (o - 1) / 20 ≠ i by split at h <;> omega)]
  rw [if_neg h1, if_neg h1]
  by_cases h2 : o = 41
  · rw [if_pos h2, if_pos h2]
  rw [if_neg h2, if_neg h2]
  by_cases h3 : o = 42
  · rw [if_pos h3, if_pos h3]
  rw [if_neg h3, if_neg h3]
  by_cases h4 : o < 163
  · rw [if_pos h4, if_pos h4, upV_n (show 2 + (o - 43) / 20 ≠ i by split at h <;> omega)]
  rw [if_neg h4, if_neg h4]
theorem cput_w {W : Vs} (hi : i < 8) : vput E (cput E σ B VV nx sz len tx) (bs B i) W = cput E σ B (upV VV i W) nx sz len tx := by
  have hb := bs_in (B := B) hi
  funext a
  by_cases h : bs B i ≤ a ∧ a < bs B i + 20
  · obtain ⟨o, rfl⟩ : ∃ o, a = bs B i + o := ⟨a - bs B i, by omega⟩
    rw [vput_in h.1 h.2, cput_vc hi (by omega), Nat.add_sub_cancel_left, upV_s]
  · rw [vput_out (by omega)]
    by_cases h2 : B ≤ a ∧ a < B + 165
    · rw [cput_in h2.1 h2.2, cput_in h2.1 h2.2, ccell_n hi (by omega) (by omega)]
    · rw [cput_out (by omega), cput_out (by omega)]
theorem tput_0 {h : Nat} : tput E σ h len tx h = some (.inr (0, [.ref (h + 1), .int len])) := if_pos rfl
theorem tput_1 {h : Nat} : tput E σ h len tx (h + 1) = some (.inl (xCh E, 80, .inl tx)) := by
  unfold tput
  rw [if_neg (by omega), if_pos rfl]
theorem tput_out {h a : Nat} (h1 : a ≠ h) (h2 : a ≠ h + 1) : tput E σ h len tx a = σ a := by
  unfold tput
  rw [if_neg h1, if_neg h2]
theorem tput_l {h : Nat} (x : Int32) : xup (tput E σ h len tx) h (.inr (0, ([.ref (h + 1), .int len] : List Value).set 1 (.int x))) = tput E σ h x tx := by
  funext a
  by_cases h1 : a = h
  · subst h1; rw [xup_s, tput_0]; rfl
  · rw [xup_n h1]
    by_cases h2 : a = h + 1
    · subst h2; rw [tput_1, tput_1]
    · rw [tput_out h1 h2, tput_out h1 h2]
theorem tput_c {h : Nat} (g : Fn) : xup (tput E σ h len tx) (h + 1) (.inl (xCh E, 80, .inl g)) = tput E σ h len g := by
  funext a
  by_cases h2 : a = h + 1
  · subst h2; rw [xup_s, tput_1]
  · rw [xup_n h2]
    by_cases h1 : a = h
    · subst h1; rw [tput_0, tput_0]
    · rw [tput_out h1 h2, tput_out h1 h2]
theorem ccell_t {len2 : Int32} {tx2 : Fn} {o : Nat} (h : o < 163) : ccell E B VV nx sz len2 tx2 o = ccell E B VV nx sz len tx o := by
  unfold ccell
  by_cases h0 : o = 0
  · rw [if_pos h0, if_pos h0]
  rw [if_neg h0, if_neg h0]
  by_cases h1 : o < 41
  · rw [if_pos h1, if_pos h1]
  rw [if_neg h1, if_neg h1]
  by_cases h2 : o = 41
  · rw [if_pos h2, if_pos h2]
  rw [if_neg h2, if_neg h2]
  by_cases h3 : o = 42
  · rw [if_pos h3, if_pos h3]
  rw [if_neg h3, if_neg h3, if_pos h, if_pos h]
theorem cput_t {len2 : Int32} {tx2 : Fn} : tput E (cput E σ B VV nx sz len tx) (B + 163) len2 tx2 = cput E σ B VV nx sz len2 tx2 := by
  funext a
  by_cases h1 : a = B + 163
  · subst h1; rw [tput_0, cput_163]
  by_cases h2 : a = B + 163 + 1
  · subst h2; rw [tput_1]; exact cput_164.symm
  rw [tput_out h1 h2]
  by_cases h3 : B ≤ a ∧ a < B + 165
  · rw [cput_in h3.1 h3.2, cput_in h3.1 h3.2, ccell_t (by omega)]
  · rw [cput_out (by omega), cput_out (by omega)]
theorem ccell_s {nx2 sz2 : Int32} {o : Nat} (h : o ≠ 41) : ccell E B VV nx2 sz2 len tx o = ccell E B VV nx sz len tx o := by
  unfold ccell
  by_cases h0 : o = 0
  · rw [if_pos h0, if_pos h0]
  rw [if_neg h0, if_neg h0]
  by_cases h1 : o < 41
  · rw [if_pos h1, if_pos h1]
  rw [if_neg h1, if_neg h1, if_neg h, if_neg h]
theorem cput_s {nx2 sz2 : Int32} : xup (cput E σ B VV nx sz len tx) (B + 41) (.inr (1, [.ref (B + 42), .int nx2, .int sz2])) = cput E σ B VV nx2 sz2 len tx := by
  funext a
  by_cases h1 : a = B + 41
  · subst h1; rw [xup_s, cput_41]
  rw [xup_n h1]
  by_cases h3 : B ≤ a ∧ a < B + 165
  · rw [cput_in h3.1 h3.2, cput_in h3.1 h3.2, ccell_s (by omega)]
  · rw [cput_out (by omega), cput_out (by omega)]
theorem tput_v {h : Nat} {b : Nat} {V : Vs} (hd : b + 20 ≤ h ∨ h + 2 ≤ b) : tput E (vput E σ b V) h len tx = vput E (tput E σ h len tx) b V := by
  funext a
  by_cases h1 : b ≤ a ∧ a < b + 20
  · rw [tput_out (by omega) (by omega), vput_in h1.1 h1.2, vput_in h1.1 h1.2]
  · rw [vput_out (b := b) (by omega)]
    by_cases h2 : a = h
    · subst h2; rw [tput_0, tput_0]
    by_cases h3 : a = h + 1
    · subst h3; rw [tput_1, tput_1]
    rw [tput_out h2 h3, tput_out h2 h3, vput_out (by omega)]
end WC
/-! the model's object -/
def flat (U : Vs) : Fn := fun j => if j < 5 then U 9 j else if j < 9 then U 8 (j - 5) else if j < 33 then (if (j - 9) % 3 = 0 then xfl (U 10 ((j - 9) / 3)) else if (j - 9) % 3 = 1 then U 11 ((j - 9) / 3) else U 12 ((j - 9) / 3)) else U ((j - 33) / 84) ((j - 33) % 84)
def mfs (M : Nat) (sc : Fn) : List Value := [.ref (M + 1), .ref (M + 2), .ref (M + 3), .int (sc 0), .ref (M + 4), .int (sc 1), .int (sc 2), .int (sc 3), .int (sc 4), .int (sc 5), .int (sc 6), .int (sc 7), .int (sc 8)]
def mcell (E : xEnv) (M : Nat) (U : Vs) (kp hi tx sc : Fn) (o : Nat) : va_E :=
  if o = 0 then .inr (5, mfs M sc) else if o = 1 then .inl (xI E, 705, .inl (flat U)) else if o = 2 then .inl (xI E, 705, .inl kp) else if o = 3 then .inl (xI E, 4230, .inl hi) else .inl (xI E, 80, .inl tx)
def mput (E : xEnv) (σ : Sg) (M : Nat) (U : Vs) (kp hi tx sc : Fn) : Sg := fun a => if M ≤ a ∧ a < M + 5 then some (mcell E M U kp hi tx sc (a - M)) else σ a
section WM
variable {E : xEnv} {σ : Sg} {M : Nat} {U : Vs} {kp hi tx sc : Fn}
theorem mput_in {a : Nat} (h1 : M ≤ a) (h2 : a < M + 5) : mput E σ M U kp hi tx sc a = some (mcell E M U kp hi tx sc (a - M)) := if_pos ⟨h1, h2⟩
theorem mput_out {a : Nat} (h : a < M ∨ M + 5 ≤ a) : mput E σ M U kp hi tx sc a = σ a := if_neg (by omega)
theorem mput_0 : mput E σ M U kp hi tx sc M = some (.inr (5, mfs M sc)) := by rw [mput_in (by omega) (by omega), Nat.sub_self]; rfl
theorem mput_1 : mput E σ M U kp hi tx sc (M + 1) = some (.inl (xI E, 705, .inl (flat U))) := by rw [mput_in (by omega) (by omega), Nat.add_sub_cancel_left]; rfl
theorem mput_2 : mput E σ M U kp hi tx sc (M + 2) = some (.inl (xI E, 705, .inl kp)) := by rw [mput_in (by omega) (by omega), Nat.add_sub_cancel_left]; rfl
theorem mput_3 : mput E σ M U kp hi tx sc (M + 3) = some (.inl (xI E, 4230, .inl hi)) := by rw [mput_in (by omega) (by omega), Nat.add_sub_cancel_left]; rfl
theorem mput_4 : mput E σ M U kp hi tx sc (M + 4) = some (.inl (xI E, 80, .inl tx)) := by rw [mput_in (by omega) (by omega), Nat.add_sub_cancel_left]; rfl
theorem mput_up {U2 : Vs} {kp2 hi2 tx2 sc2 : Fn} {o : Nat} {e : va_E} (ho : o < 5) (he : e = mcell E M U2 kp2 hi2 tx2 sc2 o) (hr : ∀ o2, o2 < 5 → o2 ≠ o → mcell E M U kp hi tx sc o2 = mcell E M U2 kp2 hi2 tx2 sc2 o2) : xup (mput E σ M U kp hi tx sc) (M + o) e = mput E σ M U2 kp2 hi2 tx2 sc2 := by
  funext a
  by_cases ha : a = M + o
  · subst ha
    rw [xup_s, mput_in (by omega) (by omega), Nat.add_sub_cancel_left, he]
  · rw [xup_n ha]
    by_cases hb : M ≤ a ∧ a < M + 5
    · rw [mput_in hb.1 hb.2, mput_in hb.1 hb.2, hr (a - M) (by omega) (by omega)]
    · rw [mput_out (by omega), mput_out (by omega)]
theorem m5 {P : Nat → Prop} (h0 : P 0) (h1 : P 1) (h2 : P 2) (h3 : P 3) (h4 : P 4) : ∀ o, o < 5 → P o := fun o ho => by
  match o, ho with
  | 0, _ => exact h0
  | 1, _ => exact h1
  | 2, _ => exact h2
  | 3, _ => exact h3
  | 4, _ => exact h4
theorem mput_st (U2 : Vs) : xup (mput E σ M U kp hi tx sc) (M + 1) (.inl (xI E, 705, .inl (flat U2))) = mput E σ M U2 kp hi tx sc :=
  mput_up (by omega) rfl (m5 (fun _ => rfl) (fun z => absurd rfl z) (fun _ => rfl) (fun _ => rfl) (fun _ => rfl))
theorem mput_kp (g : Fn) : xup (mput E σ M U kp hi tx sc) (M + 2) (.inl (xI E, 705, .inl g)) = mput E σ M U g hi tx sc :=
  mput_up (by omega) rfl (m5 (fun _ => rfl) (fun _ => rfl) (fun z => absurd rfl z) (fun _ => rfl) (fun _ => rfl))
theorem mput_hi (g : Fn) : xup (mput E σ M U kp hi tx sc) (M + 3) (.inl (xI E, 4230, .inl g)) = mput E σ M U kp g tx sc :=
  mput_up (by omega) rfl (m5 (fun _ => rfl) (fun _ => rfl) (fun _ => rfl) (fun z => absurd rfl z) (fun _ => rfl))
theorem mput_tx (g : Fn) : xup (mput E σ M U kp hi tx sc) (M + 4) (.inl (xI E, 80, .inl g)) = mput E σ M U kp hi g sc :=
  mput_up (by omega) rfl (m5 (fun _ => rfl) (fun _ => rfl) (fun _ => rfl) (fun _ => rfl) (fun z => absurd rfl z))
theorem mput_sc (sc2 : Fn) {e : va_E} (he : e = .inr (5, mfs M sc2)) : xup (mput E σ M U kp hi tx sc) M e = mput E σ M U kp hi tx sc2 := by
  subst he
  exact mput_up (o := 0) (by omega) rfl (m5 (fun z => absurd rfl z) (fun _ => rfl) (fun _ => rfl) (fun _ => rfl) (fun _ => rfl))
theorem mfs_0 (x : Int32) : (mfs M sc).set 3 (.int x) = mfs M (upd sc 0 x) := by simp [mfs, upd]
theorem mfs_1 (x : Int32) : (mfs M sc).set 5 (.int x) = mfs M (upd sc 1 x) := by simp [mfs, upd]
theorem mfs_2 (x : Int32) : (mfs M sc).set 6 (.int x) = mfs M (upd sc 2 x) := by simp [mfs, upd]
theorem mfs_3 (x : Int32) : (mfs M sc).set 7 (.int x) = mfs M (upd sc 3 x) := by simp [mfs, upd]
theorem mfs_4 (x : Int32) : (mfs M sc).set 8 (.int x) = mfs M (upd sc 4 x) := by simp [mfs, upd]
theorem mfs_5 (x : Int32) : (mfs M sc).set 9 (.int x) = mfs M (upd sc 5 x) := by simp [mfs, upd]
theorem mfs_6 (x : Int32) : (mfs M sc).set 10 (.int x) = mfs M (upd sc 6 x) := by simp [mfs, upd]
theorem mfs_7 (x : Int32) : (mfs M sc).set 11 (.int x) = mfs M (upd sc 7 x) := by simp [mfs, upd]
theorem mfs_8 (x : Int32) : (mfs M sc).set 12 (.int x) = mfs M (upd sc 8 x) := by simp [mfs, upd]
theorem mput_s0 (x : Int32) : xup (mput E σ M U kp hi tx sc) M (.inr (5, (mfs M sc).set 3 (.int x))) = mput E σ M U kp hi tx (upd sc 0 x) := mput_sc _ (by rw [mfs_0])
theorem mput_s1 (x : Int32) : xup (mput E σ M U kp hi tx sc) M (.inr (5, (mfs M sc).set 5 (.int x))) = mput E σ M U kp hi tx (upd sc 1 x) := mput_sc _ (by rw [mfs_1])
theorem mput_s2 (x : Int32) : xup (mput E σ M U kp hi tx sc) M (.inr (5, (mfs M sc).set 6 (.int x))) = mput E σ M U kp hi tx (upd sc 2 x) := mput_sc _ (by rw [mfs_2])
theorem mput_s3 (x : Int32) : xup (mput E σ M U kp hi tx sc) M (.inr (5, (mfs M sc).set 7 (.int x))) = mput E σ M U kp hi tx (upd sc 3 x) := mput_sc _ (by rw [mfs_3])
theorem mput_s4 (x : Int32) : xup (mput E σ M U kp hi tx sc) M (.inr (5, (mfs M sc).set 8 (.int x))) = mput E σ M U kp hi tx (upd sc 4 x) := mput_sc _ (by rw [mfs_4])
theorem mput_s5 (x : Int32) : xup (mput E σ M U kp hi tx sc) M (.inr (5, (mfs M sc).set 9 (.int x))) = mput E σ M U kp hi tx (upd sc 5 x) := mput_sc _ (by rw [mfs_5])
theorem mput_s6 (x : Int32) : xup (mput E σ M U kp hi tx sc) M (.inr (5, (mfs M sc).set 10 (.int x))) = mput E σ M U kp hi tx (upd sc 6 x) := mput_sc _ (by rw [mfs_6])
theorem mput_s7 (x : Int32) : xup (mput E σ M U kp hi tx sc) M (.inr (5, (mfs M sc).set 11 (.int x))) = mput E σ M U kp hi tx (upd sc 7 x) := mput_sc _ (by rw [mfs_7])
theorem mput_s8 (x : Int32) : xup (mput E σ M U kp hi tx sc) M (.inr (5, (mfs M sc).set 12 (.int x))) = mput E σ M U kp hi tx (upd sc 8 x) := mput_sc _ (by rw [mfs_8])
theorem mput_mm {U2 : Vs} {kp2 hi2 tx2 sc2 : Fn} : mput E (mput E σ M U kp hi tx sc) M U2 kp2 hi2 tx2 sc2 = mput E σ M U2 kp2 hi2 tx2 sc2 := by
  funext a
  by_cases hb : M ≤ a ∧ a < M + 5
  · rw [mput_in hb.1 hb.2, mput_in hb.1 hb.2]
  · rw [mput_out (by omega), mput_out (by omega), mput_out (by omega)]
theorem mput_c {B : Nat} {VV : Cs} {nx sz len : Int32} {tc : Fn} (h : B + 165 ≤ M) : mput E (cput E σ B VV nx sz len tc) M U kp hi tx sc = cput E (mput E σ M U kp hi tx sc) B VV nx sz len tc := by
  funext a
  by_cases hb : M ≤ a ∧ a < M + 5
  · rw [mput_in hb.1 hb.2, cput_out (by omega), mput_in hb.1 hb.2]
  · rw [mput_out (by omega)]
    by_cases hc : B ≤ a ∧ a < B + 165
    · rw [cput_in hc.1 hc.2, cput_in hc.1 hc.2]
    · rw [cput_out (by omega), cput_out (by omega), mput_out (by omega)]
end WM
-- reads and writes of the model's row of numbers
section FL
variable {U : Vs}
theorem fl_9 {j : Nat} (h : j < 5) : flat U j = U 9 j := if_pos h
theorem fl_8 {j : Nat} (h : j < 4) : flat U (5 + j) = U 8 j := by
  unfold flat
  rw [if_neg (by omega), if_pos (by omega), Nat.add_sub_cancel_left]
theorem fl_10 {s : Nat} (h : s < 8) : flat U (9 + 3 * s) = xfl (U 10 s) := by
  unfold flat
  rw [if_neg (by omega), if_neg (by omega), if_pos (by omega), if_pos (by omega), show (9 + 3 * s - 9) / 3 = s by omega]
theorem fl_11 {s : Nat} (h : s < 8) : flat U (9 + 3 * s + 1) = U 11 s := by
  unfold flat
  rw [if_neg (by omega), if_neg (by omega), if_pos (by omega), if_neg (by omega), if_pos (by omega), show (9 + 3 * s + 1 - 9) / 3 = s by omega]
theorem fl_12 {s : Nat} (h : s < 8) : flat U (9 + 3 * s + 2) = U 12 s := by
  unfold flat
  rw [if_neg (by omega), if_neg (by omega), if_pos (by omega), if_neg (by omega), if_neg (by omega), show (9 + 3 * s + 2 - 9) / 3 = s by omega]
theorem fl_w {s j : Nat} (hj : j < 84) : flat U (33 + 84 * s + j) = U s j := by
  unfold flat
  rw [if_neg (by omega), if_neg (by omega), if_neg (by omega), show (33 + 84 * s + j - 33) / 84 = s by omega, show (33 + 84 * s + j - 33) % 84 = j by omega]
/-- every place of the row -/
theorem flcases {P : Nat → Prop} (h9 : ∀ j, j < 5 → P j) (h8 : ∀ j, j < 4 → P (5 + j)) (h10 : ∀ s, s < 8 → P (9 + 3 * s)) (h11 : ∀ s, s < 8 → P (9 + 3 * s + 1)) (h12 : ∀ s, s < 8 → P (9 + 3 * s + 2)) (hw : ∀ s, s < 8 → ∀ j, j < 84 → P (33 + 84 * s + j)) : ∀ i, i < 705 → P i := by
  intro i hi
  by_cases e0 : i < 5
  · exact h9 i e0
  by_cases e1 : i < 9
  · have h := h8 (i - 5) (by omega)
    rw [show 5 + (i - 5) = i by omega] at h
    exact h
  by_cases e2 : i < 33
  · by_cases e3 : (i - 9) % 3 = 0
    · have h := h10 ((i - 9) / 3) (by omega)
      rw [show 9 + 3 * ((i - 9) / 3) = i by omega] at h
      exact h
    · by_cases e4 : (i - 9) % 3 = 1
      · have h := h11 ((i - 9) / 3) (by omega)
        rw [show 9 + 3 * ((i - 9) / 3) + 1 = i by omega] at h
        exact h
      · have h := h12 ((i - 9) / 3) (by omega)
        rw [show 9 + 3 * ((i - 9) / 3) + 2 = i by omega] at h
        exact h
  · have h := hw ((i - 33) / 84) (by omega) ((i - 33) % 84) (by omega)
    rw [show 33 + 84 * ((i - 33) / 84) + (i - 33) % 84 = i by omega] at h
    exact h
theorem flu_9 {q : Nat} (hq : q < 5) (x : Int32) : ∀ j, j < 705 → upd (flat U) q x j = flat (up2 U 9 q x) j := by
  refine flcases (fun j h => ?_) (fun j h => ?_) (fun s h => ?_) (fun s h => ?_) (fun s h => ?_) (fun s h j hj => ?_)
  · rw [fl_9 h]; by_cases e : j = q <;> simp [upd, up2, e, fl_9 h]
  · rw [fl_8 h, up2_r (by omega)]; simp [upd, show 5 + j ≠ q by omega, fl_8 h]
  · rw [fl_10 h, up2_r (by omega)]; simp [upd, show 9 + 3 * s ≠ q by omega, fl_10 h]
  · rw [fl_11 h, up2_r (by omega)]; simp [upd, show 9 + 3 * s + 1 ≠ q by omega, fl_11 h]
  · rw [fl_12 h, up2_r (by omega)]; simp [upd, show 9 + 3 * s + 2 ≠ q by omega, fl_12 h]
  · rw [fl_w hj, up2_r (by omega)]; simp [upd, show 33 + 84 * s + j ≠ q by omega, fl_w hj]
theorem flu_8 {q : Nat} (hq : q < 4) (x : Int32) : ∀ j, j < 705 → upd (flat U) (5 + q) x j = flat (up2 U 8 q x) j := by
  refine flcases (fun j h => ?_) (fun j h => ?_) (fun s h => ?_) (fun s h => ?_) (fun s h => ?_) (fun s h j hj => ?_)
  · rw [fl_9 h, up2_r (by omega)]; simp [upd, show j ≠ 5 + q by omega, fl_9 h]
  · rw [fl_8 h]; by_cases e : j = q <;> simp [upd, up2, e, fl_8 h, fl_8 hq]
  · rw [fl_10 h, up2_r (by omega)]; simp [upd, show 9 + 3 * s ≠ 5 + q by omega, fl_10 h]
  · rw [fl_11 h, up2_r (by omega)]; simp [upd, show 9 + 3 * s + 1 ≠ 5 + q by omega, fl_11 h]
  · rw [fl_12 h, up2_r (by omega)]; simp [upd, show 9 + 3 * s + 2 ≠ 5 + q by omega, fl_12 h]
  · rw [fl_w hj, up2_r (by omega)]; simp [upd, show 33 + 84 * s + j ≠ 5 + q by omega, fl_w hj]
theorem flu_10 {q : Nat} (hq : q < 8) (x y : Int32) (hx : x = xfl y) : ∀ j, j < 705 → upd (flat U) (9 + 3 * q) x j = flat (up2 U 10 q y) j := by
  refine flcases (fun j h => ?_) (fun j h => ?_) (fun s h => ?_) (fun s h => ?_) (fun s h => ?_) (fun s h j hj => ?_)
  · rw [fl_9 h, up2_r (by omega)]; simp [upd, show j ≠ 9 + 3 * q by omega, fl_9 h]
  · rw [fl_8 h, up2_r (by omega)]; simp [upd, show 5 + j ≠ 9 + 3 * q by omega, fl_8 h]
  · rw [fl_10 h]
    by_cases e : s = q
    · subst e; simp [upd, up2, hx]
    · rw [up2_n (fun z => e z.2), pk_un (by omega), fl_10 h]
  · rw [fl_11 h, up2_r (by omega)]; simp [upd, show 9 + 3 * s + 1 ≠ 9 + 3 * q by omega, fl_11 h]
  · rw [fl_12 h, up2_r (by omega)]; simp [upd, show 9 + 3 * s + 2 ≠ 9 + 3 * q by omega, fl_12 h]
  · rw [fl_w hj, up2_r (by omega)]; simp [upd, show 33 + 84 * s + j ≠ 9 + 3 * q by omega, fl_w hj]
theorem flu_11 {q : Nat} (hq : q < 8) (x : Int32) : ∀ j, j < 705 → upd (flat U) (9 + 3 * q + 1) x j = flat (up2 U 11 q x) j := by
  refine flcases (fun j h => ?_) (fun j h => ?_) (fun s h => ?_) (fun s h => ?_) (fun s h => ?_) (fun s h j hj => ?_)
  · rw [fl_9 h, up2_r (by omega)]; simp [upd, show j ≠ 9 + 3 * q + 1 by omega, fl_9 h]
  · rw [fl_8 h, up2_r (by omega)]; simp [upd, show 5 + j ≠ 9 + 3 * q + 1 by omega, fl_8 h]
  · rw [fl_10 h, up2_r (by omega)]; simp [upd, show 9 + 3 * s ≠ 9 + 3 * q + 1 by omega, fl_10 h]
  · rw [fl_11 h]
    by_cases e : s = q
    · subst e; simp [upd, up2]
    · rw [up2_n (fun z => e z.2), pk_un (by omega), fl_11 h]
  · rw [fl_12 h, up2_r (by omega)]; simp [upd, show 9 + 3 * s + 2 ≠ 9 + 3 * q + 1 by omega, fl_12 h]
  · rw [fl_w hj, up2_r (by omega)]; simp [upd, show 33 + 84 * s + j ≠ 9 + 3 * q + 1 by omega, fl_w hj]
theorem flu_12 {q : Nat} (hq : q < 8) (x : Int32) : ∀ j, j < 705 → upd (flat U) (9 + 3 * q + 2) x j = flat (up2 U 12 q x) j := by
  refine flcases (fun j h => ?_) (fun j h => ?_) (fun s h => ?_) (fun s h => ?_) (fun s h => ?_) (fun s h j hj => ?_)
  · rw [fl_9 h, up2_r (by omega)]; simp [upd, show j ≠ 9 + 3 * q + 2 by omega, fl_9 h]
  · rw [fl_8 h, up2_r (by omega)]; simp [upd, show 5 + j ≠ 9 + 3 * q + 2 by omega, fl_8 h]
  · rw [fl_10 h, up2_r (by omega)]; simp [upd, show 9 + 3 * s ≠ 9 + 3 * q + 2 by omega, fl_10 h]
  · rw [fl_11 h, up2_r (by omega), pk_un (by omega), fl_11 h]
  · rw [fl_12 h]
    by_cases e : s = q
    · subst e; simp [upd, up2]
    · rw [up2_n (fun z => e z.2), pk_un (by omega), fl_12 h]
  · rw [fl_w hj, up2_r (by omega)]; simp [upd, show 33 + 84 * s + j ≠ 9 + 3 * q + 2 by omega, fl_w hj]
theorem flu_w {k q : Nat} (hk : k < 8) (hq : q < 84) (x : Int32) : ∀ j, j < 705 → upd (flat U) (33 + 84 * k + q) x j = flat (up2 U k q x) j := by
  refine flcases (fun j h => ?_) (fun j h => ?_) (fun s h => ?_) (fun s h => ?_) (fun s h => ?_) (fun s h j hj => ?_)
  · rw [fl_9 h, up2_r (by omega)]; simp [upd, show j ≠ 33 + 84 * k + q by omega, fl_9 h]
  · rw [fl_8 h, up2_r (by omega)]; simp [upd, show 5 + j ≠ 33 + 84 * k + q by omega, fl_8 h]
  · rw [fl_10 h, up2_r (by omega)]; simp [upd, show 9 + 3 * s ≠ 33 + 84 * k + q by omega, fl_10 h]
  · rw [fl_11 h, up2_r (by omega)]; simp [upd, show 9 + 3 * s + 1 ≠ 33 + 84 * k + q by omega, fl_11 h]
  · rw [fl_12 h, up2_r (by omega)]; simp [upd, show 9 + 3 * s + 2 ≠ 33 + 84 * k + q by omega, fl_12 h]
  · rw [fl_w hj]
    by_cases e : s = k ∧ j = q
    · obtain ⟨rfl, rfl⟩ := e; simp [upd, up2]
    · rw [up2_n e]; simp [upd, show 33 + 84 * s + j ≠ 33 + 84 * k + q by omega, fl_w hj]
end FL

