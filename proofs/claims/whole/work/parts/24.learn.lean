/-! gestures; the habits of a text -/
def geS (w i : Nat) : Int32 := if (nI (w + 2) >>> ((nI (lwN w) - 1 - nI i) &&& 31)) &&& 1 = 0 then 119 else 110
theorem lwN_le {w : Nat} : lwN w ≤ 3 := by
  unfold lwN
  split
  · decide
  · split <;> decide
/-- what has been read of a habit's word (as a code) and of its weight -/
def scS (s : Int32) (c : Int32 × Int32) : Int32 × Int32 := if gesP s then (2 * c.1 + (if s = 110 then 1 else 0), c.2) else if digP s then (c.1, 10 * c.2 + (s - 48)) else c
def scN (tx : Fn) (a : Nat) : Nat → Int32 × Int32
  | 0 => (1, 0)
  | t + 1 => scS (tx (a + 4 + t)) (scN tx a t)
/-- a habit stands from a up to e; the habits from a on -/
def Hab (n : Nat) (tx : Fn) (a e k m w : Nat) (v : Int32) : Prop := (a + 4 ≤ e) ∧ (e ≤ n) ∧ (k < 8) ∧ (tx a - 48 = nI k) ∧ (m < 6) ∧ (tx (a + 2) - 48 = nI m) ∧ (w < 14) ∧ (scN tx a (e - (a + 4)) = (nI (w + 2), v)) ∧ (clS v = v) ∧ (∀ j, a ≤ j → j < e → ¬ tx j = 59)
section HB
variable {n : Nat} {tx : Fn} {a e k m w : Nat} {v : Int32}
theorem Hab.h1 (H : Hab n tx a e k m w v) : a + 4 ≤ e := H.1
theorem Hab.h2 (H : Hab n tx a e k m w v) : e ≤ n := H.2.1
theorem Hab.h3 (H : Hab n tx a e k m w v) : k < 8 := H.2.2.1
theorem Hab.h4 (H : Hab n tx a e k m w v) : tx a - 48 = nI k := H.2.2.2.1
theorem Hab.h5 (H : Hab n tx a e k m w v) : m < 6 := H.2.2.2.2.1
theorem Hab.h6 (H : Hab n tx a e k m w v) : tx (a + 2) - 48 = nI m := H.2.2.2.2.2.1
theorem Hab.h7 (H : Hab n tx a e k m w v) : w < 14 := H.2.2.2.2.2.2.1
theorem Hab.h8 (H : Hab n tx a e k m w v) : scN tx a (e - (a + 4)) = (nI (w + 2), v) := H.2.2.2.2.2.2.2.1
theorem Hab.h9 (H : Hab n tx a e k m w v) : clS v = v := H.2.2.2.2.2.2.2.2.1
theorem Hab.h10 (H : Hab n tx a e k m w v) : ∀ j, a ≤ j → j < e → ¬ tx j = 59 := H.2.2.2.2.2.2.2.2.2
end HB
def HL (n : Nat) (tx : Fn) : List (Nat × Nat × Nat × Int32) → Nat → Prop
  | [], _ => False
  | (k, m, w, v) :: L, a => ∃ e, Hab n tx a e k m w v ∧ ((e = n ∧ L = []) ∨ (e < n ∧ tx e = 59 ∧ HL n tx L (e + 1)))
def gvS (V : Vs) : List (Nat × Nat × Nat × Int32) → Vs × Nat
  | [] => (V, 0)
  | (k, m, w, v) :: L => if V 10 k = 1 then ((gvS (up2 V k (14 * m + w) v) L).1, (gvS (up2 V k (14 * m + w) v) L).2 + 1) else (V, 0)
theorem gvS_t {V : Vs} {k m w : Nat} {v : Int32} {L : List (Nat × Nat × Nat × Int32)} (h : V 10 k = 1) : gvS V ((k, m, w, v) :: L) = ((gvS (up2 V k (14 * m + w) v) L).1, (gvS (up2 V k (14 * m + w) v) L).2 + 1) := if_pos h
theorem gvS_f {V : Vs} {k m w : Nat} {v : Int32} {L : List (Nat × Nat × Nat × Int32)} (h : ¬ V 10 k = 1) : gvS V ((k, m, w, v) :: L) = (V, 0) := if_neg h
theorem sc_t {s : Int32} {c : Int32 × Int32} (h : gesP s) (h2 : s = 110) : scS s c = (2 * c.1 + 1, c.2) := by
  rw [scS, if_pos h, if_pos h2]
theorem sc_f {s : Int32} {c : Int32 × Int32} (h : gesP s) (h2 : ¬ s = 110) : scS s c = (2 * c.1 + 0, c.2) := by
  rw [scS, if_pos h, if_neg h2]
theorem sc_d {s : Int32} {c : Int32 × Int32} (h : ¬ gesP s) (h2 : digP s) : scS s c = (c.1, 10 * c.2 + (s - 48)) := by
  rw [scS, if_neg h, if_pos h2]
theorem sc_n {s : Int32} {c : Int32 × Int32} (h : ¬ gesP s) (h2 : ¬ digP s) : scS s c = c := by
  rw [scS, if_neg h, if_neg h2]
set_option maxRecDepth 100000 in
set_option maxHeartbeats 1000000 in
theorem c_X4_gesture_no {l : Launch} {E : xEnv} {B N : Nat} {σ : Sg} {VV : Cs} {p z n : Nat} {tx : Fn} {x y : Int32} (hb : ¬ (0 ≤ x ∧ x < 14)) : xM l yX4_gesture cX4_gesture 5 (some .int) 2 41 0 0 E B [.ref B, .int x, .int y] N (cput E σ B VV (nI p) (nI z) (nI n) tx) N (cput E σ B VV (nI p) (nI z) (nI n) tx) (some (.int (-1))) := by
  refine xM_of [some (.ref _), some (.int _), some (.int _), none, none] (by decide +kernel) (Nat.le_of_ble_eq_true rfl) rfl (fun k0 C Z => ?_)
  refine x_iload_n C dX4_gesture_0 rfl ?_
  refine x_callS C (c_X4_isWord _) ks_X4_isWord kl_X4_84 dX4_gesture_1 rfl rfl rfl rfl (Nat.le_of_ble_eq_true rfl) (Nat.le_of_ble_eq_true rfl) (Nat.le_of_ble_eq_true rfl) (Nat.le_of_ble_eq_true rfl) (Nat.le_of_ble_eq_true rfl) ?_
  refine x_bne C 9 dX4_gesture_4 (by decide) (fun h => absurd h hb) (fun _ => ?_)
  refine x_iconst (v := (-1)) C dX4_gesture_7 (by decide) ?_
  exact x_zret C Z dX4_gesture_8 rfl (Nat.le_of_ble_eq_true rfl) (Nat.le_of_ble_eq_true rfl) rfl rfl rfl
set_option maxRecDepth 100000 in
set_option maxHeartbeats 1000000 in
theorem c_X4_gesture_none {l : Launch} {E : xEnv} {B N : Nat} {σ : Sg} {VV : Cs} {p z n : Nat} {tx : Fn} {w : Nat} {y : Int32} (hw : w < 14) (hb : ¬ (0 ≤ y ∧ y < nI (lwN w))) : xM l yX4_gesture cX4_gesture 5 (some .int) 2 41 0 0 E B [.ref B, .int (nI w), .int y] N (cput E σ B VV (nI p) (nI z) (nI n) tx) N (cput E σ B VV (nI p) (nI z) (nI n) tx) (some (.int (-6))) := by
  refine xM_of [some (.ref _), some (.int _), some (.int _), none, none] (by decide +kernel) (Nat.le_of_ble_eq_true rfl) rfl (fun k0 C Z => ?_)
  refine x_iload_n C dX4_gesture_0 rfl ?_
  refine x_callS C (c_X4_isWord _) ks_X4_isWord kl_X4_84 dX4_gesture_1 rfl rfl rfl rfl (Nat.le_of_ble_eq_true rfl) (Nat.le_of_ble_eq_true rfl) (Nat.le_of_ble_eq_true rfl) (Nat.le_of_ble_eq_true rfl) (Nat.le_of_ble_eq_true rfl) ?_
  refine x_bne C 9 dX4_gesture_4 (by decide) (fun _ => ?_) (fun h => absurd (bd_in (c := 14) hw (by decide)) h)
  refine x_iload_n C dX4_gesture_9 rfl ?_
  refine x_callS C (c_X4_lengthOfWord hw) ks_X4_lengthOfWord kl_X4_124 dX4_gesture_10 rfl rfl rfl rfl (Nat.le_of_ble_eq_true rfl) (Nat.le_of_ble_eq_true rfl) (Nat.le_of_ble_eq_true rfl) (Nat.le_of_ble_eq_true rfl) (Nat.le_of_ble_eq_true rfl) ?_
  refine x_istore_n C dX4_gesture_13 (by decide) rfl ?_
  refine x_iload_n C dX4_gesture_14 rfl ?_
  refine x_iload_n C dX4_gesture_15 rfl ?_
  refine x_callS C (c_X4_isBelow _ _) ks_X4_isBelow kl_X4_57 dX4_gesture_16 rfl rfl rfl rfl (Nat.le_of_ble_eq_true rfl) (Nat.le_of_ble_eq_true rfl) (Nat.le_of_ble_eq_true rfl) (Nat.le_of_ble_eq_true rfl) (Nat.le_of_ble_eq_true rfl) ?_
  refine x_bne C 25 dX4_gesture_19 (by decide) (fun h => absurd h hb) (fun _ => ?_)
  refine x_bipush (v := (-6)) C dX4_gesture_22 (by decide) ?_
  exact x_zret C Z dX4_gesture_24 rfl (Nat.le_of_ble_eq_true rfl) (Nat.le_of_ble_eq_true rfl) rfl rfl rfl
set_option maxRecDepth 100000 in
set_option maxHeartbeats 1000000 in
theorem c_X4_gesture_ok {l : Launch} {E : xEnv} {B N : Nat} {σ : Sg} {VV : Cs} {p z n : Nat} {tx : Fn} {w i : Nat} (hw : w < 14) (hi : i < lwN w) : xM l yX4_gesture cX4_gesture 5 (some .int) 2 41 0 0 E B [.ref B, .int (nI w), .int (nI i)] N (cput E σ B VV (nI p) (nI z) (nI n) tx) N (cput E σ B VV (nI p) (nI z) (nI n) tx) (some (.int (geS w i))) := by
  refine xM_of [some (.ref _), some (.int _), some (.int _), none, none] (by decide +kernel) (Nat.le_of_ble_eq_true rfl) rfl (fun k0 C Z => ?_)
  refine x_iload_n C dX4_gesture_0 rfl ?_
  refine x_callS C (c_X4_isWord _) ks_X4_isWord kl_X4_84 dX4_gesture_1 rfl rfl rfl rfl (Nat.le_of_ble_eq_true rfl) (Nat.le_of_ble_eq_true rfl) (Nat.le_of_ble_eq_true rfl) (Nat.le_of_ble_eq_true rfl) (Nat.le_of_ble_eq_true rfl) ?_
  refine x_bne C 9 dX4_gesture_4 (by decide) (fun _ => ?_) (fun h => absurd (bd_in (c := 14) hw (by decide)) h)
  refine x_iload_n C dX4_gesture_9 rfl ?_
  refine x_callS C (c_X4_lengthOfWord hw) ks_X4_lengthOfWord kl_X4_124 dX4_gesture_10 rfl rfl rfl rfl (Nat.le_of_ble_eq_true rfl) (Nat.le_of_ble_eq_true rfl) (Nat.le_of_ble_eq_true rfl) (Nat.le_of_ble_eq_true rfl) (Nat.le_of_ble_eq_true rfl) ?_
  refine x_istore_n C dX4_gesture_13 (by decide) rfl ?_
  refine x_iload_n C dX4_gesture_14 rfl ?_
  refine x_iload_n C dX4_gesture_15 rfl ?_
  refine x_callS C (c_X4_isBelow _ _) ks_X4_isBelow kl_X4_57 dX4_gesture_16 rfl rfl rfl rfl (Nat.le_of_ble_eq_true rfl) (Nat.le_of_ble_eq_true rfl) (Nat.le_of_ble_eq_true rfl) (Nat.le_of_ble_eq_true rfl) (Nat.le_of_ble_eq_true rfl) ?_
  refine x_bne C 25 dX4_gesture_19 (by decide) (fun _ => ?_) (fun h => absurd (bd_in hi (by have := @lwN_le w; omega)) h)
  refine x_iload_n C dX4_gesture_25 rfl ?_
  refine x_callS C c_X4_codeOfWord ks_X4_codeOfWord kl_X4_127 dX4_gesture_26 rfl rfl rfl rfl (Nat.le_of_ble_eq_true rfl) (Nat.le_of_ble_eq_true rfl) (Nat.le_of_ble_eq_true rfl) (Nat.le_of_ble_eq_true rfl) (Nat.le_of_ble_eq_true rfl) ?_
  refine x_iload_n C dX4_gesture_29 rfl ?_
  refine x_iconst (v := 1) C dX4_gesture_30 (by decide) ?_
  refine x_isub C dX4_gesture_31 ?_
  refine x_iload_n C dX4_gesture_32 rfl ?_
  refine x_isub C dX4_gesture_33 ?_
  refine x_ishr C dX4_gesture_34 ?_
  refine x_iconst (v := 1) C dX4_gesture_35 (by decide) ?_
  refine x_iand C dX4_gesture_36 ?_
  refine x_istore C dX4_gesture_37 (by decide) rfl ?_
  refine x_iload C dX4_gesture_39 rfl ?_
  refine x_if_ne C 49 dX4_gesture_41 (by decide) (fun h41 => ?_) (fun h41 => ?_)
  · refine x_bipush (v := 110) C dX4_gesture_49 (by decide) ?_
    exact x_zret C Z dX4_gesture_51 rfl (Nat.le_of_ble_eq_true rfl) (Nat.le_of_ble_eq_true rfl) rfl rfl (if_neg h41).symm
  · refine x_bipush (v := 119) C dX4_gesture_44 (by decide) ?_
    refine x_goto C 51 dX4_gesture_46 (by decide) ?_
    exact x_zret C Z dX4_gesture_51 rfl (Nat.le_of_ble_eq_true rfl) (Nat.le_of_ble_eq_true rfl) rfl rfl (if_pos h41).symm
set_option maxRecDepth 100000 in
set_option maxHeartbeats 1000000 in
theorem c_X0_giveHabit {l : Launch} {E : xEnv} {B N : Nat} {σ : Sg} {VV : Cs} {p z n : Nat} {tx : Fn} {a e k m w : Nat} {v : Int32} (hn : n ≤ 80) (H : Hab n tx a e k m w v) : xM l yX0_giveHabit cX0_giveHabit 8 none 3 63 0 0 E B [.ref (B + 163), .ref (B + 1 + 2 + 2 * k), .int (nI a), .int (nI e)] N (cput E σ B VV (nI p) (nI z) (nI n) tx) N (cput E σ B (upV VV 0 (up2 (VV 0) k (14 * m + w) v)) (nI p) (nI z) (nI n) tx) none := by
  refine xM_of [some (.ref _), some (.ref _), some (.int _), some (.int _), none, none, none, none] (by decide +kernel) (Nat.le_of_ble_eq_true rfl) rfl (fun k0 C Z => ?_)
  have hl : ∀ t, t ≤ (e - (a + 4)) → xX k0 N 0 0 (cput E σ B VV (nI p) (nI z) (nI n) tx) 11 [some (.ref (B + 163)), some (.ref (B + 1 + 2 + 2 * k)), some (.int (nI a)), some (.int (nI e)), some (.int (scN tx a t).1), some (.int (scN tx a t).2), some (.int (nI (a + 4 + t))), none] [] := by
    refine x_for (e - (a + 4)) ?_ ?_
    · refine x_iload C dX0_giveHabit_11 rfl ?_
      refine x_iload_n C dX0_giveHabit_13 rfl ?_
      refine x_ic_ge C 83 dX0_giveHabit_14 (by decide) (fun _ => ?_) (fun h => absurd (nI_le (by have := H.h1; omega) (by have := H.h1; have := H.h2; omega)) h)
      rw [H.h8]
      refine x_aload_n C dX0_giveHabit_83 rfl ?_
      refine x_aload_n C dX0_giveHabit_84 rfl ?_
      refine x_iload_n C dX0_giveHabit_85 rfl ?_
      refine x_iconst (v := 2) C dX0_giveHabit_86 (by decide) ?_
      refine x_iadd C dX0_giveHabit_87 ?_
      rw [show nI a + 2 = nI (a + 2) from nI_add a 2]
      refine x_callV C (c_X0_digitAt (j := a + 2) (by have := H.h1; have := H.h2; omega) hn) kv_X0_digitAt kl_X0_44 dX0_giveHabit_88 cput_163 cput_tt.symm cput_tt rfl rfl (Nat.le_of_ble_eq_true rfl) (Nat.le_of_ble_eq_true rfl) (Nat.le_of_ble_eq_true rfl) (Nat.le_of_ble_eq_true rfl) (Nat.le_of_ble_eq_true rfl) ?_
      rw [sg_in (show a + 2 < n by have := H.h1; have := H.h2; omega), H.h6]
      refine x_iload C dX0_giveHabit_91 rfl ?_
      refine x_callS C (c_X4_wordOfCode (c := w + 2) (by omega)) ks_X4_wordOfCode kl_X0_57 dX0_giveHabit_93 rfl rfl rfl rfl (Nat.le_of_ble_eq_true rfl) (Nat.le_of_ble_eq_true rfl) (Nat.le_of_ble_eq_true rfl) (Nat.le_of_ble_eq_true rfl) (Nat.le_of_ble_eq_true rfl) ?_
      refine x_iload C dX0_giveHabit_96 rfl ?_
      refine x_callV C (c_X2_putWeight H.h3 H.h5 H.h7 _) kv_X2_putWeight kl_X0_60 dX0_giveHabit_98 (cput_hs H.h3) (cput_is0 rfl) cput_w0 rfl rfl (Nat.le_of_ble_eq_true rfl) (Nat.le_of_ble_eq_true rfl) (Nat.le_of_ble_eq_true rfl) (Nat.le_of_ble_eq_true rfl) (Nat.le_of_ble_eq_true rfl) ?_
      exact x_vret C Z dX0_giveHabit_101 (Nat.le_of_ble_eq_true rfl) (Nat.le_of_ble_eq_true rfl) rfl (by rw [H.h9])
    · intro t hi ih
      refine x_iload C dX0_giveHabit_11 rfl ?_
      refine x_iload_n C dX0_giveHabit_13 rfl ?_
      refine x_ic_ge C 83 dX0_giveHabit_14 (by decide) (fun h => absurd h (nI_ge (show a + 4 + t < e by have := H.h1; omega) (by have := H.h2; omega))) (fun _ => ?_)
      refine x_aload_n C dX0_giveHabit_17 rfl ?_
      refine x_iload C dX0_giveHabit_18 rfl ?_
      refine x_callV C (c_X0_signAt (by have := H.h2; omega) hn) kv_X0_signAt kl_X0_23 dX0_giveHabit_20 cput_163 cput_tt.symm cput_tt rfl rfl (Nat.le_of_ble_eq_true rfl) (Nat.le_of_ble_eq_true rfl) (Nat.le_of_ble_eq_true rfl) (Nat.le_of_ble_eq_true rfl) (Nat.le_of_ble_eq_true rfl) ?_
      rw [sg_in (show a + 4 + t < n by have := H.h2; omega)]
      refine x_istore C dX0_giveHabit_23 (by decide) rfl ?_
      refine x_iload C dX0_giveHabit_25 rfl ?_
      refine x_callS C (c_X0_isGesture _) ks_X0_isGesture kl_X0_31 dX0_giveHabit_27 rfl rfl rfl rfl (Nat.le_of_ble_eq_true rfl) (Nat.le_of_ble_eq_true rfl) (Nat.le_of_ble_eq_true rfl) (Nat.le_of_ble_eq_true rfl) (Nat.le_of_ble_eq_true rfl) ?_
      refine x_beq C 55 dX0_giveHabit_30 (by decide) (fun h30 => ?_) (fun h30 => ?_)
      · refine x_iload C dX0_giveHabit_55 rfl ?_
        refine x_callS C (c_X0_isDigit _) ks_X0_isDigit kl_X0_38 dX0_giveHabit_57 rfl rfl rfl rfl (Nat.le_of_ble_eq_true rfl) (Nat.le_of_ble_eq_true rfl) (Nat.le_of_ble_eq_true rfl) (Nat.le_of_ble_eq_true rfl) (Nat.le_of_ble_eq_true rfl) ?_
        refine x_beq C 77 dX0_giveHabit_60 (by decide) (fun h60 => ?_) (fun h60 => ?_)
        · refine x_iinc C dX0_giveHabit_77 rfl (nI_inc _) (by decide) rfl ?_
          refine x_goto C 11 dX0_giveHabit_80 (by decide) ?_
          refine xX.cl ih rfl (And.intro rfl (And.intro rfl (And.intro rfl (And.intro rfl (And.intro ?_ (And.intro ?_ (And.intro rfl trivial))))))) rfl
          · rw [scN, sc_n h30 h60]; rfl
          · rw [scN, sc_n h30 h60]; rfl
        · refine x_bipush (v := 10) C dX0_giveHabit_63 (by decide) ?_
          refine x_iload C dX0_giveHabit_65 rfl ?_
          refine x_imul C dX0_giveHabit_67 ?_
          refine x_aload_n C dX0_giveHabit_68 rfl ?_
          refine x_iload C dX0_giveHabit_69 rfl ?_
          refine x_callV C (c_X0_digitAt (by have := H.h2; omega) hn) kv_X0_digitAt kl_X0_44 dX0_giveHabit_71 cput_163 cput_tt.symm cput_tt rfl rfl (Nat.le_of_ble_eq_true rfl) (Nat.le_of_ble_eq_true rfl) (Nat.le_of_ble_eq_true rfl) (Nat.le_of_ble_eq_true rfl) (Nat.le_of_ble_eq_true rfl) ?_
          rw [sg_in (show a + 4 + t < n by have := H.h2; omega)]
          refine x_iadd C dX0_giveHabit_74 ?_
          refine x_istore C dX0_giveHabit_75 (by decide) rfl ?_
          refine x_iinc C dX0_giveHabit_77 rfl (nI_inc _) (by decide) rfl ?_
          refine x_goto C 11 dX0_giveHabit_80 (by decide) ?_
          refine xX.cl ih rfl (And.intro rfl (And.intro rfl (And.intro rfl (And.intro rfl (And.intro ?_ (And.intro ?_ (And.intro rfl trivial))))))) rfl
          · rw [scN, sc_d h30 h60]; rfl
          · rw [scN, sc_d h30 h60]; rfl
      · refine x_iconst (v := 2) C dX0_giveHabit_33 (by decide) ?_
        refine x_iload C dX0_giveHabit_34 rfl ?_
        refine x_imul C dX0_giveHabit_36 ?_
        refine x_iload C dX0_giveHabit_37 rfl ?_
        refine x_bipush (v := 110) C dX0_giveHabit_39 (by decide) ?_
        refine x_ic_ne C 48 dX0_giveHabit_41 (by decide) (fun h41 => ?_) (fun h41 => ?_)
        · refine x_iconst (v := 0) C dX0_giveHabit_48 (by decide) ?_
          refine x_iadd C dX0_giveHabit_49 ?_
          refine x_istore C dX0_giveHabit_50 (by decide) rfl ?_
          refine x_goto C 77 dX0_giveHabit_52 (by decide) ?_
          refine x_iinc C dX0_giveHabit_77 rfl (nI_inc _) (by decide) rfl ?_
          refine x_goto C 11 dX0_giveHabit_80 (by decide) ?_
          refine xX.cl ih rfl (And.intro rfl (And.intro rfl (And.intro rfl (And.intro rfl (And.intro ?_ (And.intro ?_ (And.intro rfl trivial))))))) rfl
          · rw [scN, sc_f h30 h41]; rfl
          · rw [scN, sc_f h30 h41]; rfl
        · refine x_iconst (v := 1) C dX0_giveHabit_44 (by decide) ?_
          refine x_goto C 49 dX0_giveHabit_45 (by decide) ?_
          refine x_iadd C dX0_giveHabit_49 ?_
          refine x_istore C dX0_giveHabit_50 (by decide) rfl ?_
          refine x_goto C 77 dX0_giveHabit_52 (by decide) ?_
          refine x_iinc C dX0_giveHabit_77 rfl (nI_inc _) (by decide) rfl ?_
          refine x_goto C 11 dX0_giveHabit_80 (by decide) ?_
          refine xX.cl ih rfl (And.intro rfl (And.intro rfl (And.intro rfl (And.intro rfl (And.intro ?_ (And.intro ?_ (And.intro rfl trivial))))))) rfl
          · rw [scN, sc_t h30 h41]; rfl
          · rw [scN, sc_t h30 h41]; rfl
  refine x_iconst (v := 1) C dX0_giveHabit_0 (by decide) ?_
  refine x_istore C dX0_giveHabit_1 (by decide) rfl ?_
  refine x_iconst (v := 0) C dX0_giveHabit_3 (by decide) ?_
  refine x_istore C dX0_giveHabit_4 (by decide) rfl ?_
  refine x_iload_n C dX0_giveHabit_6 rfl ?_
  refine x_iconst (v := 4) C dX0_giveHabit_7 (by decide) ?_
  refine x_iadd C dX0_giveHabit_8 ?_
  refine x_istore C dX0_giveHabit_9 (by decide) rfl ?_
  refine xX.cl (hl 0 (by omega)) rfl (And.intro rfl (And.intro rfl (And.intro rfl (And.intro rfl (And.intro rfl (And.intro rfl (And.intro (congrArg (fun z => some (some (Value.int z))) (nI_add _ 4)) trivial))))))) rfl
