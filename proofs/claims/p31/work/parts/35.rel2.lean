/-! a meeting keeps the two villages beside each other -/
def prR (r : Fn) (m w : Nat) (a x : Int32) : Fn := fun j => if j = 14 * m + w then clS (r j + a) else if 14 * m ≤ j ∧ j < 14 * m + 14 then clS (r j + -x) else r j
def fmR (r : Fn) (m w : Nat) (x : Int32) : Fn := fun j => if j % 14 = w ∧ j / 14 < 6 ∧ j / 14 ≠ m then clS (r j + -x) else r j
def chR (r : Fn) (m w : Nat) (d : Int32) : Fn := upd r (14 * m + w) (clS (r (14 * m + w) + d))
theorem prS_k {V : Vs} {k m w : Nat} {a x : Int32} : prS V k m w a x k = prR (V k) m w a x := by
  funext j
  unfold prS prL prR
  by_cases h : j = 14 * m + w
  · rw [if_pos ⟨rfl, h⟩, if_pos h]
  · rw [if_neg (fun z => h z.2), if_neg h]
    by_cases h2 : 14 * m ≤ j ∧ j < 14 * m + 14
    · rw [if_pos ⟨rfl, h2⟩, if_pos h2]
    · rw [if_neg (fun z => h2 z.2), if_neg h2]
theorem fmS_k {V : Vs} {k m w : Nat} {x : Int32} : fmS V k m w x k = fmR (V k) m w x := by
  funext j
  unfold fmS fmL fmR
  by_cases h : j % 14 = w ∧ j / 14 < 6 ∧ j / 14 ≠ m
  · rw [if_pos ⟨rfl, h⟩, if_pos h]
  · rw [if_neg (fun z => h z.2), if_neg h]
theorem chS_k {V : Vs} {k m w : Nat} {d : Int32} : chS V k m w d k = chR (V k) m w d := up2_u
theorem cl_ls {n : Nat} (h : n ≤ 9) : clS (0 + -(nI n)) = 0 := by
  rcases (show n = 0 ∨ n = 1 ∨ n = 2 ∨ n = 3 ∨ n = 4 ∨ n = 5 ∨ n = 6 ∨ n = 7 ∨ n = 8 ∨ n = 9 by omega) with rfl | rfl | rfl | rfl | rfl | rfl | rfl | rfl | rfl | rfl <;> decide
section WRS
variable {f r : Fn} {m w : Nat}
theorem WR_pr (H : WR1 f r) {a x : Int32} (hm : m < 6) (hw : w < 10) (hx : clS (0 + -x) = 0) : WR1 (prF f m w a x 10) (prR r m w a x) := by
  refine ⟨fun m2 w2 h1 h2 => ?_, fun m2 w2 h1 h2 h3 => ?_⟩
  · have e := H.1 m2 w2 h1 h2
    unfold prF prR
    by_cases em : m2 = m
    · subst em
      rw [if_pos (by omega)]
      by_cases ew : w2 = w
      · subst ew; rw [if_pos rfl, if_pos rfl, e]
      · rw [if_neg (by omega), if_neg (by omega), if_pos (by omega), e]
    · rw [if_neg (by omega), if_neg (by omega), if_neg (by omega), e]
  · have e := H.2 m2 w2 h1 h2 h3
    unfold prR
    rw [if_neg (by omega)]
    by_cases em : 14 * m ≤ 14 * m2 + w2 ∧ 14 * m2 + w2 < 14 * m + 14
    · rw [if_pos em, e]; exact hx
    · rw [if_neg em]; exact e
theorem WR_fm (H : WR1 f r) {x : Int32} (hw : w < 10) : WR1 (fmF f m w x 6) (fmR r m w x) := by
  refine ⟨fun m2 w2 h1 h2 => ?_, fun m2 w2 h1 h2 h3 => ?_⟩
  · have e := H.1 m2 w2 h1 h2
    unfold fmF fmR
    by_cases c : w2 = w ∧ m2 ≠ m
    · rw [if_pos (by omega), if_pos (by omega), e]
    · rw [if_neg (by omega), if_neg (by omega), e]
  · have e := H.2 m2 w2 h1 h2 h3
    unfold fmR
    rw [if_neg (by omega)]; exact e
theorem WR_ch (H : WR1 f r) {d : Int32} (hm : m < 6) (hw : w < 10) : WR1 (chF f m w d) (chR r m w d) := by
  refine ⟨fun m2 w2 h1 h2 => ?_, fun m2 w2 h1 h2 h3 => ?_⟩
  · have e := H.1 m2 w2 h1 h2
    unfold chF chR
    by_cases c : m2 = m ∧ w2 = w
    · obtain ⟨rfl, rfl⟩ := c
      rw [pk_us, pk_us, e]
    · rw [pk_un (by omega), pk_un (by omega)]; exact e
  · unfold chR
    rw [pk_un (by omega)]; exact H.2 m2 w2 h1 h2 h3
end WRS
section MT
variable {V : Vs} {k1 k2 m w h : Nat}
theorem mtC_12 (hne : k1 ≠ k2) (k : Nat) : mtC V k1 k2 12 k = if k = k1 ∨ k = k2 then V 12 k + 1 else V 12 k := by
  unfold mtC mck mc1
  by_cases e2 : k = k2
  · subst e2
    rw [up2_s, up2_n (by omega), up2_r (by decide), if_pos (Or.inr rfl)]
  · rw [up2_n (by omega)]
    by_cases e1 : k = k1
    · subst e1
      rw [up2_s, up2_r (by decide), if_pos (Or.inl rfl)]
    · rw [up2_n (by omega), up2_r (by decide), if_neg (by omega)]
theorem mtC_9 (j : Nat) : mtC V k1 k2 9 j = if j = 1 then V 9 1 + 1 else V 9 j := by
  unfold mtC mck mc1
  rw [up2_r (by decide), up2_r (by decide)]
  by_cases e : j = 1
  · subst e; rw [up2_s, if_pos rfl]
  · rw [up2_n (by omega), if_neg e]
theorem mtF_12 (hk1 : k1 < 8) (hk2 : k2 < 8) : mtF V k1 k2 m w h 12 = mtC V k1 k2 12 := by
  unfold mtF
  split
  · unfold mtS mtG
    rw [fmS_r (by omega), prS_r (by omega), prS_r (by omega), up2_r (by decide)]
  · unfold mtN
    rw [chS_r (by omega), chS_r (by omega), chS_r (by omega)]
theorem mtF_9 (hk1 : k1 < 8) (hk2 : k2 < 8) (j : Nat) : mtF V k1 k2 m w h 9 j = if j = 1 then V 9 1 + 1 else if j = 2 ∧ h = m then V 9 2 + 1 else V 9 j := by
  unfold mtF
  by_cases c : h = m
  · rw [if_pos c]
    unfold mtS mtG
    rw [fmS_r (by omega), prS_r (by omega), prS_r (by omega)]
    by_cases e : j = 2
    · subst e; rw [up2_s, mtC_9, if_neg (by decide), if_neg (by decide), if_pos ⟨rfl, c⟩]
    · rw [up2_n (by omega), mtC_9]
      by_cases e1 : j = 1
      · rw [if_pos e1, if_pos e1]
      · rw [if_neg e1, if_neg e1, if_neg (fun z => e z.1)]
  · rw [if_neg c]
    unfold mtN
    rw [chS_r (by omega), chS_r (by omega), chS_r (by omega), mtC_9]
    by_cases e1 : j = 1
    · rw [if_pos e1, if_pos e1]
    · rw [if_neg e1, if_neg e1, if_neg (fun z => c z.2)]
theorem mtF_1 (hk1 : k1 < 8) (hk2 : k2 < 8) (hne : k1 ≠ k2) : mtF V k1 k2 m w h k1 = if h = m then prR (V k1) m w (lnS (V 11 k1) (V 8 0)) (V 8 1) else chR (V k1) m w (-(V 8 1)) := by
  unfold mtF
  by_cases c : h = m
  · rw [if_pos c, if_pos c]
    unfold mtS mtG
    rw [fmS_r hne, prS_r hne, prS_k, up2_r (by omega), up2_r (by decide), up2_r (by decide), mtC_r (by omega) (by omega), mtC_r (by decide) (by decide), mtC_r (by decide) (by decide)]
  · rw [if_neg c, if_neg c]
    unfold mtN
    rw [chS_r hne, chS_r hne, chS_k, mtC_r (by omega) (by omega), mtC_r (by decide) (by decide)]
theorem mtF_2 (hk1 : k1 < 8) (hk2 : k2 < 8) (hne : k1 ≠ k2) : mtF V k1 k2 m w h k2 = if h = m then fmR (prR (V k2) m w (lnS (V 11 k2) (V 8 0)) (V 8 1)) m w (V 8 1) else chR (chR (V k2) m w 1) h w (-(V 8 1)) := by
  unfold mtF
  by_cases c : h = m
  · rw [if_pos c, if_pos c]
    unfold mtS mtG
    rw [fmS_k, prS_k, prS_r (Ne.symm hne), prS_r (show 11 ≠ k1 by omega), prS_r (show 8 ≠ k1 by omega), up2_r (by omega), up2_r (by decide), up2_r (by decide), mtC_r (by omega) (by omega), mtC_r (by decide) (by decide), mtC_r (by decide) (by decide)]
  · rw [if_neg c, if_neg c]
    unfold mtN
    rw [chS_k, chS_k, chS_r (Ne.symm hne), mtC_r (by omega) (by omega), mtC_r (by decide) (by decide)]
end MT
section MQ
variable {Q : Fn} {k1 k2 m h : Nat}
theorem mqC_at (hne : k1 ≠ k2) (j : Nat) : mqC Q k1 k2 j = if j = 1 ∨ j = 13 + k1 ∨ j = 13 + k2 then Q j + 1 else Q j := by
  unfold mqC
  by_cases e2 : j = 13 + k2
  · subst e2
    rw [pk_us, pk_un (by omega), pk_un (by omega), if_pos (by omega)]
  · rw [pk_un e2]
    by_cases e1 : j = 13 + k1
    · subst e1
      rw [pk_us, pk_un (by omega), if_pos (by omega)]
    · rw [pk_un e1]
      by_cases e : j = 1
      · subst e
        rw [pk_us, if_pos (by omega)]
      · rw [pk_un e, if_neg (by omega)]
theorem mqF_at (hne : k1 ≠ k2) (j : Nat) : mqF Q k1 k2 m h j = if j = 1 ∨ j = 13 + k1 ∨ j = 13 + k2 then Q j + 1 else if j = 2 ∧ h = m then Q 2 + 1 else Q j := by
  unfold mqF
  rw [mqC_at hne]
  by_cases c : h = m
  · rw [if_pos c]
    by_cases e : j = 2
    · subst e
      rw [if_neg (by omega), pk_us, if_neg (by omega), if_pos ⟨rfl, c⟩]
    · rw [pk_un e]
      by_cases e1 : j = 1 ∨ j = 13 + k1 ∨ j = 13 + k2
      · rw [if_pos e1, if_pos e1]
      · rw [if_neg e1, if_neg e1, if_neg (fun z => e z.1)]
  · rw [if_neg c]
    by_cases e1 : j = 1 ∨ j = 13 + k1 ∨ j = 13 + k2
    · rw [if_pos e1, if_pos e1]
    · rw [if_neg e1, if_neg e1, if_neg (fun z => c z.2)]
end MQ
theorem iu_mtF {V : Vs} {k1 k2 m w h : Nat} (hk1 : k1 < 8) (hk2 : k2 < 8) (H : IU V) : IU (mtF V k1 k2 m w h) := by
  have c : rgW (mtC V k1 k2) := rg_up (by decide) (rg_up (by decide) (rg_up (by decide) H.1))
  refine ⟨?_, ?_⟩
  · unfold mtF
    split
    · exact rg_fm hk2 (rg_pr hk2 (rg_pr hk1 (rg_up (by decide) c)))
    · exact rg_ch hk2 (rg_ch hk2 (rg_ch hk1 c))
  · obtain ⟨q, hq, e⟩ := H.2
    exact ⟨q, hq, (mtF_sd hk1 hk2).trans e⟩
theorem LR_F {V : Vs} {Q : Fn} {R : Nat → Fn} {A k1 k2 m w h : Nat} {c y : Int32} (H : LR V Q R A c y) (hk1 : k1 < 4) (hk2 : k2 < 4) (hne : k1 ≠ k2) (hp1 : V 10 k1 = 1) (hp2 : V 10 k2 = 1) (hm : m < 6) (hw : w < 10) (hh : h < 6) : LR (mtF V k1 k2 m w h) (mqF Q k1 k2 m h) (mrF R Q k1 k2 m w h) A c y := by
  have H0 := H
  obtain ⟨hI, ⟨⟨x, hx, ex⟩, h2⟩, ⟨q0, q1, q2, q3, q4⟩, q5, hs, hn⟩ := H
  have hcl : clS (0 + -(V 8 1)) = 0 := by rw [ex]; exact cl_ls hx
  have e8 : mtF V k1 k2 m w h 8 = V 8 := mtF_r (by omega) (by omega) (by decide) (by decide)
  have e10 : mtF V k1 k2 m w h 10 = V 10 := mtF_r (by omega) (by omega) (by decide) (by decide)
  have e11 : mtF V k1 k2 m w h 11 = V 11 := mtF_r (by omega) (by omega) (by decide) (by decide)
  obtain ⟨a1, a2, a3, a4⟩ := (hs k1 hk1).is hp1
  obtain ⟨b1, b2, b3, b4⟩ := (hs k2 hk2).is hp2
  have g5 : Q 5 = V 8 0 := q5 0 (by decide)
  have g6 : Q 6 = V 8 1 := q5 1 (by decide)
  refine ⟨iu_mtF (by omega) (by omega) hI, ⟨⟨x, hx, by rw [e8]; exact ex⟩, by rw [e8]; exact h2⟩, ⟨?_, ?_, ?_, ?_, ?_⟩, fun j hj => ?_, fun k hk => ?_, fun k h4 h8 => by rw [e10]; exact hn k h4 h8⟩
  · rw [mqF_at hne, mtF_9 (by omega) (by omega), if_neg (by omega), if_neg (by omega), if_neg (by omega), if_neg (by omega)]; exact q0
  · rw [mqF_at hne, mtF_9 (by omega) (by omega), if_pos (by omega), if_pos (by omega), q1]
  · rw [mqF_at hne, mtF_9 (by omega) (by omega)]
    by_cases c : h = m
    · rw [if_neg (by omega), if_pos ⟨rfl, c⟩, if_neg (by decide), if_pos ⟨rfl, c⟩, q2]
    · rw [if_neg (by omega), if_neg (fun z => c z.2), if_neg (by decide), if_neg (fun z => c z.2), q2]
  · rw [mqF_at hne, mtF_9 (by omega) (by omega), if_neg (by omega), if_neg (by omega), if_neg (by omega), if_neg (by omega)]; exact q3
  · rw [mqF_at hne, mtF_9 (by omega) (by omega), if_neg (by omega), if_neg (by omega), if_neg (by omega), if_neg (by omega)]; exact q4
  · rw [mqF_at hne, if_neg (by omega), if_neg (by omega), e8]; exact q5 j hj
  · by_cases k1e : k = k1
    · subst k1e
      refine Or.inl ⟨by rw [e10]; exact hp1, by rw [e11]; exact a1, ?_, ?_, ?_⟩
      · rw [mqF_at hne, if_neg (by omega), if_neg (by omega), e11]; exact a2
      · rw [mqF_at hne, if_pos (by omega), mtF_12 (by omega) (by omega), mtC_12 hne, if_pos (Or.inl rfl), a3]
      · rw [mtF_1 (by omega) (by omega) hne]
        unfold mrF
        by_cases c : h = m
        · rw [if_pos c, if_pos c, rr_1, g5, g6, a2]
          exact WR_pr a4 hm hw hcl
        · rw [if_neg c, if_neg c, rr_1, g6]
          exact WR_ch a4 hm hw
    · by_cases k2e : k = k2
      · subst k2e
        refine Or.inl ⟨by rw [e10]; exact hp2, by rw [e11]; exact b1, ?_, ?_, ?_⟩
        · rw [mqF_at hne, if_neg (by omega), if_neg (by omega), e11]; exact b2
        · rw [mqF_at hne, if_pos (by omega), mtF_12 (by omega) (by omega), mtC_12 hne, if_pos (Or.inr rfl), b3]
        · rw [mtF_2 (by omega) (by omega) hne]
          unfold mrF
          by_cases c : h = m
          · rw [if_pos c, if_pos c, rr_2 hne, g5, g6, b2]
            exact WR_fm (WR_pr b4 hm hw hcl) hw
          · rw [if_neg c, if_neg c, rr_2 hne, g6]
            exact WR_ch (WR_ch b4 hm hw) hh hw
      · have er : mrF R Q k1 k2 m w h k = R k := by
          unfold mrF
          split
          · exact rr_n k1e k2e
          · exact rr_n k1e k2e
        rw [er]
        refine SR_cg (by rw [e10]) (by rw [e11]) ?_ (mtF_r k1e k2e (by omega) (by omega)) ?_ ?_ (fun _ _ => rfl) (hs k hk)
        · rw [mtF_12 (by omega) (by omega), mtC_12 hne, if_neg (by omega)]
        · rw [mqF_at hne, if_neg (by omega), if_neg (by omega)]
        · rw [mqF_at hne, if_neg (by omega), if_neg (by omega)]
/-- the whole meeting: word and meaning, and the villages behind it -/
theorem LR_meet {V : Vs} {Q : Fn} {R : Nat → Fn} {A k1 k2 m w : Nat} {c y : Int32} (H : LR V Q R A c y) (hk1 : k1 < 4) (hk2 : k2 < 4) (hne : k1 ≠ k2) (hp1 : V 10 k1 = 1) (hp2 : V 10 k2 = 1) (hm : m < 6) (hwd : wdS (R k1) m = some w) :
    (mt1 V k1 k2 m).2.1 = w ∧ (mt1 V k1 k2 m).2.2 = mh0 Q (R k2) w ∧ LR (mtV V k1 k2 m) (mqF (mq0 Q (R k2) w) k1 k2 m (mh0 Q (R k2) w)) (mrF R (mq0 Q (R k2) w) k1 k2 m w (mh0 Q (R k2) w)) A c y := by
  have hw : w < 10 := wd_in hwd
  have e1 : wfS (V k1) m = some w := (wd_e (H.row hk1 hp1) hm).symm.trans hwd
  have e2 : hdS (R k2) w = haS (V k2) w := hd_e (H.row hk2 hp2) hw
  have q0 : Q 0 = V 9 0 := H.2.2.1.1
  cases ho : haS (V k2) w with
  | none =>
    rw [ho] at e2
    have hv : mt1 V k1 k2 m = (drV V, w, dvN V 6) := by
      unfold mt1
      rw [wdN_s e1]
      dsimp only
      rw [hdN_n ho]
    have hd : dvN V 6 = mh0 Q (R k2) w := by rw [mh0_n e2, q0]; rfl
    unfold mtV
    rw [hv]
    refine ⟨rfl, hd, ?_⟩
    dsimp only
    rw [hd, mq0_n e2, q0]
    refine LR_F (LR_seed H sdN_lt) hk1 hk2 hne ?_ ?_ hm hw mh0_lt
    · rw [drV_r (by decide)]; exact hp1
    · rw [drV_r (by decide)]; exact hp2
  | some h =>
    rw [ho] at e2
    have hv : mt1 V k1 k2 m = (V, w, h) := by
      unfold mt1
      rw [wdN_s e1]
      dsimp only
      rw [hdN_s ho]
    unfold mtV
    rw [hv]
    refine ⟨rfl, (mh0_s e2).symm, ?_⟩
    dsimp only
    rw [mq0_s e2, mh0_s e2]
    exact LR_F H hk1 hk2 hne hp1 hp2 hm hw (haS_in ho)
