set_option maxRecDepth 100000 in
set_option maxHeartbeats 4000000 in
theorem sm_L {k0 : xT} {l : Launch} {E : xEnv} {B N : Nat} {σ : Sg} {VV : Cs} {p z n : Nat} {tx : Fn} {Q : Fn} {R : Nat → Fn} (H : LR (VV 0) Q R 99 0 0) (C : xC k0 l E B cL_same 21 (some .boolean) yL_same.cls yL_same.name 6 136 6 60) (kk : xX k0 N 0 0 (wput E (cput E σ B VV (nI p) (nI z) (nI n) tx) (B + 165) Q R) 618 [some (.ref B), some (.ref (B + 165)), some (.ref (B + 165 + 1)), some (.ref (B + 165 + 2)), some (.ref (B + 165 + 3)), some (.ref (B + 165 + 4)), some (.int (nI (cnN (VV 0 10) 4))), some (.int (swL (VV 0) 4)), none, none, none, none, none, none, none, none, none, none, none, none, none] []) : ∀ i, i ≤ 4 → xX k0 N 0 0 (wput E (cput E σ B VV (nI p) (nI z) (nI n) tx) (B + 165) Q R) 9 [some (.ref B), some (.ref (B + 165)), some (.ref (B + 165 + 1)), some (.ref (B + 165 + 2)), some (.ref (B + 165 + 3)), some (.ref (B + 165 + 4)), some (.int (nI (cnN (VV 0 10) i))), some (.int (swL (VV 0) i)), some (.int (nI i)), none, none, none, none, none, none, none, none, none, none, none, none] [] := by
  refine x_for 4 ?_ ?_
  · refine x_iload C dL_same_9 rfl ?_
    refine x_iconst (v := 4) C dL_same_11 (by decide) ?_
    refine x_ic_ge C 618 dL_same_12 (by decide) (fun _ => ?_) (fun h => absurd (nI_le (a := 4) (Nat.le_refl _) (by decide)) h)
    refine xX.cl (kk) rfl (And.intro rfl (And.intro rfl (And.intro rfl (And.intro rfl (And.intro rfl (And.intro rfl (And.intro rfl (And.intro rfl trivial)))))))) rfl
  · intro i hi ih
    by_cases hp : VV 0 10 i = 1
    · have h612 : xX k0 N 0 0 (wput E (cput E σ B VV (nI p) (nI z) (nI n) tx) (B + 165) Q R) 612 [some (.ref B), some (.ref (B + 165)), some (.ref (B + 165 + 1)), some (.ref (B + 165 + 2)), some (.ref (B + 165 + 3)), some (.ref (B + 165 + 4)), some (.int (nI (cnN (VV 0 10) i + 1))), some (.int (swL (VV 0) i + smL (VV 0 i) 84)), some (.int (nI i)), none, none, none, none, none, none, none, none, none, none, none, none] [] := by
        refine x_iinc C dL_same_612 rfl (nI_inc _) (by decide) rfl ?_
        refine x_goto C 9 dL_same_615 (by decide) ?_
        refine xX.cl (ih) rfl (And.intro rfl (And.intro rfl (And.intro rfl (And.intro rfl (And.intro rfl (And.intro rfl (And.intro (congrArg (fun z => some (some (Value.int z))) (congrArg nI (show cnN (VV 0 10) i + 1 = cnN (VV 0 10) (i + 1) by rw [cnN, if_pos hp]))) (And.intro (congrArg (fun z => some (some (Value.int z))) (show swL (VV 0) i + smL (VV 0 i) 84 = swL (VV 0) (i + 1) by rw [swL, if_pos hp])) (And.intro rfl trivial))))))))) rfl
      have h65 : xX k0 N 0 0 (wput E (cput E σ B VV (nI p) (nI z) (nI n) tx) (B + 165) Q R) 65 [some (.ref B), some (.ref (B + 165)), some (.ref (B + 165 + 1)), some (.ref (B + 165 + 2)), some (.ref (B + 165 + 3)), some (.ref (B + 165 + 4)), some (.int (nI (cnN (VV 0 10) i + 1))), some (.int (swL (VV 0) i)), some (.int (nI i)), some (.ref (B + 165 + 1 + i)), none, none, none, none, none, none, none, none, none, none, none] [] := sm_A hi hp H C (sm_B hi hp H C (sm_C hi hp H C h612))
      refine x_iload C dL_same_9 rfl ?_
      refine x_iconst (v := 4) C dL_same_11 (by decide) ?_
      refine x_ic_ge C 618 dL_same_12 (by decide) (fun h => absurd h (nI_ge (b := 4) hi (by decide))) (fun _ => ?_)
      refine x_iload C dL_same_15 rfl ?_
      refine x_aload_n C dL_same_17 rfl ?_
      refine x_aload_n C dL_same_18 rfl ?_
      refine x_aload C dL_same_19 rfl ?_
      refine x_aload C dL_same_21 rfl ?_
      refine x_callS C (c_L_row hi) ks_L_row kl_L_35 dL_same_23 rfl rfl rfl rfl (Nat.le_of_ble_eq_true rfl) (Nat.le_of_ble_eq_true rfl) (Nat.le_of_ble_eq_true rfl) (Nat.le_of_ble_eq_true rfl) (Nat.le_of_ble_eq_true rfl) ?_
      refine x_astore C dL_same_26 (by decide) rfl ?_
      refine x_aload_n C dL_same_28 rfl ?_
      refine x_bipush (v := 9) C dL_same_29 (by decide) ?_
      refine x_iload C dL_same_31 rfl ?_
      refine x_iadd C dL_same_33 ?_
      refine x_iald2 C wput_q (ix9 i) (by omega) (by decide) dL_same_34 ?_
      refine x_if_ge C 62 dL_same_35 (by decide) (fun _ => ?_) (fun h => absurd ((H.pos (by decide) hi).mpr hp) h)
      refine x_iinc C dL_same_62 rfl (nI_inc _) (by decide) rfl ?_
      refine xX.cl (h65) rfl (And.intro rfl (And.intro rfl (And.intro rfl (And.intro rfl (And.intro rfl (And.intro rfl (And.intro rfl (And.intro rfl (And.intro rfl (And.intro rfl trivial)))))))))) rfl
    · refine x_iload C dL_same_9 rfl ?_
      refine x_iconst (v := 4) C dL_same_11 (by decide) ?_
      refine x_ic_ge C 618 dL_same_12 (by decide) (fun h => absurd h (nI_ge (b := 4) hi (by decide))) (fun _ => ?_)
      refine x_iload C dL_same_15 rfl ?_
      refine x_aload_n C dL_same_17 rfl ?_
      refine x_aload_n C dL_same_18 rfl ?_
      refine x_aload C dL_same_19 rfl ?_
      refine x_aload C dL_same_21 rfl ?_
      refine x_callS C (c_L_row hi) ks_L_row kl_L_35 dL_same_23 rfl rfl rfl rfl (Nat.le_of_ble_eq_true rfl) (Nat.le_of_ble_eq_true rfl) (Nat.le_of_ble_eq_true rfl) (Nat.le_of_ble_eq_true rfl) (Nat.le_of_ble_eq_true rfl) ?_
      refine x_astore C dL_same_26 (by decide) rfl ?_
      refine x_aload_n C dL_same_28 rfl ?_
      refine x_bipush (v := 9) C dL_same_29 (by decide) ?_
      refine x_iload C dL_same_31 rfl ?_
      refine x_iadd C dL_same_33 ?_
      refine x_iald2 C wput_q (ix9 i) (by omega) (by decide) dL_same_34 ?_
      refine x_if_ge C 62 dL_same_35 (by decide) (fun h => absurd h (fun z => hp ((H.pos (by decide) hi).mp z))) (fun _ => ?_)
      refine x_aload_n C dL_same_38 rfl ?_
      refine x_iload C dL_same_39 rfl ?_
      refine x_iconst (v := 0) C dL_same_41 (by decide) ?_
      refine x_callV C (c_X4_speaker_no (no_k (by omega) hp)) kv_X4_speaker kl_L_39 dL_same_42 wput_0 wput_cs wput_cs.symm rfl rfl (Nat.le_of_ble_eq_true rfl) (Nat.le_of_ble_eq_true rfl) (Nat.le_of_ble_eq_true rfl) (Nat.le_of_ble_eq_true rfl) (Nat.le_of_ble_eq_true rfl) ?_
      refine x_iconst (v := (-1)) C dL_same_45 (by decide) ?_
      refine x_ic_ne C 60 dL_same_46 (by decide) (fun h => absurd rfl h) (fun _ => ?_)
      refine x_aload_n C dL_same_49 rfl ?_
      refine x_iload C dL_same_50 rfl ?_
      refine x_iconst (v := 0) C dL_same_52 (by decide) ?_
      refine x_callV C (c_X4_wordOf_no (no_k (by omega) hp)) kv_X4_wordOf kl_L_45 dL_same_53 wput_0 wput_cs wput_cs.symm rfl rfl (Nat.le_of_ble_eq_true rfl) (Nat.le_of_ble_eq_true rfl) (Nat.le_of_ble_eq_true rfl) (Nat.le_of_ble_eq_true rfl) (Nat.le_of_ble_eq_true rfl) ?_
      refine x_iconst (v := (-1)) C dL_same_56 (by decide) ?_
      refine x_ic_eq C 612 dL_same_57 (by decide) (fun _ => ?_) (fun h => absurd rfl h)
      refine x_iinc C dL_same_612 rfl (nI_inc _) (by decide) rfl ?_
      refine x_goto C 9 dL_same_615 (by decide) ?_
      refine xX.cl (ih) rfl (And.intro rfl (And.intro rfl (And.intro rfl (And.intro rfl (And.intro rfl (And.intro rfl (And.intro (congrArg (fun z => some (some (Value.int z))) (congrArg nI (show cnN (VV 0 10) i = cnN (VV 0 10) (i + 1) by rw [cnN, if_neg hp, Nat.add_zero]))) (And.intro (congrArg (fun z => some (some (Value.int z))) (show swL (VV 0) i = swL (VV 0) (i + 1) by rw [swL, if_neg hp])) (And.intro rfl trivial))))))))) rfl
theorem wput_cs2 {E : xEnv} {σ : Sg} {B m : Nat} {VV : Cs} {nx sz len : Int32} {tx : Fn} {Q : Fn} {R : Nat → Fn} : cput E (wput E σ (B + 165) Q R) B (upV (upV VV 0 (usC (VV 0) m)) 0 (usR (upV VV 0 (usC (VV 0) m) 0) m 8)) nx sz len tx = wput E (cput E σ B (upV VV 0 (usC (VV 0) (m + 1))) nx sz len tx) (B + 165) Q R := by
  rw [usC_s]
  exact wput_cs.symm
set_option maxRecDepth 100000 in
set_option maxHeartbeats 4000000 in
theorem sm_M {k0 : xT} {l : Launch} {E : xEnv} {B N : Nat} {σ : Sg} {VV : Cs} {p z n : Nat} {tx : Fn} {Q : Fn} {R : Nat → Fn} {m : Nat} {x6 S : Int32} (hm : m < 6) (hN : B + 170 ≤ N) (H : LR (VV 0) Q R 99 0 0) (C : xC k0 l E B cL_same 21 (some .boolean) yL_same.cls yL_same.name 6 136 6 60) (kk : xX k0 (N + (m + 1)) (m + 1) (10 * (m + 1)) (wput E (cput E σ B (upV VV 0 (usC (VV 0) (m + 1))) (nI p) (nI z) (nI n) tx) (B + 165) Q R) 621 [some (.ref B), some (.ref (B + 165)), some (.ref (B + 165 + 1)), some (.ref (B + 165 + 2)), some (.ref (B + 165 + 3)), some (.ref (B + 165 + 4)), some (.int x6), some (.int S), some (.int (nI (m + 1))), none, none, none, none, none, none, none, none, none, none, none, none] []) : xX k0 (N + m) m (10 * m) (wput E (cput E σ B (upV VV 0 (usC (VV 0) m)) (nI p) (nI z) (nI n) tx) (B + 165) Q R) 628 [some (.ref B), some (.ref (B + 165)), some (.ref (B + 165 + 1)), some (.ref (B + 165 + 2)), some (.ref (B + 165 + 3)), some (.ref (B + 165 + 4)), some (.int x6), some (.int S), some (.int (nI m)), none, none, none, none, none, none, none, none, none, none, none, none] [] := by
  refine xX.fr (fun hfr => ?_)
  have heq : ∀ F : Fn, (xup (wput E (cput E σ B (upV VV 0 (usC (VV 0) m)) (nI p) (nI z) (nI n) tx) (B + 165) Q R) (N + m) (.inl (xI E, 10, .inl F))) (B + 165) = some (.inl (xI E, 17, .inl Q)) := fun F => (xup_n (by omega)).trans wput_q
  have her : ∀ (F : Fn) (w : Nat), w < 4 → (xup (wput E (cput E σ B (upV VV 0 (usC (VV 0) m)) (nI p) (nI z) (nI n) tx) (B + 165) Q R) (N + m) (.inl (xI E, 10, .inl F))) (B + 165 + 1 + w) = some (.inl (xI E, 60, .inl (R w))) := fun F w hw => (xup_n (by omega)).trans (wput_r hw)
  have heo : ∀ F : Fn, (xup (wput E (cput E σ B (upV VV 0 (usC (VV 0) m)) (nI p) (nI z) (nI n) tx) (B + 165) Q R) (N + m) (.inl (xI E, 10, .inl F))) (N + m) = some (.inl (xI E, 10, .inl F)) := fun F => xup_s
  have h10 : ∀ t, t ≤ 10 → ∀ o, isG (fun w => nI (cuN (VV 0) m w 4)) t 10 o → xX k0 (N + m + 1) (m + 1) (10 * m + 10) (xup (wput E (cput E σ B (upV VV 0 (usC (VV 0) m)) (nI p) (nI z) (nI n) tx) (B + 165) Q R) (N + m) (.inl (xI E, 10, .inl (fun w => nI (cuN (VV 0) m w 4))))) 709 [some (.ref B), some (.ref (B + 165)), some (.ref (B + 165 + 1)), some (.ref (B + 165 + 2)), some (.ref (B + 165 + 3)), some (.ref (B + 165 + 4)), some (.int x6), some (.int S), some (.int (nI m)), some (.ref (N + m)), some (.int (oI o)), some (.int (nI t - 1)), none, none, none, none, none, none, none, none, none] [] := by
    refine x_down 10 ?_ ?_
    · intro o ho
      refine x_iload C dL_same_709 rfl ?_
      refine x_if_lt C 750 dL_same_711 (by decide) (fun _ => ?_) (fun h => absurd (by decide) h)
      refine xX.fg (wput_fg hfr) ?_
      refine x_aload_n C dL_same_750 rfl ?_
      refine x_iload C dL_same_751 rfl ?_
      refine x_callV C (c_X4_common_ok (VV := (upV VV 0 (usC (VV 0) m))) hm) kv_X4_common kl_L_65 dL_same_753 wput_0 wput_cs wput_cs2 rfl rfl (Nat.le_of_ble_eq_true rfl) (Nat.le_of_ble_eq_true rfl) (Nat.le_of_ble_eq_true rfl) (by omega) (by omega) ?_
      refine x_iload C dL_same_756 rfl ?_
      refine x_ic_eq C 763 dL_same_758 (by decide) (fun _ => ?_) (fun h => absurd (by rw [upV_s, cm_uc]; exact congrArg oI (H.cm hm ho).symm) h)
      refine x_iinc C dL_same_763 rfl (nI_inc _) (by decide) rfl ?_
      refine x_goto C 621 dL_same_766 (by decide) ?_
      refine xX.cl (kk) rfl (And.intro rfl (And.intro rfl (And.intro rfl (And.intro rfl (And.intro rfl (And.intro rfl (And.intro rfl (And.intro rfl (And.intro rfl trivial))))))))) rfl
    · intro t ht ih o ho
      rw [nI_p1]
      refine x_iload C dL_same_709 rfl ?_
      refine x_if_lt C 750 dL_same_711 (by decide) (fun h => absurd h (nI_pos (by omega))) (fun _ => ?_)
      refine x_aload C dL_same_714 rfl ?_
      refine x_iload C dL_same_716 rfl ?_
      refine x_iald2 C (heo _) rfl (by omega) (by decide) dL_same_718 ?_
      refine x_if_le C 744 dL_same_719 (by decide) (fun h719 => ?_) (fun h719 => ?_)
      · refine x_iinc C dL_same_744 rfl (nI_m t) (by decide) rfl ?_
        refine x_goto C 709 dL_same_747 (by decide) ?_
        exact ih o (isT_dsk (fun z => absurd z (Int32.not_lt.mpr h719)) ho)
      · refine x_iload C dL_same_722 rfl ?_
        cases o with
        | none =>
          refine x_if_lt C 740 dL_same_724 (by decide) (fun _ => ?_) (fun h => absurd (by decide) h)
          refine x_iload C dL_same_740 rfl ?_
          refine x_istore C dL_same_742 (by decide) rfl ?_
          refine x_iinc C dL_same_744 rfl (nI_m t) (by decide) rfl ?_
          refine x_goto C 709 dL_same_747 (by decide) ?_
          exact ih (some t) (isT_dtk (Int32.not_le.mp h719) (by omega) (fun b2 z => by cases z) ho)
        | some b2 =>
          have hb2 : b2 < 10 := ho.2.1
          refine x_if_lt C 740 dL_same_724 (by decide) (fun h => absurd h (nI_pos (n := b2) (by omega))) (fun _ => ?_)
          refine x_aload C dL_same_727 rfl ?_
          refine x_iload C dL_same_729 rfl ?_
          refine x_iald2 C (heo _) rfl (by omega) (by decide) dL_same_731 ?_
          refine x_aload C dL_same_732 rfl ?_
          refine x_iload C dL_same_734 rfl ?_
          refine x_iald2 C (heo _) (show oI (some b2) = nI b2 from rfl) (by omega) (by decide) dL_same_736 ?_
          refine x_ic_lt C 744 dL_same_737 (by decide) (fun h737 => ?_) (fun h737 => ?_)
          · refine x_iinc C dL_same_744 rfl (nI_m t) (by decide) rfl ?_
            refine x_goto C 709 dL_same_747 (by decide) ?_
            exact ih (some b2) (isT_dkp (by have := Int32.lt_iff_toInt_lt.mp h737; show -(nI (cuN (VV 0) m b2 4)).toInt < -(nI (cuN (VV 0) m t 4)).toInt; omega) ho)
          · refine x_iload C dL_same_740 rfl ?_
            refine x_istore C dL_same_742 (by decide) rfl ?_
            refine x_iinc C dL_same_744 rfl (nI_m t) (by decide) rfl ?_
            refine x_goto C 709 dL_same_747 (by decide) ?_
            exact ih (some t) (isT_dtk (Int32.not_le.mp h719) (by omega) (fun b3 z => by cases z; have := Int32.not_lt.mp h737; have := Int32.le_iff_toInt_le.mp this; show -(nI (cuN (VV 0) m t 4)).toInt ≤ -(nI (cuN (VV 0) m b2 4)).toInt; omega) ho)
  have h9 : ∀ t, t ≤ 4 → xX k0 (N + m + 1) (m + 1) (10 * m + 10) (xup (wput E (cput E σ B (upV VV 0 (usC (VV 0) m)) (nI p) (nI z) (nI n) tx) (B + 165) Q R) (N + m) (.inl (xI E, 10, .inl (fun w => nI (cuN (VV 0) m w t))))) 641 [some (.ref B), some (.ref (B + 165)), some (.ref (B + 165 + 1)), some (.ref (B + 165 + 2)), some (.ref (B + 165 + 3)), some (.ref (B + 165 + 4)), some (.int x6), some (.int S), some (.int (nI m)), some (.ref (N + m)), some (.int (-6)), some (.int (nI t)), none, none, none, none, none, none, none, none, none] [] := by
    refine x_for 4 ?_ ?_
    · refine x_iload C dL_same_641 rfl ?_
      refine x_iconst (v := 4) C dL_same_643 (by decide) ?_
      refine x_ic_ge C 705 dL_same_644 (by decide) (fun _ => ?_) (fun h => absurd (nI_le (a := 4) (Nat.le_refl _) (by decide)) h)
      refine x_bipush (v := 9) C dL_same_705 (by decide) ?_
      refine x_istore C dL_same_707 (by decide) rfl ?_
      refine xX.cl (h10 10 (Nat.le_refl _) none isT_0) rfl (And.intro rfl (And.intro rfl (And.intro rfl (And.intro rfl (And.intro rfl (And.intro rfl (And.intro rfl (And.intro rfl (And.intro rfl (And.intro rfl (And.intro rfl (And.intro rfl trivial)))))))))))) rfl
    · intro t ht ih
      by_cases hpt : VV 0 10 t = 1
      · have hv : WR1 (R t) (VV 0 t) := H.row ht hpt
        refine x_iload C dL_same_641 rfl ?_
        refine x_iconst (v := 4) C dL_same_643 (by decide) ?_
        refine x_ic_ge C 705 dL_same_644 (by decide) (fun h => absurd h (nI_ge (b := 4) ht (by decide))) (fun _ => ?_)
        refine x_aload_n C dL_same_647 rfl ?_
        refine x_bipush (v := 9) C dL_same_648 (by decide) ?_
        refine x_iload C dL_same_650 rfl ?_
        refine x_iadd C dL_same_652 ?_
        refine x_iald2 C (heq _) (ix9 t) (by omega) (by decide) dL_same_653 ?_
        refine x_if_lt C 699 dL_same_654 (by decide) (fun h => absurd h (fun z => (H.neg (by decide) ht).mp z hpt)) (fun _ => ?_)
        refine x_iload C dL_same_657 rfl ?_
        refine x_iload C dL_same_659 rfl ?_
        refine x_aload_n C dL_same_661 rfl ?_
        refine x_aload_n C dL_same_662 rfl ?_
        refine x_aload C dL_same_663 rfl ?_
        refine x_aload C dL_same_665 rfl ?_
        refine x_callS C (c_L_row ht) ks_L_row kl_L_35 dL_same_667 rfl rfl rfl rfl (Nat.le_of_ble_eq_true rfl) (Nat.le_of_ble_eq_true rfl) (Nat.le_of_ble_eq_true rfl) (by omega) (by omega) ?_
        refine x_callS C (c_L_word (her _ t ht) hm) ks_L_word kl_L_16 dL_same_670 rfl rfl rfl rfl (Nat.le_of_ble_eq_true rfl) (Nat.le_of_ble_eq_true rfl) (Nat.le_of_ble_eq_true rfl) (by omega) (by omega) ?_
        rw [wd_e hv hm]
        rcases wfS_os (VV 0 t) m with hw1 | ⟨w1, hw1⟩
        · skip
          refine x_if_lt C 699 dL_same_673 (by decide) (fun _ => ?_) (fun h => absurd (wfS_lt.mpr hw1) h)
          refine x_iinc C dL_same_699 rfl (nI_inc _) (by decide) rfl ?_
          refine x_goto C 641 dL_same_702 (by decide) ?_
          refine xX.cl (ih) (congrArg (fun F => (xup (wput E (cput E σ B (upV VV 0 (usC (VV 0) m)) (nI p) (nI z) (nI n) tx) (B + 165) Q R) (N + m) (.inl (xI E, 10, .inl F)))) (cu_n (fun w z => by rw [hw1] at z; cases z.2))) (And.intro rfl (And.intro rfl (And.intro rfl (And.intro rfl (And.intro rfl (And.intro rfl (And.intro rfl (And.intro rfl (And.intro rfl (And.intro rfl (And.intro rfl (And.intro rfl trivial)))))))))))) rfl
        · skip
          have hw10 : w1 < 10 := wf_10 hv hm hw1
          refine x_if_lt C 699 dL_same_673 (by decide) (fun h => absurd h (fun z => by rw [wfS_lt.mp z] at hw1; cases hw1)) (fun _ => ?_)
          refine x_aload C dL_same_676 rfl ?_
          refine x_iload C dL_same_678 rfl ?_
          refine x_iload C dL_same_680 rfl ?_
          refine x_aload_n C dL_same_682 rfl ?_
          refine x_aload_n C dL_same_683 rfl ?_
          refine x_aload C dL_same_684 rfl ?_
          refine x_aload C dL_same_686 rfl ?_
          refine x_callS C (c_L_row ht) ks_L_row kl_L_35 dL_same_688 rfl rfl rfl rfl (Nat.le_of_ble_eq_true rfl) (Nat.le_of_ble_eq_true rfl) (Nat.le_of_ble_eq_true rfl) (by omega) (by omega) ?_
          refine x_callS C (c_L_word (her _ t ht) hm) ks_L_word kl_L_16 dL_same_691 rfl rfl rfl rfl (Nat.le_of_ble_eq_true rfl) (Nat.le_of_ble_eq_true rfl) (Nat.le_of_ble_eq_true rfl) (by omega) (by omega) ?_
          rw [wd_e hv hm]
          refine x_dup2 C dL_same_694 rfl rfl ?_
          refine x_iald2 C (heo _) (show oI (wfS (VV 0 t) m) = nI w1 by rw [hw1]; rfl) hw10 (by decide) dL_same_695 ?_
          refine x_iconst (v := 1) C dL_same_696 (by decide) ?_
          refine x_iadd C dL_same_697 ?_
          refine x_iast2 C (heo _) (show oI (wfS (VV 0 t) m) = nI w1 by rw [hw1]; rfl) hw10 (by decide) (cu_t hpt hw1) xup_u dL_same_698 ?_
          refine x_iinc C dL_same_699 rfl (nI_inc _) (by decide) rfl ?_
          refine x_goto C 641 dL_same_702 (by decide) ?_
          refine xX.cl (ih) rfl (And.intro rfl (And.intro rfl (And.intro rfl (And.intro rfl (And.intro rfl (And.intro rfl (And.intro rfl (And.intro rfl (And.intro rfl (And.intro rfl (And.intro rfl (And.intro rfl trivial)))))))))))) rfl
      · refine x_iload C dL_same_641 rfl ?_
        refine x_iconst (v := 4) C dL_same_643 (by decide) ?_
        refine x_ic_ge C 705 dL_same_644 (by decide) (fun h => absurd h (nI_ge (b := 4) ht (by decide))) (fun _ => ?_)
        refine x_aload_n C dL_same_647 rfl ?_
        refine x_bipush (v := 9) C dL_same_648 (by decide) ?_
        refine x_iload C dL_same_650 rfl ?_
        refine x_iadd C dL_same_652 ?_
        refine x_iald2 C (heq _) (ix9 t) (by omega) (by decide) dL_same_653 ?_
        refine x_if_lt C 699 dL_same_654 (by decide) (fun _ => ?_) (fun h => absurd ((H.neg (by decide) ht).mpr hpt) h)
        refine x_iinc C dL_same_699 rfl (nI_inc _) (by decide) rfl ?_
        refine x_goto C 641 dL_same_702 (by decide) ?_
        refine xX.cl (ih) (congrArg (fun F => (xup (wput E (cput E σ B (upV VV 0 (usC (VV 0) m)) (nI p) (nI z) (nI n) tx) (B + 165) Q R) (N + m) (.inl (xI E, 10, .inl F)))) (cu_n (fun w z => hpt z.1))) (And.intro rfl (And.intro rfl (And.intro rfl (And.intro rfl (And.intro rfl (And.intro rfl (And.intro rfl (And.intro rfl (And.intro rfl (And.intro rfl (And.intro rfl (And.intro rfl trivial)))))))))))) rfl
  refine x_bipush (v := 10) C dL_same_628 (by decide) ?_
  refine x_newi (n2 := 10) C ka_int (by decide) rfl (Nat.le_of_ble_eq_true rfl) (by omega) (by omega) rfl dL_same_630 ?_
  refine x_astore C dL_same_632 (by decide) rfl ?_
  refine x_bipush (v := (-6)) C dL_same_634 (by decide) ?_
  refine x_istore C dL_same_636 (by decide) rfl ?_
  refine x_iconst (v := 0) C dL_same_638 (by decide) ?_
  refine x_istore C dL_same_639 (by decide) rfl ?_
  refine xX.cl (h9 0 (by omega)) rfl (And.intro rfl (And.intro rfl (And.intro rfl (And.intro rfl (And.intro rfl (And.intro rfl (And.intro rfl (And.intro rfl (And.intro rfl (And.intro rfl (And.intro rfl (And.intro rfl trivial)))))))))))) rfl
theorem nu_0 {W : Vs} : nuS W 0 = nI (cnN (W 10) 8) := rfl
theorem nu_1 {W : Vs} : nuS W 1 = W 9 0 := rfl
theorem nu_2 {W : Vs} : nuS W 2 = W 9 1 := rfl
theorem nu_3 {W : Vs} : nuS W 3 = W 9 2 := rfl
theorem nu_4 {W : Vs} : nuS W 4 = W 9 3 := rfl
theorem nu_5 {W : Vs} : nuS W 5 = W 9 4 := rfl
theorem nu_6 {W : Vs} : nuS W 6 = swL W 8 := rfl
set_option maxRecDepth 100000 in
set_option maxHeartbeats 4000000 in
theorem sm_Z {k0 : xT} {l : Launch} {E : xEnv} {B N : Nat} {σ : Sg} {VV : Cs} {p z n : Nat} {tx : Fn} {Q : Fn} {R : Nat → Fn} (H : LR (VV 0) Q R 99 0 0) (C : xC k0 l E B cL_same 21 (some .boolean) yL_same.cls yL_same.name 6 136 6 60) (Z : xZ k0 6 60 (N + 6) (wput E (cput E σ B (upV VV 0 (usC (VV 0) 6)) (nI p) (nI z) (nI n) tx) (B + 165) Q R) (some (.int 1))) : xX k0 (N + 6) 6 60 (wput E (cput E σ B (upV VV 0 (usC (VV 0) 6)) (nI p) (nI z) (nI n) tx) (B + 165) Q R) 769 [some (.ref B), some (.ref (B + 165)), some (.ref (B + 165 + 1)), some (.ref (B + 165 + 2)), some (.ref (B + 165 + 3)), some (.ref (B + 165 + 4)), some (.int (nI (cnN (VV 0 10) 4))), some (.int (swL (VV 0) 4)), none, none, none, none, none, none, none, none, none, none, none, none, none] [] := by
  have H6 : LR (usC (VV 0) 6) Q R 99 0 0 := LR_uc H 6
  obtain ⟨q0, q1, q2, q3, q4⟩ := H6.2.2.1
  have n0 : nuS ((upV VV 0 (usC (VV 0) 6)) 0) 0 = nI (cnN (VV 0 10) 4) := by rw [upV_s, nu_0]; exact (congrArg nI (cn_uc.trans H.cn))
  have n1 : nuS ((upV VV 0 (usC (VV 0) 6)) 0) 1 = Q 0 := by rw [upV_s, nu_1]; exact q0.symm
  have n2 : nuS ((upV VV 0 (usC (VV 0) 6)) 0) 2 = Q 1 := by rw [upV_s, nu_2]; exact q1.symm
  have n3 : nuS ((upV VV 0 (usC (VV 0) 6)) 0) 3 = Q 2 := by rw [upV_s, nu_3]; exact q2.symm
  have n4 : nuS ((upV VV 0 (usC (VV 0) 6)) 0) 4 = Q 3 := by rw [upV_s, nu_4]; exact ((Int32.add_zero (Q 3)).symm.trans q3).symm
  have n5 : nuS ((upV VV 0 (usC (VV 0) 6)) 0) 5 = Q 4 := by rw [upV_s, nu_5]; exact ((Int32.add_zero (Q 4)).symm.trans q4).symm
  have n6 : nuS ((upV VV 0 (usC (VV 0) 6)) 0) 6 = swL (VV 0) 4 := by rw [upV_s, nu_6]; exact ((sw_uc 8 (Nat.le_refl _)).trans H.sw)
  have s0 : (upV VV 0 (usC (VV 0) 6)) 0 8 0 = Q (5 + 0) := by rw [upV_s]; exact (H6.q5 (by decide)).symm
  have s1 : (upV VV 0 (usC (VV 0) 6)) 0 8 1 = Q (5 + 1) := by rw [upV_s]; exact (H6.q5 (by decide)).symm
  have s2 : (upV VV 0 (usC (VV 0) 6)) 0 8 2 = Q (5 + 2) := by rw [upV_s]; exact (H6.q5 (by decide)).symm
  have s3 : (upV VV 0 (usC (VV 0) 6)) 0 8 3 = Q (5 + 3) := by rw [upV_s]; exact (H6.q5 (by decide)).symm
  refine x_aload_n C dL_same_769 rfl ?_
  refine x_iconst (v := 0) C dL_same_770 (by decide) ?_
  refine x_callV C (c_X4_count_ok (VV := (upV VV 0 (usC (VV 0) 6))) (j := 0) (by decide)) kv_X4_count kl_L_68 dL_same_771 wput_0 wput_cs wput_cs.symm rfl rfl (Nat.le_of_ble_eq_true rfl) (Nat.le_of_ble_eq_true rfl) (Nat.le_of_ble_eq_true rfl) (Nat.le_of_ble_eq_true rfl) (Nat.le_of_ble_eq_true rfl) ?_
  refine x_iload C dL_same_774 rfl ?_
  refine x_ic_ne C 896 dL_same_776 (by decide) (fun h => absurd n0 h) (fun _ => ?_)
  refine x_aload_n C dL_same_779 rfl ?_
  refine x_iconst (v := 1) C dL_same_780 (by decide) ?_
  refine x_callV C (c_X4_count_ok (VV := (upV VV 0 (usC (VV 0) 6))) (j := 1) (by decide)) kv_X4_count kl_L_68 dL_same_781 wput_0 wput_cs wput_cs.symm rfl rfl (Nat.le_of_ble_eq_true rfl) (Nat.le_of_ble_eq_true rfl) (Nat.le_of_ble_eq_true rfl) (Nat.le_of_ble_eq_true rfl) (Nat.le_of_ble_eq_true rfl) ?_
  refine x_aload_n C dL_same_784 rfl ?_
  refine x_iconst (v := 0) C dL_same_785 (by decide) ?_
  refine x_iald2 C wput_q (show (0 : Int32) = nI 0 from rfl) (by decide) (by decide) dL_same_786 ?_
  refine x_ic_ne C 896 dL_same_787 (by decide) (fun h => absurd n1 h) (fun _ => ?_)
  refine x_aload_n C dL_same_790 rfl ?_
  refine x_iconst (v := 2) C dL_same_791 (by decide) ?_
  refine x_callV C (c_X4_count_ok (VV := (upV VV 0 (usC (VV 0) 6))) (j := 2) (by decide)) kv_X4_count kl_L_68 dL_same_792 wput_0 wput_cs wput_cs.symm rfl rfl (Nat.le_of_ble_eq_true rfl) (Nat.le_of_ble_eq_true rfl) (Nat.le_of_ble_eq_true rfl) (Nat.le_of_ble_eq_true rfl) (Nat.le_of_ble_eq_true rfl) ?_
  refine x_aload_n C dL_same_795 rfl ?_
  refine x_iconst (v := 1) C dL_same_796 (by decide) ?_
  refine x_iald2 C wput_q (show (1 : Int32) = nI 1 from rfl) (by decide) (by decide) dL_same_797 ?_
  refine x_ic_ne C 896 dL_same_798 (by decide) (fun h => absurd n2 h) (fun _ => ?_)
  refine x_aload_n C dL_same_801 rfl ?_
  refine x_iconst (v := 3) C dL_same_802 (by decide) ?_
  refine x_callV C (c_X4_count_ok (VV := (upV VV 0 (usC (VV 0) 6))) (j := 3) (by decide)) kv_X4_count kl_L_68 dL_same_803 wput_0 wput_cs wput_cs.symm rfl rfl (Nat.le_of_ble_eq_true rfl) (Nat.le_of_ble_eq_true rfl) (Nat.le_of_ble_eq_true rfl) (Nat.le_of_ble_eq_true rfl) (Nat.le_of_ble_eq_true rfl) ?_
  refine x_aload_n C dL_same_806 rfl ?_
  refine x_iconst (v := 2) C dL_same_807 (by decide) ?_
  refine x_iald2 C wput_q (show (2 : Int32) = nI 2 from rfl) (by decide) (by decide) dL_same_808 ?_
  refine x_ic_ne C 896 dL_same_809 (by decide) (fun h => absurd n3 h) (fun _ => ?_)
  refine x_aload_n C dL_same_812 rfl ?_
  refine x_iconst (v := 4) C dL_same_813 (by decide) ?_
  refine x_callV C (c_X4_count_ok (VV := (upV VV 0 (usC (VV 0) 6))) (j := 4) (by decide)) kv_X4_count kl_L_68 dL_same_814 wput_0 wput_cs wput_cs.symm rfl rfl (Nat.le_of_ble_eq_true rfl) (Nat.le_of_ble_eq_true rfl) (Nat.le_of_ble_eq_true rfl) (Nat.le_of_ble_eq_true rfl) (Nat.le_of_ble_eq_true rfl) ?_
  refine x_aload_n C dL_same_817 rfl ?_
  refine x_iconst (v := 3) C dL_same_818 (by decide) ?_
  refine x_iald2 C wput_q (show (3 : Int32) = nI 3 from rfl) (by decide) (by decide) dL_same_819 ?_
  refine x_ic_ne C 896 dL_same_820 (by decide) (fun h => absurd n4 h) (fun _ => ?_)
  refine x_aload_n C dL_same_823 rfl ?_
  refine x_iconst (v := 5) C dL_same_824 (by decide) ?_
  refine x_callV C (c_X4_count_ok (VV := (upV VV 0 (usC (VV 0) 6))) (j := 5) (by decide)) kv_X4_count kl_L_68 dL_same_825 wput_0 wput_cs wput_cs.symm rfl rfl (Nat.le_of_ble_eq_true rfl) (Nat.le_of_ble_eq_true rfl) (Nat.le_of_ble_eq_true rfl) (Nat.le_of_ble_eq_true rfl) (Nat.le_of_ble_eq_true rfl) ?_
  refine x_aload_n C dL_same_828 rfl ?_
  refine x_iconst (v := 4) C dL_same_829 (by decide) ?_
  refine x_iald2 C wput_q (show (4 : Int32) = nI 4 from rfl) (by decide) (by decide) dL_same_830 ?_
  refine x_ic_ne C 896 dL_same_831 (by decide) (fun h => absurd n5 h) (fun _ => ?_)
  refine x_aload_n C dL_same_834 rfl ?_
  refine x_bipush (v := 6) C dL_same_835 (by decide) ?_
  refine x_callV C (c_X4_count_ok (VV := (upV VV 0 (usC (VV 0) 6))) (j := 6) (by decide)) kv_X4_count kl_L_68 dL_same_837 wput_0 wput_cs wput_cs.symm rfl rfl (Nat.le_of_ble_eq_true rfl) (Nat.le_of_ble_eq_true rfl) (Nat.le_of_ble_eq_true rfl) (Nat.le_of_ble_eq_true rfl) (Nat.le_of_ble_eq_true rfl) ?_
  refine x_iload C dL_same_840 rfl ?_
  refine x_ic_ne C 896 dL_same_842 (by decide) (fun h => absurd n6 h) (fun _ => ?_)
  refine x_aload_n C dL_same_845 rfl ?_
  refine x_iconst (v := 0) C dL_same_846 (by decide) ?_
  refine x_callV C (c_X4_setting_ok (VV := (upV VV 0 (usC (VV 0) 6))) (j := 0) (by decide)) kv_X4_setting kl_L_71 dL_same_847 wput_0 wput_cs wput_cs.symm rfl rfl (Nat.le_of_ble_eq_true rfl) (Nat.le_of_ble_eq_true rfl) (Nat.le_of_ble_eq_true rfl) (Nat.le_of_ble_eq_true rfl) (Nat.le_of_ble_eq_true rfl) ?_
  refine x_aload_n C dL_same_850 rfl ?_
  refine x_iconst (v := 5) C dL_same_851 (by decide) ?_
  refine x_iald2 C wput_q (show (5 : Int32) = nI 5 from rfl) (by decide) (by decide) dL_same_852 ?_
  refine x_ic_ne C 896 dL_same_853 (by decide) (fun h => absurd s0 h) (fun _ => ?_)
  refine x_aload_n C dL_same_856 rfl ?_
  refine x_iconst (v := 1) C dL_same_857 (by decide) ?_
  refine x_callV C (c_X4_setting_ok (VV := (upV VV 0 (usC (VV 0) 6))) (j := 1) (by decide)) kv_X4_setting kl_L_71 dL_same_858 wput_0 wput_cs wput_cs.symm rfl rfl (Nat.le_of_ble_eq_true rfl) (Nat.le_of_ble_eq_true rfl) (Nat.le_of_ble_eq_true rfl) (Nat.le_of_ble_eq_true rfl) (Nat.le_of_ble_eq_true rfl) ?_
  refine x_aload_n C dL_same_861 rfl ?_
  refine x_bipush (v := 6) C dL_same_862 (by decide) ?_
  refine x_iald2 C wput_q (show (6 : Int32) = nI 6 from rfl) (by decide) (by decide) dL_same_864 ?_
  refine x_ic_ne C 896 dL_same_865 (by decide) (fun h => absurd s1 h) (fun _ => ?_)
  refine x_aload_n C dL_same_868 rfl ?_
  refine x_iconst (v := 2) C dL_same_869 (by decide) ?_
  refine x_callV C (c_X4_setting_ok (VV := (upV VV 0 (usC (VV 0) 6))) (j := 2) (by decide)) kv_X4_setting kl_L_71 dL_same_870 wput_0 wput_cs wput_cs.symm rfl rfl (Nat.le_of_ble_eq_true rfl) (Nat.le_of_ble_eq_true rfl) (Nat.le_of_ble_eq_true rfl) (Nat.le_of_ble_eq_true rfl) (Nat.le_of_ble_eq_true rfl) ?_
  refine x_aload_n C dL_same_873 rfl ?_
  refine x_bipush (v := 7) C dL_same_874 (by decide) ?_
  refine x_iald2 C wput_q (show (7 : Int32) = nI 7 from rfl) (by decide) (by decide) dL_same_876 ?_
  refine x_ic_ne C 896 dL_same_877 (by decide) (fun h => absurd s2 h) (fun _ => ?_)
  refine x_aload_n C dL_same_880 rfl ?_
  refine x_iconst (v := 3) C dL_same_881 (by decide) ?_
  refine x_callV C (c_X4_setting_ok (VV := (upV VV 0 (usC (VV 0) 6))) (j := 3) (by decide)) kv_X4_setting kl_L_71 dL_same_882 wput_0 wput_cs wput_cs.symm rfl rfl (Nat.le_of_ble_eq_true rfl) (Nat.le_of_ble_eq_true rfl) (Nat.le_of_ble_eq_true rfl) (Nat.le_of_ble_eq_true rfl) (Nat.le_of_ble_eq_true rfl) ?_
  refine x_aload_n C dL_same_885 rfl ?_
  refine x_bipush (v := 8) C dL_same_886 (by decide) ?_
  refine x_iald2 C wput_q (show (8 : Int32) = nI 8 from rfl) (by decide) (by decide) dL_same_888 ?_
  refine x_ic_ne C 896 dL_same_889 (by decide) (fun h => absurd s3 h) (fun _ => ?_)
  refine x_iconst (v := 1) C dL_same_892 (by decide) ?_
  refine x_goto C 897 dL_same_893 (by decide) ?_
  exact x_zret C Z dL_same_897 rfl (Nat.le_of_ble_eq_true rfl) (Nat.le_of_ble_eq_true rfl) rfl rfl rfl
set_option maxRecDepth 100000 in
set_option maxHeartbeats 4000000 in
theorem c_L_same {l : Launch} {E : xEnv} {B N : Nat} {σ : Sg} {VV : Cs} {p z n : Nat} {tx : Fn} {Q : Fn} {R : Nat → Fn} (hN : B + 170 ≤ N) (H : LR (VV 0) Q R 99 0 0) : xM l yL_same cL_same 21 (some .boolean) 6 136 6 60 E B [.ref B, .ref (B + 165), .ref (B + 165 + 1), .ref (B + 165 + 2), .ref (B + 165 + 3), .ref (B + 165 + 4)] N (wput E (cput E σ B VV (nI p) (nI z) (nI n) tx) (B + 165) Q R) (N + 6) (wput E (cput E σ B (upV VV 0 (usC (VV 0) 6)) (nI p) (nI z) (nI n) tx) (B + 165) Q R) (some (.int 1)) := by
  refine xM_of [some (.ref _), some (.ref _), some (.ref _), some (.ref _), some (.ref _), some (.ref _), none, none, none, none, none, none, none, none, none, none, none, none, none, none, none] (by decide +kernel) (Nat.le_of_ble_eq_true rfl) rfl (fun k0 C Z => ?_)
  have h8 : ∀ m, m ≤ 6 → xX k0 (N + m) m (10 * m) (wput E (cput E σ B (upV VV 0 (usC (VV 0) m)) (nI p) (nI z) (nI n) tx) (B + 165) Q R) 621 [some (.ref B), some (.ref (B + 165)), some (.ref (B + 165 + 1)), some (.ref (B + 165 + 2)), some (.ref (B + 165 + 3)), some (.ref (B + 165 + 4)), some (.int (nI (cnN (VV 0 10) 4))), some (.int (swL (VV 0) 4)), some (.int (nI m)), none, none, none, none, none, none, none, none, none, none, none, none] [] := by
    refine x_for 6 ?_ ?_
    · refine x_iload C dL_same_621 rfl ?_
      refine x_bipush (v := 6) C dL_same_623 (by decide) ?_
      refine x_ic_ge C 769 dL_same_625 (by decide) (fun _ => ?_) (fun h => absurd (nI_le (a := 6) (Nat.le_refl _) (by decide)) h)
      refine xX.cl (sm_Z H C Z) rfl (And.intro rfl (And.intro rfl (And.intro rfl (And.intro rfl (And.intro rfl (And.intro rfl (And.intro rfl (And.intro rfl trivial)))))))) rfl
    · intro m hm ih
      refine x_iload C dL_same_621 rfl ?_
      refine x_bipush (v := 6) C dL_same_623 (by decide) ?_
      refine x_ic_ge C 769 dL_same_625 (by decide) (fun h => absurd h (nI_ge (b := 6) hm (by decide))) (fun _ => ?_)
      refine xX.cl (sm_M hm hN H C ih) rfl (And.intro rfl (And.intro rfl (And.intro rfl (And.intro rfl (And.intro rfl (And.intro rfl (And.intro rfl (And.intro rfl (And.intro rfl trivial))))))))) rfl
  have h618 : xX k0 N 0 0 (wput E (cput E σ B VV (nI p) (nI z) (nI n) tx) (B + 165) Q R) 618 [some (.ref B), some (.ref (B + 165)), some (.ref (B + 165 + 1)), some (.ref (B + 165 + 2)), some (.ref (B + 165 + 3)), some (.ref (B + 165 + 4)), some (.int (nI (cnN (VV 0 10) 4))), some (.int (swL (VV 0) 4)), none, none, none, none, none, none, none, none, none, none, none, none, none] [] := by
    refine x_iconst (v := 0) C dL_same_618 (by decide) ?_
    refine x_istore C dL_same_619 (by decide) rfl ?_
    refine xX.cl (h8 0 (by omega)) (by rw [show usC (VV 0) 0 = VV 0 from rfl, upV_e]) (And.intro rfl (And.intro rfl (And.intro rfl (And.intro rfl (And.intro rfl (And.intro rfl (And.intro rfl (And.intro rfl (And.intro rfl trivial))))))))) rfl
  refine x_iconst (v := 0) C dL_same_0 (by decide) ?_
  refine x_istore C dL_same_1 (by decide) rfl ?_
  refine x_iconst (v := 0) C dL_same_3 (by decide) ?_
  refine x_istore C dL_same_4 (by decide) rfl ?_
  refine x_iconst (v := 0) C dL_same_6 (by decide) ?_
  refine x_istore C dL_same_7 (by decide) rfl ?_
  refine xX.cl (sm_L H C h618 0 (by omega)) rfl (And.intro rfl (And.intro rfl (And.intro rfl (And.intro rfl (And.intro rfl (And.intro rfl (And.intro rfl (And.intro rfl (And.intro rfl trivial))))))))) rfl
