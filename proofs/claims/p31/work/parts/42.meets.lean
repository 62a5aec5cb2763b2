/-! meetings, and what is told of them ahead -/
theorem xM_v {l : Launch} {y : MethodName} {cc : ByteArray} {nL : Nat} {ret : Option FieldType} {fr lo ce sl : Nat} {E : xEnv} {B : Nat} {av : List Value} {N : Nat} {σ : Sg} {N2 : Nat} {σ2 : Sg} {v v2 : Int32} (h : xM l y cc nL ret fr lo ce sl E B av N σ N2 σ2 (some (.int v))) (e : v = v2) : xM l y cc nL ret fr lo ce sl E B av N σ N2 σ2 (some (.int v2)) := e ▸ h
theorem ag_LR {V W : Vs} {Q : Fn} {R : Nat → Fn} {A A2 k1 k2 : Nat} {c y c2 y2 : Int32} (H : LR V Q R A c y) (H2 : LR W Q R A2 c2 y2) (hk1 : k1 < 4) (hk2 : k2 < 4) (p1 : V 10 k1 = 1) (p2 : V 10 k2 = 1) (w1 : W 10 k1 = 1) (w2 : W 10 k2 = 1) : ∀ n, n ≤ 6 → agN V k1 k2 n = agN W k1 k2 n
  | 0, _ => rfl
  | n + 1, hn => by
    rw [agN, agN, ag_LR H H2 hk1 hk2 p1 p2 w1 w2 n (by omega), ← wd_e (H.row hk1 p1) (show n < 6 by omega), ← wd_e (H.row hk2 p2) (show n < 6 by omega), ← wd_e (H2.row hk1 w1) (show n < 6 by omega), ← wd_e (H2.row hk2 w2) (show n < 6 by omega)]
def tS (V : Vs) (Q f : Fn) (k1 k2 m w j : Nat) : Int32 := if j = 0 then nI w else if j = 1 then nI (mh0 Q f w) else if j = 2 then (if mh0 Q f w = m then 1 else 0) else nI (agN (mtV V k1 k2 m) k1 k2 6)
section IFM
variable {VV : Cs} {p z n : Nat} {tx : Fn} {Q : Fn} {R : Nat → Fn} {k1 k2 m w : Nat} (H : LR (VV 0) Q R 99 0 0) (hk1 : k1 < 4) (hk2 : k2 < 4) (hne : k1 ≠ k2) (hp1 : VV 0 10 k1 = 1) (hp2 : VV 0 10 k2 = 1) (hm : m < 6) (hwd : wdS (R k1) m = some w)
theorem ifm (H : LR (VV 0) Q R 99 0 0) (hk1 : k1 < 4) (hk2 : k2 < 4) (hne : k1 ≠ k2) (hp1 : VV 0 10 k1 = 1) (hp2 : VV 0 10 k2 = 1) (hm : m < 6) (hwd : wdS (R k1) m = some w) {j : Nat} (hj : j < 4) : ∃ VV2 : Cs, VV2 0 = VV 0 ∧ ∀ {l : Launch} {E : xEnv} {B N : Nat} {σ : Sg}, xM l yX4_ifMet cX4_ifMet 8 (some .int) 5 118 0 0 E B [.ref B, .int (nI k1), .int (nI k2), .int (nI m), .int (nI j)] N (cput E σ B VV (nI p) (nI z) (nI n) tx) N (cput E σ B VV2 (nI p) (nI z) (nI n) tx) (some (.int (tS (VV 0) Q (R k2) k1 k2 m w j))) := by
  refine ⟨_, ?_, fun {l} {E} {B} {N} {σ} => xM_v (c_X4_ifMet_ok (show k1 < 8 by omega) hp1 (show k2 < 8 by omega) hp2 hm hj hne H.sk) ?_⟩
  · exact upV_n (by decide)
  · have Hc : LR (cpV (VV 1) (VV 0)) Q R 99 0 0 := LR_cp H
    have c1 : cpV (VV 1) (VV 0) 10 k1 = 1 := by rw [cpV_k (Or.inl rfl) (by omega)]; exact hp1
    have c2 : cpV (VV 1) (VV 0) 10 k2 = 1 := by rw [cpV_k (Or.inl rfl) (by omega)]; exact hp2
    obtain ⟨m1, m2, Hm⟩ := LR_meet H hk1 hk2 hne hp1 hp2 hm hwd
    obtain ⟨n1, n2, Hn⟩ := LR_meet Hc hk1 hk2 hne c1 c2 hm hwd
    unfold imS tS
    rw [n1, n2, ag_LR Hn Hm hk1 hk2 (by rw [mtV_r (by omega) (by omega) (by decide) (by decide)]; exact c1) (by rw [mtV_r (by omega) (by omega) (by decide) (by decide)]; exact c2) (by rw [mtV_r (by omega) (by omega) (by decide) (by decide)]; exact hp1) (by rw [mtV_r (by omega) (by omega) (by decide) (by decide)]; exact hp2) 6 (Nat.le_refl _)]
end IFM
theorem ifm_t0 {V : Vs} {Q f : Fn} {k1 k2 m w : Nat} : tS V Q f k1 k2 m w 0 = nI w := rfl
theorem ifm_t1 {V : Vs} {Q f : Fn} {k1 k2 m w : Nat} : tS V Q f k1 k2 m w 1 = nI (mh0 Q f w) := rfl
theorem ifm_t2 {V : Vs} {Q f : Fn} {k1 k2 m w : Nat} : tS V Q f k1 k2 m w 2 = if mh0 Q f w = m then 1 else 0 := by
  unfold tS
  rw [if_neg (by decide), if_neg (by decide), if_pos rfl]
theorem ifm_t3 {V : Vs} {Q f : Fn} {k1 k2 m w : Nat} : tS V Q f k1 k2 m w 3 = nI (agN (mtV V k1 k2 m) k1 k2 6) := by
  unfold tS
  rw [if_neg (by decide), if_neg (by decide), if_neg (by decide)]
theorem dv10 {w h : Nat} (hw : w < 14) (hh : h < 6) : (10 * nI w + nI h) / 10 = nI w := by
  rw [ix10, show (10 : Int32) = nI 10 from rfl, pk_div (by omega) (by decide) (by decide), show (10 * w + h) / 10 = w by omega]
theorem rm10 {w h : Nat} (hw : w < 14) (hh : h < 6) : 10 * nI w + nI h - (10 * nI w + nI h) / 10 * 10 = nI h := by
  rw [ix10, show (10 : Int32) = nI 10 from rfl, pk_rem (by omega) (by decide) (by decide), show (10 * w + h) % 10 = h by omega]
set_option maxRecDepth 100000 in
set_option maxHeartbeats 4000000 in
theorem la_ref {k0 : xT} {l : Launch} {E : xEnv} {B N a b bb t : Nat} {mn : String} {σ : Sg} {VV : Cs} {p z n : Nat} {tx : Fn} {Q : Fn} {R : Nat → Fn} {X Y : Int32} {who other m w kd : Nat} {d : Int32} (C : xC k0 l E B cL_law 27 ret RL mn 9 352 600000 7302250) (ha : a ≤ 600000) (hb : b ≤ 7302250) (hp6 : p < 6) (hz : z ≤ 6) (H : LR (VV 0) Q R 99 0 0) (hw4 : who < 4) (ho4 : other < 4) (hm : m < 6) (hw : w < 10) (J1 : ∀ (VV : Cs) (p z : Nat) (Q : Fn) (R : Nat → Fn), p < 6 → z ≤ 6 → LR (VV 0) Q R 99 0 0 → xX k0 N a b (wput E (cput E σ B VV (nI p) (nI z) (nI n) tx) (B + 165) Q R) 1333 [some (.ref bb), some (.ref B), some (.ref (B + 165)), some (.ref (B + 165 + 1)), some (.ref (B + 165 + 2)), some (.ref (B + 165 + 3)), some (.ref (B + 165 + 4)), some (.int (nI t)), none, none, none, none, none, none, none, none, none, none, none, none, none, none, none, none, none, none, none] []) (hd0 : ¬ d = 0) (hd : ¬ 0 ≤ d) (hif : ∀ j, j < 4 → xM l yX4_ifMet cX4_ifMet 8 (some .int) 5 118 0 0 E B [.ref B, .int (nI who), .int (nI other), .int (nI m), .int (nI j)] N (cput E (wput E σ (B + 165) Q R) B VV (nI p) (nI z) (nI n) tx) N (cput E (wput E σ (B + 165) Q R) B VV (nI p) (nI z) (nI n) tx) (some (.int d))) (hmt : xM l yX4_meet cX4_meet 6 (some .int) 5 118 0 0 E B [.ref B, .int (nI who), .int (nI other), .int (nI m)] N (cput E (wput E σ (B + 165) Q R) B VV (nI p) (nI z) (nI n) tx) N (cput E (wput E σ (B + 165) Q R) B VV (nI p) (nI z) (nI n) tx) (some (.int d))) : xX k0 N a b (wput E (cput E σ B VV (nI p) (nI z) (nI n) tx) (B + 165) Q R) 829 [some (.ref bb), some (.ref B), some (.ref (B + 165)), some (.ref (B + 165 + 1)), some (.ref (B + 165 + 2)), some (.ref (B + 165 + 3)), some (.ref (B + 165 + 4)), some (.int (nI t)), some (.int X), some (.int Y), some (.int (nI kd)), some (.int (nI who)), some (.int (nI other)), some (.int (nI m)), some (.int (nI w)), some (.int (xb (VV 0 10 who = 1))), some (.int (xb (VV 0 10 who = 1 ∧ VV 0 10 other = 1))), some (.ref (B + 165 + 1 + who)), some (.ref (B + 165 + 1 + other)), some (.int d), none, none, none, none, none, none, none] [] := by
  refine x_aload_n C dL_law_829 rfl ?_
  refine x_iload C dL_law_830 rfl ?_
  refine x_iload C dL_law_832 rfl ?_
  refine x_iload C dL_law_834 rfl ?_
  refine x_iconst (v := 0) C dL_law_836 (by decide) ?_
  refine x_callV C (hif 0 (by decide)) kv_X4_ifMet kl_L_103 dL_law_837 wput_0 wput_cs wput_cs.symm rfl rfl (Nat.le_of_ble_eq_true rfl) (Nat.le_of_ble_eq_true rfl) (Nat.le_of_ble_eq_true rfl) (by omega) (by omega) ?_
  refine x_istore C dL_law_840 (by decide) rfl ?_
  refine x_aload_n C dL_law_842 rfl ?_
  refine x_iload C dL_law_843 rfl ?_
  refine x_iload C dL_law_845 rfl ?_
  refine x_iload C dL_law_847 rfl ?_
  refine x_iconst (v := 1) C dL_law_849 (by decide) ?_
  refine x_callV C (hif 1 (by decide)) kv_X4_ifMet kl_L_103 dL_law_850 wput_0 wput_cs wput_cs.symm rfl rfl (Nat.le_of_ble_eq_true rfl) (Nat.le_of_ble_eq_true rfl) (Nat.le_of_ble_eq_true rfl) (by omega) (by omega) ?_
  refine x_istore C dL_law_853 (by decide) rfl ?_
  refine x_aload_n C dL_law_855 rfl ?_
  refine x_iload C dL_law_856 rfl ?_
  refine x_iload C dL_law_858 rfl ?_
  refine x_iload C dL_law_860 rfl ?_
  refine x_iconst (v := 2) C dL_law_862 (by decide) ?_
  refine x_callV C (hif 2 (by decide)) kv_X4_ifMet kl_L_103 dL_law_863 wput_0 wput_cs wput_cs.symm rfl rfl (Nat.le_of_ble_eq_true rfl) (Nat.le_of_ble_eq_true rfl) (Nat.le_of_ble_eq_true rfl) (by omega) (by omega) ?_
  refine x_istore C dL_law_866 (by decide) rfl ?_
  refine x_aload_n C dL_law_868 rfl ?_
  refine x_iload C dL_law_869 rfl ?_
  refine x_iload C dL_law_871 rfl ?_
  refine x_iload C dL_law_873 rfl ?_
  refine x_iconst (v := 3) C dL_law_875 (by decide) ?_
  refine x_callV C (hif 3 (by decide)) kv_X4_ifMet kl_L_103 dL_law_876 wput_0 wput_cs wput_cs.symm rfl rfl (Nat.le_of_ble_eq_true rfl) (Nat.le_of_ble_eq_true rfl) (Nat.le_of_ble_eq_true rfl) (by omega) (by omega) ?_
  refine x_istore C dL_law_879 (by decide) rfl ?_
  refine x_iload C dL_law_881 rfl ?_
  refine x_if_ne C 902 dL_law_883 (by decide) (fun _ => ?_) (fun h => absurd h hd0)
  refine x_aload_n C dL_law_902 rfl ?_
  refine x_iload C dL_law_903 rfl ?_
  refine x_iload C dL_law_905 rfl ?_
  refine x_iload C dL_law_907 rfl ?_
  refine x_callV C hmt kv_X4_meet kl_L_110 dL_law_909 wput_0 wput_cs wput_cs.symm rfl rfl (Nat.le_of_ble_eq_true rfl) (Nat.le_of_ble_eq_true rfl) (Nat.le_of_ble_eq_true rfl) (by omega) (by omega) ?_
  refine x_iload C dL_law_912 rfl ?_
  refine x_ic_eq C 919 dL_law_914 (by decide) (fun _ => ?_) (fun h => absurd rfl h)
  refine x_iload C dL_law_919 rfl ?_
  refine x_if_ge C 955 dL_law_921 (by decide) (fun h => absurd h hd) (fun _ => ?_)
  refine x_iload C dL_law_924 rfl ?_
  refine x_iload C dL_law_926 rfl ?_
  refine x_ic_ne C 1006 dL_law_928 (by decide) (fun h => absurd rfl h) (fun _ => ?_)
  refine x_iload C dL_law_931 rfl ?_
  refine x_iload C dL_law_933 rfl ?_
  refine x_ic_ne C 1006 dL_law_935 (by decide) (fun h => absurd rfl h) (fun _ => ?_)
  refine x_iload C dL_law_938 rfl ?_
  refine x_iload C dL_law_940 rfl ?_
  refine x_ic_ne C 1006 dL_law_942 (by decide) (fun h => absurd rfl h) (fun _ => ?_)
  refine x_iload C dL_law_945 rfl ?_
  refine x_iload C dL_law_947 rfl ?_
  refine x_ic_eq C 1008 dL_law_949 (by decide) (fun _ => ?_) (fun h => absurd rfl h)
  refine x_goto C 1333 dL_law_1008 (by decide) ?_
  refine xX.cl (J1 _ _ _ _ _ hp6 hz H) rfl (And.intro rfl (And.intro rfl (And.intro rfl (And.intro rfl (And.intro rfl (And.intro rfl (And.intro rfl (And.intro rfl trivial)))))))) rfl
set_option maxRecDepth 100000 in
set_option maxHeartbeats 4000000 in
theorem la_held {k0 : xT} {l : Launch} {E : xEnv} {B N a b bb t : Nat} {mn : String} {σ : Sg} {VV : Cs} {p z n : Nat} {tx : Fn} {Q : Fn} {R : Nat → Fn} {X Y : Int32} {who other m w kd : Nat} {wd : Nat} (C : xC k0 l E B cL_law 27 ret RL mn 9 352 600000 7302250) (ha : a ≤ 600000) (hb : b ≤ 7302250) (hp6 : p < 6) (hz : z ≤ 6) (H : LR (VV 0) Q R 99 0 0) (hw4 : who < 4) (ho4 : other < 4) (hm : m < 6) (hw : w < 10) (J1 : ∀ (VV : Cs) (p z : Nat) (Q : Fn) (R : Nat → Fn), p < 6 → z ≤ 6 → LR (VV 0) Q R 99 0 0 → xX k0 N a b (wput E (cput E σ B VV (nI p) (nI z) (nI n) tx) (B + 165) Q R) 1333 [some (.ref bb), some (.ref B), some (.ref (B + 165)), some (.ref (B + 165 + 1)), some (.ref (B + 165 + 2)), some (.ref (B + 165 + 3)), some (.ref (B + 165 + 4)), some (.int (nI t)), none, none, none, none, none, none, none, none, none, none, none, none, none, none, none, none, none, none, none] []) (hne : who ≠ other) (hp1 : VV 0 10 who = 1) (hp2 : VV 0 10 other = 1) (hwd : wdS (R who) m = some wd) : xX k0 N a b (wput E (cput E σ B VV (nI p) (nI z) (nI n) tx) (B + 165) Q R) 829 [some (.ref bb), some (.ref B), some (.ref (B + 165)), some (.ref (B + 165 + 1)), some (.ref (B + 165 + 2)), some (.ref (B + 165 + 3)), some (.ref (B + 165 + 4)), some (.int (nI t)), some (.int X), some (.int Y), some (.int (nI kd)), some (.int (nI who)), some (.int (nI other)), some (.int (nI m)), some (.int (nI w)), some (.int (xb (VV 0 10 who = 1))), some (.int (xb (VV 0 10 who = 1 ∧ VV 0 10 other = 1))), some (.ref (B + 165 + 1 + who)), some (.ref (B + 165 + 1 + other)), some (.int 0), none, none, none, none, none, none, none] [] := by
  have hwt : wd < 10 := wd_in hwd
  obtain ⟨s, hs, es⟩ := H.sk
  have hq : Q 0 = nI s := H.2.2.1.1.trans es
  obtain ⟨V0, e0, f0⟩ := ifm (VV := VV) (p := p) (z := z) (n := n) (tx := tx) H hw4 ho4 hne hp1 hp2 hm hwd (j := 0) (by decide)
  rw [ifm_t0] at f0
  have H0 : LR (V0 0) Q R 99 0 0 := by rw [e0]; exact H
  have a0 : V0 0 10 who = 1 := by rw [e0]; exact hp1
  have b0 : V0 0 10 other = 1 := by rw [e0]; exact hp2
  obtain ⟨V1, e1, f1⟩ := ifm (VV := V0) (p := p) (z := z) (n := n) (tx := tx) H0 hw4 ho4 hne a0 b0 hm hwd (j := 1) (by decide)
  rw [ifm_t1] at f1
  have H1 : LR (V1 0) Q R 99 0 0 := by rw [e1]; exact H0
  have a1 : V1 0 10 who = 1 := by rw [e1]; exact a0
  have b1 : V1 0 10 other = 1 := by rw [e1]; exact b0
  obtain ⟨V2, e2, f2⟩ := ifm (VV := V1) (p := p) (z := z) (n := n) (tx := tx) H1 hw4 ho4 hne a1 b1 hm hwd (j := 2) (by decide)
  rw [ifm_t2] at f2
  have H2 : LR (V2 0) Q R 99 0 0 := by rw [e2]; exact H1
  have a2 : V2 0 10 who = 1 := by rw [e2]; exact a1
  have b2 : V2 0 10 other = 1 := by rw [e2]; exact b1
  obtain ⟨V3, e3, f3⟩ := ifm (VV := V2) (p := p) (z := z) (n := n) (tx := tx) H2 hw4 ho4 hne a2 b2 hm hwd (j := 3) (by decide)
  rw [ifm_t3] at f3
  have H3 : LR (V3 0) Q R 99 0 0 := by rw [e3]; exact H2
  have a3 : V3 0 10 who = 1 := by rw [e3]; exact a2
  have b3 : V3 0 10 other = 1 := by rw [e3]; exact b2
  obtain ⟨m1, m2, Hm⟩ := LR_meet H3 hw4 ho4 hne a3 b3 hm hwd
  have hh : mh0 Q (R other) wd < 6 := mh0_lt
  have c1 : upV (kpV V3 p) 0 (mtV (V3 0) who other m) 0 10 who = 1 := by rw [kp_0, mtV_r (by omega) (by omega) (by decide) (by decide)]; exact a3
  have c2 : upV (kpV V3 p) 0 (mtV (V3 0) who other m) 0 10 other = 1 := by rw [kp_0, mtV_r (by omega) (by omega) (by decide) (by decide)]; exact b3
  refine x_aload_n C dL_law_829 rfl ?_
  refine x_iload C dL_law_830 rfl ?_
  refine x_iload C dL_law_832 rfl ?_
  refine x_iload C dL_law_834 rfl ?_
  refine x_iconst (v := 0) C dL_law_836 (by decide) ?_
  refine x_callV C f0 kv_X4_ifMet kl_L_103 dL_law_837 wput_0 wput_cs wput_cs.symm rfl rfl (Nat.le_of_ble_eq_true rfl) (Nat.le_of_ble_eq_true rfl) (Nat.le_of_ble_eq_true rfl) (by omega) (by omega) ?_
  refine x_istore C dL_law_840 (by decide) rfl ?_
  refine x_aload_n C dL_law_842 rfl ?_
  refine x_iload C dL_law_843 rfl ?_
  refine x_iload C dL_law_845 rfl ?_
  refine x_iload C dL_law_847 rfl ?_
  refine x_iconst (v := 1) C dL_law_849 (by decide) ?_
  refine x_callV C f1 kv_X4_ifMet kl_L_103 dL_law_850 wput_0 wput_cs wput_cs.symm rfl rfl (Nat.le_of_ble_eq_true rfl) (Nat.le_of_ble_eq_true rfl) (Nat.le_of_ble_eq_true rfl) (by omega) (by omega) ?_
  refine x_istore C dL_law_853 (by decide) rfl ?_
  refine x_aload_n C dL_law_855 rfl ?_
  refine x_iload C dL_law_856 rfl ?_
  refine x_iload C dL_law_858 rfl ?_
  refine x_iload C dL_law_860 rfl ?_
  refine x_iconst (v := 2) C dL_law_862 (by decide) ?_
  refine x_callV C f2 kv_X4_ifMet kl_L_103 dL_law_863 wput_0 wput_cs wput_cs.symm rfl rfl (Nat.le_of_ble_eq_true rfl) (Nat.le_of_ble_eq_true rfl) (Nat.le_of_ble_eq_true rfl) (by omega) (by omega) ?_
  refine x_istore C dL_law_866 (by decide) rfl ?_
  refine x_aload_n C dL_law_868 rfl ?_
  refine x_iload C dL_law_869 rfl ?_
  refine x_iload C dL_law_871 rfl ?_
  refine x_iload C dL_law_873 rfl ?_
  refine x_iconst (v := 3) C dL_law_875 (by decide) ?_
  refine x_callV C f3 kv_X4_ifMet kl_L_103 dL_law_876 wput_0 wput_cs wput_cs.symm rfl rfl (Nat.le_of_ble_eq_true rfl) (Nat.le_of_ble_eq_true rfl) (Nat.le_of_ble_eq_true rfl) (by omega) (by omega) ?_
  refine x_istore C dL_law_879 (by decide) rfl ?_
  refine x_iload C dL_law_881 rfl ?_
  refine x_if_ne C 902 dL_law_883 (by decide) (fun h => absurd rfl h) (fun _ => ?_)
  refine x_iload C dL_law_886 rfl ?_
  refine x_iload C dL_law_888 rfl ?_
  refine x_iload C dL_law_890 rfl ?_
  refine x_aload_n C dL_law_892 rfl ?_
  refine x_aload C dL_law_893 rfl ?_
  refine x_aload C dL_law_895 rfl ?_
  refine x_callS C (c_L_meet hw4 ho4 hne hm hwd hq hs) ks_L_meet kl_L_106 dL_law_897 rfl rfl rfl rfl (Nat.le_of_ble_eq_true rfl) (Nat.le_of_ble_eq_true rfl) (Nat.le_of_ble_eq_true rfl) (by omega) (by omega) ?_
  refine x_istore C dL_law_900 (by decide) rfl ?_
  refine x_aload_n C dL_law_902 rfl ?_
  refine x_iload C dL_law_903 rfl ?_
  refine x_iload C dL_law_905 rfl ?_
  refine x_iload C dL_law_907 rfl ?_
  refine x_callV C (c_X4_meet_ok (VV := V3) hp6 hz (by omega) a3 (by omega) b3 hm hne H3.sk) kv_X4_meet kl_L_110 dL_law_909 wput_0 wput_cs wput_cs.symm rfl rfl (Nat.le_of_ble_eq_true rfl) (Nat.le_of_ble_eq_true rfl) (Nat.le_of_ble_eq_true rfl) (by omega) (by omega) ?_
  refine x_iload C dL_law_912 rfl ?_
  refine x_ic_eq C 919 dL_law_914 (by decide) (fun _ => ?_) (fun h => absurd (by rw [m1, m2]) h)
  refine x_iload C dL_law_919 rfl ?_
  refine x_if_ge C 955 dL_law_921 (by decide) (fun _ => ?_) (fun h => absurd (show (0 : Int32) ≤ 10 * nI wd + nI (mh0 Q (R other) wd) by rw [ix10]; exact nI_pos' (by omega)) h)
  refine x_iload C dL_law_955 rfl ?_
  refine x_iload C dL_law_957 rfl ?_
  refine x_bipush (v := 10) C dL_law_959 (by decide) ?_
  refine x_idiv C dL_law_961 (by decide) ?_
  refine x_ic_ne C 1006 dL_law_962 (by decide) (fun h => absurd (dv10 (by omega) hh).symm h) (fun _ => ?_)
  refine x_iload C dL_law_965 rfl ?_
  refine x_iload C dL_law_967 rfl ?_
  refine x_bipush (v := 10) C dL_law_969 (by decide) ?_
  refine x_irem C dL_law_971 (by decide) ?_
  refine x_ic_ne C 1006 dL_law_972 (by decide) (fun h => absurd (rm10 (by omega) hh).symm h) (fun _ => ?_)
  refine x_iload C dL_law_975 rfl ?_
  refine xX.mrg 989 (if (mh0 Q (R other) wd) = m then 1 else 0) (fun hk989 => ?_) ?_
  · refine x_iload C dL_law_977 rfl ?_
    refine x_iload C dL_law_979 rfl ?_
    refine x_ic_ne C 988 dL_law_981 (by decide) (fun h981 => ?_) (fun h981 => ?_)
    · refine x_iconst (v := 0) C dL_law_988 (by decide) ?_
      exact xX.vl hk989 (if_neg (fun z => h981 (congrArg nI z)))
    · refine x_iconst (v := 1) C dL_law_984 (by decide) ?_
      refine x_goto C 989 dL_law_985 (by decide) ?_
      exact xX.vl hk989 (if_pos ((nI_eq (by omega) (by omega)).mp h981))
  refine x_ic_ne C 1006 dL_law_989 (by decide) (fun h => absurd rfl h) (fun _ => ?_)
  refine x_iload C dL_law_992 rfl ?_
  refine x_aload_n C dL_law_994 rfl ?_
  refine x_iload C dL_law_995 rfl ?_
  refine x_iload C dL_law_997 rfl ?_
  refine x_iconst (v := 0) C dL_law_999 (by decide) ?_
  refine x_callV C (c_X4_agreement_w0 (VV := upV (kpV V3 p) 0 (mtV (V3 0) who other m)) (by omega) c1 (by omega) c2) kv_X4_agreement kl_L_55 dL_law_1000 wput_0 wput_cs wput_cs.symm rfl rfl (Nat.le_of_ble_eq_true rfl) (Nat.le_of_ble_eq_true rfl) (Nat.le_of_ble_eq_true rfl) (by omega) (by omega) ?_
  refine x_ic_eq C 1008 dL_law_1003 (by decide) (fun _ => ?_) (fun h => absurd (by rw [kp_0, e3]) h)
  refine x_goto C 1333 dL_law_1008 (by decide) ?_
  refine xX.cl (J1 _ _ _ _ _ md6 mn6 (by rw [kp_0]; exact Hm)) rfl (And.intro rfl (And.intro rfl (And.intro rfl (And.intro rfl (And.intro rfl (And.intro rfl (And.intro rfl (And.intro rfl trivial)))))))) rfl
set_option maxRecDepth 100000 in
set_option maxHeartbeats 4000000 in
theorem la_meet {k0 : xT} {l : Launch} {E : xEnv} {B N a b bb t : Nat} {mn : String} {σ : Sg} {VV : Cs} {p z n : Nat} {tx : Fn} {Q : Fn} {R : Nat → Fn} {X Y : Int32} {who other m w kd : Nat} (C : xC k0 l E B cL_law 27 ret RL mn 9 352 600000 7302250) (ha : a ≤ 600000) (hb : b ≤ 7302250) (hp6 : p < 6) (hz : z ≤ 6) (H : LR (VV 0) Q R 99 0 0) (hw4 : who < 4) (ho4 : other < 4) (hm : m < 6) (hw : w < 10) (hk1 : 10 ≤ kd) (hk2 : kd < 19) (J1 : ∀ (VV : Cs) (p z : Nat) (Q : Fn) (R : Nat → Fn), p < 6 → z ≤ 6 → LR (VV 0) Q R 99 0 0 → xX k0 N a b (wput E (cput E σ B VV (nI p) (nI z) (nI n) tx) (B + 165) Q R) 1333 [some (.ref bb), some (.ref B), some (.ref (B + 165)), some (.ref (B + 165 + 1)), some (.ref (B + 165 + 2)), some (.ref (B + 165 + 3)), some (.ref (B + 165 + 4)), some (.int (nI t)), none, none, none, none, none, none, none, none, none, none, none, none, none, none, none, none, none, none, none] []) (J2 : xX k0 N a b (wput E (cput E σ B VV (nI p) (nI z) (nI n) tx) (B + 165) Q R) 1350 [some (.ref bb), some (.ref B), some (.ref (B + 165)), some (.ref (B + 165 + 1)), some (.ref (B + 165 + 2)), some (.ref (B + 165 + 3)), some (.ref (B + 165 + 4)), some (.int (nI t)), none, none, none, none, none, none, none, none, none, none, none, none, none, none, none, none, none, none, none] []) : xX k0 N a b (wput E (cput E σ B VV (nI p) (nI z) (nI n) tx) (B + 165) Q R) 269 [some (.ref bb), some (.ref B), some (.ref (B + 165)), some (.ref (B + 165 + 1)), some (.ref (B + 165 + 2)), some (.ref (B + 165 + 3)), some (.ref (B + 165 + 4)), some (.int (nI t)), some (.int X), some (.int Y), some (.int (nI kd)), some (.int (nI who)), some (.int (nI other)), some (.int (nI m)), some (.int (nI w)), some (.int (xb (VV 0 10 who = 1))), some (.int (xb (VV 0 10 who = 1 ∧ VV 0 10 other = 1))), some (.ref (B + 165 + 1 + who)), some (.ref (B + 165 + 1 + other)), none, none, none, none, none, none, none, none] [] := by
  refine x_iload C dL_law_269 rfl ?_
  refine x_if_ne C 338 dL_law_271 (by decide) (fun _ => ?_) (fun h => absurd h (nI_neL (b := 0) (by omega) (by decide) (by omega)))
  refine x_iload C dL_law_338 rfl ?_
  refine x_iconst (v := 1) C dL_law_340 (by decide) ?_
  refine x_ic_ne C 451 dL_law_341 (by decide) (fun _ => ?_) (fun h => absurd h (nI_neL (b := 1) (by omega) (by decide) (by omega)))
  refine x_iload C dL_law_451 rfl ?_
  refine x_iconst (v := 2) C dL_law_453 (by decide) ?_
  refine x_ic_ne C 563 dL_law_454 (by decide) (fun _ => ?_) (fun h => absurd h (nI_neL (b := 2) (by omega) (by decide) (by omega)))
  refine x_iload C dL_law_563 rfl ?_
  refine x_iconst (v := 3) C dL_law_565 (by decide) ?_
  refine x_ic_ne C 600 dL_law_566 (by decide) (fun _ => ?_) (fun h => absurd h (nI_neL (b := 3) (by omega) (by decide) (by omega)))
  refine x_iload C dL_law_600 rfl ?_
  refine x_iconst (v := 4) C dL_law_602 (by decide) ?_
  refine x_ic_ne C 667 dL_law_603 (by decide) (fun _ => ?_) (fun h => absurd h (nI_neL (b := 4) (by omega) (by decide) (by omega)))
  refine x_iload C dL_law_667 rfl ?_
  refine x_bipush (v := 10) C dL_law_669 (by decide) ?_
  refine x_ic_ge C 773 dL_law_671 (by decide) (fun _ => ?_) (fun h => absurd (nI_le (a := 10) (by omega) (by omega)) h)
  refine x_iload C dL_law_773 rfl ?_
  refine x_bipush (v := 19) C dL_law_775 (by decide) ?_
  refine x_ic_ge C 1011 dL_law_777 (by decide) (fun h => absurd h (nI_ge (b := 19) (by omega) (by decide))) (fun _ => ?_)
  by_cases hq : VV 0 10 who = 1 ∧ VV 0 10 other = 1
  · by_cases he : who = other
    · subst he
      refine x_iload C dL_law_780 rfl ?_
      refine x_beq C 805 dL_law_782 (by decide) (fun h => absurd hq h) (fun _ => ?_)
      refine x_iload C dL_law_785 rfl ?_
      refine x_iload C dL_law_787 rfl ?_
      refine x_ic_eq C 805 dL_law_789 (by decide) (fun _ => ?_) (fun h => absurd rfl h)
      refine x_iload C dL_law_805 rfl ?_
      refine x_bne C 814 dL_law_807 (by decide) (fun _ => ?_) (fun h => absurd hq h)
      refine x_iload C dL_law_814 rfl ?_
      refine x_iload C dL_law_816 rfl ?_
      refine x_ic_ne C 826 dL_law_818 (by decide) (fun h => absurd rfl h) (fun _ => ?_)
      refine x_bipush (v := (-3)) C dL_law_821 (by decide) ?_
      refine x_goto C 827 dL_law_823 (by decide) ?_
      refine x_istore C dL_law_827 (by decide) rfl ?_
      refine xX.cl (la_ref (d := -3) C ha hb hp6 hz H hw4 hw4 hm hw J1 (by decide) (by decide) (fun j hj => c_X4_ifMet_same (by omega) hq.1 hm hj) (c_X4_meet_same (by omega) hq.1 hm)) rfl (And.intro rfl (And.intro rfl (And.intro rfl (And.intro rfl (And.intro rfl (And.intro rfl (And.intro rfl (And.intro rfl (And.intro rfl (And.intro rfl (And.intro rfl (And.intro rfl (And.intro rfl (And.intro rfl (And.intro rfl (And.intro rfl (And.intro rfl (And.intro rfl (And.intro rfl (And.intro rfl trivial)))))))))))))))))))) rfl
    · refine x_iload C dL_law_780 rfl ?_
      refine x_beq C 805 dL_law_782 (by decide) (fun h => absurd hq h) (fun _ => ?_)
      refine x_iload C dL_law_785 rfl ?_
      refine x_iload C dL_law_787 rfl ?_
      refine x_ic_eq C 805 dL_law_789 (by decide) (fun h => absurd h (nI_neL (by omega) (by omega) he)) (fun _ => ?_)
      refine x_iload C dL_law_792 rfl ?_
      refine x_aload C dL_law_794 rfl ?_
      refine x_callS C (c_L_word (wput_r hw4) hm) ks_L_word kl_L_16 dL_law_796 rfl rfl rfl rfl (Nat.le_of_ble_eq_true rfl) (Nat.le_of_ble_eq_true rfl) (Nat.le_of_ble_eq_true rfl) (by omega) (by omega) ?_
      cases hwd : wdS (R who) m with
      | none =>
        refine x_if_ge C 805 dL_law_799 (by decide) (fun h => absurd h (by decide)) (fun _ => ?_)
        refine x_goto C 1350 dL_law_802 (by decide) ?_
        refine xX.cl (J2) rfl (And.intro rfl (And.intro rfl (And.intro rfl (And.intro rfl (And.intro rfl (And.intro rfl (And.intro rfl (And.intro rfl trivial)))))))) rfl
      | some wd =>
        have hwt : wd < 10 := wd_in hwd
        refine x_if_ge C 805 dL_law_799 (by decide) (fun _ => ?_) (fun h => absurd (nI_pos' (n := wd) (by omega)) h)
        refine x_iload C dL_law_805 rfl ?_
        refine x_bne C 814 dL_law_807 (by decide) (fun _ => ?_) (fun h => absurd hq h)
        refine x_iload C dL_law_814 rfl ?_
        refine x_iload C dL_law_816 rfl ?_
        refine x_ic_ne C 826 dL_law_818 (by decide) (fun _ => ?_) (fun h => absurd h (nI_neL (by omega) (by omega) he))
        refine x_iconst (v := 0) C dL_law_826 (by decide) ?_
        refine x_istore C dL_law_827 (by decide) rfl ?_
        refine xX.cl (la_held C ha hb hp6 hz H hw4 ho4 hm hw J1 he hq.1 hq.2 hwd) rfl (And.intro rfl (And.intro rfl (And.intro rfl (And.intro rfl (And.intro rfl (And.intro rfl (And.intro rfl (And.intro rfl (And.intro rfl (And.intro rfl (And.intro rfl (And.intro rfl (And.intro rfl (And.intro rfl (And.intro rfl (And.intro rfl (And.intro rfl (And.intro rfl (And.intro rfl (And.intro rfl trivial)))))))))))))))))))) rfl
  · have hif : ∀ j, j < 4 → xM l yX4_ifMet cX4_ifMet 8 (some .int) 5 118 0 0 E B [.ref B, .int (nI who), .int (nI other), .int (nI m), .int (nI j)] N (cput E (wput E σ (B + 165) Q R) B VV (nI p) (nI z) (nI n) tx) N (cput E (wput E σ (B + 165) Q R) B VV (nI p) (nI z) (nI n) tx) (some (.int (-1))) := fun j hj => by
      by_cases h1 : VV 0 10 who = 1
      · exact c_X4_ifMet_n2 (by omega) h1 (no_k (by omega) (fun z => hq ⟨h1, z⟩))
      · exact c_X4_ifMet_n1 (no_k (by omega) h1)
    have hmt : xM l yX4_meet cX4_meet 6 (some .int) 5 118 0 0 E B [.ref B, .int (nI who), .int (nI other), .int (nI m)] N (cput E (wput E σ (B + 165) Q R) B VV (nI p) (nI z) (nI n) tx) N (cput E (wput E σ (B + 165) Q R) B VV (nI p) (nI z) (nI n) tx) (some (.int (-1))) := by
      by_cases h1 : VV 0 10 who = 1
      · exact c_X4_meet_n2 (by omega) h1 (no_k (by omega) (fun z => hq ⟨h1, z⟩))
      · by_cases h2 : VV 0 10 other = 1
        · exact c_X4_meet_n1s (no_k (by omega) h1) (by omega) h2
        · exact c_X4_meet_n1n (no_k (by omega) h1) (no_k (by omega) h2)
    refine x_iload C dL_law_780 rfl ?_
    refine x_beq C 805 dL_law_782 (by decide) (fun _ => ?_) (fun h => absurd h hq)
    refine x_iload C dL_law_805 rfl ?_
    refine x_bne C 814 dL_law_807 (by decide) (fun h => absurd h hq) (fun _ => ?_)
    refine x_iconst (v := (-1)) C dL_law_810 (by decide) ?_
    refine x_goto C 827 dL_law_811 (by decide) ?_
    refine x_istore C dL_law_827 (by decide) rfl ?_
    refine xX.cl (la_ref (d := -1) C ha hb hp6 hz H hw4 ho4 hm hw J1 (by decide) (by decide) hif hmt) rfl (And.intro rfl (And.intro rfl (And.intro rfl (And.intro rfl (And.intro rfl (And.intro rfl (And.intro rfl (And.intro rfl (And.intro rfl (And.intro rfl (And.intro rfl (And.intro rfl (And.intro rfl (And.intro rfl (And.intro rfl (And.intro rfl (And.intro rfl (And.intro rfl (And.intro rfl (And.intro rfl trivial)))))))))))))))))))) rfl
