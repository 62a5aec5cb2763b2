/-! rows that this law wants beside the kit's own; the script seen by a callee; the law's own arrays -/
section XN
variable {k : xT} {l : Launch} {E : xEnv} {B : Nat} {cc : ByteArray} {nL : Nat} {ret : Option FieldType} {own mn : String} {fr lo ce sl N a b : Nat} {σ : Sg} {pc : Nat} {lv : List (Option Value)} {st : List Value}
theorem x_land (C : xC k l E B cc nL ret own mn fr lo ce sl) {x y : Int64} (d : decode cc pc = .ok (.land, 1))
    (kk : xX k N a b σ (pc + 1) lv (.long (x &&& y) :: st)) : xX k N a b σ pc lv (.long y :: .long x :: st) := by
  obtain ⟨p, l0, e, R, s, m, args, below, meth, c, Q, E0, B0, nL0⟩ := k
  obtain ⟨rfl, rfl, rfl, rfl, hx, hb, hml, hown, hts, hk, ⟨hR1, hR2, hR3, hR4⟩, hr, hlk, hmn, hBs⟩ := C
  intro H locs ls hh hS hl
  exact lv_land hx hb d (kk H locs ls hh hS hl)
theorem x_l2i (C : xC k l E B cc nL ret own mn fr lo ce sl) {x : Int64} (d : decode cc pc = .ok (.l2i, 1))
    (kk : xX k N a b σ (pc + 1) lv (.int x.toInt32 :: st)) : xX k N a b σ pc lv (.long x :: st) := by
  obtain ⟨p, l0, e, R, s, m, args, below, meth, c, Q, E0, B0, nL0⟩ := k
  obtain ⟨rfl, rfl, rfl, rfl, hx, hb, hml, hown, hts, hk, ⟨hR1, hR2, hR3, hR4⟩, hr, hlk, hmn, hBs⟩ := C
  intro H locs ls hh hS hl
  exact lv_l2i hx hb d rfl (kk H locs ls hh hS hl)
theorem x_areta {at1 : FieldType} {N2 : Nat} {σ2 : Sg} (C : xC k l E B cc nL (some (.array at1)) own mn fr lo ce sl) {v v2 : Value} (Z : xZ k ce sl N2 σ2 (some v2)) (d : decode cc pc = .ok (.areturn, 1)) (hvr : v = .null ∨ ∃ a, v = .ref a) (ha : a ≤ ce) (hb2 : b ≤ sl) (hN : N = N2) (hs : σ = σ2) (hv : v = v2) : xX k N a b σ pc lv [v] := by
  obtain ⟨p, l0, e, R, s, m, args, below, meth, c, Q, E0, B0, nL0⟩ := k
  obtain ⟨rfl, rfl, rfl, rfl, hx, hb, hml, hown, hts, hk, ⟨hR1, hR2, hR3, hR4⟩, hr, hlk, hmn, hBs⟩ := C
  subst hN; subst hs; subst hv
  have Z : Q = _ := Z
  subst Z
  intro H locs ls hh hS hl
  refine W.widen ha hb2 ?_
  exact W.aret hx hb hr (Or.inr ⟨_, rfl⟩) hvr (fun t ht hW => ⟨rfl, by rw [ht]; exact hh, xk.moved hW hk, hS.F ht⟩) hS.2.2 d hlk
/-- cells that are no longer asked -/
theorem xX.fg {σ2 : Sg} (h : ∀ q e, σ2 q = some e → σ q = some e) (kk : xX k N a b σ2 pc lv st) : xX k N a b σ pc lv st := by
  obtain ⟨p, l0, e, R, s, m, args, below, meth, c, Q, E0, B0, nL0⟩ := k
  intro H locs ls hh hS hl
  exact kk H locs ls ⟨hh.1, hh.2.1, fun q e z => hh.2.2 q e (h q e z)⟩ hS hl
/-- two ways that meet at pc M with one value on the stack -/
theorem xX.mrg (M : Nat) (v : Int32) (hm : xX k N a b σ M lv (.int v :: st) → xX k N a b σ pc lv st) (kk : xX k N a b σ M lv (.int v :: st)) : xX k N a b σ pc lv st := hm kk
theorem xX.vl {v v2 : Int32} (kk : xX k N a b σ pc lv (.int v :: st)) (h : v = v2) : xX k N a b σ pc lv (.int v2 :: st) := h ▸ kk
end XN
def xScr (k : xT) (bb L : Nat) (xs : Nat → Int32) : Prop := match k with
  | (_, _, _, _, s, _, _, _, _, _, _, _, B, _) => va_X bb L xs s s.heap ∧ bb < B
section XL
variable {k : xT} {l : Launch} {E : xEnv} {B : Nat} {cc : ByteArray} {nL : Nat} {ret : Option FieldType} {own mn : String} {fr lo ce sl N a b : Nat} {σ : Sg} {pc : Nat} {lv : List (Option Value)} {st : List Value} {bb L : Nat} {xs : Nat → Int32}
theorem x_sld (C : xC k l E B cc nL ret own mn fr lo ce sl) (hX : xScr k bb L xs) {i : Int32} {q : Nat} (hi : i = nI q) (hq : q < L) (hL : L < 2 ^ 31) (d : decode cc pc = .ok (.iaload, 1))
    (kk : xX k N a b σ (pc + 1) lv (.int (xs q) :: st)) : xX k N a b σ pc lv (.int i :: .ref bb :: st) := by
  obtain ⟨p, l0, e, R, s, m, args, below, meth, c, Q, E0, B0, nL0⟩ := k
  obtain ⟨rfl, rfl, rfl, rfl, hx, hb, hml, hown, hts, hk, ⟨hR1, hR2, hR3, hR4⟩, hr, hlk, hmn, hBs⟩ := C
  obtain ⟨X1, X2⟩ := hX
  subst hi
  intro H locs ls hh hS hl
  refine va_sld hx hb X1 (Nat.lt_of_lt_of_le X2 hBs) (Nat.not_le.mpr X2) hS (vp_in_nI hq hL) d ?_
  rw [nI_clamp (by omega)]
  exact kk H locs ls hh hS hl
theorem x_slen (C : xC k l E B cc nL ret own mn fr lo ce sl) (hX : xScr k bb L xs) (d : decode cc pc = .ok (.arraylength, 1))
    (kk : xX k N a b σ (pc + 1) lv (.int (nI L) :: st)) : xX k N a b σ pc lv (.ref bb :: st) := by
  obtain ⟨p, l0, e, R, s, m, args, below, meth, c, Q, E0, B0, nL0⟩ := k
  obtain ⟨rfl, rfl, rfl, rfl, hx, hb, hml, hown, hts, hk, ⟨hR1, hR2, hR3, hR4⟩, hr, hlk, hmn, hBs⟩ := C
  obtain ⟨X1, X2⟩ := hX
  intro H locs ls hh hS hl
  exact va_slen hx hb X1 (Nat.lt_of_lt_of_le X2 hBs) (Nat.not_le.mpr X2) hS d (kk H locs ls hh hS hl)
end XL
/-- a contract of a method that reads the script -/
def xMs (l : Launch) (y : MethodName) (cc : ByteArray) (nL : Nat) (ret : Option FieldType) (fr lo ce sl : Nat) (E : xEnv) (B : Nat) (bb L : Nat) (xs : Nat → Int32) (av : List Value) (N : Nat) (σ : Sg) (N2 : Nat) (σ2 : Sg) (oc : Option Value) : Prop :=
  Met l y (.code y cc nL ret :: xG) { frames := fr, cells := ce, slots := sl, locals := lo } (va_Pc av (fun U => (xh E B N σ U.heap ∧ xk E U) ∧ va_X bb L xs U U.heap)) (xQc E B N2 σ2 oc) ce sl (fun q => B ≤ q)
theorem xMs_of {l : Launch} {y : MethodName} {cc : ByteArray} {nL : Nat} {ret : Option FieldType} {fr lo ce sl : Nat} {E : xEnv} {B bb L : Nat} {xs : Nat → Int32} {av : List Value} {N : Nat} {σ : Sg} {N2 : Nat} {σ2 : Sg} {oc : Option Value} (hbb : bb < B) (lv0 : List (Option Value)) (hy : plainName y.cls = true) (hlen : (lg_sl av).length ≤ nL) (ha : xL 0 lv0 = lv_args 0 av)
    (body : ∀ k : xT, xC k l E B cc nL ret y.cls y.name fr lo ce sl → xZ k ce sl N2 σ2 oc → xScr k bb L xs → xX k N 0 0 σ 0 lv0 []) : xMs l y cc nL ret fr lo ce sl E B bb L xs av N σ N2 σ2 oc := by
  refine Met.ofW (cc := cc) (maxL := nL) (ret := ret) hy rfl ?_
  intro p e s m args below meth c s₁ Bd hml hv
  obtain ⟨rfl, ⟨hh, hk⟩, hX⟩ := hv
  have hts := atoms_spec (ws := .code y cc nL ret :: xG) Bd.pre
  have h := body (p, l, e, { frames := fr, cells := ce, slots := sl, locals := lo }, s, m, av.toArray, below, meth, c, MQ below (xQc E B N2 σ2 oc) av.toArray s ce sl (fun q => B ≤ q), E, B, nL) ⟨rfl, rfl, rfl, rfl, Bd.exec, Bd.bytes, hml, findClass_of_methodNamed Bd.named, fun w hw => hts w (List.mem_cons_of_mem _ hw), hk, ⟨rfl, rfl, rfl, rfl⟩, Bd.returns, Bd.notSynchronized, (name_of_methodNamed Bd.named Bd.method).1, by rw [hh.1]; exact hh.2.1⟩ rfl ⟨hX, hbb⟩
  rw [lg_entry_eq]
  have hl := lv_entry av (n := nL) hlen
  rw [← ha] at hl
  exact h s.heap [] _ hh va_S.rf hl
theorem x_pres {E : xEnv} {B N bb L : Nat} {xs : Nat → Int32} {σ : Sg} {av : List Value} : FrameBlind (va_Pc av (fun U => (xh E B N σ U.heap ∧ xk E U) ∧ va_X bb L xs U U.heap)) := fun a U g mk q => ⟨q.1, ⟨q.2.1.1, xk.same (u := U) (U := U.calling g mk a) rfl q.2.1.2⟩, va_X.moved (u := U) (U := U.calling g mk a) (Vm.Alike.refl _) q.2.2⟩
section XRS
variable {k : xT} {l : Launch} {E : xEnv} {B : Nat} {cc : ByteArray} {nL : Nat} {ret : Option FieldType} {own mn : String} {fr lo ce sl N a b : Nat} {σ : Sg} {pc : Nat} {lv : List (Option Value)} {st : List Value}
variable {y : MethodName} {cc2 : ByteArray} {nL2 : Nat} {ret2 : Option FieldType} {fr2 lo2 ce2 sl2 : Nat} {As : List Value} {N2 : Nat} {σ1 σ2 σ3 : Sg} {oc : Option Value} {idx n b0 : Nat} {st0 : List Value}
theorem x_callSs {bb L : Nat} {xs : Nat → Int32} (C : xC k l E B cc nL ret own mn fr lo ce sl) (hX : xScr k bb L xs) (hM : xMs l y cc2 nL2 ret2 fr2 lo2 ce2 sl2 E B bb L xs As N σ1 N2 σ2 oc) (hY : xYs y cc2 nL2 ret2 n) (hl0 : xLk own idx y) (d : decode cc pc = .ok (.invokestatic idx, 3)) (hs1 : σ = σ1) (hs2 : σ2 = σ3) (hn : As.length = n) (hst : st0 = As.reverse ++ st) (hcat : (st.map fun v => v.category).sum ≤ 8) (hr1 : fr2 + 1 ≤ fr) (hr2 : 8 + (nL2 + 11) + lo2 ≤ lo) (hr3 : a + ce2 ≤ ce) (hr4 : b + sl2 ≤ sl)
    (kk : xX k N2 (a + ce2) (b + sl2) σ3 (pc + 3) lv (oc.toList ++ st)) : xX k N a b σ pc lv st0 := by
  obtain ⟨p, l0, e, R, s, m, args, below, meth, c, Q, E0, B0, nL0⟩ := k
  obtain ⟨rfl, rfl, rfl, rfl, hx, hb, hml, hown, hts, hk, ⟨hR1, hR2, hR3, hR4⟩, hr, hlk, hmn, hBs⟩ := C
  obtain ⟨X1, X2⟩ := hX
  subst hs1; subst hs2; subst hst
  obtain ⟨w1, w3, w4, w5, w6, w7⟩ := hY
  intro H locs ls hh hS hl
  have hpv : PreS s H (va_Pc As (fun U => (xh E0 B0 N σ U.heap ∧ xk E0 U) ∧ va_X bb L xs U U.heap)) As := ⟨x_pres, fun U hU hW => ⟨rfl, ⟨by rw [hU]; exact hh, xk.moved hW hk⟩, by rw [hU]; exact va_X.moved hW.alike (X1.kept (hS.2.1 bb (Nat.lt_of_lt_of_le X2 hBs) (Nat.not_le.mpr X2)))⟩⟩
  have hlen : ∀ sig, parseMethodDescriptor y.desc = some sig → n = sig.parameters.length := fun sig h => by
    rw [h] at w7
    exact (Option.some.inj w7).symm
  rcases hl0 with h | ⟨host, h⟩
  · have hrun := va_runS (e := e) (meth := meth) (below := below) (H := H) (locs := locs) (cells := a) (slots := b) (rest := st) (g := F0 m pc ls (As.reverse ++ st)) ⟨hx, hb, hml, hown, hts⟩ hM (index := idx) ⟨⟨rfl, rfl, by rw [hR1]; exact hr1, by rw [hR2]; exact hr2, x_ws hts w3, List.mem_cons_self, hts _ w3, hts _ w4, ⟨w5, w6⟩, hlen, hts _ h⟩, hts _ w1⟩ hpv rfl hn hl.1 rfl (lv_room hcat) d ⟨by rw [hR3]; exact hr3, by rw [hR4]; exact hr4⟩
    exact x_run hk rfl hrun hS hl hBs kk
  · have hrun := va_runSN (e := e) (meth := meth) (below := below) (H := H) (locs := locs) (cells := a) (slots := b) (rest := st) (g := F0 m pc ls (As.reverse ++ st)) ⟨hx, hb, hml, hown, hts⟩ hM (index := idx) (host := host) ⟨⟨⟨rfl, rfl, by rw [hR1]; exact hr1, by rw [hR2]; exact hr2, x_ws hts w3, List.mem_cons_self⟩, hts _ w3, hts _ w4, ⟨w5, w6⟩, hlen, va_Nw.use rfl (hk.2 _ h)⟩, hts _ w1, trivial⟩ hpv rfl hn hl.1 rfl (lv_room hcat) d ⟨by rw [hR3]; exact hr3, by rw [hR4]; exact hr4⟩
    exact x_run hk rfl hrun hS hl hBs kk
end XRS
/-- the law's own village: its numbers at A (17), its four rows of weights behind (60 each) -/
def wput (E : xEnv) (σ : Sg) (A : Nat) (Q : Fn) (R : Nat → Fn) : Sg := fun a => if a = A then some (.inl (xI E, 17, .inl Q)) else if A < a ∧ a < A + 5 then some (.inl (xI E, 60, .inl (R (a - A - 1)))) else σ a
def upR (R : Nat → Fn) (w : Nat) (g : Fn) : Nat → Fn := fun t => if t = w then g else R t
theorem upR_s {R : Nat → Fn} {w : Nat} {g : Fn} : upR R w g w = g := if_pos rfl
theorem upR_n {R : Nat → Fn} {w t : Nat} {g : Fn} (h : t ≠ w) : upR R w g t = R t := if_neg h
theorem upR_u {R : Nat → Fn} {w : Nat} {f g : Fn} : upR (upR R w f) w g = upR R w g := by
  funext t
  by_cases h : t = w
  · subst h; rw [upR_s, upR_s]
  · rw [upR_n h, upR_n h, upR_n h]
theorem upR_e {R : Nat → Fn} {w : Nat} : upR R w (R w) = R := by
  funext t
  by_cases h : t = w
  · subst h; exact upR_s
  · exact upR_n h
section WP
variable {E : xEnv} {σ : Sg} {A w : Nat} {Q : Fn} {R : Nat → Fn}
theorem wput_q : wput E σ A Q R A = some (.inl (xI E, 17, .inl Q)) := if_pos rfl
theorem wput_r (hw : w < 4) : wput E σ A Q R (A + 1 + w) = some (.inl (xI E, 60, .inl (R w))) := by
  unfold wput
  rw [if_neg (by omega), if_pos (by omega), show A + 1 + w - A - 1 = w by omega]
theorem wput_out {a : Nat} (h : a < A ∨ A + 5 ≤ a) : wput E σ A Q R a = σ a := by
  unfold wput
  rw [if_neg (by omega), if_neg (by omega)]
theorem wput_uq {g : Fn} : xup (wput E σ A Q R) A (.inl (xI E, 17, .inl g)) = wput E σ A g R := by
  funext a
  by_cases h : a = A
  · subst h; rw [xup_s, wput_q]
  · rw [xup_n h]
    unfold wput
    rw [if_neg h, if_neg h]
theorem wput_ur (hw : w < 4) {g : Fn} : xup (wput E σ A Q R) (A + 1 + w) (.inl (xI E, 60, .inl g)) = wput E σ A Q (upR R w g) := by
  funext a
  by_cases h : a = A + 1 + w
  · subst h; rw [xup_s, wput_r hw, upR_s]
  · rw [xup_n h]
    unfold wput
    by_cases h1 : a = A
    · rw [if_pos h1, if_pos h1]
    · rw [if_neg h1, if_neg h1]
      by_cases h2 : A < a ∧ a < A + 5
      · rw [if_pos h2, if_pos h2, upR_n (by omega)]
      · rw [if_neg h2, if_neg h2]
theorem wput_c {B : Nat} {VV : Cs} {nx sz len : Int32} {tx : Fn} (h : B + 165 ≤ A) : wput E (cput E σ B VV nx sz len tx) A Q R = cput E (wput E σ A Q R) B VV nx sz len tx := by
  funext a
  by_cases h1 : B ≤ a ∧ a < B + 165
  · rw [wput_out (by omega), cput_in h1.1 h1.2, cput_in h1.1 h1.2]
  · rw [cput_out (by omega)]
    unfold wput
    rw [cput_out (by omega)]
theorem wput_0 {B : Nat} {VV : Cs} {nx sz len : Int32} {tx : Fn} : wput E (cput E σ B VV nx sz len tx) (B + 165) Q R B = some (.inr (4, [.ref (B + 1), .ref (B + 21), .ref (B + 41), .ref (B + 163)])) := (wput_out (Or.inl (by omega))).trans cput_0
/-- an array made behind all, and forgotten -/
theorem wput_fg {n : Nat} {e : va_E} (hn : σ n = none) : ∀ q e2, σ q = some e2 → xup σ n e q = some e2 := by
  intro q e2 h
  by_cases hq : q = n
  · subst hq; rw [hn] at h; cases h
  · rw [xup_n hq]; exact h
end WP
/-- a loop that counts down -/
theorem x_down {P : Nat → Prop} (n : Nat) (h0 : P 0) (hs : ∀ i, i < n → P i → P (i + 1)) : ∀ i, i ≤ n → P i
  | 0, _ => h0
  | i + 1, h => hs i (by omega) (x_down n h0 hs i (by omega))
theorem nI_dec (n : Nat) : nI (n + 1) + Int32.ofInt (-1) = nI n := pk_m1 n
theorem nI_p1 (n : Nat) : nI (n + 1) - 1 = nI n := nI_pred n
theorem nI_m (n : Nat) : nI n + Int32.ofInt (-1) = nI n - 1 := by
  rw [Int32.sub_eq_add_neg]; rfl
theorem ix10 (a b : Nat) : 10 * nI a + nI b = nI (10 * a + b) := by
  rw [show (10 : Int32) = nI 10 from rfl, pk_mul, nI_add]
theorem ix9 (a : Nat) : 9 + nI a = nI (9 + a) := by
  rw [show (9 : Int32) = nI 9 from rfl, nI_add]
theorem ix13 (a : Nat) : 13 + nI a = nI (13 + a) := by
  rw [show (13 : Int32) = nI 13 from rfl, nI_add]
theorem ix5 (a : Nat) : 5 + nI a = nI (5 + a) := by
  rw [show (5 : Int32) = nI 5 from rfl, nI_add]
theorem ix2 (a : Nat) : 2 * nI a = nI (2 * a) := by
  rw [show (2 : Int32) = nI 2 from rfl, pk_mul]
/-- what is drawn -/
theorem l_and {n : Nat} : lN n &&& 65535 = lN (n % 65536) := by
  apply Int64.toBitVec_inj.mp
  apply BitVec.eq_of_toNat_eq
  rw [Int64.toBitVec_and, BitVec.toNat_and, show (65535 : Int64).toBitVec.toNat = 2 ^ 16 - 1 from rfl, Nat.and_two_pow_sub_one_eq_mod]
  show (BitVec.ofNat 64 n).toNat % 2 ^ 16 = (BitVec.ofNat 64 _).toNat
  rw [BitVec.toNat_ofNat, BitVec.toNat_ofNat]
  omega
theorem l_dr {s : Nat} (h : s < 65536) : ((25173 * (nI s).toInt64 + 13849) &&& (65535 : Int64)).toInt32 = nI (sdN (nI s)) := by
  unfold sdN
  rw [nI_l (by omega), nI_clamp (by omega), show (25173 : Int64) = lN 25173 from rfl, show (13849 : Int64) = lN 13849 from rfl, lN_mul, lN_add, l_and, lN_i]
def lwN2 (x : Int32) (n : Nat) : Nat := x.toBitVec.toNat % 2 ^ 31 % n
theorem lw_lt {x : Int32} {n : Nat} (h : 0 < n) : lwN2 x n < n := Nat.mod_lt _ h
theorem lw_e {x : Int32} {n : Nat} (h : 0 < n) (hn : n < 2 ^ 31) : (x &&& 2147483647) - (x &&& 2147483647) / nI n * nI n = nI (lwN2 x n) := by
  rw [pk_and x 31 (by decide), pk_rem (by have := Nat.mod_lt x.toBitVec.toNat (show 0 < 2 ^ 31 by decide); omega) h hn]
  rfl
