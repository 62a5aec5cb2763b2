/-! THE OWN JUDGEMENT. xX k N a b σ pc lv st: from the frame at pc with locals lv (by place) and stack st, over any heap of N cells that holds the map σ (address -> cell), the method comes to its end as wanted. k: all that stays the same in one call. -/
def xNest : Cond → Bool
  | .fieldLinkNest _ _ _ _ _ _ => true
  | .methodLinkNest _ _ _ _ => true
  | .arrayOver (.object _) => true
  | _ => false
def xG : List Cond := lw_tbl.filter goodWord
def xGN : List Cond := lw_tbl.filter xNest
theorem xG_of {i : Nat} {w : Cond} (h : lw_tbl[i]? = some w) (g : goodWord w = true) : w ∈ xG := List.mem_filter.mpr ⟨List.mem_of_getElem? h, g⟩
theorem xGN_of {i : Nat} {w : Cond} (h : lw_tbl[i]? = some w) (g : xNest w = true) : w ∈ xGN := List.mem_filter.mpr ⟨List.mem_of_getElem? h, g⟩
theorem xG_good {w : Cond} (h : w ∈ xG) : (w.onTables && w.keeps) = true ∨ ∃ ty, w = .arrayClass ty := good_of_word (List.mem_filter.mp h).2
abbrev xEnv : Type := va_G × ClassId × ClassId × ClassId × ClassId
abbrev xI (E : xEnv) : ClassId := E.2.1
abbrev xCh (E : xEnv) : ClassId := E.2.2.1
abbrev xSp (E : xEnv) : ClassId := E.2.2.2.1
abbrev xVi (E : xEnv) : ClassId := E.2.2.2.2
def xtys (E : xEnv) : List (ClassId × FieldType) := [(xI E, .int), (xCh E, .char), (xSp E, .object RX2), (xVi E, .object RX3)]
def xk (E : xEnv) (U : State) : Prop := va_K E.1 vwCl (xtys E) U ∧ ∀ w ∈ xGN, va_Nw w U
theorem xNw_moved {s U : State} (hW : s.WarmedH U.vm) {w : Cond} (hn : xNest w = true) (h : va_Nw w s) : va_Nw w U := by
  cases w with
  | fieldLinkNest a i b n d q => exact va_Nw.warmF hW h
  | methodLinkNest a i x q => exact va_Nw.warmM hW h
  | arrayOver t =>
    cases t with
    | object C => exact va_AO.moved hW.alike h
    | _ => simp [xNest] at hn
  | _ => simp [xNest] at hn
theorem xk.moved {E : xEnv} {s U : State} (hW : s.WarmedH U.vm) (h : xk E s) : xk E U :=
  ⟨va_K.moved hW.alike h.1, fun w hw => xNw_moved hW (List.mem_filter.mp hw).2 (h.2 w hw)⟩
theorem xNw_same {u U : State} (hv : u.vm = U.vm) {w : Cond} (hn : xNest w = true) (h : va_Nw w u) : va_Nw w U := by
  cases w with
  | fieldLinkNest a i b n d q => exact va_Nw.same rfl hv h
  | methodLinkNest a i x q => exact va_Nw.same rfl hv h
  | arrayOver t =>
    cases t with
    | object C => exact va_AO.moved (by rw [hv]; exact Vm.Alike.refl _) h
    | _ => simp [xNest] at hn
  | _ => simp [xNest] at hn
theorem xk.same {E : xEnv} {u U : State} (hv : u.vm = U.vm) (h : xk E u) : xk E U :=
  ⟨va_K.moved (by rw [hv]; exact Vm.Alike.refl _) h.1, fun w hw => xNw_same hv (List.mem_filter.mp hw).2 (h.2 w hw)⟩
abbrev Sg : Type := Nat → Option va_E
def xup (σ : Sg) (a : Nat) (e : va_E) : Sg := fun q => if q = a then some e else σ q
theorem xup_s {σ : Sg} {a : Nat} {e : va_E} : xup σ a e a = some e := by simp [xup]
theorem xup_n {σ : Sg} {a q : Nat} {e : va_E} (h : q ≠ a) : xup σ a e q = σ q := by simp [xup, h]
def xh (E : xEnv) (B N : Nat) (σ : Sg) (H : Heap) : Prop := H.size = N ∧ B ≤ N ∧ ∀ a e, σ a = some e → B ≤ a ∧ va_at E.1 vwCl (a, e) H
theorem xh.put {E : xEnv} {B N : Nat} {σ : Sg} {H H1 : Heap} {a : Nat} {e0 e : va_E} (h : xh E B N σ H) (h0 : σ a = some e0) (z : H1.size = H.size) (oq : ∀ q : Nat, q ≠ a → H1[q]? = H[q]?) (he : va_at E.1 vwCl (a, e) H1) : xh E B N (xup σ a e) H1 := by
  refine ⟨by rw [z]; exact h.1, h.2.1, fun q x hx => ?_⟩
  by_cases hq : q = a
  · subst hq
    rw [xup_s] at hx
    cases hx
    exact ⟨(h.2.2 q e0 h0).1, he⟩
  · rw [xup_n hq] at hx
    obtain ⟨h1, h2⟩ := h.2.2 q x hx
    exact ⟨h1, h2.kept (oq q hq)⟩
theorem xh.push {E : xEnv} {B N : Nat} {σ : Sg} {H H1 : Heap} {e : va_E} (h : xh E B N σ H) (z : H1.size = N + 1) (oq : ∀ q : Nat, q < N → H1[q]? = H[q]?) (he : va_at E.1 vwCl (N, e) H1) : xh E B (N + 1) (xup σ N e) H1 := by
  refine ⟨z, Nat.le_succ_of_le h.2.1, fun q x hx => ?_⟩
  by_cases hq : q = N
  · subst hq
    rw [xup_s] at hx
    cases hx
    exact ⟨h.2.1, he⟩
  · rw [xup_n hq] at hx
    obtain ⟨h1, h2⟩ := h.2.2 q x hx
    have hl := h2.lt
    rw [h.1] at hl
    exact ⟨h1, h2.kept (oq q hl)⟩
theorem xh.fresh {E : xEnv} {B N : Nat} {σ : Sg} {H : Heap} (h : xh E B N σ H) {q : Nat} (hq : N ≤ q) : σ q = none := by
  cases hx : σ q with
  | none => rfl
  | some x =>
    have hl := ((h.2.2 q x hx).2).lt
    rw [h.1] at hl
    exact absurd hl (Nat.not_lt.mpr hq)
-- locals, by place
def xL : Nat → List (Option Value) → List (Nat × Value)
  | _, [] => []
  | i, none :: l => xL (i + 1) l
  | i, some v :: l => (i, v) :: xL (i + 1) l
def xget : List (Option Value) → Nat → Option Value
  | [], _ => none
  | o :: _, 0 => o
  | _ :: l, n + 1 => xget l n
def xset : List (Option Value) → Nat → Value → List (Option Value)
  | [], _, _ => []
  | _ :: l, 0, v => some v :: l
  | o :: l, n + 1, v => o :: xset l n v
def xset2 : List (Option Value) → Nat → Value → List (Option Value)
  | [], _, _ => []
  | [_], 0, v => [some v]
  | _ :: _ :: l, 0, v => some v :: none :: l
  | o :: l, n + 1, v => o :: xset2 l n v
def xnl (lv : List (Option Value)) (i : Nat) : Bool := match i with
  | 0 => true
  | n + 1 => match xget lv n with
    | some v => v.category != 2
    | none => true
theorem xget_mem : ∀ (lv : List (Option Value)) (i j : Nat) (v : Value), xget lv j = some v → (i + j, v) ∈ xL i lv
  | [], _, _, _, h => by simp [xget] at h
  | o :: l, i, 0, v, h => by
    simp only [xget] at h
    subst h
    simp [xL]
  | o :: l, i, n + 1, v, h => by
    simp only [xget] at h
    have h1 := xget_mem l (i + 1) n v h
    rw [show i + 1 + n = i + (n + 1) by omega] at h1
    cases o with
    | none => exact h1
    | some x => exact List.mem_cons_of_mem _ h1
theorem xmem_get : ∀ (lv : List (Option Value)) (i : Nat) (q : Nat × Value), q ∈ xL i lv → i ≤ q.1 ∧ xget lv (q.1 - i) = some q.2
  | [], _, _, h => by simp [xL] at h
  | none :: l, i, q, h => by
    obtain ⟨h1, h2⟩ := xmem_get l (i + 1) q h
    refine ⟨by omega, ?_⟩
    rw [show q.1 - i = (q.1 - (i + 1)) + 1 by omega]
    exact h2
  | some v :: l, i, q, h => by
    rcases List.mem_cons.mp h with h | h
    · subst h
      simp [xget]
    · obtain ⟨h1, h2⟩ := xmem_get l (i + 1) q h
      refine ⟨by omega, ?_⟩
      rw [show q.1 - i = (q.1 - (i + 1)) + 1 by omega]
      exact h2
theorem xmem_of : ∀ (lv : List (Option Value)) (i j : Nat) (v : Value), xget lv j = some v → (i + j, v) ∈ xL i lv := xget_mem
theorem xget_set : ∀ (lv : List (Option Value)) (i j : Nat) (v x : Value), xget (xset lv i v) j = some x → (j = i ∧ x = v) ∨ (j ≠ i ∧ xget lv j = some x)
  | [], _, _, _, _, h => by simp [xset, xget] at h
  | o :: l, 0, 0, v, x, h => by
    simp only [xset, xget] at h
    cases h
    exact Or.inl ⟨rfl, rfl⟩
  | o :: l, 0, j + 1, v, x, h => Or.inr ⟨by omega, h⟩
  | o :: l, i + 1, 0, v, x, h => Or.inr ⟨by omega, h⟩
  | o :: l, i + 1, j + 1, v, x, h => by
    rcases xget_set l i j v x h with ⟨h1, h2⟩ | ⟨h1, h2⟩
    · exact Or.inl ⟨by omega, h2⟩
    · exact Or.inr ⟨by omega, h2⟩
theorem xget_set2 : ∀ (lv : List (Option Value)) (i j : Nat) (v x : Value), xget (xset2 lv i v) j = some x → (j = i ∧ x = v) ∨ (j ≠ i ∧ j ≠ i + 1 ∧ xget lv j = some x)
  | [], _, _, _, _, h => by simp [xset2, xget] at h
  | [o], 0, 0, v, x, h => by
    simp only [xset2, xget] at h
    cases h
    exact Or.inl ⟨rfl, rfl⟩
  | [o], 0, j + 1, v, x, h => by simp [xset2, xget] at h
  | o :: o2 :: l, 0, 0, v, x, h => by
    simp only [xset2, xget] at h
    cases h
    exact Or.inl ⟨rfl, rfl⟩
  | o :: o2 :: l, 0, 1, v, x, h => by simp [xset2, xget] at h
  | o :: o2 :: l, 0, j + 2, v, x, h => Or.inr ⟨by omega, by omega, h⟩
  | [o], i + 1, 0, v, x, h => Or.inr ⟨by omega, by omega, h⟩
  | o :: o2 :: l, i + 1, 0, v, x, h => Or.inr ⟨by omega, by omega, h⟩
  | [o], i + 1, j + 1, v, x, h => by simp [xset2, xget] at h
  | o :: o2 :: l, i + 1, j + 1, v, x, h => by
    rcases xget_set2 (o2 :: l) i j v x h with ⟨h1, h2⟩ | ⟨h1, h2, h3⟩
    · exact Or.inl ⟨by omega, h2⟩
    · exact Or.inr ⟨by omega, by omega, h3⟩
theorem xat {ls : Array Slot} {nL : Nat} {lv : List (Option Value)} (h : lv_has ls nL (xL 0 lv)) {i : Nat} {v : Value} (hg : xget lv i = some v) : ls[i]? = some (.val v) := by
  have h1 := xget_mem lv 0 i v hg
  rw [Nat.zero_add] at h1
  exact h.2.2 _ h1
theorem xst1 {ls : Array Slot} {nL : Nat} {lv : List (Option Value)} {i : Nat} {v : Value} (hn : xnl lv i = true) (h : lv_has ls nL ((i, v) :: (xL 0 lv).filter (fun q => !(q.1 == i) && !(q.1 + 1 == i && q.2.category == 2)))) : lv_has ls nL (xL 0 (xset lv i v)) := by
  refine ⟨h.1, h.2.1, fun q hq => ?_⟩
  obtain ⟨-, h2⟩ := xmem_get _ 0 q hq
  rw [Nat.sub_zero] at h2
  refine h.2.2 q ?_
  rcases xget_set lv i q.1 v q.2 h2 with ⟨h3, h4⟩ | ⟨h3, h4⟩
  · exact List.mem_cons.mpr (Or.inl (Prod.ext h3 h4))
  · refine List.mem_cons_of_mem _ (List.mem_filter.mpr ⟨?_, ?_⟩)
    · have h5 := xget_mem lv 0 q.1 q.2 h4
      rw [Nat.zero_add] at h5
      exact h5
    · by_cases h6 : q.1 + 1 = i
      · subst h6
        simp only [xnl, h4] at hn
        simp at hn
        simp [hn]
      · simp [h3, h6]
theorem xst2 {ls : Array Slot} {nL : Nat} {lv : List (Option Value)} {i : Nat} {v : Value} (hn : xnl lv i = true) (h : lv_has ls nL ((i, v) :: (xL 0 lv).filter (fun q => !(q.1 == i) && (!(q.1 == i + 1) && !(q.1 + 1 == i && q.2.category == 2))))) : lv_has ls nL (xL 0 (xset2 lv i v)) := by
  refine ⟨h.1, h.2.1, fun q hq => ?_⟩
  obtain ⟨-, h2⟩ := xmem_get _ 0 q hq
  rw [Nat.sub_zero] at h2
  refine h.2.2 q ?_
  rcases xget_set2 lv i q.1 v q.2 h2 with ⟨h3, h4⟩ | ⟨h3, h3b, h4⟩
  · exact List.mem_cons.mpr (Or.inl (Prod.ext h3 h4))
  · refine List.mem_cons_of_mem _ (List.mem_filter.mpr ⟨?_, ?_⟩)
    · have h5 := xget_mem lv 0 q.1 q.2 h4
      rw [Nat.zero_add] at h5
      exact h5
    · by_cases h6 : q.1 + 1 = i
      · subst h6
        simp only [xnl, h4] at hn
        simp at hn
        simp [hn]
        omega
      · simp [h3, h3b, h6]
-- the judgement
abbrev xT : Type := Program × Launch × Env × Room × State × MethodId × Array Value × List Frame × Method × Code × (State → Prop) × xEnv × Nat × Nat
def xX (k : xT) (N a b : Nat) (σ : Sg) (pc : Nat) (lv : List (Option Value)) (st : List Value) : Prop := match k with
  | (p, l, e, R, s, m, args, below, meth, c, Q, E, B, nL) => ∀ (H : Heap) (locs : List Loc) (ls : Array Slot), xh E B N σ H → va_S (fun q => B ≤ q) s.heap H locs → lv_has ls nL (xL 0 lv) → W p l e R s m args below meth c H locs a b Q (F0 m pc ls st)
def xC (k : xT) (l0 : Launch) (E0 : xEnv) (B0 : Nat) (cc : ByteArray) (nL0 : Nat) (ret : Option FieldType) (own mn : String) (fr lo ce sl : Nat) : Prop := match k with
  | (p, l, e, R, s, m, args, below, meth, c, Q, E, B, nL) => l = l0 ∧ E = E0 ∧ B = B0 ∧ nL = nL0 ∧ p.tables.exec = Jvm.exec ∧ c.code = cc ∧ c.maxLocals = nL0 ∧ s.vm.findClass own = some m.cls ∧ (∀ w ∈ xG, w.before args s = true) ∧ xk E0 s ∧ (R.frames = fr ∧ R.locals = lo ∧ R.cells = ce ∧ R.slots = sl) ∧ meth.sig.returnType = ret ∧ meth.locks = false ∧ meth.name = mn ∧ B0 ≤ s.heap.size
def xQc (E : xEnv) (B N : Nat) (σ : Sg) (oc : Option Value) : Array Value → State → Outcome → State → Prop := fun _ st o t => o = .returned oc ∧ xh E B N σ t.heap ∧ xk E t ∧ va_F (fun q => B ≤ q) st t
def xZ (k : xT) (ce sl N : Nat) (σ : Sg) (oc : Option Value) : Prop := match k with
  | (p, l, e, R, s, m, args, below, meth, c, Q, E, B, nL) => Q = MQ below (xQc E B N σ oc) args s ce sl (fun q => B ≤ q)
/-- a method's contract: called with av over the map σ (N cells), it answers oc, over the map σ2 (N2 cells) -/
def xM (l : Launch) (y : MethodName) (cc : ByteArray) (nL : Nat) (ret : Option FieldType) (fr lo ce sl : Nat) (E : xEnv) (B : Nat) (av : List Value) (N : Nat) (σ : Sg) (N2 : Nat) (σ2 : Sg) (oc : Option Value) : Prop :=
  Met l y (.code y cc nL ret :: xG) { frames := fr, cells := ce, slots := sl, locals := lo } (va_Pc av (fun U => xh E B N σ U.heap ∧ xk E U)) (xQc E B N2 σ2 oc) ce sl (fun q => B ≤ q)
theorem xM_of {l : Launch} {y : MethodName} {cc : ByteArray} {nL : Nat} {ret : Option FieldType} {fr lo ce sl : Nat} {E : xEnv} {B : Nat} {av : List Value} {N : Nat} {σ : Sg} {N2 : Nat} {σ2 : Sg} {oc : Option Value} (lv0 : List (Option Value)) (hy : plainName y.cls = true) (hlen : (lg_sl av).length ≤ nL) (ha : xL 0 lv0 = lv_args 0 av)
    (body : ∀ k : xT, xC k l E B cc nL ret y.cls y.name fr lo ce sl → xZ k ce sl N2 σ2 oc → xX k N 0 0 σ 0 lv0 []) : xM l y cc nL ret fr lo ce sl E B av N σ N2 σ2 oc := by
  refine Met.ofW (cc := cc) (maxL := nL) (ret := ret) hy rfl ?_
  intro p e s m args below meth c s₁ Bd hml hv
  obtain ⟨rfl, hh, hk⟩ := hv
  have hts := atoms_spec (ws := .code y cc nL ret :: xG) Bd.pre
  have h := body (p, l, e, { frames := fr, cells := ce, slots := sl, locals := lo }, s, m, av.toArray, below, meth, c, MQ below (xQc E B N2 σ2 oc) av.toArray s ce sl (fun q => B ≤ q), E, B, nL) ⟨rfl, rfl, rfl, rfl, Bd.exec, Bd.bytes, hml, findClass_of_methodNamed Bd.named, fun w hw => hts w (List.mem_cons_of_mem _ hw), hk, ⟨rfl, rfl, rfl, rfl⟩, Bd.returns, Bd.notSynchronized, (name_of_methodNamed Bd.named Bd.method).1, by rw [hh.1]; exact hh.2.1⟩ rfl
  rw [lg_entry_eq]
  have hl := lv_entry av (n := nL) hlen
  rw [← ha] at hl
  exact h s.heap [] _ hh va_S.rf hl

section XR
variable {k : xT} {l : Launch} {E : xEnv} {B : Nat} {cc : ByteArray} {nL : Nat} {ret : Option FieldType} {own mn : String} {fr lo ce sl N a b : Nat} {σ : Sg} {pc : Nat} {lv : List (Option Value)} {st : List Value}
theorem xX.widen {a2 b2 : Nat} (h1 : a ≤ a2) (h2 : b ≤ b2) (kk : xX k N a2 b2 σ pc lv st) : xX k N a b σ pc lv st := by
  obtain ⟨p, l0, e, R, s, m, args, below, meth, c, Q, E0, B0, nL0⟩ := k
  intro H locs ls hh hS hl
  exact W.widen h1 h2 (kk H locs ls hh hS hl)
theorem xX.sg {σ2 : Sg} (h : σ = σ2) (kk : xX k N a b σ2 pc lv st) : xX k N a b σ pc lv st := h ▸ kk
theorem xX.cg {σ2 : Sg} {lv2 : List (Option Value)} {st2 : List Value} (kk : xX k N a b σ2 pc lv2 st2) (h : σ = σ2) (h2 : lv = lv2) (h3 : st = st2) : xX k N a b σ pc lv st := by subst h; subst h2; subst h3; exact kk
theorem xX.loc {lv2 : List (Option Value)} (h : lv = lv2) (kk : xX k N a b σ pc lv2 st) : xX k N a b σ pc lv st := h ▸ kk
theorem x_iconst (C : xC k l E B cc nL ret own mn fr lo ce sl) {n : Int} {v : Int32} (d : decode cc pc = .ok (.iconst n, 1)) (hv : Int32.ofInt n = v)
    (kk : xX k N a b σ (pc + 1) lv (.int v :: st)) : xX k N a b σ pc lv (st) := by
  obtain ⟨p, l0, e, R, s, m, args, below, meth, c, Q, E0, B0, nL0⟩ := k
  obtain ⟨rfl, rfl, rfl, rfl, hx, hb, hml, hown, hts, hk, ⟨hR1, hR2, hR3, hR4⟩, hr, hlk, hmn, hBs⟩ := C
  intro H locs ls hh hS hl
  exact lv_iconst hx hb d hv (kk H locs ls hh hS hl)
theorem x_bipush (C : xC k l E B cc nL ret own mn fr lo ce sl) {n : Int} {v : Int32} (d : decode cc pc = .ok (.bipush n, 2)) (hv : (Int8.ofInt n).toInt32 = v)
    (kk : xX k N a b σ (pc + 2) lv (.int v :: st)) : xX k N a b σ pc lv (st) := by
  obtain ⟨p, l0, e, R, s, m, args, below, meth, c, Q, E0, B0, nL0⟩ := k
  obtain ⟨rfl, rfl, rfl, rfl, hx, hb, hml, hown, hts, hk, ⟨hR1, hR2, hR3, hR4⟩, hr, hlk, hmn, hBs⟩ := C
  intro H locs ls hh hS hl
  exact lv_bipush hx hb d hv (kk H locs ls hh hS hl)
theorem x_sipush (C : xC k l E B cc nL ret own mn fr lo ce sl) {n : Int} {v : Int32} (d : decode cc pc = .ok (.sipush n, 3)) (hv : (Int16.ofInt n).toInt32 = v)
    (kk : xX k N a b σ (pc + 3) lv (.int v :: st)) : xX k N a b σ pc lv (st) := by
  obtain ⟨p, l0, e, R, s, m, args, below, meth, c, Q, E0, B0, nL0⟩ := k
  obtain ⟨rfl, rfl, rfl, rfl, hx, hb, hml, hown, hts, hk, ⟨hR1, hR2, hR3, hR4⟩, hr, hlk, hmn, hBs⟩ := C
  intro H locs ls hh hS hl
  exact lv_sipush hx hb d hv (kk H locs ls hh hS hl)
theorem x_ldc (C : xC k l E B cc nL ret own mn fr lo ce sl) {i : Nat} {v : Int32} (w : Cond.constant own i v ∈ xG) (d : decode cc pc = .ok (.ldc i, 2))
    (kk : xX k N a b σ (pc + 2) lv (.int v :: st)) : xX k N a b σ pc lv (st) := by
  obtain ⟨p, l0, e, R, s, m, args, below, meth, c, Q, E0, B0, nL0⟩ := k
  obtain ⟨rfl, rfl, rfl, rfl, hx, hb, hml, hown, hts, hk, ⟨hR1, hR2, hR3, hR4⟩, hr, hlk, hmn, hBs⟩ := C
  intro H locs ls hh hS hl
  exact lv_ldc hx hb hown (hts _ w) d (kk H locs ls hh hS hl)
theorem x_ldc2 (C : xC k l E B cc nL ret own mn fr lo ce sl) {i : Nat} {v : Int64} (w : Cond.constantLong own i v ∈ xG) (d : decode cc pc = .ok (.ldc2_w i, 3))
    (kk : xX k N a b σ (pc + 3) lv (.long v :: st)) : xX k N a b σ pc lv (st) := by
  obtain ⟨p, l0, e, R, s, m, args, below, meth, c, Q, E0, B0, nL0⟩ := k
  obtain ⟨rfl, rfl, rfl, rfl, hx, hb, hml, hown, hts, hk, ⟨hR1, hR2, hR3, hR4⟩, hr, hlk, hmn, hBs⟩ := C
  intro H locs ls hh hS hl
  exact lv_ldc2 hx hb hown (hts _ w) d (kk H locs ls hh hS hl)
theorem x_null (C : xC k l E B cc nL ret own mn fr lo ce sl) (d : decode cc pc = .ok (.aconst_null, 1))
    (kk : xX k N a b σ (pc + 1) lv (.null :: st)) : xX k N a b σ pc lv (st) := by
  obtain ⟨p, l0, e, R, s, m, args, below, meth, c, Q, E0, B0, nL0⟩ := k
  obtain ⟨rfl, rfl, rfl, rfl, hx, hb, hml, hown, hts, hk, ⟨hR1, hR2, hR3, hR4⟩, hr, hlk, hmn, hBs⟩ := C
  intro H locs ls hh hS hl
  exact lv_null hx hb d (kk H locs ls hh hS hl)
theorem x_iload_n (C : xC k l E B cc nL ret own mn fr lo ce sl) {i : Fin 4} {x : Int32} (d : decode cc pc = .ok (.iload_n i, 1)) (h : xget lv (i : Nat) = some (.int x))
    (kk : xX k N a b σ (pc + 1) lv (.int x :: st)) : xX k N a b σ pc lv (st) := by
  obtain ⟨p, l0, e, R, s, m, args, below, meth, c, Q, E0, B0, nL0⟩ := k
  obtain ⟨rfl, rfl, rfl, rfl, hx, hb, hml, hown, hts, hk, ⟨hR1, hR2, hR3, hR4⟩, hr, hlk, hmn, hBs⟩ := C
  intro H locs ls hh hS hl
  exact lv_iload_n hx hb d rfl (xat hl h) (kk H locs ls hh hS hl)
theorem x_iload (C : xC k l E B cc nL ret own mn fr lo ce sl) {i : Nat} {x : Int32} (d : decode cc pc = .ok (.iload i, 2)) (h : xget lv i = some (.int x))
    (kk : xX k N a b σ (pc + 2) lv (.int x :: st)) : xX k N a b σ pc lv (st) := by
  obtain ⟨p, l0, e, R, s, m, args, below, meth, c, Q, E0, B0, nL0⟩ := k
  obtain ⟨rfl, rfl, rfl, rfl, hx, hb, hml, hown, hts, hk, ⟨hR1, hR2, hR3, hR4⟩, hr, hlk, hmn, hBs⟩ := C
  intro H locs ls hh hS hl
  exact lv_iload hx hb d (xat hl h) (kk H locs ls hh hS hl)
theorem x_lload_n (C : xC k l E B cc nL ret own mn fr lo ce sl) {i : Fin 4} {x : Int64} (d : decode cc pc = .ok (.lload_n i, 1)) (h : xget lv (i : Nat) = some (.long x))
    (kk : xX k N a b σ (pc + 1) lv (.long x :: st)) : xX k N a b σ pc lv (st) := by
  obtain ⟨p, l0, e, R, s, m, args, below, meth, c, Q, E0, B0, nL0⟩ := k
  obtain ⟨rfl, rfl, rfl, rfl, hx, hb, hml, hown, hts, hk, ⟨hR1, hR2, hR3, hR4⟩, hr, hlk, hmn, hBs⟩ := C
  intro H locs ls hh hS hl
  exact lv_lload_n hx hb d rfl (xat hl h) (kk H locs ls hh hS hl)
theorem x_lload (C : xC k l E B cc nL ret own mn fr lo ce sl) {i : Nat} {x : Int64} (d : decode cc pc = .ok (.lload i, 2)) (h : xget lv i = some (.long x))
    (kk : xX k N a b σ (pc + 2) lv (.long x :: st)) : xX k N a b σ pc lv (st) := by
  obtain ⟨p, l0, e, R, s, m, args, below, meth, c, Q, E0, B0, nL0⟩ := k
  obtain ⟨rfl, rfl, rfl, rfl, hx, hb, hml, hown, hts, hk, ⟨hR1, hR2, hR3, hR4⟩, hr, hlk, hmn, hBs⟩ := C
  intro H locs ls hh hS hl
  exact lv_lload hx hb d (xat hl h) (kk H locs ls hh hS hl)
theorem x_aload_n (C : xC k l E B cc nL ret own mn fr lo ce sl) {i : Fin 4} {x : Nat} (d : decode cc pc = .ok (.aload_n i, 1)) (h : xget lv (i : Nat) = some (.ref x))
    (kk : xX k N a b σ (pc + 1) lv (.ref x :: st)) : xX k N a b σ pc lv (st) := by
  obtain ⟨p, l0, e, R, s, m, args, below, meth, c, Q, E0, B0, nL0⟩ := k
  obtain ⟨rfl, rfl, rfl, rfl, hx, hb, hml, hown, hts, hk, ⟨hR1, hR2, hR3, hR4⟩, hr, hlk, hmn, hBs⟩ := C
  intro H locs ls hh hS hl
  exact lv_aload_n hx hb d rfl (xat hl h) (kk H locs ls hh hS hl)
theorem x_aload (C : xC k l E B cc nL ret own mn fr lo ce sl) {i : Nat} {x : Nat} (d : decode cc pc = .ok (.aload i, 2)) (h : xget lv i = some (.ref x))
    (kk : xX k N a b σ (pc + 2) lv (.ref x :: st)) : xX k N a b σ pc lv (st) := by
  obtain ⟨p, l0, e, R, s, m, args, below, meth, c, Q, E0, B0, nL0⟩ := k
  obtain ⟨rfl, rfl, rfl, rfl, hx, hb, hml, hown, hts, hk, ⟨hR1, hR2, hR3, hR4⟩, hr, hlk, hmn, hBs⟩ := C
  intro H locs ls hh hS hl
  exact lv_aload hx hb d (xat hl h) (kk H locs ls hh hS hl)
theorem x_aload_nN (C : xC k l E B cc nL ret own mn fr lo ce sl) {i : Fin 4} (d : decode cc pc = .ok (.aload_n i, 1)) (h : xget lv (i : Nat) = some .null)
    (kk : xX k N a b σ (pc + 1) lv (.null :: st)) : xX k N a b σ pc lv (st) := by
  obtain ⟨p, l0, e, R, s, m, args, below, meth, c, Q, E0, B0, nL0⟩ := k
  obtain ⟨rfl, rfl, rfl, rfl, hx, hb, hml, hown, hts, hk, ⟨hR1, hR2, hR3, hR4⟩, hr, hlk, hmn, hBs⟩ := C
  intro H locs ls hh hS hl
  exact lv_aload_nN hx hb d rfl (xat hl h) (kk H locs ls hh hS hl)
theorem x_aloadN (C : xC k l E B cc nL ret own mn fr lo ce sl) {i : Nat} (d : decode cc pc = .ok (.aload i, 2)) (h : xget lv i = some .null)
    (kk : xX k N a b σ (pc + 2) lv (.null :: st)) : xX k N a b σ pc lv (st) := by
  obtain ⟨p, l0, e, R, s, m, args, below, meth, c, Q, E0, B0, nL0⟩ := k
  obtain ⟨rfl, rfl, rfl, rfl, hx, hb, hml, hown, hts, hk, ⟨hR1, hR2, hR3, hR4⟩, hr, hlk, hmn, hBs⟩ := C
  intro H locs ls hh hS hl
  exact lv_aloadN hx hb d (xat hl h) (kk H locs ls hh hS hl)
theorem x_istore_n (C : xC k l E B cc nL ret own mn fr lo ce sl) {i : Fin 4} {x : Int32} (d : decode cc pc = .ok (.istore_n i, 1)) (hn : (i : Nat) < nL) (ho : xnl lv (i : Nat) = true)
    (kk : xX k N a b σ (pc + 1) (xset lv (i : Nat) (.int x)) st) : xX k N a b σ pc lv (.int x :: st) := by
  obtain ⟨p, l0, e, R, s, m, args, below, meth, c, Q, E0, B0, nL0⟩ := k
  obtain ⟨rfl, rfl, rfl, rfl, hx, hb, hml, hown, hts, hk, ⟨hR1, hR2, hR3, hR4⟩, hr, hlk, hmn, hBs⟩ := C
  intro H locs ls hh hS hl
  exact lv_istore_n hx hb d rfl hl hn rfl (fun ls2 hl2 => kk H locs ls2 hh hS (xst1 ho hl2))
theorem x_istore (C : xC k l E B cc nL ret own mn fr lo ce sl) {i : Nat} {x : Int32} (d : decode cc pc = .ok (.istore i, 2)) (hn : (i : Nat) < nL) (ho : xnl lv i = true)
    (kk : xX k N a b σ (pc + 2) (xset lv i (.int x)) st) : xX k N a b σ pc lv (.int x :: st) := by
  obtain ⟨p, l0, e, R, s, m, args, below, meth, c, Q, E0, B0, nL0⟩ := k
  obtain ⟨rfl, rfl, rfl, rfl, hx, hb, hml, hown, hts, hk, ⟨hR1, hR2, hR3, hR4⟩, hr, hlk, hmn, hBs⟩ := C
  intro H locs ls hh hS hl
  exact lv_istore hx hb d hl hn rfl (fun ls2 hl2 => kk H locs ls2 hh hS (xst1 ho hl2))
theorem x_lstore_n (C : xC k l E B cc nL ret own mn fr lo ce sl) {i : Fin 4} {x : Int64} (d : decode cc pc = .ok (.lstore_n i, 1)) (hn : (i : Nat) + 1 < nL) (ho : xnl lv (i : Nat) = true)
    (kk : xX k N a b σ (pc + 1) (xset2 lv (i : Nat) (.long x)) st) : xX k N a b σ pc lv (.long x :: st) := by
  obtain ⟨p, l0, e, R, s, m, args, below, meth, c, Q, E0, B0, nL0⟩ := k
  obtain ⟨rfl, rfl, rfl, rfl, hx, hb, hml, hown, hts, hk, ⟨hR1, hR2, hR3, hR4⟩, hr, hlk, hmn, hBs⟩ := C
  intro H locs ls hh hS hl
  exact lv_lstore_n hx hb d rfl hl hn rfl (fun ls2 hl2 => kk H locs ls2 hh hS (xst2 ho hl2))
theorem x_lstore (C : xC k l E B cc nL ret own mn fr lo ce sl) {i : Nat} {x : Int64} (d : decode cc pc = .ok (.lstore i, 2)) (hn : (i : Nat) + 1 < nL) (ho : xnl lv i = true)
    (kk : xX k N a b σ (pc + 2) (xset2 lv i (.long x)) st) : xX k N a b σ pc lv (.long x :: st) := by
  obtain ⟨p, l0, e, R, s, m, args, below, meth, c, Q, E0, B0, nL0⟩ := k
  obtain ⟨rfl, rfl, rfl, rfl, hx, hb, hml, hown, hts, hk, ⟨hR1, hR2, hR3, hR4⟩, hr, hlk, hmn, hBs⟩ := C
  intro H locs ls hh hS hl
  exact lv_lstore hx hb d hl hn rfl (fun ls2 hl2 => kk H locs ls2 hh hS (xst2 ho hl2))
theorem x_astore_n (C : xC k l E B cc nL ret own mn fr lo ce sl) {i : Fin 4} {x : Nat} (d : decode cc pc = .ok (.astore_n i, 1)) (hn : (i : Nat) < nL) (ho : xnl lv (i : Nat) = true)
    (kk : xX k N a b σ (pc + 1) (xset lv (i : Nat) (.ref x)) st) : xX k N a b σ pc lv (.ref x :: st) := by
  obtain ⟨p, l0, e, R, s, m, args, below, meth, c, Q, E0, B0, nL0⟩ := k
  obtain ⟨rfl, rfl, rfl, rfl, hx, hb, hml, hown, hts, hk, ⟨hR1, hR2, hR3, hR4⟩, hr, hlk, hmn, hBs⟩ := C
  intro H locs ls hh hS hl
  exact lv_astore_n hx hb d rfl hl hn rfl (fun ls2 hl2 => kk H locs ls2 hh hS (xst1 ho hl2))
theorem x_astore (C : xC k l E B cc nL ret own mn fr lo ce sl) {i : Nat} {x : Nat} (d : decode cc pc = .ok (.astore i, 2)) (hn : (i : Nat) < nL) (ho : xnl lv i = true)
    (kk : xX k N a b σ (pc + 2) (xset lv i (.ref x)) st) : xX k N a b σ pc lv (.ref x :: st) := by
  obtain ⟨p, l0, e, R, s, m, args, below, meth, c, Q, E0, B0, nL0⟩ := k
  obtain ⟨rfl, rfl, rfl, rfl, hx, hb, hml, hown, hts, hk, ⟨hR1, hR2, hR3, hR4⟩, hr, hlk, hmn, hBs⟩ := C
  intro H locs ls hh hS hl
  exact lv_astore hx hb d hl hn rfl (fun ls2 hl2 => kk H locs ls2 hh hS (xst1 ho hl2))
theorem x_astore_nN (C : xC k l E B cc nL ret own mn fr lo ce sl) {i : Fin 4} (d : decode cc pc = .ok (.astore_n i, 1)) (hn : (i : Nat) < nL) (ho : xnl lv (i : Nat) = true)
    (kk : xX k N a b σ (pc + 1) (xset lv (i : Nat) .null) st) : xX k N a b σ pc lv (.null :: st) := by
  obtain ⟨p, l0, e, R, s, m, args, below, meth, c, Q, E0, B0, nL0⟩ := k
  obtain ⟨rfl, rfl, rfl, rfl, hx, hb, hml, hown, hts, hk, ⟨hR1, hR2, hR3, hR4⟩, hr, hlk, hmn, hBs⟩ := C
  intro H locs ls hh hS hl
  exact lv_astore_nN hx hb d rfl hl hn rfl (fun ls2 hl2 => kk H locs ls2 hh hS (xst1 ho hl2))
theorem x_astoreN (C : xC k l E B cc nL ret own mn fr lo ce sl) {i : Nat} (d : decode cc pc = .ok (.astore i, 2)) (hn : i < nL) (ho : xnl lv i = true)
    (kk : xX k N a b σ (pc + 2) (xset lv i .null) st) : xX k N a b σ pc lv (.null :: st) := by
  obtain ⟨p, l0, e, R, s, m, args, below, meth, c, Q, E0, B0, nL0⟩ := k
  obtain ⟨rfl, rfl, rfl, rfl, hx, hb, hml, hown, hts, hk, ⟨hR1, hR2, hR3, hR4⟩, hr, hlk, hmn, hBs⟩ := C
  intro H locs ls hh hS hl
  exact lv_astoreN hx hb d hl hn rfl (fun ls2 hl2 => kk H locs ls2 hh hS (xst1 ho hl2))
theorem x_iinc (C : xC k l E B cc nL ret own mn fr lo ce sl) {i : Nat} {n : Int} {x v : Int32} (d : decode cc pc = .ok (.iinc i n, 3)) (h : xget lv i = some (.int x)) (hv : x + Int32.ofInt n = v) (hn : i < nL) (ho : xnl lv i = true)
    (kk : xX k N a b σ (pc + 3) (xset lv i (.int v)) st) : xX k N a b σ pc lv st := by
  obtain ⟨p, l0, e, R, s, m, args, below, meth, c, Q, E0, B0, nL0⟩ := k
  obtain ⟨rfl, rfl, rfl, rfl, hx, hb, hml, hown, hts, hk, ⟨hR1, hR2, hR3, hR4⟩, hr, hlk, hmn, hBs⟩ := C
  intro H locs ls hh hS hl
  have h1 := xget_mem lv 0 i _ h
  rw [Nat.zero_add] at h1
  obtain ⟨j, hj⟩ := List.getElem?_of_mem h1
  exact lv_iinc hx hb d hl (k := j) hj hv hn rfl (fun ls2 hl2 => kk H locs ls2 hh hS (xst1 ho hl2))
theorem x_iadd (C : xC k l E B cc nL ret own mn fr lo ce sl) {x y : Int32} (d : decode cc pc = .ok (.iadd, 1))
    (kk : xX k N a b σ (pc + 1) lv (.int (x + y) :: st)) : xX k N a b σ pc lv (.int y :: .int x :: st) := by
  obtain ⟨p, l0, e, R, s, m, args, below, meth, c, Q, E0, B0, nL0⟩ := k
  obtain ⟨rfl, rfl, rfl, rfl, hx, hb, hml, hown, hts, hk, ⟨hR1, hR2, hR3, hR4⟩, hr, hlk, hmn, hBs⟩ := C
  intro H locs ls hh hS hl
  exact lv_iadd hx hb d (kk H locs ls hh hS hl)
theorem x_isub (C : xC k l E B cc nL ret own mn fr lo ce sl) {x y : Int32} (d : decode cc pc = .ok (.isub, 1))
    (kk : xX k N a b σ (pc + 1) lv (.int (x - y) :: st)) : xX k N a b σ pc lv (.int y :: .int x :: st) := by
  obtain ⟨p, l0, e, R, s, m, args, below, meth, c, Q, E0, B0, nL0⟩ := k
  obtain ⟨rfl, rfl, rfl, rfl, hx, hb, hml, hown, hts, hk, ⟨hR1, hR2, hR3, hR4⟩, hr, hlk, hmn, hBs⟩ := C
  intro H locs ls hh hS hl
  exact lv_isub hx hb d (kk H locs ls hh hS hl)
theorem x_imul (C : xC k l E B cc nL ret own mn fr lo ce sl) {x y : Int32} (d : decode cc pc = .ok (.imul, 1))
    (kk : xX k N a b σ (pc + 1) lv (.int (x * y) :: st)) : xX k N a b σ pc lv (.int y :: .int x :: st) := by
  obtain ⟨p, l0, e, R, s, m, args, below, meth, c, Q, E0, B0, nL0⟩ := k
  obtain ⟨rfl, rfl, rfl, rfl, hx, hb, hml, hown, hts, hk, ⟨hR1, hR2, hR3, hR4⟩, hr, hlk, hmn, hBs⟩ := C
  intro H locs ls hh hS hl
  exact lv_imul hx hb d (kk H locs ls hh hS hl)
theorem x_iand (C : xC k l E B cc nL ret own mn fr lo ce sl) {x y : Int32} (d : decode cc pc = .ok (.iand, 1))
    (kk : xX k N a b σ (pc + 1) lv (.int (x &&& y) :: st)) : xX k N a b σ pc lv (.int y :: .int x :: st) := by
  obtain ⟨p, l0, e, R, s, m, args, below, meth, c, Q, E0, B0, nL0⟩ := k
  obtain ⟨rfl, rfl, rfl, rfl, hx, hb, hml, hown, hts, hk, ⟨hR1, hR2, hR3, hR4⟩, hr, hlk, hmn, hBs⟩ := C
  intro H locs ls hh hS hl
  exact lv_iand hx hb d (kk H locs ls hh hS hl)
theorem x_idiv (C : xC k l E B cc nL ret own mn fr lo ce sl) {x y : Int32} (d : decode cc pc = .ok (.idiv, 1)) (h : ¬ y = 0)
    (kk : xX k N a b σ (pc + 1) lv (.int (x / y) :: st)) : xX k N a b σ pc lv (.int y :: .int x :: st) := by
  obtain ⟨p, l0, e, R, s, m, args, below, meth, c, Q, E0, B0, nL0⟩ := k
  obtain ⟨rfl, rfl, rfl, rfl, hx, hb, hml, hown, hts, hk, ⟨hR1, hR2, hR3, hR4⟩, hr, hlk, hmn, hBs⟩ := C
  intro H locs ls hh hS hl
  exact lv_idiv hx hb d h (kk H locs ls hh hS hl)
theorem x_irem (C : xC k l E B cc nL ret own mn fr lo ce sl) {x y : Int32} (d : decode cc pc = .ok (.irem, 1)) (h : ¬ y = 0)
    (kk : xX k N a b σ (pc + 1) lv (.int (x - x / y * y) :: st)) : xX k N a b σ pc lv (.int y :: .int x :: st) := by
  obtain ⟨p, l0, e, R, s, m, args, below, meth, c, Q, E0, B0, nL0⟩ := k
  obtain ⟨rfl, rfl, rfl, rfl, hx, hb, hml, hown, hts, hk, ⟨hR1, hR2, hR3, hR4⟩, hr, hlk, hmn, hBs⟩ := C
  intro H locs ls hh hS hl
  exact lv_irem hx hb d h (kk H locs ls hh hS hl)
theorem x_ineg (C : xC k l E B cc nL ret own mn fr lo ce sl) {x : Int32} (d : decode cc pc = .ok (.ineg, 1))
    (kk : xX k N a b σ (pc + 1) lv (.int (-x) :: st)) : xX k N a b σ pc lv (.int x :: st) := by
  obtain ⟨p, l0, e, R, s, m, args, below, meth, c, Q, E0, B0, nL0⟩ := k
  obtain ⟨rfl, rfl, rfl, rfl, hx, hb, hml, hown, hts, hk, ⟨hR1, hR2, hR3, hR4⟩, hr, hlk, hmn, hBs⟩ := C
  intro H locs ls hh hS hl
  exact lv_ineg hx hb d (kk H locs ls hh hS hl)
theorem x_ishr (C : xC k l E B cc nL ret own mn fr lo ce sl) {x y : Int32} (d : decode cc pc = .ok (.ishr, 1))
    (kk : xX k N a b σ (pc + 1) lv (.int (x >>> (y &&& 31)) :: st)) : xX k N a b σ pc lv (.int y :: .int x :: st) := by
  obtain ⟨p, l0, e, R, s, m, args, below, meth, c, Q, E0, B0, nL0⟩ := k
  obtain ⟨rfl, rfl, rfl, rfl, hx, hb, hml, hown, hts, hk, ⟨hR1, hR2, hR3, hR4⟩, hr, hlk, hmn, hBs⟩ := C
  intro H locs ls hh hS hl
  exact lv_ishr hx hb d (kk H locs ls hh hS hl)
theorem x_ladd (C : xC k l E B cc nL ret own mn fr lo ce sl) {x y : Int64} (d : decode cc pc = .ok (.ladd, 1))
    (kk : xX k N a b σ (pc + 1) lv (.long (x + y) :: st)) : xX k N a b σ pc lv (.long y :: .long x :: st) := by
  obtain ⟨p, l0, e, R, s, m, args, below, meth, c, Q, E0, B0, nL0⟩ := k
  obtain ⟨rfl, rfl, rfl, rfl, hx, hb, hml, hown, hts, hk, ⟨hR1, hR2, hR3, hR4⟩, hr, hlk, hmn, hBs⟩ := C
  intro H locs ls hh hS hl
  exact lv_ladd hx hb d (kk H locs ls hh hS hl)
theorem x_lmul (C : xC k l E B cc nL ret own mn fr lo ce sl) {x y : Int64} (d : decode cc pc = .ok (.lmul, 1))
    (kk : xX k N a b σ (pc + 1) lv (.long (x * y) :: st)) : xX k N a b σ pc lv (.long y :: .long x :: st) := by
  obtain ⟨p, l0, e, R, s, m, args, below, meth, c, Q, E0, B0, nL0⟩ := k
  obtain ⟨rfl, rfl, rfl, rfl, hx, hb, hml, hown, hts, hk, ⟨hR1, hR2, hR3, hR4⟩, hr, hlk, hmn, hBs⟩ := C
  intro H locs ls hh hS hl
  exact lv_lmul hx hb d (kk H locs ls hh hS hl)
theorem x_i2l (C : xC k l E B cc nL ret own mn fr lo ce sl) {x : Int32} (d : decode cc pc = .ok (.i2l, 1))
    (kk : xX k N a b σ (pc + 1) lv (.long x.toInt64 :: st)) : xX k N a b σ pc lv (.int x :: st) := by
  obtain ⟨p, l0, e, R, s, m, args, below, meth, c, Q, E0, B0, nL0⟩ := k
  obtain ⟨rfl, rfl, rfl, rfl, hx, hb, hml, hown, hts, hk, ⟨hR1, hR2, hR3, hR4⟩, hr, hlk, hmn, hBs⟩ := C
  intro H locs ls hh hS hl
  exact lv_i2l hx hb d rfl (kk H locs ls hh hS hl)
theorem x_i2c (C : xC k l E B cc nL ret own mn fr lo ce sl) {x v : Int32} (d : decode cc pc = .ok (.i2c, 1)) (hv : (x.toUInt32 % 65536).toInt32 = v)
    (kk : xX k N a b σ (pc + 1) lv (.int v :: st)) : xX k N a b σ pc lv (.int x :: st) := by
  obtain ⟨p, l0, e, R, s, m, args, below, meth, c, Q, E0, B0, nL0⟩ := k
  obtain ⟨rfl, rfl, rfl, rfl, hx, hb, hml, hown, hts, hk, ⟨hR1, hR2, hR3, hR4⟩, hr, hlk, hmn, hBs⟩ := C
  intro H locs ls hh hS hl
  exact lv_i2c hx hb d hv (kk H locs ls hh hS hl)
theorem x_dup (C : xC k l E B cc nL ret own mn fr lo ce sl) {v : Value} (d : decode cc pc = .ok (.dup, 1)) (hc : v.category = 1)
    (kk : xX k N a b σ (pc + 1) lv (v :: v :: st)) : xX k N a b σ pc lv (v :: st) := by
  obtain ⟨p, l0, e, R, s, m, args, below, meth, c, Q, E0, B0, nL0⟩ := k
  obtain ⟨rfl, rfl, rfl, rfl, hx, hb, hml, hown, hts, hk, ⟨hR1, hR2, hR3, hR4⟩, hr, hlk, hmn, hBs⟩ := C
  intro H locs ls hh hS hl
  exact lv_dup hx hb d hc (kk H locs ls hh hS hl)
theorem x_dup2 (C : xC k l E B cc nL ret own mn fr lo ce sl) {v u : Value} (d : decode cc pc = .ok (.dup2, 1)) (hc : v.category = 1) (hc2 : u.category = 1)
    (kk : xX k N a b σ (pc + 1) lv (v :: u :: v :: u :: st)) : xX k N a b σ pc lv (v :: u :: st) := by
  obtain ⟨p, l0, e, R, s, m, args, below, meth, c, Q, E0, B0, nL0⟩ := k
  obtain ⟨rfl, rfl, rfl, rfl, hx, hb, hml, hown, hts, hk, ⟨hR1, hR2, hR3, hR4⟩, hr, hlk, hmn, hBs⟩ := C
  intro H locs ls hh hS hl
  exact lv_dup2_11 hx hb d hc hc2 (kk H locs ls hh hS hl)
theorem x_pop (C : xC k l E B cc nL ret own mn fr lo ce sl) {v : Value} (d : decode cc pc = .ok (.pop, 1)) (hc : v.category = 1)
    (kk : xX k N a b σ (pc + 1) lv (st)) : xX k N a b σ pc lv (v :: st) := by
  obtain ⟨p, l0, e, R, s, m, args, below, meth, c, Q, E0, B0, nL0⟩ := k
  obtain ⟨rfl, rfl, rfl, rfl, hx, hb, hml, hown, hts, hk, ⟨hR1, hR2, hR3, hR4⟩, hr, hlk, hmn, hBs⟩ := C
  intro H locs ls hh hS hl
  exact lv_pop hx hb d hc (kk H locs ls hh hS hl)
theorem x_if_eq (C : xC k l E B cc nL ret own mn fr lo ce sl) {x : Int32} {off : Int} (tgt : Nat) (d : decode cc pc = .ok (.ifCond .eq off, 3)) (ht : (pc : Int) + off = (tgt : Int))
    (kt : x = 0 → xX k N a b σ (tgt) lv (st)) (kf : ¬ x = 0 → xX k N a b σ (pc + 3) lv (st)) : xX k N a b σ pc lv (.int x :: st) := by
  obtain ⟨p, l0, e, R, s, m, args, below, meth, c, Q, E0, B0, nL0⟩ := k
  obtain ⟨rfl, rfl, rfl, rfl, hx, hb, hml, hown, hts, hk, ⟨hR1, hR2, hR3, hR4⟩, hr, hlk, hmn, hBs⟩ := C
  intro H locs ls hh hS hl
  exact lv_if_eq hx hb d ht (fun h => kt h H locs ls hh hS hl) (fun h => kf h H locs ls hh hS hl)
theorem x_ic_eq (C : xC k l E B cc nL ret own mn fr lo ce sl) {x y : Int32} {off : Int} (tgt : Nat) (d : decode cc pc = .ok (.if_icmp .eq off, 3)) (ht : (pc : Int) + off = (tgt : Int))
    (kt : x = y → xX k N a b σ (tgt) lv (st)) (kf : ¬ x = y → xX k N a b σ (pc + 3) lv (st)) : xX k N a b σ pc lv (.int y :: .int x :: st) := by
  obtain ⟨p, l0, e, R, s, m, args, below, meth, c, Q, E0, B0, nL0⟩ := k
  obtain ⟨rfl, rfl, rfl, rfl, hx, hb, hml, hown, hts, hk, ⟨hR1, hR2, hR3, hR4⟩, hr, hlk, hmn, hBs⟩ := C
  intro H locs ls hh hS hl
  exact lv_icmp_eq hx hb d ht (fun h => kt h H locs ls hh hS hl) (fun h => kf h H locs ls hh hS hl)
theorem x_if_ne (C : xC k l E B cc nL ret own mn fr lo ce sl) {x : Int32} {off : Int} (tgt : Nat) (d : decode cc pc = .ok (.ifCond .ne off, 3)) (ht : (pc : Int) + off = (tgt : Int))
    (kt : ¬ x = 0 → xX k N a b σ (tgt) lv (st)) (kf : x = 0 → xX k N a b σ (pc + 3) lv (st)) : xX k N a b σ pc lv (.int x :: st) := by
  obtain ⟨p, l0, e, R, s, m, args, below, meth, c, Q, E0, B0, nL0⟩ := k
  obtain ⟨rfl, rfl, rfl, rfl, hx, hb, hml, hown, hts, hk, ⟨hR1, hR2, hR3, hR4⟩, hr, hlk, hmn, hBs⟩ := C
  intro H locs ls hh hS hl
  exact lv_if_ne hx hb d ht (fun h => kt h H locs ls hh hS hl) (fun h => kf h H locs ls hh hS hl)
theorem x_ic_ne (C : xC k l E B cc nL ret own mn fr lo ce sl) {x y : Int32} {off : Int} (tgt : Nat) (d : decode cc pc = .ok (.if_icmp .ne off, 3)) (ht : (pc : Int) + off = (tgt : Int))
    (kt : ¬ x = y → xX k N a b σ (tgt) lv (st)) (kf : x = y → xX k N a b σ (pc + 3) lv (st)) : xX k N a b σ pc lv (.int y :: .int x :: st) := by
  obtain ⟨p, l0, e, R, s, m, args, below, meth, c, Q, E0, B0, nL0⟩ := k
  obtain ⟨rfl, rfl, rfl, rfl, hx, hb, hml, hown, hts, hk, ⟨hR1, hR2, hR3, hR4⟩, hr, hlk, hmn, hBs⟩ := C
  intro H locs ls hh hS hl
  exact lv_icmp_ne hx hb d ht (fun h => kt h H locs ls hh hS hl) (fun h => kf h H locs ls hh hS hl)
theorem x_if_lt (C : xC k l E B cc nL ret own mn fr lo ce sl) {x : Int32} {off : Int} (tgt : Nat) (d : decode cc pc = .ok (.ifCond .lt off, 3)) (ht : (pc : Int) + off = (tgt : Int))
    (kt : x < 0 → xX k N a b σ (tgt) lv (st)) (kf : ¬ x < 0 → xX k N a b σ (pc + 3) lv (st)) : xX k N a b σ pc lv (.int x :: st) := by
  obtain ⟨p, l0, e, R, s, m, args, below, meth, c, Q, E0, B0, nL0⟩ := k
  obtain ⟨rfl, rfl, rfl, rfl, hx, hb, hml, hown, hts, hk, ⟨hR1, hR2, hR3, hR4⟩, hr, hlk, hmn, hBs⟩ := C
  intro H locs ls hh hS hl
  exact lv_if_lt hx hb d ht (fun h => kt h H locs ls hh hS hl) (fun h => kf h H locs ls hh hS hl)
theorem x_ic_lt (C : xC k l E B cc nL ret own mn fr lo ce sl) {x y : Int32} {off : Int} (tgt : Nat) (d : decode cc pc = .ok (.if_icmp .lt off, 3)) (ht : (pc : Int) + off = (tgt : Int))
    (kt : x < y → xX k N a b σ (tgt) lv (st)) (kf : ¬ x < y → xX k N a b σ (pc + 3) lv (st)) : xX k N a b σ pc lv (.int y :: .int x :: st) := by
  obtain ⟨p, l0, e, R, s, m, args, below, meth, c, Q, E0, B0, nL0⟩ := k
  obtain ⟨rfl, rfl, rfl, rfl, hx, hb, hml, hown, hts, hk, ⟨hR1, hR2, hR3, hR4⟩, hr, hlk, hmn, hBs⟩ := C
  intro H locs ls hh hS hl
  exact lv_icmp_lt hx hb d ht (fun h => kt h H locs ls hh hS hl) (fun h => kf h H locs ls hh hS hl)
theorem x_if_ge (C : xC k l E B cc nL ret own mn fr lo ce sl) {x : Int32} {off : Int} (tgt : Nat) (d : decode cc pc = .ok (.ifCond .ge off, 3)) (ht : (pc : Int) + off = (tgt : Int))
    (kt : 0 ≤ x → xX k N a b σ (tgt) lv (st)) (kf : ¬ 0 ≤ x → xX k N a b σ (pc + 3) lv (st)) : xX k N a b σ pc lv (.int x :: st) := by
  obtain ⟨p, l0, e, R, s, m, args, below, meth, c, Q, E0, B0, nL0⟩ := k
  obtain ⟨rfl, rfl, rfl, rfl, hx, hb, hml, hown, hts, hk, ⟨hR1, hR2, hR3, hR4⟩, hr, hlk, hmn, hBs⟩ := C
  intro H locs ls hh hS hl
  exact lv_if_ge hx hb d ht (fun h => kt h H locs ls hh hS hl) (fun h => kf h H locs ls hh hS hl)
theorem x_ic_ge (C : xC k l E B cc nL ret own mn fr lo ce sl) {x y : Int32} {off : Int} (tgt : Nat) (d : decode cc pc = .ok (.if_icmp .ge off, 3)) (ht : (pc : Int) + off = (tgt : Int))
    (kt : y ≤ x → xX k N a b σ (tgt) lv (st)) (kf : ¬ y ≤ x → xX k N a b σ (pc + 3) lv (st)) : xX k N a b σ pc lv (.int y :: .int x :: st) := by
  obtain ⟨p, l0, e, R, s, m, args, below, meth, c, Q, E0, B0, nL0⟩ := k
  obtain ⟨rfl, rfl, rfl, rfl, hx, hb, hml, hown, hts, hk, ⟨hR1, hR2, hR3, hR4⟩, hr, hlk, hmn, hBs⟩ := C
  intro H locs ls hh hS hl
  exact lv_icmp_ge hx hb d ht (fun h => kt h H locs ls hh hS hl) (fun h => kf h H locs ls hh hS hl)
theorem x_if_gt (C : xC k l E B cc nL ret own mn fr lo ce sl) {x : Int32} {off : Int} (tgt : Nat) (d : decode cc pc = .ok (.ifCond .gt off, 3)) (ht : (pc : Int) + off = (tgt : Int))
    (kt : 0 < x → xX k N a b σ (tgt) lv (st)) (kf : ¬ 0 < x → xX k N a b σ (pc + 3) lv (st)) : xX k N a b σ pc lv (.int x :: st) := by
  obtain ⟨p, l0, e, R, s, m, args, below, meth, c, Q, E0, B0, nL0⟩ := k
  obtain ⟨rfl, rfl, rfl, rfl, hx, hb, hml, hown, hts, hk, ⟨hR1, hR2, hR3, hR4⟩, hr, hlk, hmn, hBs⟩ := C
  intro H locs ls hh hS hl
  exact lv_if_gt hx hb d ht (fun h => kt h H locs ls hh hS hl) (fun h => kf h H locs ls hh hS hl)
theorem x_ic_gt (C : xC k l E B cc nL ret own mn fr lo ce sl) {x y : Int32} {off : Int} (tgt : Nat) (d : decode cc pc = .ok (.if_icmp .gt off, 3)) (ht : (pc : Int) + off = (tgt : Int))
    (kt : y < x → xX k N a b σ (tgt) lv (st)) (kf : ¬ y < x → xX k N a b σ (pc + 3) lv (st)) : xX k N a b σ pc lv (.int y :: .int x :: st) := by
  obtain ⟨p, l0, e, R, s, m, args, below, meth, c, Q, E0, B0, nL0⟩ := k
  obtain ⟨rfl, rfl, rfl, rfl, hx, hb, hml, hown, hts, hk, ⟨hR1, hR2, hR3, hR4⟩, hr, hlk, hmn, hBs⟩ := C
  intro H locs ls hh hS hl
  exact lv_icmp_gt hx hb d ht (fun h => kt h H locs ls hh hS hl) (fun h => kf h H locs ls hh hS hl)
theorem x_if_le (C : xC k l E B cc nL ret own mn fr lo ce sl) {x : Int32} {off : Int} (tgt : Nat) (d : decode cc pc = .ok (.ifCond .le off, 3)) (ht : (pc : Int) + off = (tgt : Int))
    (kt : x ≤ 0 → xX k N a b σ (tgt) lv (st)) (kf : ¬ x ≤ 0 → xX k N a b σ (pc + 3) lv (st)) : xX k N a b σ pc lv (.int x :: st) := by
  obtain ⟨p, l0, e, R, s, m, args, below, meth, c, Q, E0, B0, nL0⟩ := k
  obtain ⟨rfl, rfl, rfl, rfl, hx, hb, hml, hown, hts, hk, ⟨hR1, hR2, hR3, hR4⟩, hr, hlk, hmn, hBs⟩ := C
  intro H locs ls hh hS hl
  exact lv_if_le hx hb d ht (fun h => kt h H locs ls hh hS hl) (fun h => kf h H locs ls hh hS hl)
theorem x_ic_le (C : xC k l E B cc nL ret own mn fr lo ce sl) {x y : Int32} {off : Int} (tgt : Nat) (d : decode cc pc = .ok (.if_icmp .le off, 3)) (ht : (pc : Int) + off = (tgt : Int))
    (kt : x ≤ y → xX k N a b σ (tgt) lv (st)) (kf : ¬ x ≤ y → xX k N a b σ (pc + 3) lv (st)) : xX k N a b σ pc lv (.int y :: .int x :: st) := by
  obtain ⟨p, l0, e, R, s, m, args, below, meth, c, Q, E0, B0, nL0⟩ := k
  obtain ⟨rfl, rfl, rfl, rfl, hx, hb, hml, hown, hts, hk, ⟨hR1, hR2, hR3, hR4⟩, hr, hlk, hmn, hBs⟩ := C
  intro H locs ls hh hS hl
  exact lv_icmp_le hx hb d ht (fun h => kt h H locs ls hh hS hl) (fun h => kf h H locs ls hh hS hl)
theorem x_goto (C : xC k l E B cc nL ret own mn fr lo ce sl) {off : Int} (tgt : Nat) (d : decode cc pc = .ok (.goto off, 3)) (ht : (pc : Int) + off = (tgt : Int))
    (kk : xX k N a b σ (tgt) lv (st)) : xX k N a b σ pc lv (st) := by
  obtain ⟨p, l0, e, R, s, m, args, below, meth, c, Q, E0, B0, nL0⟩ := k
  obtain ⟨rfl, rfl, rfl, rfl, hx, hb, hml, hown, hts, hk, ⟨hR1, hR2, hR3, hR4⟩, hr, hlk, hmn, hBs⟩ := C
  intro H locs ls hh hS hl
  exact lv_goto hx hb d ht (kk H locs ls hh hS hl)
theorem x_ifnull (C : xC k l E B cc nL ret own mn fr lo ce sl) {x : Nat} {off : Int} (d : decode cc pc = .ok (.ifnull off, 3))
    (kk : xX k N a b σ (pc + 3) lv (st)) : xX k N a b σ pc lv (.ref x :: st) := by
  obtain ⟨p, l0, e, R, s, m, args, below, meth, c, Q, E0, B0, nL0⟩ := k
  obtain ⟨rfl, rfl, rfl, rfl, hx, hb, hml, hown, hts, hk, ⟨hR1, hR2, hR3, hR4⟩, hr, hlk, hmn, hBs⟩ := C
  intro H locs ls hh hS hl
  exact lv_ifnull hx hb d (kk H locs ls hh hS hl)
theorem x_ifnullN (C : xC k l E B cc nL ret own mn fr lo ce sl) {off : Int} (tgt : Nat) (d : decode cc pc = .ok (.ifnull off, 3)) (ht : (pc : Int) + off = (tgt : Int))
    (kk : xX k N a b σ (tgt) lv (st)) : xX k N a b σ pc lv (.null :: st) := by
  obtain ⟨p, l0, e, R, s, m, args, below, meth, c, Q, E0, B0, nL0⟩ := k
  obtain ⟨rfl, rfl, rfl, rfl, hx, hb, hml, hown, hts, hk, ⟨hR1, hR2, hR3, hR4⟩, hr, hlk, hmn, hBs⟩ := C
  intro H locs ls hh hS hl
  exact lv_ifnullN hx hb d ht (kk H locs ls hh hS hl)
theorem x_ifnn (C : xC k l E B cc nL ret own mn fr lo ce sl) {x : Nat} {off : Int} (tgt : Nat) (d : decode cc pc = .ok (.ifnonnull off, 3)) (ht : (pc : Int) + off = (tgt : Int))
    (kk : xX k N a b σ (tgt) lv (st)) : xX k N a b σ pc lv (.ref x :: st) := by
  obtain ⟨p, l0, e, R, s, m, args, below, meth, c, Q, E0, B0, nL0⟩ := k
  obtain ⟨rfl, rfl, rfl, rfl, hx, hb, hml, hown, hts, hk, ⟨hR1, hR2, hR3, hR4⟩, hr, hlk, hmn, hBs⟩ := C
  intro H locs ls hh hS hl
  exact lv_ifnonnull hx hb d ht (kk H locs ls hh hS hl)
theorem x_ifnnN (C : xC k l E B cc nL ret own mn fr lo ce sl) {off : Int} (d : decode cc pc = .ok (.ifnonnull off, 3))
    (kk : xX k N a b σ (pc + 3) lv (st)) : xX k N a b σ pc lv (.null :: st) := by
  obtain ⟨p, l0, e, R, s, m, args, below, meth, c, Q, E0, B0, nL0⟩ := k
  obtain ⟨rfl, rfl, rfl, rfl, hx, hb, hml, hown, hts, hk, ⟨hR1, hR2, hR3, hR4⟩, hr, hlk, hmn, hBs⟩ := C
  intro H locs ls hh hS hl
  exact lv_ifnonnullN hx hb d (kk H locs ls hh hS hl)
theorem x_lcmp (C : xC k l E B cc nL ret own mn fr lo ce sl) {x y : Int64} (d : decode cc pc = .ok (.lcmp, 1))
    (kk : xX k N a b σ (pc + 1) lv (.int (lg_cmp x y) :: st)) : xX k N a b σ pc lv (.long y :: .long x :: st) := by
  obtain ⟨p, l0, e, R, s, m, args, below, meth, c, Q, E0, B0, nL0⟩ := k
  obtain ⟨rfl, rfl, rfl, rfl, hx, hb, hml, hown, hts, hk, ⟨hR1, hR2, hR3, hR4⟩, hr, hlk, hmn, hBs⟩ := C
  intro H locs ls hh hS hl
  exact W.lcmp hx hb d (kk H locs ls hh hS hl)
theorem x_tbO (C : xC k l E B cc nL ret own mn fr lo ce sl) {dflt lo2 hi : Int} {offs : Array Int} {len : Nat} {x : Int32} (tgt : Nat) (d : decode cc pc = .ok (.tableswitch dflt lo2 hi offs, len)) (h : x.toInt < lo2 ∨ hi < x.toInt) (ht : (pc : Int) + dflt = (tgt : Int))
    (kk : xX k N a b σ (tgt) lv (st)) : xX k N a b σ pc lv (.int x :: st) := by
  obtain ⟨p, l0, e, R, s, m, args, below, meth, c, Q, E0, B0, nL0⟩ := k
  obtain ⟨rfl, rfl, rfl, rfl, hx, hb, hml, hown, hts, hk, ⟨hR1, hR2, hR3, hR4⟩, hr, hlk, hmn, hBs⟩ := C
  intro H locs ls hh hS hl
  exact lv_tableOut hx hb d h ht (kk H locs ls hh hS hl)
theorem x_tbI (C : xC k l E B cc nL ret own mn fr lo ce sl) {dflt lo2 hi off : Int} {offs : Array Int} {len : Nat} {x : Int32} (tgt : Nat) (d : decode cc pc = .ok (.tableswitch dflt lo2 hi offs, len)) (h1 : ¬ x.toInt < lo2) (h2 : ¬ hi < x.toInt) (ho : offs[(x.toInt - lo2).toNat]? = some off) (ht : (pc : Int) + off = (tgt : Int))
    (kk : xX k N a b σ (tgt) lv (st)) : xX k N a b σ pc lv (.int x :: st) := by
  obtain ⟨p, l0, e, R, s, m, args, below, meth, c, Q, E0, B0, nL0⟩ := k
  obtain ⟨rfl, rfl, rfl, rfl, hx, hb, hml, hown, hts, hk, ⟨hR1, hR2, hR3, hR4⟩, hr, hlk, hmn, hBs⟩ := C
  intro H locs ls hh hS hl
  exact lv_tableIn hx hb d h1 h2 ho ht (kk H locs ls hh hS hl)
theorem x_lkp (C : xC k l E B cc nL ret own mn fr lo ce sl) {dflt off : Int} {ps : Array (Int × Int)} {len : Nat} {x : Int32} (tgt : Nat) (d : decode cc pc = .ok (.lookupswitch dflt ps, len)) (hp : (ps.toList.zip (ps.toList.drop 1)).all (fun (a, next) => a.1 < next.1) = true) (ho : Op.lookupswitch.offset ps.toList dflt x.toInt = off) (ht : (pc : Int) + off = (tgt : Int))
    (kk : xX k N a b σ (tgt) lv (st)) : xX k N a b σ pc lv (.int x :: st) := by
  obtain ⟨p, l0, e, R, s, m, args, below, meth, c, Q, E0, B0, nL0⟩ := k
  obtain ⟨rfl, rfl, rfl, rfl, hx, hb, hml, hown, hts, hk, ⟨hR1, hR2, hR3, hR4⟩, hr, hlk, hmn, hBs⟩ := C
  intro H locs ls hh hS hl
  exact lv_lookup hx hb d hp ho ht (kk H locs ls hh hS hl)
/-- a field access of class own at pool number idx: field j of class ci -/
def xFd (own : String) (idx : Nat) (q : vw_C) (ci j : Nat) : Prop := vwCl[ci]? = some q ∧ j < q.2.2 ∧ (Cond.fieldLink own idx (q.2.1 j).1 (q.2.1 j).2.1 (q.2.1 j).2.2.1 ∈ xG ∨ ∃ host : String, Cond.fieldLinkNest own idx (q.2.1 j).1 (q.2.1 j).2.1 (q.2.1 j).2.2.1 host ∈ xGN) ∧ (∀ w ∈ u_ws q.1 q.2.1 q.2.2, w ∈ xG) ∧ (∃ ty0 : Nat → FieldType, ∀ k, k < q.2.2 → parseFieldDescriptor (q.2.1 k).2.2.1 = some (ty0 k)) ∧ (∀ a, a < q.2.2 → ∀ b, b < q.2.2 → a ≠ b → (q.2.1 a).2.1 ≠ (q.2.1 b).2.1)
theorem x_get (C : xC k l E B cc nL ret own mn fr lo ce sl) {idx ci j a0 : Nat} {q : vw_C} (F : xFd own idx q ci j) {fs : List Value} {v : Value} (he : σ a0 = some (.inr (ci, fs))) (hv : fs[j]? = some v) (d : decode cc pc = .ok (.getfield idx, 3))
    (kk : xX k N a b σ (pc + 3) lv (v :: st)) : xX k N a b σ pc lv (.ref a0 :: st) := by
  obtain ⟨p, l0, e, R, s, m, args, below, meth, c, Q, E0, B0, nL0⟩ := k
  obtain ⟨rfl, rfl, rfl, rfl, hx, hb, hml, hown, hts, hk, ⟨hR1, hR2, hR3, hR4⟩, hr, hlk, hmn, hBs⟩ := C
  obtain ⟨hc, hj, hln, hin, -, -⟩ := F
  obtain ⟨Cn, T, n⟩ := q
  intro H locs ls hh hS hl
  have hP : va_P E0.1 vwCl [(a0, .inr (ci, fs))] H := fun i q2 hq => by
    have h1 := hh.2.2 a0 _ he
    cases i with
    | zero => cases hq; exact h1.2
    | succ i => simp at hq
  rcases hln with h | ⟨host, h⟩
  · exact va_get hx hb hts hin hown hk.1 hP 0 rfl hc j hj (hts _ h) (fun _ h9 => h9) hv d (kk H locs ls hh hS hl)
  · exact va_getN hx hb hts hin hown hk.1 hP 0 rfl hc j hj (va_Nw.use rfl (hk.2 _ h)) (fun _ h9 => h9) hv d (kk H locs ls hh hS hl)
theorem x_put (C : xC k l E B cc nL ret own mn fr lo ce sl) {idx ci j a0 : Nat} {q : vw_C} (F : xFd own idx q ci j) {fs : List Value} {v : Value} {ty : FieldType} {σ2 : Sg} (he : σ a0 = some (.inr (ci, fs))) (hfin : (q.2.1 j).2.2.2 = false) (hd : parseFieldDescriptor (q.2.1 j).2.2.1 = some ty) (hn : narrow ty v = v) (hfit : fits ty v = true) (hl0 : j < fs.length) (hs : xup σ a0 (.inr (ci, fs.set j v)) = σ2) (d : decode cc pc = .ok (.putfield idx, 3))
    (kk : xX k N a b σ2 (pc + 3) lv (st)) : xX k N a b σ pc lv (v :: .ref a0 :: st) := by
  obtain ⟨p, l0, e, R, s, m, args, below, meth, c, Q, E0, B0, nL0⟩ := k
  obtain ⟨rfl, rfl, rfl, rfl, hx, hb, hml, hown, hts, hk, ⟨hR1, hR2, hR3, hR4⟩, hr, hlk, hmn, hBs⟩ := C
  obtain ⟨hc, hj, hln, hin, ⟨ty0, hty⟩, hnm⟩ := F
  obtain ⟨Cn, T, n⟩ := q
  subst hs
  intro H locs ls hh hS hl
  have hap := va_apart (own := own) hts hin ty0 hty hnm hk.1 hc
  obtain ⟨hba, h0⟩ := hh.2.2 a0 _ he
  obtain ⟨r2, h1, cell, q1, q2, q3, q4⟩ := h0
  have hr2 : r2 = (Cn, T, n) := Option.some.inj (h1.symm.trans hc)
  subst hr2
  obtain ⟨hS2, hfc, kC, hkC, hkind⟩ := hk.1.1 ci _ hc
  obtain ⟨cf, kf, fi, f, hi, hsl⟩ := hS2 j hj
  have hlay := hts _ (hin _ (u_in_lay hj))
  unfold u_lay at hlay
  rw [if_neg (by rw [hfin]; decide)] at hlay
  have hst := (u_facts hfc hkC (u_lays hts hin hj) hi).1
  have h6 := u_store hfc hkC hkind hlay hi hd hn hfit
  rcases hln with h | ⟨host, h⟩
  · refine W.putK hx hb (f := f) ⟨hown, hts _ h, ⟨_, _, _, hi⟩, hst⟩ (by rw [q2]; exact h6) q1 q3 (by rw [hsl]; exact k2_hasslot (q4 j hj)) rfl rfl d fun H2 e1 e2 e3 => ?_
    rw [hsl] at e1 ⊢
    exact kk H2 _ ls (hh.put he e2 e3 ⟨_, hc, t_OB.to (V := updV (vp_V fs) j v) ⟨_, e1, q2, q3, t_set q4 hap hj v⟩ (fun i _ => vp_updV_set hl0 v i)⟩) (hS.put e2 e3 hba) hl
  · refine va_WputK hx hb (f := f) hown (va_Nw.use rfl (hk.2 _ h)) hi hst (by rw [q2]; exact h6) q1 q3 (by rw [hsl]; exact k2_hasslot (q4 j hj)) rfl rfl d fun H2 e1 e2 e3 => ?_
    rw [hsl] at e1 ⊢
    exact kk H2 _ ls (hh.put he e2 e3 ⟨_, hc, t_OB.to (V := updV (vp_V fs) j v) ⟨_, e1, q2, q3, t_set q4 hap hj v⟩ (fun i _ => vp_updV_set hl0 v i)⟩) (hS.put e2 e3 hba) hl
theorem x_putF (C : xC k l E B cc nL ret own mn fr lo ce sl) (hmi : mn = "<init>") {idx ci j a0 : Nat} {q : vw_C} (F : xFd own idx q ci j) {fs : List Value} {v : Value} {ty : FieldType} {σ2 : Sg} (he : σ a0 = some (.inr (ci, fs))) (hfin : (q.2.1 j).2.2.2 = true) (hdecl : (q.2.1 j).1 = own) (hw : Cond.fieldLink own idx (q.2.1 j).1 (q.2.1 j).2.1 (q.2.1 j).2.2.1 ∈ xG) (hd : parseFieldDescriptor (q.2.1 j).2.2.1 = some ty) (hn : narrow ty v = v) (hfit : fits ty v = true) (hl0 : j < fs.length) (hs : xup σ a0 (.inr (ci, fs.set j v)) = σ2) (d : decode cc pc = .ok (.putfield idx, 3))
    (kk : xX k N a b σ2 (pc + 3) lv (st)) : xX k N a b σ pc lv (v :: .ref a0 :: st) := by
  obtain ⟨p, l0, e, R, s, m, args, below, meth, c, Q, E0, B0, nL0⟩ := k
  obtain ⟨rfl, rfl, rfl, rfl, hx, hb, hml, hown, hts, hk, ⟨hR1, hR2, hR3, hR4⟩, hr, hlk, hmn, hBs⟩ := C
  obtain ⟨hc, hj, -, hin, ⟨ty0, hty⟩, hnm⟩ := F
  obtain ⟨Cn, T, n⟩ := q
  subst hs
  intro H locs ls hh hS hl
  have hap := va_apart (own := own) hts hin ty0 hty hnm hk.1 hc
  obtain ⟨hba, h0⟩ := hh.2.2 a0 _ he
  obtain ⟨r2, h1, cell, q1, q2, q3, q4⟩ := h0
  have hr2 : r2 = (Cn, T, n) := Option.some.inj (h1.symm.trans hc)
  subst hr2
  obtain ⟨hS2, hfc, kC, hkC, hkind⟩ := hk.1.1 ci _ hc
  obtain ⟨cf, kf, fi, f, hi, hsl⟩ := hS2 j hj
  have hlay := hts _ (hin _ (u_in_lay hj))
  unfold u_lay at hlay
  rw [if_pos hfin] at hlay
  have hst := (u_facts hfc hkC (u_lays hts hin hj) hi).1
  have hcf : m.cls = cf := by
    obtain ⟨_, _, c2, _, _, _, -, -, hf2, -, -, -, hown2, -⟩ := Cond.laysFinal_spec hlay
    have e1 : c2 = cf := by have := hi.symm.trans hf2; simp at this; exact this.1.symm
    rw [hdecl] at hown2
    rw [← e1]; exact Option.some.inj (hown.symm.trans hown2)
  have h6 := u_fits hfc hkC hkind (Or.inr hlay) hi hd hn hfit
  refine W.putFinK hx hb hown (hts _ hw) hi hst hcf (hmn.trans hmi) (by rw [q2]; exact h6) q1 q3 (by rw [hsl]; exact k2_hasslot (q4 j hj)) rfl rfl d fun H2 e1 e2 e3 => ?_
  rw [hsl] at e1 ⊢
  exact kk H2 _ ls (hh.put he e2 e3 ⟨_, hc, t_OB.to (V := updV (vp_V fs) j v) ⟨_, e1, q2, q3, t_set q4 hap hj v⟩ (fun i _ => vp_updV_set hl0 v i)⟩) (hS.put e2 e3 hba) hl
theorem x_iald (C : xC k l E B cc nL ret own mn fr lo ce sl) {a0 n : Nat} {f : Nat → Int32} {i : Int32} (he : σ a0 = some (.inl (xI E, n, .inl f))) (hin : vp_in i n) (d : decode cc pc = .ok (.iaload, 1))
    (kk : xX k N a b σ (pc + 1) lv (.int (f i.toNatClampNeg) :: st)) : xX k N a b σ pc lv (.int i :: .ref a0 :: st) := by
  obtain ⟨p, l0, e, R, s, m, args, below, meth, c, Q, E0, B0, nL0⟩ := k
  obtain ⟨rfl, rfl, rfl, rfl, hx, hb, hml, hown, hts, hk, ⟨hR1, hR2, hR3, hR4⟩, hr, hlk, hmn, hBs⟩ := C
  intro H locs ls hh hS hl
  have hP : va_P E0.1 vwCl [(a0, .inl (xI E0, n, .inl f))] H := fun i q2 hq => by
    have h1 := hh.2.2 a0 _ he
    cases i with
    | zero => cases hq; exact h1.2
    | succ i => simp at hq
  exact va_iald hx hb hk.1 hP 0 0 rfl rfl hin d (kk H locs ls hh hS hl)
theorem x_cald (C : xC k l E B cc nL ret own mn fr lo ce sl) {a0 n : Nat} {f : Nat → Int32} {i : Int32} (he : σ a0 = some (.inl (xCh E, n, .inl f))) (hin : vp_in i n) (d : decode cc pc = .ok (.caload, 1))
    (kk : xX k N a b σ (pc + 1) lv (.int (f i.toNatClampNeg) :: st)) : xX k N a b σ pc lv (.int i :: .ref a0 :: st) := by
  obtain ⟨p, l0, e, R, s, m, args, below, meth, c, Q, E0, B0, nL0⟩ := k
  obtain ⟨rfl, rfl, rfl, rfl, hx, hb, hml, hown, hts, hk, ⟨hR1, hR2, hR3, hR4⟩, hr, hlk, hmn, hBs⟩ := C
  intro H locs ls hh hS hl
  have hP : va_P E0.1 vwCl [(a0, .inl (xCh E0, n, .inl f))] H := fun i q2 hq => by
    have h1 := hh.2.2 a0 _ he
    cases i with
    | zero => cases hq; exact h1.2
    | succ i => simp at hq
  exact va_cald hx hb hk.1 hP 0 1 rfl rfl hin d (kk H locs ls hh hS hl)
theorem x_aald (C : xC k l E B cc nL ret own mn fr lo ce sl) {a0 n t0 : Nat} {cA : ClassId} {Cn : String} {f : Nat → Option Nat} {i : Int32} {v : Value} (he : σ a0 = some (.inl (cA, n, .inr (.inr (.inr (.inr f)))))) (ht : (xtys E)[t0]? = some (cA, .object Cn)) (hin : vp_in i n) (hv : va_rf (f i.toNatClampNeg) = v) (d : decode cc pc = .ok (.aaload, 1))
    (kk : xX k N a b σ (pc + 1) lv (v :: st)) : xX k N a b σ pc lv (.int i :: .ref a0 :: st) := by
  obtain ⟨p, l0, e, R, s, m, args, below, meth, c, Q, E0, B0, nL0⟩ := k
  obtain ⟨rfl, rfl, rfl, rfl, hx, hb, hml, hown, hts, hk, ⟨hR1, hR2, hR3, hR4⟩, hr, hlk, hmn, hBs⟩ := C
  subst hv
  intro H locs ls hh hS hl
  have hP : va_P E0.1 vwCl [(a0, .inl (cA, n, .inr (.inr (.inr (.inr f)))))] H := fun i q2 hq => by
    have h1 := hh.2.2 a0 _ he
    cases i with
    | zero => cases hq; exact h1.2
    | succ i => simp at hq
  exact va_aldq hx hb hk.1 hP 0 t0 rfl ht hin d (kk H locs ls hh hS hl)
theorem x_alen (C : xC k l E B cc nL ret own mn fr lo ce sl) {a0 n t0 : Nat} {cA : ClassId} {ty : FieldType} {x} (he : σ a0 = some (.inl (cA, n, x))) (ht : (xtys E)[t0]? = some (cA, ty)) (d : decode cc pc = .ok (.arraylength, 1))
    (kk : xX k N a b σ (pc + 1) lv (.int (nI n) :: st)) : xX k N a b σ pc lv (.ref a0 :: st) := by
  obtain ⟨p, l0, e, R, s, m, args, below, meth, c, Q, E0, B0, nL0⟩ := k
  obtain ⟨rfl, rfl, rfl, rfl, hx, hb, hml, hown, hts, hk, ⟨hR1, hR2, hR3, hR4⟩, hr, hlk, hmn, hBs⟩ := C
  intro H locs ls hh hS hl
  have hP : va_P E0.1 vwCl [(a0, .inl (cA, n, x))] H := fun i q2 hq => by
    have h1 := hh.2.2 a0 _ he
    cases i with
    | zero => cases hq; exact h1.2
    | succ i => simp at hq
  exact va_alen hx hb hk.1 hP 0 t0 rfl ht rfl d (kk H locs ls hh hS hl)
theorem x_cell {cA : ClassId} {n : Nat} {f g : Nat → Int32} (h : ∀ j, j < n → f j = g j) : vp_cell cA (n, .inl f) = vp_cell cA (n, .inl g) := by
  rw [vp_cell_i, vp_cell_i]
  unfold arrV
  congr 1
  congr 1
  funext j
  show Value.int (f j.val) = Value.int (g j.val)
  rw [h j.val j.isLt]
theorem x_iast (C : xC k l E B cc nL ret own mn fr lo ce sl) {a0 n : Nat} {f g : Nat → Int32} {i x : Int32} {σ2 : Sg} (he : σ a0 = some (.inl (xI E, n, .inl f))) (hin : vp_in i n) (hg : ∀ j, j < n → upd f i.toNatClampNeg x j = g j) (hs : xup σ a0 (.inl (xI E, n, .inl g)) = σ2) (d : decode cc pc = .ok (.iastore, 1))
    (kk : xX k N a b σ2 (pc + 1) lv (st)) : xX k N a b σ pc lv (.int x :: .int i :: .ref a0 :: st) := by
  obtain ⟨p, l0, e, R, s, m, args, below, meth, c, Q, E0, B0, nL0⟩ := k
  obtain ⟨rfl, rfl, rfl, rfl, hx, hb, hml, hown, hts, hk, ⟨hR1, hR2, hR3, hR4⟩, hr, hlk, hmn, hBs⟩ := C
  subst hs
  intro H locs ls hh hS hl
  obtain ⟨hba, h0⟩ := hh.2.2 a0 _ he
  refine W.iast hx hb h0 ((hk.1.2 0 _ rfl).1 n (fun j => .int (f j))) (fun q => by cases q) (by show ¬ (i < 0 ∨ (arrV _ _ _).slots.size ≤ _); rw [arrV_size]; exact hin) rfl rfl d fun H1 e z oq => ?_
  refine kk H1 _ ls (hh.put he z oq ?_) (hS.put z oq hba) hl
  show H1[a0]? = some (vp_cell _ _)
  rw [← x_cell hg, e]
  rw [vp_cell_i, vp_cell_i, arrV_store]
  congr 2
  funext q
  by_cases hq : q = i.toNatClampNeg
  · subst hq
    simp [updV, upd, vp_nar]
    try rfl
  · simp [updV, upd, hq]
theorem x_cast (C : xC k l E B cc nL ret own mn fr lo ce sl) {a0 n : Nat} {f g : Nat → Int32} {i x : Int32} {σ2 : Sg} (he : σ a0 = some (.inl (xCh E, n, .inl f))) (hin : vp_in i n) (hg : ∀ j, j < n → upd f i.toNatClampNeg (vp_nar .char x) j = g j) (hs : xup σ a0 (.inl (xCh E, n, .inl g)) = σ2) (d : decode cc pc = .ok (.castore, 1))
    (kk : xX k N a b σ2 (pc + 1) lv (st)) : xX k N a b σ pc lv (.int x :: .int i :: .ref a0 :: st) := by
  obtain ⟨p, l0, e, R, s, m, args, below, meth, c, Q, E0, B0, nL0⟩ := k
  obtain ⟨rfl, rfl, rfl, rfl, hx, hb, hml, hown, hts, hk, ⟨hR1, hR2, hR3, hR4⟩, hr, hlk, hmn, hBs⟩ := C
  subst hs
  intro H locs ls hh hS hl
  obtain ⟨hba, h0⟩ := hh.2.2 a0 _ he
  refine W.cast hx hb h0 ((hk.1.2 1 _ rfl).1 n (fun j => .int (f j))) (fun q => by cases q) (by show ¬ (i < 0 ∨ (arrV _ _ _).slots.size ≤ _); rw [arrV_size]; exact hin) rfl rfl d fun H1 e z oq => ?_
  refine kk H1 _ ls (hh.put he z oq ?_) (hS.put z oq hba) hl
  show H1[a0]? = some (vp_cell _ _)
  rw [← x_cell hg, e]
  rw [vp_cell_i, vp_cell_i, arrV_store]
  congr 2
  funext q
  by_cases hq : q = i.toNatClampNeg
  · subst hq
    simp [updV, upd, vp_nar]
    try rfl
  · simp [updV, upd, hq]
theorem x_copy (C : xC k l E B cc nL ret own mn fr lo ce sl) {a0 a1 n0 n1 idx : Nat} {f g g2 : Nat → Int32} {sp dp n : Int32} {σ2 : Sg} (w1 : Cond.methodLink own idx arraycopyName ∈ xG) (w2 : Cond.native arraycopyName ∈ xG) (w3 : Cond.static arraycopyName ∈ xG) (w4 : Cond.initialized "java/lang/System" ∈ xG) (he0 : σ a0 = some (.inl (xI E, n0, .inl f))) (he1 : σ a1 = some (.inl (xI E, n1, .inl g))) (hd : a0 ≠ a1) (h1 : ¬ sp < 0) (h2 : ¬ dp < 0) (h3 : ¬ n < 0) (h4 : sp.toNatClampNeg + n.toNatClampNeg ≤ n0) (h5 : dp.toNatClampNeg + n.toNatClampNeg ≤ n1) (hg : ∀ j, j < n1 → va_cpy f g sp.toNatClampNeg dp.toNatClampNeg n.toNatClampNeg j = g2 j) (hfr : 1 ≤ fr) (hlo : (st.map fun v => v.category).sum + (nativeFrameWords "java/lang/System" "arraycopy" 5 + 11) ≤ lo) (hs : xup σ a1 (.inl (xI E, n1, .inl g2)) = σ2) (d : decode cc pc = .ok (.invokestatic idx, 3))
    (kk : xX k N a b σ2 (pc + 3) lv (st)) : xX k N a b σ pc lv (.int n :: .int dp :: .ref a1 :: .int sp :: .ref a0 :: st) := by
  obtain ⟨p, l0, e, R, s, m, args, below, meth, c, Q, E0, B0, nL0⟩ := k
  obtain ⟨rfl, rfl, rfl, rfl, hx, hb, hml, hown, hts, hk, ⟨hR1, hR2, hR3, hR4⟩, hr, hlk, hmn, hBs⟩ := C
  subst hs
  intro H locs ls hh hS hl
  obtain ⟨hb0, hc0⟩ := hh.2.2 a0 _ he0
  obtain ⟨hb1, hc1⟩ := hh.2.2 a1 _ he1
  have hP : va_P E0.1 vwCl [(a0, .inl (xI E0, n0, .inl f)), (a1, .inl (xI E0, n1, .inl g))] H := fun i q2 hq => by
    match i, hq with
    | 0, hq => cases hq; exact hc0
    | 1, hq => cases hq; exact hc1
    | i + 2, hq => simp at hq
  have hD : va_D (fun q => q = a1 ∨ q = a0) [(a0, .inl (xI E0, n0, .inl f)), (a1, .inl (xI E0, n1, .inl g))] := by
    refine ⟨fun i j p q hi hj hpq => ?_, fun i q hq => ?_⟩
    · match i, j, hi, hj with
      | 0, 0, _, _ => rfl
      | 1, 1, _, _ => rfl
      | 0, 1, hi, hj => cases hi; cases hj; exact absurd hpq hd
      | 1, 0, hi, hj => cases hi; cases hj; exact absurd hpq.symm hd
      | i + 2, _, hi, _ => simp at hi
      | _, j + 2, _, hj => simp at hj
    · match i, hq with
      | 0, hq => cases hq; exact Or.inr rfl
      | 1, hq => cases hq; exact Or.inl rfl
      | i + 2, hq => simp at hq
  have nn : ∀ z : Int32, ¬ z < 0 → z.toInt = (z.toNatClampNeg : Int) := by
    intro z hz
    have hz0 : (0 : Int) ≤ z.toInt := by
      have := Int32.not_lt.mp hz
      simpa using Int32.le_iff_toInt_le.mp this
    show z.toInt = ((z.toInt.toNat : Nat) : Int)
    omega
  intro T hT X
  obtain ⟨-, k0, hk0, cm0, hkk0⟩ := (hk.1.2 0 _ rfl).1 n0 (fun j => .int (f j))
  obtain ⟨-, k1, hk1, cm1, hkk1⟩ := (hk.1.2 0 _ rfl).1 n1 (fun j => .int (g j))
  obtain ⟨vm2, X2, step⟩ := X.arraycopy hx hown (hts _ w1) (hts _ w2) (hts _ w3) (hts _ w4) (src := a0) (dst := a1) (cs := vp_cell (xI E0) (n0, .inl f)) (cd := vp_cell (xI E0) (n1, .inl g)) (srcPos := sp) (destPos := dp) (n := n) (by rw [hT]; exact hc0) (by rw [hT]; exact hc1)
    (fun _ h => by cases h) (fun _ h => by cases h) (fun h => by cases h) (fun h => by cases h) hk0 hk1 hkk0 hkk1 (by simp [refKind]) h1 h2 h3
    (by rw [nn sp h1, nn n h3]; show ¬ _ > ((arrV (xI E0) n0 (fun j => .int (f j))).slots.size : Int); rw [arrV_size]; omega)
    (by rw [nn dp h2, nn n h3]; show ¬ _ > ((arrV (xI E0) n1 (fun j => .int (g j))).slots.size : Int); rw [arrV_size]; omega)
    (fun vm₁ _ i hi => by
      have e : (vp_cell (xI E0) (n0, .inl f)).slots.getD (sp.toNatClampNeg + i) .null = .int (f (sp.toNatClampNeg + i)) := by
        show (arrV (xI E0) n0 (fun j => .int (f j))).slots.getD _ _ = _
        rw [Array.getD_eq_getD_getElem?, arrV_read _ _ (by omega)]
        rfl
      refine ⟨?_, ?_⟩
      · rw [e]
        rfl
      · rw [e]
        exact trivial)
    (g := F0 m pc ls (.int n :: .int dp :: .ref a1 :: .int sp :: .ref a0 :: st)) rfl (by rw [hml]; exact hl.1) (rest := st) rfl (by rw [hb]; exact d) (by rw [hR1]; exact hfr) (by rw [hR2]; show 2 * 0 + _ + _ ≤ _; omega)
  have e1 : copied (vp_cell (xI E0) (n0, .inl f)) (vp_cell (xI E0) (n1, .inl g)) sp dp n = vp_cell (xI E0) (n1, .inl (va_cpy f g sp.toNatClampNeg dp.toNatClampNeg n.toNatClampNeg)) := va_copied (fun z => .int z) (xI E0) (xI E0) f g h4
  rw [e1] at X2 step
  have hlt : a1 < H.size := (Array.getElem?_eq_some_iff.mp hc1).1
  have hheap : ((T.setVm vm2).setCell a1 (vp_cell (xI E0) (n1, .inl (va_cpy f g sp.toNatClampNeg dp.toNatClampNeg n.toNatClampNeg)))).heap = H.setIfInBounds a1 (vp_cell (xI E0) (n1, .inl (va_cpy f g sp.toNatClampNeg dp.toNatClampNeg n.toNatClampNeg))) := by rw [← hT]; rfl
  have oq : ∀ q : Nat, q ≠ a1 → (H.setIfInBounds a1 (vp_cell (xI E0) (n1, .inl (va_cpy f g sp.toNatClampNeg dp.toNatClampNeg n.toNatClampNeg))))[q]? = H[q]? := fun q hq => by simp [Array.getElem?_setIfInBounds, Ne.symm hq]
  obtain ⟨t, b1, b2⟩ := kk _ _ ls (hh.put he1 (by simp) oq (show (H.setIfInBounds a1 _)[a1]? = some (vp_cell (xI E0) (n1, .inl g2)) by rw [← x_cell hg]; simp [Array.getElem?_setIfInBounds, hlt])) ⟨by simp; exact hS.1, fun q g1 g2 => by
      rw [oq q (fun e => g2 (by rw [e]; exact hb1))]
      exact hS.2.1 q g1 g2, fun q hq => by
      rcases List.mem_append.mp hq with h | h
      · exact hS.2.2 q h
      · obtain ⟨z, -, hz⟩ := List.mem_map.mp h
        rw [← hz]
        exact hb1⟩ hl _ hheap X2
  exact ⟨t, step t b1, b2⟩
theorem x_mmax (C : xC k l E B cc nL ret own mn fr lo ce sl) {idx : Nat} {x y : Int32} (w1 : Cond.methodLink own idx Lib.Math.max.name ∈ xG) (w2 : Cond.static Lib.Math.max.name ∈ xG) (w3 : Cond.initialized "java/lang/Math" ∈ xG) (w4 : Cond.code Lib.Math.max.name Lib.Math.max.code 2 (some .int) ∈ xG) (hfr : 1 ≤ fr) (hlo : (st.map fun v => v.category).sum + 13 ≤ lo) (hca : a ≤ ce) (hcb : b ≤ sl) (d : decode cc pc = .ok (.invokestatic idx, 3))
    (kk : xX k N a b σ (pc + 3) lv (.int (if x < y then y else x) :: st)) : xX k N a b σ pc lv (.int y :: .int x :: st) := by
  obtain ⟨p, l0, e, R, s, m, args, below, meth, c, Q, E0, B0, nL0⟩ := k
  obtain ⟨rfl, rfl, rfl, rfl, hx, hb, hml, hown, hts, hk, ⟨hR1, hR2, hR3, hR4⟩, hr, hlk, hmn, hBs⟩ := C
  intro H locs ls hh hS hl
  exact va_mmax hx hb (by rw [hml]; exact hl.1.symm) hown (hts _ w1) (hts _ w2) (hts _ w3) (hts _ w4) (by rw [hR1]; exact hfr) (by rw [hR2]; exact hlo) (by rw [hR3]; exact hca) (by rw [hR4]; exact hcb) d (kk H locs ls hh hS hl)
theorem x_mmin (C : xC k l E B cc nL ret own mn fr lo ce sl) {idx : Nat} {x y : Int32} (w1 : Cond.methodLink own idx Lib.Math.min.name ∈ xG) (w2 : Cond.static Lib.Math.min.name ∈ xG) (w3 : Cond.initialized "java/lang/Math" ∈ xG) (w4 : Cond.code Lib.Math.min.name Lib.Math.min.code 2 (some .int) ∈ xG) (hfr : 1 ≤ fr) (hlo : (st.map fun v => v.category).sum + 13 ≤ lo) (hca : a ≤ ce) (hcb : b ≤ sl) (d : decode cc pc = .ok (.invokestatic idx, 3))
    (kk : xX k N a b σ (pc + 3) lv (.int (if y < x then y else x) :: st)) : xX k N a b σ pc lv (.int y :: .int x :: st) := by
  obtain ⟨p, l0, e, R, s, m, args, below, meth, c, Q, E0, B0, nL0⟩ := k
  obtain ⟨rfl, rfl, rfl, rfl, hx, hb, hml, hown, hts, hk, ⟨hR1, hR2, hR3, hR4⟩, hr, hlk, hmn, hBs⟩ := C
  intro H locs ls hh hS hl
  exact va_mmin hx hb (by rw [hml]; exact hl.1.symm) hown (hts _ w1) (hts _ w2) (hts _ w3) (hts _ w4) (by rw [hR1]; exact hfr) (by rw [hR2]; exact hlo) (by rw [hR3]; exact hca) (by rw [hR4]; exact hcb) d (kk H locs ls hh hS hl)
end XR
abbrev xLk (own : String) (idx : Nat) (y : MethodName) : Prop := Cond.methodLink own idx y ∈ xG ∨ ∃ host : String, Cond.methodLinkNest own idx y host ∈ xGN
abbrev xAr (y : MethodName) (n : Nat) : Prop := y.cls ≠ "java/lang/invoke/MethodHandle" ∧ y.cls ≠ "java/lang/invoke/VarHandle" ∧ (parseMethodDescriptor y.desc).map (fun d => d.parameters.length) = some n
/-- the words of a method that is called: its code, its class, how many arguments -/
def xYv (y : MethodName) (cc : ByteArray) (nL : Nat) (ret : Option FieldType) (n ci : Nat) (q : vw_C) : Prop := Cond.instanceMethod y ∈ xG ∧ Cond.selects y.cls y y ∈ xG ∧ Cond.code y cc nL ret ∈ xG ∧ Cond.initialized y.cls ∈ xG ∧ xAr y n ∧ vwCl[ci]? = some q ∧ q.1 = y.cls
def xYs (y : MethodName) (cc : ByteArray) (nL : Nat) (ret : Option FieldType) (n : Nat) : Prop := Cond.static y ∈ xG ∧ Cond.code y cc nL ret ∈ xG ∧ Cond.initialized y.cls ∈ xG ∧ xAr y n
def xYi (y : MethodName) (cc : ByteArray) (nL : Nat) (n : Nat) : Prop := Cond.instanceMethod y ∈ xG ∧ Cond.code y cc nL none ∈ xG ∧ Cond.initialized y.cls ∈ xG ∧ xAr y n ∧ y.name = "<init>"
theorem x_ws {args : Array Value} {s : State} {y : MethodName} {cc : ByteArray} {nL : Nat} {ret : Option FieldType} (hts : ∀ w ∈ xG, w.before args s = true) (hc : Cond.code y cc nL ret ∈ xG) : ∀ w ∈ (Cond.code y cc nL ret :: xG), ∀ (a' : Array Value) (U : State), s.WarmedH U.vm → w.before a' U = true := fun w hw a' U hW => by
  have hm : w ∈ xG := by
    rcases List.mem_cons.mp hw with h | h
    · rw [h]; exact hc
    · exact h
  exact word_at hW (xG_good hm) (hts w hm)
theorem x_pre {E : xEnv} {B N : Nat} {σ : Sg} {av : List Value} : FrameBlind (va_Pc av (fun U => xh E B N σ U.heap ∧ xk E U)) := fun a U g mk q => ⟨q.1, q.2.1, xk.same (u := U) (U := U.calling g mk a) rfl q.2.2⟩
section XRC
variable {k : xT} {l : Launch} {E : xEnv} {B : Nat} {cc : ByteArray} {nL : Nat} {ret : Option FieldType} {own mn : String} {fr lo ce sl N a b : Nat} {σ : Sg} {pc : Nat} {lv : List (Option Value)} {st : List Value}
variable {y : MethodName} {cc2 : ByteArray} {nL2 : Nat} {ret2 : Option FieldType} {fr2 lo2 ce2 sl2 : Nat} {As : List Value} {N2 : Nat} {σ1 σ2 σ3 : Sg} {oc : Option Value} {idx n b0 : Nat} {st0 : List Value}
/-- from a call's run to what follows -/
theorem x_run {p : Program} {e : Env} {R : Room} {s : State} {m : MethodId} {args : Array Value} {below : List Frame} {meth : Method} {c : Code} {H : Heap} {locs : List Loc} {ls : Array Slot} {Q : State → Prop} {g : JFrame} {av : Array Value} {stk : List Value} (hs : xk E s) (hg : g = F0 m pc ls stk) (hr : va_Run p l e R s m args below meth c H locs a b ce2 sl2 g st (xQc E B N2 σ2 oc av) (fun q => B ≤ q)) (hS : va_S (fun q => B ≤ q) s.heap H locs) (hl : lv_has ls nL (xL 0 lv)) (hB : B ≤ s.heap.size)
    (kk : ∀ (H : Heap) (locs : List Loc) (ls : Array Slot), xh E B N2 σ2 H → va_S (fun q => B ≤ q) s.heap H locs → lv_has ls nL (xL 0 lv) → W p l e R s m args below meth c H locs (a + ce2) (b + sl2) Q (F0 m (pc + 3) ls (oc.toList ++ st))) : W p l e R s m args below meth c H locs a b Q g := by
  subst hg
  intro T hT X
  obtain ⟨v, st₀, t, T2, L, h0, X2, hL, e1, e2, ⟨hv, hx2, -, hF⟩, stp⟩ := hr T hT X
  cases hv
  obtain ⟨hz, hk2⟩ := hF
  rw [h0] at hz hk2
  obtain ⟨t2, a1, b1⟩ := kk T2.heap (locs ++ L) ls (by rw [e1]; exact hx2) ⟨Nat.le_trans hS.1 (by rw [e1]; exact hz), fun q h1 h2 => by rw [e1, hk2 q (Nat.lt_of_lt_of_le h1 hS.1) h2]; exact hS.2.1 q h1 h2, fun q hq => by
    rcases List.mem_append.mp hq with h | h
    · exact hS.2.2 q h
    · exact hL q h⟩ hl T2 rfl X2
  exact ⟨t2, stp t2 a1, b1⟩
theorem x_callV (C : xC k l E B cc nL ret own mn fr lo ce sl) (hM : xM l y cc2 nL2 ret2 fr2 lo2 ce2 sl2 E B (.ref b0 :: As) N σ1 N2 σ2 oc) {ci : Nat} {q : vw_C} {fs : List Value} (hY : xYv y cc2 nL2 ret2 n ci q) (hl0 : xLk own idx y) (d : decode cc pc = .ok (.invokevirtual idx, 3)) (he : σ b0 = some (.inr (ci, fs))) (hs1 : σ = σ1) (hs2 : σ2 = σ3) (hn : As.length = n) (hst : st0 = As.reverse ++ .ref b0 :: st) (hcat : (st.map fun v => v.category).sum ≤ 8) (hr1 : fr2 + 1 ≤ fr) (hr2 : 8 + (nL2 + 11) + lo2 ≤ lo) (hr3 : a + ce2 ≤ ce) (hr4 : b + sl2 ≤ sl)
    (kk : xX k N2 (a + ce2) (b + sl2) σ3 (pc + 3) lv (oc.toList ++ st)) : xX k N a b σ pc lv st0 := by
  obtain ⟨p, l0, e, R, s, m, args, below, meth, c, Q, E0, B0, nL0⟩ := k
  obtain ⟨rfl, rfl, rfl, rfl, hx, hb, hml, hown, hts, hk, ⟨hR1, hR2, hR3, hR4⟩, hr, hlk, hmn, hBs⟩ := C
  subst hs1; subst hs2; subst hst
  obtain ⟨w1, w2, w3, w4, ⟨w5, w6, w7⟩, w8, w9⟩ := hY
  intro H locs ls hh hS hl
  have hP : va_P E0.1 vwCl [(b0, .inr (ci, fs))] H := fun i q2 hq => by
    have h1 := hh.2.2 b0 _ he
    cases i with
    | zero => cases hq; exact h1.2
    | succ i => simp at hq
  have hpv : PreV s H y.cls b0 (va_Pc (.ref b0 :: As) (fun U => xh E0 B0 N σ U.heap ∧ xk E0 U)) As := ⟨x_pre, by rw [← w9]; exact va_recv (q0 := 0) hk.1 hP w8 rfl, fun U hU hW => ⟨rfl, by rw [hU]; exact hh, xk.moved hW hk⟩⟩
  have hlen : ∀ sig, parseMethodDescriptor y.desc = some sig → n = sig.parameters.length := fun sig h => by
    rw [h] at w7
    exact (Option.some.inj w7).symm
  rcases hl0 with h | ⟨host, h⟩
  · have hrun := va_runV (e := e) (meth := meth) (below := below) (H := H) (locs := locs) (cells := a) (slots := b) (rest := st) (g := F0 m pc ls (As.reverse ++ .ref b0 :: st)) ⟨hx, hb, hml, hown, hts⟩ hM (index := idx) ⟨⟨rfl, rfl, by rw [hR1]; exact hr1, by rw [hR2]; exact hr2, x_ws hts w3, List.mem_cons_self, hts _ w3, hts _ w4, ⟨w5, w6⟩, hlen, hts _ h⟩, hts _ w1, hts _ w2⟩ hpv rfl hn hl.1 rfl (lv_room hcat) d ⟨by rw [hR3]; exact hr3, by rw [hR4]; exact hr4⟩
    exact x_run hk rfl hrun hS hl hBs kk
  · have hrun := va_runVN (e := e) (meth := meth) (below := below) (H := H) (locs := locs) (cells := a) (slots := b) (rest := st) (g := F0 m pc ls (As.reverse ++ .ref b0 :: st)) ⟨hx, hb, hml, hown, hts⟩ hM (index := idx) (host := host) ⟨⟨⟨rfl, rfl, by rw [hR1]; exact hr1, by rw [hR2]; exact hr2, x_ws hts w3, List.mem_cons_self⟩, hts _ w3, hts _ w4, ⟨w5, w6⟩, hlen, va_Nw.use rfl (hk.2 _ h)⟩, hts _ w1, hts _ w2⟩ hpv rfl hn hl.1 rfl (lv_room hcat) d ⟨by rw [hR3]; exact hr3, by rw [hR4]; exact hr4⟩
    exact x_run hk rfl hrun hS hl hBs kk
theorem x_callS (C : xC k l E B cc nL ret own mn fr lo ce sl) (hM : xM l y cc2 nL2 ret2 fr2 lo2 ce2 sl2 E B As N σ1 N2 σ2 oc) (hY : xYs y cc2 nL2 ret2 n) (hl0 : xLk own idx y) (d : decode cc pc = .ok (.invokestatic idx, 3)) (hs1 : σ = σ1) (hs2 : σ2 = σ3) (hn : As.length = n) (hst : st0 = As.reverse ++ st) (hcat : (st.map fun v => v.category).sum ≤ 8) (hr1 : fr2 + 1 ≤ fr) (hr2 : 8 + (nL2 + 11) + lo2 ≤ lo) (hr3 : a + ce2 ≤ ce) (hr4 : b + sl2 ≤ sl)
    (kk : xX k N2 (a + ce2) (b + sl2) σ3 (pc + 3) lv (oc.toList ++ st)) : xX k N a b σ pc lv st0 := by
  obtain ⟨p, l0, e, R, s, m, args, below, meth, c, Q, E0, B0, nL0⟩ := k
  obtain ⟨rfl, rfl, rfl, rfl, hx, hb, hml, hown, hts, hk, ⟨hR1, hR2, hR3, hR4⟩, hr, hlk, hmn, hBs⟩ := C
  subst hs1; subst hs2; subst hst
  obtain ⟨w1, w3, w4, w5, w6, w7⟩ := hY
  intro H locs ls hh hS hl
  have hpv : PreS s H (va_Pc As (fun U => xh E0 B0 N σ U.heap ∧ xk E0 U)) As := ⟨x_pre, fun U hU hW => ⟨rfl, by rw [hU]; exact hh, xk.moved hW hk⟩⟩
  have hlen : ∀ sig, parseMethodDescriptor y.desc = some sig → n = sig.parameters.length := fun sig h => by
    rw [h] at w7
    exact (Option.some.inj w7).symm
  rcases hl0 with h | ⟨host, h⟩
  · have hrun := va_runS (e := e) (meth := meth) (below := below) (H := H) (locs := locs) (cells := a) (slots := b) (rest := st) (g := F0 m pc ls (As.reverse ++ st)) ⟨hx, hb, hml, hown, hts⟩ hM (index := idx) ⟨⟨rfl, rfl, by rw [hR1]; exact hr1, by rw [hR2]; exact hr2, x_ws hts w3, List.mem_cons_self, hts _ w3, hts _ w4, ⟨w5, w6⟩, hlen, hts _ h⟩, hts _ w1⟩ hpv rfl hn hl.1 rfl (lv_room hcat) d ⟨by rw [hR3]; exact hr3, by rw [hR4]; exact hr4⟩
    exact x_run hk rfl hrun hS hl hBs kk
  · have hrun := va_runSN (e := e) (meth := meth) (below := below) (H := H) (locs := locs) (cells := a) (slots := b) (rest := st) (g := F0 m pc ls (As.reverse ++ st)) ⟨hx, hb, hml, hown, hts⟩ hM (index := idx) (host := host) ⟨⟨⟨rfl, rfl, by rw [hR1]; exact hr1, by rw [hR2]; exact hr2, x_ws hts w3, List.mem_cons_self⟩, hts _ w3, hts _ w4, ⟨w5, w6⟩, hlen, va_Nw.use rfl (hk.2 _ h)⟩, hts _ w1, trivial⟩ hpv rfl hn hl.1 rfl (lv_room hcat) d ⟨by rw [hR3]; exact hr3, by rw [hR4]; exact hr4⟩
    exact x_run hk rfl hrun hS hl hBs kk
theorem x_callI (C : xC k l E B cc nL ret own mn fr lo ce sl) (hM : xM l y cc2 nL2 none fr2 lo2 ce2 sl2 E B (.ref b0 :: As) N σ1 N2 σ2 oc) (hY : xYi y cc2 nL2 n) (hl0 : Cond.methodLink own idx y ∈ xG) (d : decode cc pc = .ok (.invokespecial idx, 3)) (hs1 : σ = σ1) (hs2 : σ2 = σ3) (hn : As.length = n) (hst : st0 = As.reverse ++ .ref b0 :: st) (hcat : (st.map fun v => v.category).sum ≤ 8) (hr1 : fr2 + 1 ≤ fr) (hr2 : 8 + (nL2 + 11) + lo2 ≤ lo) (hr3 : a + ce2 ≤ ce) (hr4 : b + sl2 ≤ sl)
    (kk : xX k N2 (a + ce2) (b + sl2) σ3 (pc + 3) lv (oc.toList ++ st)) : xX k N a b σ pc lv st0 := by
  obtain ⟨p, l0, e, R, s, m, args, below, meth, c, Q, E0, B0, nL0⟩ := k
  obtain ⟨rfl, rfl, rfl, rfl, hx, hb, hml, hown, hts, hk, ⟨hR1, hR2, hR3, hR4⟩, hr, hlk, hmn, hBs⟩ := C
  subst hs1; subst hs2; subst hst
  obtain ⟨w1, w3, w4, ⟨w5, w6, w7⟩, w8⟩ := hY
  intro H locs ls hh hS hl
  have hpv : PreS s H (va_Pc (.ref b0 :: As) (fun U => xh E0 B0 N σ U.heap ∧ xk E0 U)) (.ref b0 :: As) := ⟨x_pre, fun U hU hW => ⟨rfl, by rw [hU]; exact hh, xk.moved hW hk⟩⟩
  have hlen : ∀ sig, parseMethodDescriptor y.desc = some sig → n = sig.parameters.length := fun sig h => by
    rw [h] at w7
    exact (Option.some.inj w7).symm
  have hrun := va_runI (e := e) (meth := meth) (below := below) (H := H) (locs := locs) (cells := a) (slots := b) (rest := st) (g := F0 m pc ls (As.reverse ++ .ref b0 :: st)) ⟨hx, hb, hml, hown, hts⟩ hM (index := idx) ⟨⟨rfl, rfl, by rw [hR1]; exact hr1, by rw [hR2]; exact hr2, x_ws hts w3, List.mem_cons_self, hts _ w3, hts _ w4, ⟨w5, w6⟩, hlen, hts _ hl0⟩, w8, hts _ w1⟩ hpv rfl hn hl.1 rfl (lv_room hcat) d ⟨by rw [hR3]; exact hr3, by rw [hR4]; exact hr4⟩
  exact x_run hk rfl hrun hS hl hBs kk
theorem x_new (C : xC k l E B cc nL ret own mn fr lo ce sl) {ci i2 : Nat} {q : vw_C} {fs : List Value} {σ9 : Sg} (hc : vwCl[ci]? = some q) (hin : ∀ w ∈ u_ws q.1 q.2.1 q.2.2, w ∈ xG) (ty0 : Nat → FieldType) (hty : ∀ j, j < q.2.2 → parseFieldDescriptor (q.2.1 j).2.2.1 = some (ty0 j)) (w1 : Cond.classLink own i2 q.1 ∈ xG) (w2 : Cond.instantiable q.1 q.2.2 ∈ xG) (w3 : Cond.initialized q.1 ∈ xG) (hfs : ∀ j, j < q.2.2 → defaultValue (ty0 j) = vp_V fs j) (hca : a + 1 ≤ ce) (hcb : b + q.2.2 ≤ sl) (hs : xup σ N (.inr (ci, fs)) = σ9) (d : decode cc pc = .ok (.new i2, 3))
    (kk : xX k (N + 1) (a + 1) (b + q.2.2) σ9 (pc + 3) lv (.ref N :: st)) : xX k N a b σ pc lv st := by
  obtain ⟨p, l0, e, R, s, m, args, below, meth, c, Q, E0, B0, nL0⟩ := k
  obtain ⟨rfl, rfl, rfl, rfl, hx, hb, hml, hown, hts, hk, ⟨hR1, hR2, hR3, hR4⟩, hr, hlk, hmn, hBs⟩ := C
  obtain ⟨Cn, T, n⟩ := q
  subst hs
  intro H locs ls hh hS hl
  have hKn := hk.1.1 ci _ hc
  refine W.newcK hx hb hown (hts _ w1) (hts _ w2) (hts _ w3) rfl d (by rw [hR3]; exact hca) (by rw [hR4]; exact hcb) hKn.2.1 hh.1 fun H1 kC hkC e1 z1 o1 => ?_
  refine kk H1 locs ls (hh.push z1 o1 ⟨_, hc, (u_born ty0 hts hin hKn hkC e1 hty).to hfs⟩) ⟨Nat.le_trans hS.1 (by rw [z1, hh.1]; exact Nat.le_succ N), fun x h1 h2 => (o1 x (Nat.lt_of_lt_of_le h1 (by rw [← hh.1]; exact hS.1))).trans (hS.2.1 x h1 h2), hS.2.2⟩ hl
theorem x_newi (C : xC k l E B cc nL ret own mn fr lo ce sl) {n : Int32} {n2 : Nat} {σ9 : Sg} (w1 : Cond.arrayClass .int ∈ xG) (hn : ¬ n < 0) (hN : n.toNatClampNeg = n2) (hby : n2 * componentBytes .int ≤ 536870912) (hca : a + 1 ≤ ce) (hcb : b + n2 ≤ sl) (hs : xup σ N (.inl (xI E, n2, .inl (fun _ => 0))) = σ9) (d : decode cc pc = .ok (.newarray .int, 2))
    (kk : xX k (N + 1) (a + 1) (b + n2) σ9 (pc + 2) lv (.ref N :: st)) : xX k N a b σ pc lv (.int n :: st) := by
  obtain ⟨p, l0, e, R, s, m, args, below, meth, c, Q, E0, B0, nL0⟩ := k
  obtain ⟨rfl, rfl, rfl, rfl, hx, hb, hml, hown, hts, hk, ⟨hR1, hR2, hR3, hR4⟩, hr, hlk, hmn, hBs⟩ := C
  subst hs
  intro H locs ls hh hS hl
  refine va_newaK hx hb (atype := .int) (hts _ w1) rfl d rfl hn hN hby (by rw [hR3]; exact hca) (by rw [hR4]; exact hcb) hh.1 fun H1 cA e1 z1 o1 hAr hNm => ?_
  have hcA : cA = xI E0 := by
    have h1 := (hk.1.2 0 _ rfl).2
    have h2 : s.vm.findClass ("[" ++ FieldType.toString .int) = some (xI E0) := h1
    exact Option.some.inj (hNm.symm.trans h2)
  subst hcA
  refine kk H1 locs ls (hh.push z1 o1 e1) ⟨Nat.le_trans hS.1 (by rw [z1, hh.1]; exact Nat.le_succ N), fun x h1 h2 => (o1 x (Nat.lt_of_lt_of_le h1 (by rw [← hh.1]; exact hS.1))).trans (hS.2.1 x h1 h2), hS.2.2⟩ hl
theorem x_newc (C : xC k l E B cc nL ret own mn fr lo ce sl) {n : Int32} {n2 : Nat} {σ9 : Sg} (w1 : Cond.arrayClass .char ∈ xG) (hn : ¬ n < 0) (hN : n.toNatClampNeg = n2) (hby : n2 * componentBytes .char ≤ 536870912) (hca : a + 1 ≤ ce) (hcb : b + n2 ≤ sl) (hs : xup σ N (.inl (xCh E, n2, .inl (fun _ => 0))) = σ9) (d : decode cc pc = .ok (.newarray .char, 2))
    (kk : xX k (N + 1) (a + 1) (b + n2) σ9 (pc + 2) lv (.ref N :: st)) : xX k N a b σ pc lv (.int n :: st) := by
  obtain ⟨p, l0, e, R, s, m, args, below, meth, c, Q, E0, B0, nL0⟩ := k
  obtain ⟨rfl, rfl, rfl, rfl, hx, hb, hml, hown, hts, hk, ⟨hR1, hR2, hR3, hR4⟩, hr, hlk, hmn, hBs⟩ := C
  subst hs
  intro H locs ls hh hS hl
  refine va_newaK hx hb (atype := .char) (hts _ w1) rfl d rfl hn hN hby (by rw [hR3]; exact hca) (by rw [hR4]; exact hcb) hh.1 fun H1 cA e1 z1 o1 hAr hNm => ?_
  have hcA : cA = xCh E0 := by
    have h1 := (hk.1.2 1 _ rfl).2
    have h2 : s.vm.findClass ("[" ++ FieldType.toString .char) = some (xCh E0) := h1
    exact Option.some.inj (hNm.symm.trans h2)
  subst hcA
  refine kk H1 locs ls (hh.push z1 o1 e1) ⟨Nat.le_trans hS.1 (by rw [z1, hh.1]; exact Nat.le_succ N), fun x h1 h2 => (o1 x (Nat.lt_of_lt_of_le h1 (by rw [← hh.1]; exact hS.1))).trans (hS.2.1 x h1 h2), hS.2.2⟩ hl
theorem x_newq (C : xC k l E B cc nL ret own mn fr lo ce sl) {n : Int32} {n2 t0 i2 : Nat} {cA : ClassId} {Cn : String} {σ9 : Sg} (w1 : Cond.classLink own i2 Cn ∈ xG) (w2 : Cond.arrayOver (.object Cn) ∈ xGN) (ht : (xtys E)[t0]? = some (cA, .object Cn)) (hn : ¬ n < 0) (hN : n.toNatClampNeg = n2) (hby : n2 * 4 ≤ 536870912) (hca : a + 1 ≤ ce) (hcb : b + n2 ≤ sl) (hs : xup σ N (.inl (cA, n2, .inr (.inr (.inr (.inr (fun _ => none)))))) = σ9) (d : decode cc pc = .ok (.anewarray i2, 3))
    (kk : xX k (N + 1) (a + 1) (b + n2) σ9 (pc + 3) lv (.ref N :: st)) : xX k N a b σ pc lv (.int n :: st) := by
  obtain ⟨p, l0, e, R, s, m, args, below, meth, c, Q, E0, B0, nL0⟩ := k
  obtain ⟨rfl, rfl, rfl, rfl, hx, hb, hml, hown, hts, hk, ⟨hR1, hR2, hR3, hR4⟩, hr, hlk, hmn, hBs⟩ := C
  subst hs; subst hN
  intro H locs ls hh hS hl
  refine W.anew hx hb hown (hts _ w1) (va_AO.use (hk.2 _ w2)) rfl d rfl hn hby (by rw [hR3]; exact hca) (by rw [hR4]; exact hcb) fun cB kA comp f1 f2 f3 f4 => ?_
  have hcA : cB = cA := by
    obtain ⟨kA2, comp2, g1, g2, g3, g4⟩ := (hk.1.2 t0 _ ht).2
    exact Option.some.inj (f1.symm.trans g4)
  subst hcA
  generalize hH1 : H.push ({ cls := cB, slots := Array.replicate n.toNatClampNeg .null, vm := .none } : Cell) = H1
  have z1 : H1.size = N + 1 := by rw [← hH1, Array.size_push, hh.1]
  have e1 : H1[N]? = some (arrV cB n.toNatClampNeg (fun _ => .null)) := by rw [← hH1, ← hh.1, Array.getElem?_push_size, ← arrV_new]
  have o1 : ∀ q : Nat, q < N → H1[q]? = H[q]? := fun q hq => by rw [← hH1, Array.getElem?_push, if_neg (by rw [hh.1]; exact Nat.ne_of_lt hq)]
  rw [hh.1]
  refine kk H1 locs ls (hh.push z1 o1 (show H1[N]? = some (vp_cell _ _) by rw [vp_cell_q]; exact e1)) ⟨Nat.le_trans hS.1 (by rw [z1, hh.1]; exact Nat.le_succ N), fun x h1 h2 => (o1 x (Nat.lt_of_lt_of_le h1 (by rw [← hh.1]; exact hS.1))).trans (hS.2.1 x h1 h2), hS.2.2⟩ hl
theorem x_aast (C : xC k l E B cc nL ret own mn fr lo ce sl) {a0 n t0 v ci : Nat} {cA : ClassId} {r : vw_C} {f g : Nat → Option Nat} {vs : List Value} {i : Int32} {σ9 : Sg} (he : σ a0 = some (.inl (cA, n, .inr (.inr (.inr (.inr f)))))) (ht : (xtys E)[t0]? = some (cA, .object r.1)) (hv : σ v = some (.inr (ci, vs))) (hc : vwCl[ci]? = some r) (hin : vp_in i n) (hg : ∀ j, j < n → va_up f i.toNatClampNeg (some v) j = g j) (hs : xup σ a0 (.inl (cA, n, .inr (.inr (.inr (.inr g))))) = σ9) (d : decode cc pc = .ok (.aastore, 1))
    (kk : xX k N a b σ9 (pc + 1) lv (st)) : xX k N a b σ pc lv (.ref v :: .int i :: .ref a0 :: st) := by
  obtain ⟨p, l0, e, R, s, m, args, below, meth, c, Q, E0, B0, nL0⟩ := k
  obtain ⟨rfl, rfl, rfl, rfl, hx, hb, hml, hown, hts, hk, ⟨hR1, hR2, hR3, hR4⟩, hr, hlk, hmn, hBs⟩ := C
  subst hs
  intro H locs ls hh hS hl
  have hlt : i.toNatClampNeg < n := Nat.not_le.mp fun q => hin (Or.inr q)
  have h0 : ¬ i < 0 := fun q => hin (Or.inl q)
  obtain ⟨hba, hca⟩ := hh.2.2 a0 _ he
  obtain ⟨-, r2, hr2, cellV, g1, g2, g3, -⟩ := hh.2.2 v _ hv
  have hcls := (hk.1.1 ci r hc).2
  obtain ⟨kA, comp, k1, k2, k3, -⟩ := (hk.1.2 t0 _ ht).2
  have hcomp : comp = E0.1.1 ci := Option.some.inj (k3.symm.trans hcls.1)
  subst hcomp
  obtain ⟨kC, hkC, -⟩ := hcls.2
  refine W.aast hx hb hca (fun q h => by cases h) (fun h => by cases h) k1 k2 rfl hkC ⟨h0, by show _ < (arrV _ _ _).slots.size; rw [arrV_size]; exact hlt⟩ g1 (fun q h => by rw [g3] at h; cases h) (by rw [g2]; exact hkC) (by rw [g2]; exact va_assign hcls) rfl rfl d fun H1 e z oq => ?_
  refine kk H1 _ ls (hh.put he z oq ?_) (hS.put z oq hba) hl
  show H1[a0]? = some (vp_cell _ _)
  rw [e]
  rw [vp_cell_q, vp_cell_q, arrV_store]
  unfold arrV
  congr 2
  congr 1
  funext q
  show updV (fun j => va_rf (f j)) i.toNatClampNeg (.ref v) q.val = va_rf (g q.val)
  rw [← hg q.val q.isLt]
  by_cases hq : q.val = i.toNatClampNeg
  · simp [updV, va_up, va_rf, hq]
  · simp [updV, va_up, hq]
theorem x_obj (C : xC k l E B cc nL ret own mn fr lo ce sl) (w1 : Cond.methodLink own idx objectInit ∈ xG) (w2 : Cond.instanceMethod objectInit ∈ xG) (w3 : Cond.code objectInit ⟨#[0xb1]⟩ 1 none ∈ xG) {a0 : Nat} (d : decode cc pc = .ok (.invokespecial idx, 3)) (hfr : 1 ≤ fr) (hlo : (st.map fun v => v.category).sum + 12 ≤ lo)
    (kk : xX k N a b σ (pc + 3) lv (st)) : xX k N a b σ pc lv (.ref a0 :: st) := by
  obtain ⟨p, l0, e, R, s, m, args, below, meth, c, Q, E0, B0, nL0⟩ := k
  obtain ⟨rfl, rfl, rfl, rfl, hx, hb, hml, hown, hts, hk, ⟨hR1, hR2, hR3, hR4⟩, hr, hlk, hmn, hBs⟩ := C
  intro H locs ls hh hS hl
  refine W.objInit hx hb hown (hts _ w1) (hts _ w2) (hts _ w3) rfl (by rw [hml]; exact hl.1) rfl d (by rw [hR1]; exact hfr) (by rw [hR2]; show 2 * 0 + _ + _ ≤ _; omega) ?_
  exact (kk H locs ls hh hS hl)
theorem x_zret {ty : FieldType} (C : xC k l E B cc nL (some ty) own mn fr lo ce sl) {v v2 : Int32} (Z : xZ k ce sl N2 σ2 (some (.int v2))) (d : decode cc pc = .ok (.ireturn, 1)) (hnw : narrow ty (.int v) = .int v) (ha : a ≤ ce) (hb2 : b ≤ sl) (hN : N = N2) (hs : σ = σ2) (hv : v = v2) : xX k N a b σ pc lv [.int v] := by
  obtain ⟨p, l0, e, R, s, m, args, below, meth, c, Q, E0, B0, nL0⟩ := k
  obtain ⟨rfl, rfl, rfl, rfl, hx, hb, hml, hown, hts, hk, ⟨hR1, hR2, hR3, hR4⟩, hr, hlk, hmn, hBs⟩ := C
  subst hN; subst hs; subst hv
  have Z : Q = _ := Z
  subst Z
  intro H locs ls hh hS hl
  refine W.widen ha hb2 ?_
  exact W.zret hx hb hr hnw (fun t ht hW => ⟨rfl, by rw [ht]; exact hh, xk.moved hW hk, hS.F ht⟩) hS.2.2 d hlk
theorem x_lret (C : xC k l E B cc nL (some .long) own mn fr lo ce sl) {v v2 : Int64} (Z : xZ k ce sl N2 σ2 (some (.long v2))) (d : decode cc pc = .ok (.lreturn, 1))  (ha : a ≤ ce) (hb2 : b ≤ sl) (hN : N = N2) (hs : σ = σ2) (hv : v = v2) : xX k N a b σ pc lv [.long v] := by
  obtain ⟨p, l0, e, R, s, m, args, below, meth, c, Q, E0, B0, nL0⟩ := k
  obtain ⟨rfl, rfl, rfl, rfl, hx, hb, hml, hown, hts, hk, ⟨hR1, hR2, hR3, hR4⟩, hr, hlk, hmn, hBs⟩ := C
  subst hN; subst hs; subst hv
  have Z : Q = _ := Z
  subst Z
  intro H locs ls hh hS hl
  refine W.widen ha hb2 ?_
  exact W.lret hx hb hr (fun t ht hW => ⟨rfl, by rw [ht]; exact hh, xk.moved hW hk, hS.F ht⟩) hS.2.2 d hlk
theorem x_vret (C : xC k l E B cc nL none own mn fr lo ce sl) (Z : xZ k ce sl N2 σ2 none) (d : decode cc pc = .ok (.return_, 1)) (ha : a ≤ ce) (hb2 : b ≤ sl) (hN : N = N2) (hs : σ = σ2) : xX k N a b σ pc lv [] := by
  obtain ⟨p, l0, e, R, s, m, args, below, meth, c, Q, E0, B0, nL0⟩ := k
  obtain ⟨rfl, rfl, rfl, rfl, hx, hb, hml, hown, hts, hk, ⟨hR1, hR2, hR3, hR4⟩, hr, hlk, hmn, hBs⟩ := C
  subst hN; subst hs
  have Z : Q = _ := Z
  subst Z
  intro H locs ls hh hS hl
  refine W.widen ha hb2 ?_
  exact W.vret hx hb hr (fun t ht hW => ⟨rfl, by rw [ht]; exact hh, xk.moved hW hk, hS.F ht⟩) hS.2.2 d hlk
theorem x_aret {on : String} (C : xC k l E B cc nL (some (.object on)) own mn fr lo ce sl) {v v2 : Value} (Z : xZ k ce sl N2 σ2 (some v2)) (d : decode cc pc = .ok (.areturn, 1)) (hvr : v = .null ∨ ∃ a, v = .ref a) (ha : a ≤ ce) (hb2 : b ≤ sl) (hN : N = N2) (hs : σ = σ2) (hv : v = v2) : xX k N a b σ pc lv [v] := by
  obtain ⟨p, l0, e, R, s, m, args, below, meth, c, Q, E0, B0, nL0⟩ := k
  obtain ⟨rfl, rfl, rfl, rfl, hx, hb, hml, hown, hts, hk, ⟨hR1, hR2, hR3, hR4⟩, hr, hlk, hmn, hBs⟩ := C
  subst hN; subst hs; subst hv
  have Z : Q = _ := Z
  subst Z
  intro H locs ls hh hS hl
  refine W.widen ha hb2 ?_
  exact W.aret hx hb hr (Or.inl ⟨_, rfl⟩) hvr (fun t ht hW => ⟨rfl, by rw [ht]; exact hh, xk.moved hW hk, hS.F ht⟩) hS.2.2 d hlk
end XRC
