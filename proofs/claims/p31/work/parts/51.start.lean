theorem xNw_of {w : Cond} {A : Array Value} {s : State} (hn : xNest w = true) (h : w.before A s = true) : va_Nw w s := by
  cases w with
  | fieldLinkNest a i b n d q => exact h
  | methodLinkNest a i x q => exact h
  | arrayOver t =>
    cases t with
    | object C => exact h
    | _ => simp [xNest] at hn
  | _ => simp [xNest] at hn
set_option maxHeartbeats 4000000 in
set_option maxRecDepth 100000 in
theorem whole_start {p : Program} {e : Env} {s : State} {m : MethodId} {below : List Frame} {meth : Method} {c : Code} (l : Launch) (hflags : l.flags = flags0) {b L : Nat} {xs : Nat → Int32} (hL : L ≤ 260) (C0 : lw_At p s m meth c b L xs) : W p l e room_1 s m #[Value.ref b] below meth c s.heap [] 0 0 (lw_Z below #[Value.ref b] s) (entryFrame m ([Value.ref b] : List Value).toArray 27) := by
  obtain ⟨hx, hb, hr, hml, hown, hts, hX, hbl, hlocks, hgv⟩ := C0
  have hG : ∀ w ∈ xG, w.before #[Value.ref b] s = true := fun w h => hts w (List.mem_filter.mp h).1
  have hGN : ∀ w ∈ xGN, w.before #[Value.ref b] s = true := fun w h => hts w (List.mem_filter.mp h).1
  obtain ⟨c0, i0, n0⟩ := u_known (C := RX0) (T := TX0) (N := 2) (n := 2) hG kc_X0 (hG _ kn_X0)
  obtain ⟨c1, i1, n1⟩ := u_known (C := RX1) (T := TX1) (N := 3) (n := 3) hG kc_X1 (hG _ kn_X1)
  obtain ⟨c2, i2, n2⟩ := u_known (C := RX2) (T := TX2) (N := 4) (n := 4) hG kc_X2 (hG _ kn_X2)
  obtain ⟨c3, i3, n3⟩ := u_known (C := RX3) (T := TX3) (N := 8) (n := 8) hG kc_X3 (hG _ kn_X3)
  obtain ⟨c4, i4, n4⟩ := u_known (C := RX4) (T := TX4) (N := 4) (n := 4) hG kc_X4 (hG _ kn_X4)
  obtain ⟨cI, kI, qI, fI, gI, eI⟩ := Cond.arrayClass_spec (hG _ ka_int)
  obtain ⟨cC, kC, qC, fC, gC, eC⟩ := Cond.arrayClass_spec (hG _ ka_char)
  obtain ⟨qS, cS, kS1, aS, bS, gS, eS, fS⟩ := Cond.arrayOver_spec (hGN _ ka_X2)
  obtain ⟨qV, cV, kV1, aV, bV, gV, eV, fV⟩ := Cond.arrayOver_spec (hGN _ ka_X3)
  have hk : xk ((fun k => if k = 0 then c0 else if k = 1 then c1 else if k = 2 then c2 else if k = 3 then c3 else c4, fun k => if k = 0 then i0 else if k = 1 then i1 else if k = 2 then i2 else if k = 3 then i3 else i4), cI, cC, cS, cV) s := by
    refine ⟨⟨?_, ?_⟩, fun w hw => ?_⟩
    · intro k q hq
      match k, hq with
      | 0, hq => cases hq; exact n0
      | 1, hq => cases hq; exact n1
      | 2, hq => cases hq; exact n2
      | 3, hq => cases hq; exact n3
      | 4, hq => cases hq; exact n4
      | k + 5, hq => simp [vwCl] at hq
    · intro k q hq
      match k, hq with
      | 0, hq => cases hq; exact ⟨fun _ _ => ⟨fun _ z => by simp [arrV] at z, kI, gI, qI, eI⟩, fI⟩
      | 1, hq => cases hq; exact ⟨fun _ _ => ⟨fun _ z => by simp [arrV] at z, kC, gC, qC, eC⟩, fC⟩
      | 2, hq => cases hq; exact ⟨fun _ _ => ⟨fun _ z => by simp [arrV] at z, kS1, gS, qS, eS⟩, kS1, qS, gS, eS, aS, fS⟩
      | 3, hq => cases hq; exact ⟨fun _ _ => ⟨fun _ z => by simp [arrV] at z, kV1, gV, qV, eV⟩, kV1, qV, gV, eV, aV, fV⟩
      | k + 4, hq => simp [xtys] at hq
    · have h := hGN w hw
      have hn : xNest w = true := (List.mem_filter.mp hw).2
      exact xNw_of hn h
  have h := law_run (k0 := (p, l, e, room_1, s, m, #[Value.ref b], below, meth, c, lw_Z below #[Value.ref b] s, _, s.heap.size, 27)) (l := l) (mn := meth.name) ⟨rfl, rfl, rfl, rfl, hx, hb, hml, hown, hG, hk, ⟨rfl, rfl, rfl, rfl⟩, hr, hlocks, rfl, Nat.le_refl _⟩ ⟨hX, hbl⟩ hbl (by omega) (fun N a b2 σ lv h1 h2 => by
    intro H locs ls hh hS hl
    exact W.widen h1 h2 (va_forget hS.2.2 (lw_ret hx hb hr hlocks dL_law_1357)))
  rw [lg_entry_eq]
  have hl := lv_entry ([.ref b]) (n := 27) (Nat.le_of_ble_eq_true rfl)
  exact h s.heap [] _ ⟨rfl, Nat.le_refl _, fun _ _ z => by cases z⟩ va_S.rf hl
