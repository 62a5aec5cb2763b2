/-! the class's village V beside the law's: numbers Q, rows R; A bounds the ages; c children and y years are not yet counted -/
def SR (V : Vs) (Q f : Fn) (A k : Nat) : Prop := (V 10 k = 1 ∧ (∃ a, a ≤ A ∧ V 11 k = nI a) ∧ Q (9 + k) = V 11 k ∧ Q (13 + k) = V 12 k ∧ WR1 f (V k)) ∨ (¬ V 10 k = 1 ∧ Q (9 + k) = -1 ∧ ∀ j, j < 60 → f j = 0)
def LR (V : Vs) (Q : Fn) (R : Nat → Fn) (A : Nat) (c y : Int32) : Prop :=
  IU V ∧ ((∃ x, x ≤ 9 ∧ V 8 1 = nI x) ∧ ∃ x, x ≤ 99 ∧ V 8 2 = nI x) ∧ (Q 0 = V 9 0 ∧ Q 1 = V 9 1 ∧ Q 2 = V 9 2 ∧ Q 3 + c = V 9 3 ∧ Q 4 + y = V 9 4) ∧ (∀ j, j < 4 → Q (5 + j) = V 8 j) ∧ (∀ k, k < 4 → SR V Q (R k) A k) ∧ (∀ k, 4 ≤ k → k < 8 → ¬ V 10 k = 1)
theorem SR_cg {V V2 : Vs} {Q Q2 f f2 : Fn} {A k : Nat} (h10 : V2 10 k = V 10 k) (h11 : V2 11 k = V 11 k) (h12 : V2 12 k = V 12 k) (hk : V2 k = V k) (q9 : Q2 (9 + k) = Q (9 + k)) (q13 : Q2 (13 + k) = Q (13 + k)) (hf : ∀ j, j < 60 → f2 j = f j) (H : SR V Q f A k) : SR V2 Q2 f2 A k := by
  unfold SR
  rw [h10, h11, h12, hk, q9, q13]
  rcases H with ⟨a1, a2, a3, a4, a5⟩ | ⟨a1, a2, a3⟩
  · exact Or.inl ⟨a1, a2, a3, a4, fun m w hm hw => (hf _ (by omega)).trans (a5.1 m w hm hw), a5.2⟩
  · exact Or.inr ⟨a1, a2, fun j hj => (hf j hj).trans (a3 j hj)⟩
theorem SR.is {V : Vs} {Q f : Fn} {A k : Nat} (H : SR V Q f A k) (hp : V 10 k = 1) : (∃ a, a ≤ A ∧ V 11 k = nI a) ∧ Q (9 + k) = V 11 k ∧ Q (13 + k) = V 12 k ∧ WR1 f (V k) := by
  rcases H with ⟨a1, a2⟩ | ⟨a1, a2, a3⟩
  · exact a2
  · exact absurd hp a1
theorem SR.no {V : Vs} {Q f : Fn} {A k : Nat} (H : SR V Q f A k) (hp : ¬ V 10 k = 1) : Q (9 + k) = -1 ∧ ∀ j, j < 60 → f j = 0 := by
  rcases H with ⟨a1, a2⟩ | ⟨a1, a2, a3⟩
  · exact absurd a1 hp
  · exact ⟨a2, a3⟩
section LRA
variable {V : Vs} {Q : Fn} {R : Nat → Fn} {A k : Nat} {c y : Int32}
theorem LR.sr (H : LR V Q R A c y) (hk : k < 4) : SR V Q (R k) A k := H.2.2.2.2.1 k hk
theorem LR.hi (H : LR V Q R A c y) (h4 : 4 ≤ k) (h8 : k < 8) : ¬ V 10 k = 1 := H.2.2.2.2.2 k h4 h8
theorem LR.q5 (H : LR V Q R A c y) {j : Nat} (hj : j < 4) : Q (5 + j) = V 8 j := H.2.2.2.1 j hj
theorem LR.sk (H : LR V Q R A c y) : sok V := H.1.2
theorem LR.age (H : LR V Q R A c y) (hk : k < 4) (hp : V 10 k = 1) : ∃ a, a ≤ A ∧ V 11 k = nI a ∧ Q (9 + k) = nI a := by
  obtain ⟨⟨a, h1, h2⟩, h3, -⟩ := (H.sr hk).is hp
  exact ⟨a, h1, h2, h3.trans h2⟩
theorem LR.row (H : LR V Q R A c y) (hk : k < 4) (hp : V 10 k = 1) : WR1 (R k) (V k) := ((H.sr hk).is hp).2.2.2
/-- who is there, by the law's numbers -/
theorem LR.neg (H : LR V Q R A c y) (hA : A < 2 ^ 31) (hk : k < 4) : Q (9 + k) < 0 ↔ ¬ V 10 k = 1 := by
  by_cases hp : V 10 k = 1
  · obtain ⟨a, h1, h2, h3⟩ := H.age hk hp
    rw [h3]
    exact ⟨fun z => absurd z (nI_pos (by omega)), fun z => absurd hp z⟩
  · rw [((H.sr hk).no hp).1]
    exact ⟨fun _ => hp, fun _ => by decide⟩
theorem LR.pos (H : LR V Q R A c y) (hA : A < 2 ^ 31) (hk : k < 4) : 0 ≤ Q (9 + k) ↔ V 10 k = 1 := by
  constructor
  · intro h
    by_cases hp : V 10 k = 1
    · exact hp
    · exact absurd ((H.neg hA hk).mpr hp) (Int32.not_lt.mpr h)
  · intro h
    exact Int32.not_lt.mp (fun z => (H.neg hA hk).mp z h)
end LRA
theorem LR_cg {V W : Vs} {Q : Fn} {R : Nat → Fn} {A : Nat} {c y : Int32} (h : ∀ r j, inS r j → W r j = V r j) (H : LR V Q R A c y) : LR W Q R A c y := by
  obtain ⟨⟨⟨r1, r2⟩, s⟩, ⟨h1, h2⟩, ⟨q0, q1, q2, q3, q4⟩, q5, hs, hn⟩ := H
  have e9 : ∀ j, j < 5 → W 9 j = V 9 j := fun j hj => h 9 j (Or.inr (Or.inl ⟨rfl, hj⟩))
  have e8 : ∀ j, W 8 j = V 8 j := fun j => h 8 j (Or.inl (by omega))
  have e10 : ∀ k, k < 8 → W 10 k = V 10 k := fun k hk => h 10 k (Or.inr (Or.inr ⟨Or.inl rfl, hk⟩))
  have e11 : ∀ k, k < 8 → W 11 k = V 11 k := fun k hk => h 11 k (Or.inr (Or.inr ⟨Or.inr (Or.inl rfl), hk⟩))
  have e12 : ∀ k, k < 8 → W 12 k = V 12 k := fun k hk => h 12 k (Or.inr (Or.inr ⟨Or.inr (Or.inr rfl), hk⟩))
  have ek : ∀ k, k < 8 → W k = V k := fun k hk => funext fun j => h k j (Or.inl (by omega))
  refine ⟨⟨⟨fun t ht j hj => by rw [ek t ht]; exact r1 t ht j hj, by rw [e8]; exact r2⟩, ?_⟩, ⟨by rw [e8]; exact h1, by rw [e8]; exact h2⟩, ⟨?_, ?_, ?_, ?_, ?_⟩, fun j hj => (q5 j hj).trans (e8 j).symm, fun k hk => ?_, fun k h4 h8 => by rw [e10 k h8]; exact hn k h4 h8⟩
  · obtain ⟨q, hq, e⟩ := s
    exact ⟨q, hq, (e9 0 (by decide)).trans e⟩
  · exact q0.trans (e9 0 (by decide)).symm
  · exact q1.trans (e9 1 (by decide)).symm
  · exact q2.trans (e9 2 (by decide)).symm
  · exact q3.trans (e9 3 (by decide)).symm
  · exact q4.trans (e9 4 (by decide)).symm
  · exact SR_cg (e10 k (by omega)) (e11 k (by omega)) (e12 k (by omega)) (ek k (by omega)) rfl rfl (fun _ _ => rfl) (hs k hk)
theorem LR_us {V : Vs} {Q : Fn} {R : Nat → Fn} {A m n : Nat} {c y : Int32} (H : LR V Q R A c y) : LR (usR V m n) Q R A c y := LR_cg (fun r j h => by rw [usR_r (by unfold inS at h; omega)]) H
theorem LR_cp {V W : Vs} {Q : Fn} {R : Nat → Fn} {A : Nat} {c y : Int32} (H : LR V Q R A c y) : LR (cpV W V) Q R A c y := LR_cg (fun _ _ h => cp_in h) H
/-- where one speaker changes alone -/
theorem LR_k {V V2 : Vs} {Q Q2 : Fn} {R R2 : Nat → Fn} {A q : Nat} {c y c2 : Int32} (hq : q < 4) (H : LR V Q R A c y) (hI : IU V2) (h8 : V2 8 = V 8) (h9 : ∀ j, j ≠ 3 → V2 9 j = V 9 j) (hc : Q 3 + c2 = V2 9 3) (hV : ∀ k, k < 8 → k ≠ q → V2 10 k = V 10 k ∧ V2 11 k = V 11 k ∧ V2 12 k = V 12 k ∧ V2 k = V k) (hQ : ∀ j, j < 9 → Q2 j = Q j) (hQk : ∀ k, k < 4 → k ≠ q → Q2 (9 + k) = Q (9 + k) ∧ Q2 (13 + k) = Q (13 + k)) (hR : ∀ k, k < 4 → k ≠ q → R2 k = R k) (hn : SR V2 Q2 (R2 q) A q) : LR V2 Q2 R2 A c2 y := by
  obtain ⟨-, ⟨h1, h2⟩, ⟨q0, q1, q2, q3, q4⟩, q5, hs, hn2⟩ := H
  refine ⟨hI, ⟨by rw [h8]; exact h1, by rw [h8]; exact h2⟩, ⟨?_, ?_, ?_, ?_, ?_⟩, fun j hj => by rw [hQ _ (by omega), h8]; exact q5 j hj, fun k hk => ?_, fun k h4 h8 => by rw [(hV k h8 (by omega)).1]; exact hn2 k h4 h8⟩
  · rw [hQ 0 (by decide), h9 0 (by decide)]; exact q0
  · rw [hQ 1 (by decide), h9 1 (by decide)]; exact q1
  · rw [hQ 2 (by decide), h9 2 (by decide)]; exact q2
  · rw [hQ 3 (by decide)]; exact hc
  · rw [hQ 4 (by decide), h9 4 (by decide)]; exact q4
  · by_cases e : k = q
    · subst e; exact hn
    · obtain ⟨a1, a2, a3, a4⟩ := hV k (by omega) e
      obtain ⟨b1, b2⟩ := hQk k hk e
      rw [hR k hk e]
      exact SR_cg a1 a2 a3 a4 b1 b2 (fun _ _ => rfl) (hs k hk)
section LRS
variable {V : Vs} {Q : Fn} {R : Nat → Fn} {A k : Nat} {c y : Int32}
theorem LR_seed (H : LR V Q R A c y) {s : Nat} (hs : s < 65536) : LR (up2 V 9 0 (nI s)) (upd Q 0 (nI s)) R A c y := by
  obtain ⟨⟨r, -⟩, ⟨h1, h2⟩, ⟨q0, q1, q2, q3, q4⟩, q5, hS, hn⟩ := H
  refine ⟨⟨rg_up (by decide) r, s, hs, up2_s⟩, ⟨by rw [up2_r (by decide)]; exact h1, by rw [up2_r (by decide)]; exact h2⟩, ⟨by rw [up2_s, pk_us], ?_, ?_, ?_, ?_⟩, fun j hj => by rw [pk_un (by omega), up2_r (by decide)]; exact q5 j hj, fun k hk => ?_, fun k h4 h8 => by rw [up2_r (by decide)]; exact hn k h4 h8⟩
  · rw [pk_un (by decide), up2_n (by omega)]; exact q1
  · rw [pk_un (by decide), up2_n (by omega)]; exact q2
  · rw [pk_un (by decide), up2_n (by omega)]; exact q3
  · rw [pk_un (by decide), up2_n (by omega)]; exact q4
  · exact SR_cg (by rw [up2_r (by decide)]) (by rw [up2_r (by decide)]) (by rw [up2_r (by decide)]) (up2_r (by omega)) (pk_un (by omega)) (pk_un (by omega)) (fun _ _ => rfl) (hS k hk)
theorem LR_set (H : LR V Q R A c y) {j x : Nat} (hj : j < 4) (hx1 : j = 1 → x ≤ 9) (hx2 : j = 2 → x ≤ 99) (hx3 : j = 3 → x ≤ 100) : LR (up2 V 8 j (nI x)) (upd Q (5 + j) (nI x)) R A c y := by
  obtain ⟨⟨⟨r1, r2⟩, s⟩, ⟨h1, h2⟩, ⟨q0, q1, q2, q3, q4⟩, q5, hS, hn⟩ := H
  refine ⟨⟨⟨fun t ht q hq => by rw [up2_r (by omega)]; exact r1 t ht q hq, ?_⟩, sk_up (by omega) s⟩, ⟨?_, ?_⟩, ⟨?_, ?_, ?_, ?_, ?_⟩, fun i hi => ?_, fun k hk => ?_, fun k h4 h8 => by rw [up2_r (by decide)]; exact hn k h4 h8⟩
  · by_cases e : j = 3
    · subst e; exact ⟨x, hx3 rfl, up2_s⟩
    · rw [up2_n (by omega)]; exact r2
  · by_cases e : j = 1
    · subst e; exact ⟨x, hx1 rfl, up2_s⟩
    · rw [up2_n (by omega)]; exact h1
  · by_cases e : j = 2
    · subst e; exact ⟨x, hx2 rfl, up2_s⟩
    · rw [up2_n (by omega)]; exact h2
  · rw [pk_un (by omega), up2_r (by decide)]; exact q0
  · rw [pk_un (by omega), up2_r (by decide)]; exact q1
  · rw [pk_un (by omega), up2_r (by decide)]; exact q2
  · rw [pk_un (by omega), up2_r (by decide)]; exact q3
  · rw [pk_un (by omega), up2_r (by decide)]; exact q4
  · by_cases e : i = j
    · subst e; rw [up2_s, pk_us]
    · rw [up2_n (by omega), pk_un (by omega)]; exact q5 i hi
  · exact SR_cg (by rw [up2_r (by decide)]) (by rw [up2_r (by decide)]) (by rw [up2_r (by decide)]) (up2_r (by omega)) (pk_un (by omega)) (pk_un (by omega)) (fun _ _ => rfl) (hS k hk)
theorem LR_setAge (H : LR V Q R 99 c y) (hk : k < 4) (hp : V 10 k = 1) {a : Nat} (ha : a ≤ 99) : LR (up2 V 11 k (nI a)) (upd Q (9 + k) (nI a)) R 99 c y := by
  obtain ⟨-, b2, b3, b4⟩ := (H.sr hk).is hp
  refine LR_k hk H (iu_up (by decide) (by omega) H.1) (up2_r (by decide)) (fun j _ => by rw [up2_r (by decide)]) (by rw [up2_r (by decide)]; exact H.2.2.1.2.2.2.1) (fun i hi hne => ⟨by rw [up2_r (by decide)], up2_n (by omega), by rw [up2_r (by decide)], up2_r (by omega)⟩) (fun j hj => pk_un (by omega)) (fun i hi hne => ⟨pk_un (by omega), pk_un (by omega)⟩) (fun _ _ _ => rfl) (Or.inl ⟨by rw [up2_r (by decide)]; exact hp, ⟨a, ha, up2_s⟩, by rw [up2_s, pk_us], ?_, ?_⟩)
  · rw [pk_un (by omega), up2_r (by decide)]; exact b3
  · rw [up2_r (by omega)]; exact b4
theorem LR_teach (H : LR V Q R A c y) (hk : k < 4) (hp : V 10 k = 1) {m w x : Nat} (hm : m < 6) (hw : w < 10) (hx : x ≤ 99) : LR (up2 V k (14 * m + w) (nI x)) Q (upR R k (upd (R k) (10 * m + w) (nI x))) A c y := by
  obtain ⟨b1, b2, b3, b4⟩ := (H.sr hk).is hp
  refine LR_k hk H ⟨rg_w (by omega) (cl_nI hx) H.1.1, sk_up (by omega) H.1.2⟩ (up2_r (by omega)) (fun j _ => by rw [up2_r (by omega)]) (by rw [up2_r (by omega)]; exact H.2.2.1.2.2.2.1) (fun i hi hne => ⟨by rw [up2_r (by omega)], by rw [up2_r (by omega)], by rw [up2_r (by omega)], up2_r hne⟩) (fun j hj => rfl) (fun i hi hne => ⟨rfl, rfl⟩) (fun i _ hne => upR_n hne) (Or.inl ⟨by rw [up2_r (by omega)]; exact hp, by rw [up2_r (by omega)]; exact b1, by rw [up2_r (by omega)]; exact b2, by rw [up2_r (by omega)]; exact b3, ?_⟩)
  rw [upR_s]
  refine ⟨fun m2 w2 h1 h2 => ?_, fun m2 w2 h1 h2 h3 => ?_⟩
  · by_cases e : m2 = m ∧ w2 = w
    · obtain ⟨rfl, rfl⟩ := e
      rw [pk_us, up2_s]
    · rw [pk_un (by omega), up2_n (by omega)]; exact b4.1 m2 w2 h1 h2
  · rw [up2_n (by omega)]; exact b4.2 m2 w2 h1 h2 h3
theorem LR_go (H : LR V Q R A c y) (hk : k < 4) {g : Fn} (hg : ∀ j, j < 60 → g j = 0) : LR (up2 V 10 k 0) (upd Q (9 + k) (-1)) (upR R k g) A c y := by
  refine LR_k hk H (iu_up (by decide) (by omega) H.1) (up2_r (by decide)) (fun j _ => by rw [up2_r (by decide)]) (by rw [up2_r (by decide)]; exact H.2.2.1.2.2.2.1) (fun i hi hne => ⟨up2_n (by omega), by rw [up2_r (by decide)], by rw [up2_r (by decide)], up2_r (by omega)⟩) (fun j hj => pk_un (by omega)) (fun i hi hne => ⟨pk_un (by omega), pk_un (by omega)⟩) (fun i _ hne => upR_n hne) (Or.inr ⟨by rw [up2_s]; decide, pk_us, by rw [upR_s]; exact hg⟩)
theorem cl_0 : clS 0 = 0 := by decide
theorem LR_come (H : LR V Q R A c y) (hk : k < 4) (hp : ¬ V 10 k = 1) : LR (blS (up2 V 10 k 1) k none 0) (upd (upd Q (9 + k) 0) (13 + k) 0) R A c y := by
  have f0 := ((H.sr hk).no hp).2
  have e : ∀ r j, r ≠ k → ¬ (r = 11 ∧ j = k) → ¬ (r = 12 ∧ j = k) → blS (up2 V 10 k 1) k none 0 r j = up2 V 10 k 1 r j := by
    intro r j h1 h2 h3
    unfold blS blL
    rw [if_neg h2, if_neg h3, if_neg (fun z => h1 z.1)]
  have hrow : ∀ j, j < 84 → blS (up2 V 10 k 1) k none 0 k j = 0 := by
    intro j hj
    unfold blS blL
    rw [if_neg (by omega), if_neg (by omega), if_pos ⟨rfl, hj⟩]
    exact cl_0
  refine LR_k hk H ⟨rg_of (U := up2 V 10 k 1) (rg_up (by decide) H.1.1) ?_ ?_, ?_⟩ ?_ (fun j _ => ?_) ?_ (fun i hi hne => ⟨?_, ?_, ?_, ?_⟩) (fun j hj => ?_) (fun i hi hne => ⟨?_, ?_⟩) (fun i _ hne => rfl) (Or.inl ⟨?_, ⟨0, Nat.zero_le _, ?_⟩, ?_, ?_, ?_⟩)
  · funext j; exact e 8 j (by omega) (by omega) (by omega)
  · intro t ht j hj
    by_cases h : t = k
    · subst h; exact Or.inl ⟨0, (hrow j hj).trans cl_0.symm⟩
    · exact Or.inr (e t j h (by omega) (by omega))
  · obtain ⟨q, hq, eq⟩ := H.1.2
    exact ⟨q, hq, by rw [e 9 0 (by omega) (by omega) (by omega), up2_r (by decide)]; exact eq⟩
  · funext j; rw [e 8 j (by omega) (by omega) (by omega), up2_r (by decide)]
  · rw [e 9 j (by omega) (by omega) (by omega), up2_r (by decide)]
  · rw [e 9 3 (by omega) (by omega) (by omega), up2_r (by decide)]; exact H.2.2.1.2.2.2.1
  · rw [e 10 i (by omega) (by omega) (by omega), up2_n (by omega)]
  · rw [e 11 i (by omega) (by omega) (by omega), up2_r (by decide)]
  · rw [e 12 i (by omega) (by omega) (by omega), up2_r (by decide)]
  · funext j; rw [e i j hne (by omega) (by omega), up2_r (by omega)]
  · rw [pk_un (by omega), pk_un (by omega)]
  · rw [pk_un (by omega), pk_un (by omega)]
  · rw [pk_un (by omega), pk_un (by omega)]
  · rw [e 10 k (by omega) (by omega) (by omega), up2_s]
  · unfold blS blL; rw [if_pos ⟨rfl, rfl⟩]; rfl
  · rw [pk_un (by omega), pk_us]
    unfold blS blL; rw [if_pos ⟨rfl, rfl⟩]
  · rw [pk_us]
    unfold blS blL; rw [if_neg (by omega), if_pos ⟨rfl, rfl⟩]
  · exact ⟨fun m w hm hw => by rw [hrow _ (by omega), f0 _ (by omega)], fun m w hm h1 h2 => hrow _ (by omega)⟩
end LRS
