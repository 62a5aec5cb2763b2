/-! class and model: the villages that agree -/
def abC (V : Vs) (r j : Nat) : Prop := (r < 8 ∧ ¬ V 10 r = 1 ∧ j < 84) ∨ ((r = 11 ∨ r = 12) ∧ j < 8 ∧ ¬ V 10 j = 1)
def inS (r j : Nat) : Prop := r < 9 ∨ (r = 9 ∧ j < 5) ∨ ((r = 10 ∨ r = 11 ∨ r = 12) ∧ j < 8)
def RV (V U : Vs) : Prop := ∀ r j, inS r j → (abC V r j → U r j = 0) ∧ (¬ abC V r j → U r j = V r j)
theorem ab_cg {V W : Vs} {r j : Nat} (h : ∀ q, q < 8 → V 10 q = W 10 q) : abC V r j ↔ abC W r j := by
  unfold abC
  constructor
  · rintro (⟨h1, h2, h3⟩ | ⟨h1, h2, h3⟩)
    · exact Or.inl ⟨h1, by rw [← h r h1]; exact h2, h3⟩
    · exact Or.inr ⟨h1, h2, by rw [← h j h2]; exact h3⟩
  · rintro (⟨h1, h2, h3⟩ | ⟨h1, h2, h3⟩)
    · exact Or.inl ⟨h1, by rw [h r h1]; exact h2, h3⟩
    · exact Or.inr ⟨h1, h2, by rw [h j h2]; exact h3⟩
theorem RV_cg {V W U : Vs} (h : ∀ r j, inS r j → V r j = W r j) (R : RV W U) : RV V U := by
  intro r j hi
  have e : abC V r j ↔ abC W r j := ab_cg (fun q hq => h 10 q (Or.inr (Or.inr ⟨Or.inl rfl, hq⟩)))
  exact ⟨fun z => (R r j hi).1 (e.mp z), fun z => ((R r j hi).2 (fun y => z (e.mpr y))).trans (h r j hi).symm⟩
section RW
variable {V U : Vs} (R : RV V U)
theorem RV.p10 (R : RV V U) {k : Nat} (hk : k < 8) : U 10 k = V 10 k := (R 10 k (Or.inr (Or.inr ⟨Or.inl rfl, hk⟩))).2 (by unfold abC; omega)
theorem RV.p9 (R : RV V U) {j : Nat} (hj : j < 5) : U 9 j = V 9 j := (R 9 j (Or.inr (Or.inl ⟨rfl, hj⟩))).2 (by unfold abC; omega)
theorem RV.p8 (R : RV V U) {j : Nat} : U 8 j = V 8 j := (R 8 j (Or.inl (by omega))).2 (by unfold abC; omega)
theorem RV.p11 (R : RV V U) {k : Nat} (hk : k < 8) (hp : V 10 k = 1) : U 11 k = V 11 k := (R 11 k (Or.inr (Or.inr ⟨Or.inr (Or.inl rfl), hk⟩))).2 (by unfold abC; intro z; rcases z with z | z; omega; exact z.2.2 hp)
theorem RV.p12 (R : RV V U) {k : Nat} (hk : k < 8) (hp : V 10 k = 1) : U 12 k = V 12 k := (R 12 k (Or.inr (Or.inr ⟨Or.inr (Or.inr rfl), hk⟩))).2 (by unfold abC; intro z; rcases z with z | z; omega; exact z.2.2 hp)
theorem RV.row (R : RV V U) {k : Nat} (hk : k < 8) (hp : V 10 k = 1) : U k = V k := by
  funext j
  refine (R k j (Or.inl (by omega))).2 ?_
  unfold abC
  rintro (z | z)
  · exact z.2.1 hp
  · omega
theorem RV.z11 (R : RV V U) {k : Nat} (hk : k < 8) (hp : ¬ V 10 k = 1) : U 11 k = 0 := (R 11 k (Or.inr (Or.inr ⟨Or.inr (Or.inl rfl), hk⟩))).1 (Or.inr ⟨Or.inl rfl, hk, hp⟩)
theorem RV.z12 (R : RV V U) {k : Nat} (hk : k < 8) (hp : ¬ V 10 k = 1) : U 12 k = 0 := (R 12 k (Or.inr (Or.inr ⟨Or.inr (Or.inr rfl), hk⟩))).1 (Or.inr ⟨Or.inr rfl, hk, hp⟩)
theorem RV.zw (R : RV V U) {k j : Nat} (hk : k < 8) (hp : ¬ V 10 k = 1) (hj : j < 84) : U k j = 0 := (R k j (Or.inl (by omega))).1 (Or.inl ⟨hk, hp, hj⟩)
theorem RV.zo (R : RV V U) {k j : Nat} (hk : k < 8) (hj : ¬ j < 84) : U k j = V k j := (R k j (Or.inl (by omega))).2 (by unfold abC; omega)
end RW
/-- by the parts -/
theorem RV_mk {V U : Vs} (h9 : ∀ j, j < 5 → U 9 j = V 9 j) (h8 : ∀ j, U 8 j = V 8 j) (h10 : ∀ k, k < 8 → U 10 k = V 10 k) (hp : ∀ k, k < 8 → V 10 k = 1 → U 11 k = V 11 k ∧ U 12 k = V 12 k ∧ U k = V k) (ha : ∀ k, k < 8 → ¬ V 10 k = 1 → U 11 k = 0 ∧ U 12 k = 0 ∧ ∀ j, (j < 84 → U k j = 0) ∧ (¬ j < 84 → U k j = V k j)) : RV V U := by
  intro r j hi
  rcases hi with h | ⟨rfl, h⟩ | ⟨h, hj⟩
  · by_cases e8 : r = 8
    · subst e8
      exact ⟨fun z => by unfold abC at z; omega, fun _ => h8 j⟩
    · have hr : r < 8 := by omega
      by_cases hpr : V 10 r = 1
      · refine ⟨fun z => ?_, fun _ => congrFun (hp r hr hpr).2.2 j⟩
        rcases z with z | z
        · exact absurd hpr z.2.1
        · omega
      · have g := (ha r hr hpr).2.2 j
        by_cases hj : j < 84
        · exact ⟨fun _ => g.1 hj, fun z => absurd (Or.inl ⟨hr, hpr, hj⟩) z⟩
        · exact ⟨fun z => by unfold abC at z; omega, fun _ => g.2 hj⟩
  · exact ⟨fun z => by unfold abC at z; omega, fun _ => h9 j h⟩
  · rcases h with rfl | rfl | rfl
    · exact ⟨fun z => by unfold abC at z; omega, fun _ => h10 j hj⟩
    · by_cases hpj : V 10 j = 1
      · refine ⟨fun z => ?_, fun _ => (hp j hj hpj).1⟩
        rcases z with z | z
        · omega
        · exact absurd hpj z.2.2
      · exact ⟨fun _ => (ha j hj hpj).1, fun z => absurd (Or.inr ⟨Or.inl rfl, hj, hpj⟩) z⟩
    · by_cases hpj : V 10 j = 1
      · refine ⟨fun z => ?_, fun _ => (hp j hj hpj).2.1⟩
        rcases z with z | z
        · omega
        · exact absurd hpj z.2.2
      · exact ⟨fun _ => (ha j hj hpj).2.1, fun z => absurd (Or.inr ⟨Or.inr rfl, hj, hpj⟩) z⟩
theorem RV_9 {V U : Vs} (R : RV V U) {q : Nat} {x y : Int32} (h : x = y) : RV (up2 V 9 q y) (up2 U 9 q x) := by
  subst h
  refine RV_mk (fun j hj => ?_) (fun j => ?_) (fun k hk => ?_) (fun k hk hp => ?_) (fun k hk hp => ?_)
  · by_cases e : j = q
    · subst e; rw [up2_s, up2_s]
    · rw [up2_n (by omega), up2_n (by omega)]; exact R.p9 hj
  · rw [up2_r (by decide), up2_r (by decide)]; exact R.p8
  · rw [up2_r (by decide), up2_r (by decide)]; exact R.p10 hk
  · rw [up2_r (by decide)] at hp
    refine ⟨?_, ?_, ?_⟩
    · rw [up2_r (by decide), up2_r (by decide)]; exact R.p11 hk hp
    · rw [up2_r (by decide), up2_r (by decide)]; exact R.p12 hk hp
    · rw [up2_r (by omega), up2_r (by omega)]; exact R.row hk hp
  · rw [up2_r (by decide)] at hp
    refine ⟨?_, ?_, fun j => ⟨fun hj => ?_, fun hj => ?_⟩⟩
    · rw [up2_r (by decide)]; exact R.z11 hk hp
    · rw [up2_r (by decide)]; exact R.z12 hk hp
    · rw [up2_r (by omega)]; exact R.zw hk hp hj
    · rw [up2_r (by omega), up2_r (by omega)]; exact R.zo hk hj
theorem RV_8 {V U : Vs} (R : RV V U) {q : Nat} {x : Int32} : RV (up2 V 8 q x) (up2 U 8 q x) := by
  refine RV_mk (fun j hj => ?_) (fun j => ?_) (fun k hk => ?_) (fun k hk hp => ?_) (fun k hk hp => ?_)
  · rw [up2_r (by decide), up2_r (by decide)]; exact R.p9 hj
  · by_cases e : j = q
    · subst e; rw [up2_s, up2_s]
    · rw [up2_n (by omega), up2_n (by omega)]; exact R.p8
  · rw [up2_r (by decide), up2_r (by decide)]; exact R.p10 hk
  · rw [up2_r (by decide)] at hp
    refine ⟨?_, ?_, ?_⟩
    · rw [up2_r (by decide), up2_r (by decide)]; exact R.p11 hk hp
    · rw [up2_r (by decide), up2_r (by decide)]; exact R.p12 hk hp
    · rw [up2_r (by omega), up2_r (by omega)]; exact R.row hk hp
  · rw [up2_r (by decide)] at hp
    refine ⟨?_, ?_, fun j => ⟨fun hj => ?_, fun hj => ?_⟩⟩
    · rw [up2_r (by decide)]; exact R.z11 hk hp
    · rw [up2_r (by decide)]; exact R.z12 hk hp
    · rw [up2_r (by omega)]; exact R.zw hk hp hj
    · rw [up2_r (by omega), up2_r (by omega)]; exact R.zo hk hj
/-- a speaker who is there changes, the same on both sides -/
theorem RV_k {V U V2 U2 : Vs} {q : Nat} (R : RV V U) (hq : q < 8) (hpq : V 10 q = 1) (hV : ∀ r j, r ≠ q → ¬ ((r = 11 ∨ r = 12) ∧ j = q) → V2 r j = V r j) (hU : ∀ r j, r ≠ q → ¬ ((r = 11 ∨ r = 12) ∧ j = q) → U2 r j = U r j) (h1 : U2 q = V2 q) (h2 : U2 11 q = V2 11 q) (h3 : U2 12 q = V2 12 q) : RV V2 U2 := by
  have e10 : ∀ k, k < 8 → V2 10 k = V 10 k := fun k hk => hV 10 k (by omega) (by omega)
  refine RV_mk (fun j hj => ?_) (fun j => ?_) (fun k hk => ?_) (fun k hk hp => ?_) (fun k hk hp => ?_)
  · rw [hV 9 j (by omega) (by omega), hU 9 j (by omega) (by omega)]; exact R.p9 hj
  · rw [hV 8 j (by omega) (by omega), hU 8 j (by omega) (by omega)]; exact R.p8
  · rw [hV 10 k (by omega) (by omega), hU 10 k (by omega) (by omega)]; exact R.p10 hk
  · rw [e10 k hk] at hp
    by_cases e : k = q
    · subst e; exact ⟨h2, h3, h1⟩
    · refine ⟨?_, ?_, funext fun j => ?_⟩
      · rw [hV 11 k (by omega) (by omega), hU 11 k (by omega) (by omega)]; exact R.p11 hk hp
      · rw [hV 12 k (by omega) (by omega), hU 12 k (by omega) (by omega)]; exact R.p12 hk hp
      · rw [hV k j e (by omega), hU k j e (by omega)]; exact congrFun (R.row hk hp) j
  · rw [e10 k hk] at hp
    have e : k ≠ q := fun z => hp (by rw [z]; exact hpq)
    refine ⟨?_, ?_, fun j => ⟨fun hj => ?_, fun hj => ?_⟩⟩
    · rw [hU 11 k (by omega) (by omega)]; exact R.z11 hk hp
    · rw [hU 12 k (by omega) (by omega)]; exact R.z12 hk hp
    · rw [hU k j e (by omega)]; exact R.zw hk hp hj
    · rw [hU k j e (by omega), hV k j e (by omega)]; exact R.zo hk hj
theorem RV_w {V U : Vs} (R : RV V U) {q j : Nat} {x : Int32} (hq : q < 8) (hpq : V 10 q = 1) : RV (up2 V q j x) (up2 U q j x) :=
  RV_k R hq hpq (fun r j h _ => by rw [up2_r h]) (fun r j h _ => by rw [up2_r h]) (by rw [up2_u, up2_u, R.row hq hpq]) (by rw [up2_r (by omega), up2_r (by omega)]; exact R.p11 hq hpq) (by rw [up2_r (by omega), up2_r (by omega)]; exact R.p12 hq hpq)
theorem RV_11 {V U : Vs} (R : RV V U) {q : Nat} {x : Int32} (hq : q < 8) (hpq : V 10 q = 1) : RV (up2 V 11 q x) (up2 U 11 q x) :=
  RV_k R hq hpq (fun r j _ h => by rw [up2_n (by omega)]) (fun r j _ h => by rw [up2_n (by omega)]) (by rw [up2_r (by omega), up2_r (by omega)]; exact R.row hq hpq) (by rw [up2_s, up2_s]) (by rw [up2_r (by decide), up2_r (by decide)]; exact R.p12 hq hpq)
theorem RV_12 {V U : Vs} (R : RV V U) {q : Nat} {x y : Int32} (hq : q < 8) (hpq : V 10 q = 1) (h : x = y) : RV (up2 V 12 q y) (up2 U 12 q x) := by
  subst h
  exact RV_k R hq hpq (fun r j _ h => by rw [up2_n (by omega)]) (fun r j _ h => by rw [up2_n (by omega)]) (by rw [up2_r (by omega), up2_r (by omega)]; exact R.row hq hpq) (by rw [up2_r (by decide), up2_r (by decide)]; exact R.p11 hq hpq) (by rw [up2_s, up2_s])
theorem RV_pr {V U : Vs} (R : RV V U) {q m w : Nat} {a x : Int32} (hq : q < 8) (hpq : V 10 q = 1) : RV (prS V q m w a x) (prS U q m w a x) :=
  RV_k R hq hpq (fun r j h _ => by rw [prS_r h]) (fun r j h _ => by rw [prS_r h]) (by funext j; unfold prS prL; rw [R.row hq hpq]) (by rw [prS_r (by omega), prS_r (by omega)]; exact R.p11 hq hpq) (by rw [prS_r (by omega), prS_r (by omega)]; exact R.p12 hq hpq)
theorem RV_fm {V U : Vs} (R : RV V U) {q m w : Nat} {x : Int32} (hq : q < 8) (hpq : V 10 q = 1) : RV (fmS V q m w x) (fmS U q m w x) :=
  RV_k R hq hpq (fun r j h _ => by rw [fmS_r h]) (fun r j h _ => by rw [fmS_r h]) (by funext j; unfold fmS fmL; rw [R.row hq hpq]) (by rw [fmS_r (by omega), fmS_r (by omega)]; exact R.p11 hq hpq) (by rw [fmS_r (by omega), fmS_r (by omega)]; exact R.p12 hq hpq)
theorem RV_ch {V U : Vs} (R : RV V U) {q m w : Nat} {x : Int32} (hq : q < 8) (hpq : V 10 q = 1) : RV (chS V q m w x) (chS U q m w x) := by
  unfold chS
  rw [R.row hq hpq]
  exact RV_w R hq hpq
theorem RV_dr {V U : Vs} (R : RV V U) : RV (drV V) (drV U) := RV_9 R (by rw [R.p9 (by decide)])
theorem dvN_R {V U : Vs} (R : RV V U) {n : Nat} : dvN U n = dvN V n := by
  unfold dvN
  rw [R.p9 (by decide)]
theorem wdN_R {V U : Vs} (R : RV V U) {q m : Nat} (hq : q < 8) (hpq : V 10 q = 1) : RV (wdN V q m).1 (wdN U q m).1 ∧ (wdN U q m).2 = (wdN V q m).2 := by
  cases h : wfS (V q) m with
  | none =>
    rw [wdN_n h, wdN_n (by rw [R.row hq hpq]; exact h)]
    exact ⟨RV_dr R, dvN_R R⟩
  | some w =>
    rw [wdN_s h, wdN_s (by rw [R.row hq hpq]; exact h)]
    exact ⟨R, rfl⟩
theorem hdN_R {V U : Vs} (R : RV V U) {q m : Nat} (hq : q < 8) (hpq : V 10 q = 1) : RV (hdN V q m).1 (hdN U q m).1 ∧ (hdN U q m).2 = (hdN V q m).2 := by
  cases h : haS (V q) m with
  | none =>
    rw [hdN_n h, hdN_n (by rw [R.row hq hpq]; exact h)]
    exact ⟨RV_dr R, dvN_R R⟩
  | some w =>
    rw [hdN_s h, hdN_s (by rw [R.row hq hpq]; exact h)]
    exact ⟨R, rfl⟩
theorem mt1_R {V U : Vs} (R : RV V U) {k1 k2 m : Nat} (h1 : k1 < 8) (h2 : k2 < 8) (p1 : V 10 k1 = 1) (p2 : V 10 k2 = 1) : RV (mt1 V k1 k2 m).1 (mt1 U k1 k2 m).1 ∧ (mt1 U k1 k2 m).2 = (mt1 V k1 k2 m).2 := by
  obtain ⟨a, b⟩ := wdN_R R (m := m) h1 p1
  obtain ⟨c, d⟩ := hdN_R a (m := (wdN V k1 m).2) h2 (by rw [wdN_r (by decide)]; exact p2)
  dsimp only [mt1]
  rw [b]
  exact ⟨c, by rw [d]⟩
theorem mtC_R {V U : Vs} (R : RV V U) {k1 k2 : Nat} (h1 : k1 < 8) (h2 : k2 < 8) (p1 : V 10 k1 = 1) (p2 : V 10 k2 = 1) : RV (mtC V k1 k2) (mtC U k1 k2) := by
  unfold mtC mck mc1
  have a := RV_9 R (q := 1) (x := U 9 1 + 1) (y := V 9 1 + 1) (by rw [R.p9 (by decide)])
  have e1 : up2 V 9 1 (V 9 1 + 1) 10 k1 = 1 := by rw [up2_r (by decide)]; exact p1
  have b := RV_12 a h1 e1 (x := up2 U 9 1 (U 9 1 + 1) 12 k1 + 1) (y := up2 V 9 1 (V 9 1 + 1) 12 k1 + 1) (by rw [a.p12 h1 e1])
  have e2 : up2 (up2 V 9 1 (V 9 1 + 1)) 12 k1 (up2 V 9 1 (V 9 1 + 1) 12 k1 + 1) 10 k2 = 1 := by rw [up2_r (by decide), up2_r (by decide)]; exact p2
  exact RV_12 b h2 e2 (by rw [b.p12 h2 e2])
theorem mtV_R {V U : Vs} (R : RV V U) {k1 k2 m : Nat} (h1 : k1 < 8) (h2 : k2 < 8) (p1 : V 10 k1 = 1) (p2 : V 10 k2 = 1) : RV (mtV V k1 k2 m) (mtV U k1 k2 m) := by
  obtain ⟨a, b⟩ := mt1_R R (m := m) h1 h2 p1 p2
  have e10 : (mt1 V k1 k2 m).1 10 = V 10 := by
    dsimp only [mt1]
    rw [hdN_r (by decide), wdN_r (by decide)]
  unfold mtV
  rw [b]
  generalize (mt1 V k1 k2 m).1 = A at a e10
  generalize (mt1 U k1 k2 m).1 = A' at a
  have c := mtC_R a h1 h2 (by rw [e10]; exact p1) (by rw [e10]; exact p2)
  have f10 : mtC A k1 k2 10 = V 10 := by rw [mtC_q (by decide) (by decide), e10]
  unfold mtF
  generalize mtC A k1 k2 = D at c f10
  generalize mtC A' k1 k2 = D' at c
  rw [c.p8]
  split
  · unfold mtS
    have g : RV (mtG D) (mtG D') := RV_9 c (by rw [c.p9 (by decide)])
    have g10 : mtG D 10 = V 10 := by rw [mtG_q (by decide), f10]
    rw [g.p11 h1 (by rw [g10]; exact p1), g.p8]
    have i := RV_pr g (m := m) (w := (mt1 V k1 k2 m).2.1) (a := lnS (mtG D 11 k1) (mtG D 8 0)) (x := D 8 1) h1 (by rw [g10]; exact p1)
    have i10 : ∀ q, prS (mtG D) k1 m (mt1 V k1 k2 m).2.1 (lnS (mtG D 11 k1) (mtG D 8 0)) (D 8 1) 10 q = V 10 q := fun q => by rw [prS_r (by omega), g10]
    rw [i.p11 h2 (by rw [i10]; exact p2), i.p8]
    refine RV_fm (RV_pr i h2 (by rw [i10]; exact p2)) h2 ?_
    rw [prS_r (by omega), i10]
    exact p2
  · unfold mtN
    refine RV_ch (RV_ch (RV_ch c h1 (by rw [f10]; exact p1)) h2 ?_) h2 ?_
    · rw [chS_r (by omega), f10]; exact p2
    · rw [chS_r (by omega), chS_r (by omega), f10]; exact p2
