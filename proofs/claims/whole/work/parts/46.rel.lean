/-! THE CLASS's numbers beside the reference's: rows above 30 are the class's own (Y), the others are the reference's (M). -/
def mix (Y M : wM) : wM := fun j i => if 31 ≤ j then Y j i else M j i
def R1 (Y M : wM) : Prop := ∀ r k, 0 ≤ r → r < M 17 0 → 0 ≤ k → k < M 16 r → Y 31 (M 14 (60 * r + k)) = if k + 1 < M 16 r then M 15 (60 * r + k) else 0
def R0 (Y M : wM) : Prop := ∀ s, 0 ≤ s → s < M 12 0 → M 7 s = -1 → Y 31 s = 0
def R2 (Y M : wM) : Prop := ∀ f, 0 ≤ f → f < M 1 0 → Y 32 f = bN (lentM M f)
def R3 (Y M : wM) : Prop := (∀ v s f, 0 ≤ v → v < 10 → 0 ≤ s → s < 60 → 0 ≤ f → f < 1024 → Y 33 (61440 * v + 1024 * s + f) = bN (outP M v s f)) ∧ ∀ i, 614400 ≤ i → Y 33 i = 0
def R4 (Y M : wM) : Prop := ∀ q, 0 ≤ q → q < M 28 0 → Y 34 q = M 19 (M 23 q) ∧ Y 35 q = 1 + M 25 q
def Rel (Y M : wM) : Prop := R1 Y M ∧ R0 Y M ∧ R2 Y M ∧ R3 Y M ∧ R4 Y M
def I9 (M : wM) : Prop := ∀ s, M 12 0 ≤ s → s < 60 → M 8 s = 0 ∧ M 9 s = 0
/-- the numbers that both share -/
def OE (X M : wM) : Prop := (∀ j, j = 1 ∨ j = 12 ∨ j = 17 ∨ j = 18 ∨ j = 21 ∨ j = 28 ∨ j = 29 ∨ j = 30 → X j 0 = M j 0) ∧
  (∀ f, 0 ≤ f → f < M 1 0 → X 3 f = M 3 f ∧ ∀ k, 0 ≤ k → k < M 3 f → X 2 (60 * f + k) = M 2 (60 * f + k)) ∧
  (∀ q, 0 ≤ q → q < M 28 0 → X 26 q = M 26 q ∧ X 24 q = M 24 q ∧ X 27 q = M 27 q) ∧
  (∀ r, 0 ≤ r → r < M 17 0 → X 13 r = M 13 r ∧ X 16 r = M 16 r ∧ ∀ k, 0 ≤ k → k < M 16 r → X 14 (60 * r + k) = M 14 (60 * r + k)) ∧
  (∀ s, 0 ≤ s → s < M 12 0 → X 4 s = M 4 s ∧ X 5 s = M 5 s ∧ X 6 s = M 6 s ∧ X 7 s = M 7 s ∧ X 8 s = M 8 s ∧ X 9 s = M 9 s ∧ X 10 s = M 10 s ∧ X 11 s = M 11 s) ∧
  ∀ v, 0 ≤ v → v < M 21 0 → X 19 v = M 19 v ∧ X 20 v = M 20 v
theorem OE.xe {X M : wM} (h : OE X M) : XE X (mix X M) := by
  obtain ⟨h0, h1, h2, h3, h4, h5⟩ := h
  have e1 := h0 1 (by simp)
  have e12 := h0 12 (by simp)
  have e17 := h0 17 (by simp)
  have e21 := h0 21 (by simp)
  have e28 := h0 28 (by simp)
  refine ⟨fun j hj => ?_, fun f a b => ?_, fun f a b => ?_, fun f a b => ?_, fun f a b => ?_, fun f a b => ?_⟩
  · have : ¬ 31 ≤ j := by omega
    exact (if_neg this).trans (h0 j hj).symm
  · obtain ⟨g1, g2⟩ := h1 f a (by omega)
    exact ⟨g1.symm, rfl, fun k k1 k2 => (g2 k k1 (by omega)).symm⟩
  · obtain ⟨g1, g2, g3⟩ := h2 f a (by omega)
    exact ⟨rfl, rfl, g1.symm, g2.symm, g3.symm⟩
  · obtain ⟨g1, g2, g3⟩ := h3 f a (by omega)
    exact ⟨g1.symm, g2.symm, fun k k1 k2 => (g3 k k1 (by omega)).symm⟩
  · obtain ⟨g1, g2, g3, g4, g5, g6, g7, g8⟩ := h4 f a (by omega)
    exact ⟨g1.symm, g2.symm, g3.symm, g4.symm, g5.symm, g6.symm, g7.symm, g8.symm, rfl⟩
  · obtain ⟨g1, g2⟩ := h5 f a (by omega)
    exact ⟨g1.symm, g2.symm, fun _ _ _ => rfl⟩
theorem RC.mix {E : Nat} {S : wS} {G : wG} {X M : wM} (h : RC E S G X) (x : OE X M) : RC E S G (mix X M) := h.xe x.xe
theorem OE.rf {Y M : wM} : OE (mix Y M) M := ⟨fun j hj => if_neg (by omega), fun _ _ _ => ⟨rfl, fun _ _ _ => rfl⟩, fun _ _ _ => ⟨rfl, rfl, rfl⟩, fun _ _ _ => ⟨rfl, rfl, fun _ _ _ => rfl⟩, fun _ _ _ => ⟨rfl, rfl, rfl, rfl, rfl, rfl, rfl, rfl⟩, fun _ _ _ => ⟨rfl, rfl⟩⟩
theorem Inv.c0 {M : wM} {c : Int} (h : Inv M) : Inv (mup M 0 0 c) := h
theorem Rel.c0 {Y M : wM} {c : Int} (h : Rel Y M) : Rel (mix Y M) (mup M 0 0 c) := h
/-! sums and searches -/
theorem maxI_le {f : Nat → Int} {c : Int} : ∀ {n : Nat}, maxI f n ≤ c ↔ 0 ≤ c ∧ ∀ k, k < n → f k ≤ c
  | 0 => by simp [maxI]
  | n + 1 => by
    have ih := @maxI_le f c n
    rw [maxI]
    constructor
    · intro h
      have h9 : maxI f n ≤ c ∧ f n ≤ c := by split at h <;> omega
      refine ⟨(ih.mp h9.1).1, fun k hk => ?_⟩
      rcases Nat.lt_or_ge k n with q | q
      · exact (ih.mp h9.1).2 k q
      · rw [show k = n by omega]; exact h9.2
    · intro h
      have h1 := ih.mpr ⟨h.1, fun k hk => h.2 k (by omega)⟩
      have h2 := h.2 n (by omega)
      split <;> omega
theorem anyI_false {P : Nat → Bool} {n : Nat} : anyI P n = false ↔ ∀ k, k < n → P k = false := by
  constructor
  · intro h k hk
    cases e : P k
    · rfl
    · have := (anyI_iff P n).mpr ⟨k, hk, e⟩
      rw [h] at this
      exact absurd this (by decide)
  · intro h
    cases e : anyI P n
    · rfl
    · obtain ⟨k, hk, h1⟩ := (anyI_iff P n).mp e
      rw [h k hk] at h1
      exact absurd h1 (by decide)
theorem bN_n0 {b : Bool} : ¬ bN b = 0 ↔ b = true := by cases b <;> simp [bN]
theorem bN_i1 {b : Bool} : bN b = 1 ↔ b = true := by cases b <;> simp [bN]
theorem ite_cg {P P' : Prop} [Decidable P] [Decidable P'] {a b b' : Int} (h : P ↔ P') (k : ¬ P' → b = b') : (if P then a else b) = (if P' then a else b') := by
  by_cases q : P'
  · rw [if_pos (h.mpr q), if_pos q]
  · rw [if_neg (fun z => q (h.mp z)), if_neg q]
    exact k q
/-! lent films -/
theorem lent_iff {Y M : wM} (h : R2 Y M) {f : Int} (hf : 0 ≤ f ∧ f < M 1 0) : (¬ mix Y M 32 f = 0) = (lentM M f = true) := by
  have e : mix Y M 32 f = bN (lentM M f) := h f hf.1 hf.2
  rw [e]
  exact propext bN_n0
theorem lentM_iff {M : wM} {f : Int} : lentM M f = true ↔ ∃ q : Nat, (q : Int) < M 28 0 ∧ M 27 q = 0 ∧ M 19 (M 23 q) = f := by
  unfold lentM
  rw [anyI_iff]
  constructor
  · rintro ⟨k, h1, h2⟩
    simp only [lentP, Bool.and_eq_true, decide_eq_true_eq] at h2
    exact ⟨k, by omega, h2.1, h2.2⟩
  · rintro ⟨k, h1, h2, h3⟩
    exact ⟨k, by omega, by simp only [lentP, Bool.and_eq_true, decide_eq_true_eq]; exact ⟨h2, h3⟩⟩
theorem loanM_iff {M : wM} : loanM M = true ↔ ∃ q : Nat, (q : Int) < M 28 0 ∧ M 27 q = 0 := by
  unfold loanM
  rw [anyI_iff]
  constructor
  · rintro ⟨k, h1, h2⟩
    exact ⟨k, by omega, of_decide_eq_true h2⟩
  · rintro ⟨k, h1, h2⟩
    exact ⟨k, by omega, decide_eq_true h2⟩
/-! wear -/
theorem wear_at {Y M : wM} (h : R1 Y M) {r : Int} (hr : 0 ≤ r ∧ r < M 17 0) {k : Nat} (hk : (k : Int) < M 16 r - 1) : mix Y M 31 (mix Y M 14 (60 * r + k)) = M 15 (60 * r + k) := by
  have e := h r k hr.1 hr.2 (by omega) (by omega)
  rw [if_pos (by omega)] at e
  exact e
theorem take_at {Y M : wM} (h : R1 Y M) {r a m : Int} (hr : 0 ≤ r ∧ r < M 17 0) : takeP (mix Y M) r a m = !anyI (fun i => decide (m < M 15 (60 * r + i) + a)) (M 16 r - 1).toNat := by
  unfold takeP takeX
  show (!anyI _ (M 16 r - 1).toNat) = _
  rw [anyI_cong (fun k hk => by rw [wear_at h hr (by omega)])]
theorem take_iff {Y M : wM} (h : R1 Y M) {r a m : Int} (hr : 0 ≤ r ∧ r < M 17 0) : takeP (mix Y M) r a m = true ↔ ∀ k : Nat, (k : Int) < M 16 r - 1 → M 15 (60 * r + k) + a ≤ m := by
  rw [take_at h hr, Bool.not_eq_true', anyI_false]
  constructor
  · intro q k hk
    have := of_decide_eq_false (q k (by omega))
    omega
  · intro q k hk
    have := q k (by omega)
    exact decide_eq_false (by omega)
theorem wear_lo {M : wM} (i4 : I4 M) {r : Int} (hr : 0 ≤ r ∧ r < 24) {k : Nat} (hk : (k : Int) < M 16 r - 1) : 0 ≤ M 15 (60 * r + k) ∧ M 15 (60 * r + k) ≤ M 18 0 := ((i4 r hr.1 hr.2).2.2.2.2 k (by omega) (by omega)).2.2.2.2.1 (by omega)
theorem great_le {M : wM} (i4 : I4 M) {r c a : Int} (hr : 0 ≤ r ∧ r < 24) (h2 : 2 ≤ M 16 r) : greatM M r + a ≤ c ↔ ∀ k : Nat, (k : Int) < M 16 r - 1 → M 15 (60 * r + k) + a ≤ c := by
  have q : greatM M r ≤ c - a ↔ 0 ≤ c - a ∧ ∀ k, k < (M 16 r - 1).toNat → M 15 (60 * r + (k : Nat)) ≤ c - a := maxI_le
  constructor
  · intro h k hk
    have := (q.mp (by omega)).2 k (by omega)
    omega
  · intro h
    have h0 := h 0 (by omega)
    have w0 := wear_lo i4 hr (k := 0) (by omega)
    have := q.mpr ⟨by omega, fun k hk => by have := h k (by omega); omega⟩
    omega
theorem take_bear {Y M : wM} (h : R1 Y M) (i1 : I1 M) (i4 : I4 M) {r a : Int} (hr : 0 ≤ r ∧ r < M 17 0) : takeP (mix Y M) r a (M 18 0) = bearP M r a := by
  obtain ⟨-, -, q17, -⟩ := i1
  rw [Bool.eq_iff_iff, take_iff h hr]
  unfold bearP
  rw [decide_eq_true_eq]
  constructor
  · intro q
    by_cases h2 : M 16 r < 2
    · exact Or.inl h2
    · exact Or.inr ((great_le i4 (by omega) (by omega)).mpr q)
  · rintro (q | q) k hk
    · omega
    · exact (great_le i4 (by omega) (by omega)).mp q k hk
theorem great_at {Y M : wM} (h : R1 Y M) {r : Int} (hr : 0 ≤ r ∧ r < M 17 0) : greatX (mix Y M) r (M 16 r - 1).toNat = greatM M r := by
  unfold greatX greatM
  exact maxI_cong (fun k hk => wear_at h hr (by omega))
theorem sum_at {Y M : wM} (h : R1 Y M) {r : Int} (hr : 0 ≤ r ∧ r < M 17 0) : sumX (mix Y M) r (M 16 r - 1).toNat = sumI (fun i => M 15 (60 * r + i)) (M 16 r - 1).toNat := by
  unfold sumX
  exact sumI_cong (fun k hk => wear_at h hr (by omega))
theorem worn_at {Y M : wM} (h : R1 Y M) {r i : Int} (hr : 0 ≤ r ∧ r < M 17 0) : wornX (mix Y M) r i = wornP M r i := by
  unfold wornX wornP
  rw [decide_eq_decide]
  show (0 ≤ i ∧ i < M 16 r - 1) ∧ M 18 0 ≤ 2 * mix Y M 31 (mix Y M 14 (60 * r + i)) ↔ _
  by_cases q : 0 ≤ i ∧ i < M 16 r - 1
  · have e := wear_at h hr (k := i.toNat) (by omega)
    rw [Int.toNat_of_nonneg q.1] at e
    rw [e]
    exact ⟨fun z => ⟨by omega, z.2⟩, fun z => ⟨q, z.2⟩⟩
  · exact ⟨fun z => absurd z.1 q, fun z => absurd ⟨z.1.1, by omega⟩ q⟩
theorem lost_at {Y M : wM} (h : R1 Y M) {r k : Int} (hr : 0 ≤ r ∧ r < M 17 0) : lostX (mix Y M) r k = lossM M r k := by
  unfold lostX lossM
  rw [worn_at h hr, worn_at h hr]
  show min _ (M 5 (M 14 (60 * r + k))) = _
  split <;> omega
/-! codes -/
theorem lents {Y M : wM} (h : R2 Y M) {f : Int} (hf : 0 ≤ f ∧ f < M 1 0) : ∀ A B : Prop, (A ∨ ¬ mix Y M 32 f = 0 ∨ B) = (A ∨ lentM M f = true ∨ B) := fun A B => by rw [lent_iff h hf]
theorem e_run {Y M : wM} (I : Inv M) (R : Rel Y M) {r : Int} : cx_run (mix Y M) r = x_run M r := by
  obtain ⟨i1, -, -, -, i4, -⟩ := I
  obtain ⟨r1, -, r2, -⟩ := R
  have i1' := i1
  obtain ⟨-, -, q17, -⟩ := i1'
  unfold cx_run x_run
  refine ite_cg Iff.rfl (fun q => ?_)
  have q := Decidable.not_not.mp q
  have w4 := (i4 r q.1 (by omega)).2.2.2.1 q.2
  refine ite_cg ?_ (fun _ => rfl)
  show (takeP (mix Y M) r 1 (M 18 0) = false ∨ ¬ mix Y M 32 (M 13 r) = 0) ↔ _
  rw [take_bear r1 i1 i4 q, lent_iff r2 w4]
theorem with_iff {Y M : wM} (r1 : R1 Y M) (i1 : I1 M) (i4 : I4 M) {a : Int} (ha : 0 ≤ a) : withX (mix Y M) a (M 17 0).toNat = true ↔ a < mostM M (M 17 0).toNat := by
  have q17 := i1.2.2.1
  have e : withX (mix Y M) a (M 17 0).toNat = false ↔ mostM M (M 17 0).toNat ≤ a := by
    unfold withX mostM
    rw [anyI_false, maxI_le]
    have g : ∀ k, k < (M 17 0).toNat → ((!takeP (mix Y M) k 0 a) = false ↔ greatM M k ≤ a) := fun k hk => by
      rw [Bool.not_eq_false', take_iff r1 (by omega)]
      have w := (i4 (k : Int) (by omega) (by omega))
      by_cases h2 : 2 ≤ M 16 (k : Int)
      · have := @great_le M i4 k a 0 (by omega) h2
        rw [Int.add_zero] at this
        exact this.symm
      · constructor
        · intro _
          unfold greatM
          rw [show (M 16 (k : Int) - 1).toNat = 0 by omega]
          exact ha
        · intro _ k' hk'
          omega
    exact ⟨fun z => ⟨ha, fun k hk => (g k hk).mp (z k hk)⟩, fun z k hk => (g k hk).mpr (z.2 k hk)⟩
  cases hc : withX (mix Y M) a (M 17 0).toNat
  · have := e.mp hc
    exact ⟨fun z => absurd z (by decide), fun z => by omega⟩
  · refine ⟨fun _ => ?_, fun _ => rfl⟩
    rcases Int.lt_or_le a (mostM M (M 17 0).toNat) with z | z
    · exact z
    · rw [e.mpr z] at hc
      exact absurd hc (by decide)
theorem lentX_iff {Y M : wM} (r2 : R2 Y M) (i1 : I1 M) (i6 : I6 M) (i8 : I8 M) : lentX (mix Y M) (M 1 0).toNat = true ↔ loanM M = true := by
  obtain ⟨q1, -, -, -, q21, q28, -⟩ := i1
  unfold lentX
  rw [anyI_iff, loanM_iff]
  constructor
  · rintro ⟨f, h1, h2⟩
    have h2 := of_decide_eq_true h2
    have e : mix Y M 32 (f : Int) = bN (lentM M f) := r2 f (by omega) (by omega)
    rw [e] at h2
    obtain ⟨q, g1, g2, -⟩ := lentM_iff.mp (bN_i1.mp h2)
    exact ⟨q, g1, g2⟩
  · rintro ⟨q, h1, h2⟩
    have w8 := i8 (q : Int) (by omega) (by omega)
    have w6 := i6 (M 23 q) (by omega) (by omega)
    refine ⟨(M 19 (M 23 q)).toNat, by omega, decide_eq_true ?_⟩
    have e : mix Y M 32 (M 19 (M 23 q)) = bN (lentM M (M 19 (M 23 q))) := r2 _ (by omega) (by omega)
    rw [Int.toNat_of_nonneg w6.1, e]
    exact bN_i1.mpr (lentM_iff.mpr ⟨q, h1, h2, rfl⟩)
theorem e_setLimit {Y M : wM} (I : Inv M) (R : Rel Y M) {a : Int} : cx_setLimit (mix Y M) a = x_setLimit M a := by
  obtain ⟨i1, -, -, -, i4, -, -, i6, -, i8, -⟩ := I
  obtain ⟨r1, -, r2, -⟩ := R
  unfold cx_setLimit x_setLimit
  refine ite_cg Iff.rfl (fun q => ?_)
  refine ite_cg ?_ (fun _ => rfl)
  show (withX (mix Y M) a (M 17 0).toNat = true ∨ (a < M 18 0 ∧ lentX (mix Y M) (M 1 0).toNat = true)) ↔ _
  rw [with_iff r1 i1 i4 (a := a) (by omega), lentX_iff r2 i1 i6 i8]
theorem ahead_iff {Y M : wM} {z r : Int} : (aheadX (mix Y M) z r = true) = (0 < M 16 r ∧ plM M z < plM M (lastM M r)) := propext decide_eq_true_iff
theorem e_put {Y M : wM} (I : Inv M) (R : Rel Y M) {r z : Int} : cx_put (mix Y M) r z = x_put M r z := by
  obtain ⟨i1, i2, -⟩ := I
  obtain ⟨r1, -, r2, -⟩ := R
  unfold cx_put x_put
  refine ite_cg Iff.rfl (fun q => ?_)
  have q := Decidable.not_not.mp q
  refine ite_cg Iff.rfl (fun q2 => ?_)
  have q2 := Decidable.not_not.mp q2
  have w2 := i2 z q.2.1 q.2.2
  refine ite_cg ?_ (fun _ => rfl)
  show (¬ M 7 z = -1 ∨ aheadX (mix Y M) z r = true ∨ ¬ mix Y M 32 (M 13 r) = 0) ↔ _
  rw [← q2, lent_iff r2 ⟨w2.1, w2.2.1⟩, ahead_iff]
theorem e_mend {Y M : wM} (I : Inv M) (R : Rel Y M) {r z : Int} : cx_mend (mix Y M) r z = x_mend M r z := by
  obtain ⟨i1, -, -, -, i4, -⟩ := I
  obtain ⟨r1, -, r2, -⟩ := R
  obtain ⟨-, -, q17, -⟩ := i1
  unfold cx_mend x_mend
  refine ite_cg Iff.rfl (fun q => ?_)
  have q := Decidable.not_not.mp q
  have w4 := (i4 r q.1.1 (by omega)).2.2.2.1 q.1.2
  refine ite_cg ?_ (fun _ => rfl)
  show (M 5 (M 14 (60 * r + z)) < 2 ∨ ¬ mix Y M 32 (M 13 r) = 0) ↔ _
  rw [lent_iff r2 w4]
theorem e_scan {Y M : wM} (I : Inv M) (R : Rel Y M) {r z : Int} : cx_scan (mix Y M) r z = x_scan M r z := by
  obtain ⟨i1, -, -, -, i4, -⟩ := I
  obtain ⟨r1, -, r2, -⟩ := R
  obtain ⟨-, -, q17, -⟩ := i1
  unfold cx_scan x_scan
  refine ite_cg Iff.rfl (fun q => ?_)
  have q := Decidable.not_not.mp q
  have w4 := (i4 r q.1 (by omega)).2.2.2.1 q.2
  refine ite_cg Iff.rfl (fun q2 => ?_)
  refine ite_cg ?_ (fun _ => rfl)
  show (M 16 r = 0 ∨ ¬ mix Y M 32 (M 13 r) = 0) ↔ _
  rw [lent_iff r2 w4]
theorem e_found {Y M : wM} (R : Rel Y M) {f z a b : Int} : cx_found (mix Y M) f z a b = x_found M f z a b := by
  obtain ⟨r1, -, r2, -⟩ := R
  unfold cx_found x_found
  refine ite_cg Iff.rfl (fun q => ?_)
  have q := Decidable.not_not.mp q
  refine ite_cg Iff.rfl (fun q2 => ?_)
  refine ite_cg ?_ (fun _ => rfl)
  rw [lent_iff r2 q.1]
theorem e_join {Y M : wM} (I : Inv M) (R : Rel Y M) {r q : Int} : cx_join (mix Y M) r q = x_join M r q := by
  obtain ⟨i1, -, -, -, i4, -⟩ := I
  obtain ⟨r1, -, r2, -⟩ := R
  obtain ⟨-, -, q17, -⟩ := i1
  unfold cx_join x_join
  refine ite_cg Iff.rfl (fun h => ?_)
  have h := Decidable.not_not.mp h
  have w := i4 r h.1.1 (by omega)
  have w4 := w.2.2.2.1 h.1.2
  refine ite_cg Iff.rfl (fun _ => ?_)
  refine ite_cg ?_ (fun _ => rfl)
  show (M 16 r = 0 ∨ M 16 q = 0 ∨ aheadX (mix Y M) (M 14 (60 * q)) r = true ∨ ¬ mix Y M 32 (M 13 r) = 0) ↔ _
  rw [lent_iff r2 w4, ahead_iff]
  constructor
  · rintro (k | k | k | k)
    · exact Or.inl k
    · exact Or.inr (Or.inl k)
    · exact Or.inr (Or.inr (Or.inl k.2))
    · exact Or.inr (Or.inr (Or.inr k))
  · rintro (k | k | k | k)
    · exact Or.inl k
    · exact Or.inr (Or.inl k)
    · rcases Int.lt_or_le 0 (M 16 r) with z | z
      · exact Or.inr (Or.inr (Or.inl ⟨z, k⟩))
      · exact Or.inl (by omega)
    · exact Or.inr (Or.inr (Or.inr k))
theorem e_lend {Y M : wM} (I : Inv M) (R : Rel Y M) {f a b g : Int} : cx_lend (mix Y M) f a b g = x_lend M f a b g := by
  obtain ⟨i1, -, -, -, i4, -, -, i6, -⟩ := I
  obtain ⟨r1, -, r2, -⟩ := R
  have i1' := i1
  obtain ⟨-, -, q17, -, q21, -⟩ := i1'
  unfold cx_lend x_lend
  refine ite_cg Iff.rfl (fun h => ?_)
  have h := Decidable.not_not.mp h
  have w6 := i6 f h.1 (by omega)
  have e : filmX (mix Y M) (M 19 f) (a * (1 + b)) (M 17 0).toNat = badM M f (a * (1 + b)) (M 17 0).toNat := by
    unfold filmX badM
    exact anyI_cong (fun k hk => by rw [show mix Y M 18 0 = M 18 0 from rfl, take_bear r1 i1 i4 (by omega)]; rfl)
  refine ite_cg Iff.rfl (fun _ => ?_)
  refine ite_cg ?_ (fun _ => rfl)
  show (¬ mix Y M 32 (M 19 f) = 0 ∨ filmX (mix Y M) (M 19 f) (a * (1 + b)) (M 17 0).toNat = true) ↔ _
  rw [lent_iff r2 (f := M 19 f) (by omega), e]
theorem e_meanXn {Y M : wM} : meanXn (mix Y M) (M 17 0).toNat = meanN M (M 17 0).toNat := by
  unfold meanXn meanN
  exact sumI_cong (fun k hk => by show max (M 16 (k : Int) - 1) 0 = _; omega)
theorem e_meanXs {Y M : wM} (R : Rel Y M) : meanXs (mix Y M) (M 17 0).toNat = meanS M (M 17 0).toNat := by
  unfold meanXs meanS
  exact sumI_cong (fun k hk => sum_at R.1 (by omega))
theorem e_meanWear {Y M : wM} : cx_meanWear (mix Y M) = x_meanWear M := by
  unfold cx_meanWear x_meanWear
  rw [show mix Y M 17 0 = M 17 0 from rfl, e_meanXn]
theorem e_wear {Y M : wM} {r z : Int} : cx_wear (mix Y M) r z = x_wear M r z := rfl
theorem e_frames {Y M : wM} {z : Int} : cx_frames (mix Y M) z = x_frames M z := rfl
theorem e_leaveOut {Y M : wM} {f a b : Int} {w : Bool} : cx_leaveOut (mix Y M) f a b = x_leaveOut M f a b w := rfl
theorem e_show {Y M : wM} {z : Int} : cx_show (mix Y M) z = x_show M z := rfl
theorem e_scanV {Y M : wM} (R : Rel Y M) {r : Int} (hr : 0 ≤ r ∧ r < M 17 0) : sumI (fun k : Nat => lostX (mix Y M) r k) (M 16 r).toNat = sumI (fun k : Nat => lossM M r k) (M 16 r).toNat := sumI_cong (fun k hk => lost_at R.1 hr)
theorem e_PLs {Y M : wM} (I : Inv M) : ∀ s, 0 ≤ s → s < M 12 0 → PLs (mix Y M) s := by
  obtain ⟨i1, i2, i3, i3e, -⟩ := I
  exact fun s a b => plM_spec i1 i3 i2 i3e a b
