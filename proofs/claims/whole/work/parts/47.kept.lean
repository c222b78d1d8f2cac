/-! EACH CHANGE of the reference's numbers and the class's own: first part. -/
theorem ite0 {P : Prop} [Decidable P] {c b : Int} (h : (if P then c else b) = 0) (hc : c ≠ 0) : ¬ P ∧ b = 0 := by
  by_cases q : P
  · rw [if_pos q] at h; exact absurd h hc
  · rw [if_neg q] at h; exact ⟨q, h⟩
theorem OE.of {X M : wM} (h : ∀ j i, j < 31 → j ≠ 0 → j ≠ 15 → j ≠ 22 → j ≠ 23 → j ≠ 25 → X j i = M j i) : OE X M := by
  have e : ∀ j i, j < 31 → (j = 0 ∨ j = 15 ∨ j = 22 ∨ j = 23 ∨ j = 25) ∨ X j i = M j i := fun j i hj => by
    by_cases q : j = 0 ∨ j = 15 ∨ j = 22 ∨ j = 23 ∨ j = 25
    · exact Or.inl q
    · exact Or.inr (h j i hj (by omega) (by omega) (by omega) (by omega) (by omega))
  exact ⟨fun j hj => h j 0 (by omega) (by omega) (by omega) (by omega) (by omega) (by omega), fun _ _ _ => ⟨h _ _ (by decide) (by decide) (by decide) (by decide) (by decide) (by decide), fun _ _ _ => h _ _ (by decide) (by decide) (by decide) (by decide) (by decide) (by decide)⟩,
    fun _ _ _ => ⟨h _ _ (by decide) (by decide) (by decide) (by decide) (by decide) (by decide), h _ _ (by decide) (by decide) (by decide) (by decide) (by decide) (by decide), h _ _ (by decide) (by decide) (by decide) (by decide) (by decide) (by decide)⟩,
    fun _ _ _ => ⟨h _ _ (by decide) (by decide) (by decide) (by decide) (by decide) (by decide), h _ _ (by decide) (by decide) (by decide) (by decide) (by decide) (by decide), fun _ _ _ => h _ _ (by decide) (by decide) (by decide) (by decide) (by decide) (by decide)⟩,
    fun _ _ _ => ⟨h _ _ (by decide) (by decide) (by decide) (by decide) (by decide) (by decide), h _ _ (by decide) (by decide) (by decide) (by decide) (by decide) (by decide), h _ _ (by decide) (by decide) (by decide) (by decide) (by decide) (by decide), h _ _ (by decide) (by decide) (by decide) (by decide) (by decide) (by decide), h _ _ (by decide) (by decide) (by decide) (by decide) (by decide) (by decide), h _ _ (by decide) (by decide) (by decide) (by decide) (by decide) (by decide), h _ _ (by decide) (by decide) (by decide) (by decide) (by decide) (by decide), h _ _ (by decide) (by decide) (by decide) (by decide) (by decide) (by decide)⟩,
    fun _ _ _ => ⟨h _ _ (by decide) (by decide) (by decide) (by decide) (by decide) (by decide), h _ _ (by decide) (by decide) (by decide) (by decide) (by decide) (by decide)⟩⟩
theorem mix_lo {Y M : wM} {j : Nat} {i : Int} (h : j < 31) : mix Y M j i = M j i := if_neg (by omega)
theorem OE.mup {Y M : wM} {j : Nat} {i v : Int} : OE (mup (mix Y M) j i v) (mup M j i v) := OE.of (fun j' i' h _ _ _ _ _ => by
  show (if j' = j ∧ i' = i then v else mix Y M j' i') = (if j' = j ∧ i' = i then v else M j' i')
  rw [mix_lo h])
/-- a change kept: the shared numbers, the class's own, what holds of the reference's -/
def Kept (X M : wM) : Prop := OE X M ∧ Rel X M ∧ Inv M ∧ I9 M
theorem lentM_false {M : wM} {f : Int} : lentM M f = false ↔ ∀ q : Nat, (q : Int) < M 28 0 → M 27 q = 0 → M 19 (M 23 q) ≠ f := by
  cases e : lentM M f
  · refine ⟨fun _ q h1 h2 h3 => ?_, fun _ => rfl⟩
    have := lentM_iff.mpr ⟨q, h1, h2, h3⟩
    rw [e] at this
    exact absurd this (by decide)
  · refine ⟨fun z => absurd z (by decide), fun z => ?_⟩
    obtain ⟨q, h1, h2, h3⟩ := lentM_iff.mp e
    exact absurd h3 (z q h1 h2)
theorem t_setLimit {Y M : wM} (I : Inv M) (Z : I9 M) (R : Rel Y M) {a : Int} (h : x_setLimit M a = 0) : Kept (mup (mix Y M) 18 0 a) (mup M 18 0 a) := by
  obtain ⟨i1, i2, i3, i3e, i4, i4e, i5, i6, i7, i8, i10, i11⟩ := I
  unfold x_setLimit at h
  obtain ⟨h1, h⟩ := ite0 h (by decide)
  obtain ⟨h2, -⟩ := ite0 h (by decide)
  have h1 := Decidable.not_not.mp h1
  have hm : mostM M (M 17 0).toNat ≤ a := by omega
  have hr := (maxI_le.mp hm).2
  have hg : ∀ r, 0 ≤ r → r < M 17 0 → greatM M r ≤ a := fun r g1 g2 => by
    have := hr r.toNat (by omega)
    rw [Int.toNat_of_nonneg g1] at this
    exact this
  refine ⟨OE.mup, R, ⟨?_, i2, i3, i3e, fun r g1 g2 => ?_, i4e, i5, i6, i7, i8, i10, fun q g1 g2 g3 r g4 g5 g6 => ?_⟩, Z⟩
  · obtain ⟨q1, q2, q3, q4, q5, q6, q7⟩ := i1
    exact ⟨q1, q2, q3, h1, q5, q6, q7⟩
  · obtain ⟨w1, w2, w3, w4, w5⟩ := i4 r g1 g2
    refine ⟨w1, w2, w3, w4, fun k k1 k2 => ?_⟩
    obtain ⟨v1, v2, v3, v4, v5, v6⟩ := w5 k k1 k2
    refine ⟨v1, v2, v3, v4, fun k3 => ⟨(v5 k3).1, ?_⟩, v6⟩
    have hrl : r < M 17 0 := by
      rcases Int.lt_or_le r (M 17 0) with z | z
      · exact z
      · have h16 : k + 1 < M 16 r := k3
        have := w3 z
        omega
    have h16 : k + 1 < M 16 r := k3
    have h9 := (maxI_le.mp (hg r g1 hrl)).2 k.toNat (by omega)
    rw [Int.toNat_of_nonneg k1] at h9
    exact h9
  · have h28 : q < M 28 0 := g2
    have hl : loanM M = true := loanM_iff.mpr ⟨q.toNat, by omega, by rw [Int.toNat_of_nonneg g1]; exact g3⟩
    have ha : M 18 0 ≤ a := by
      rcases Int.lt_or_le a (M 18 0) with z | z
      · exact absurd (Or.inr ⟨z, hl⟩) h2
      · exact z
    rcases i11 q g1 g2 g3 r g4 g5 g6 with z | z
    · exact Or.inl z
    · exact Or.inr (Int.le_trans z ha)
theorem t_giveBack {Y M : wM} (I : Inv M) (Z : I9 M) (R : Rel Y M) {z : Int} (h : x_giveBack M z = 0) : Kept (mup (mup (mix Y M) 27 z 1) 32 (mix Y M 34 z) 0) (mup M 27 z 1) := by
  obtain ⟨i1, i2, i3, i3e, i4, i4e, i5, i6, i7, i8, i10, i11⟩ := I
  obtain ⟨r1, r0, r2, r3, r4⟩ := R
  unfold x_giveBack at h
  obtain ⟨h1, h⟩ := ite0 h (by decide)
  obtain ⟨h2, -⟩ := ite0 h (by decide)
  have h1 := Decidable.not_not.mp h1
  have h2 := Decidable.not_not.mp h2
  have e34 : mix Y M 34 z = M 19 (M 23 z) := (r4 z h1.1 h1.2).1
  have e27 : ∀ q, mup M 27 z 1 27 q = if q = z then 1 else M 27 q := fun q => by
    show (if 27 = 27 ∧ q = z then 1 else M 27 q) = _
    simp
  have g27 : ∀ q, mup M 27 z 1 27 q = 0 → q ≠ z ∧ M 27 q = 0 := fun q g => by
    rw [e27] at g
    by_cases e : q = z
    · rw [if_pos e] at g; omega
    · rw [if_neg e] at g; exact ⟨e, g⟩
  refine ⟨OE.of (fun j i hj a0 a15 a22 a23 a25 => ?_), ⟨r1, r0, fun f f1 f2 => ?_, r3, r4⟩, ⟨i1, i2, i3, i3e, i4, i4e, i5, i6, i7, fun q g1 g2 => ?_, fun q q' g1 g2 g3 g4 g5 g6 g7 => ?_, fun q g1 g2 g3 => ?_⟩, Z⟩
  · show (if j = 32 ∧ _ then _ else (if j = 27 ∧ i = z then 1 else mix Y M j i)) = (if j = 27 ∧ i = z then 1 else M j i)
    rw [if_neg (by omega), mix_lo hj]
  · show (if 32 = 32 ∧ f = mix Y M 34 z then 0 else Y 32 f) = bN (lentM (mup M 27 z 1) f)
    rw [e34]
    by_cases e : f = M 19 (M 23 z)
    · rw [if_pos ⟨rfl, e⟩]
      have : lentM (mup M 27 z 1) f = false := lentM_false.mpr (fun q q1 q2 q3 => by
        obtain ⟨n1, n2⟩ := g27 q q2
        have q1 : (q : Int) < M 28 0 := q1
        exact n1 (i10 q z (by omega) q1 h1.1 h1.2 n2 h2 (Eq.trans q3 e)))
      rw [this]
      rfl
    · rw [if_neg (fun z => e z.2), r2 f f1 f2]
      congr 1
      rw [Bool.eq_iff_iff, lentM_iff, lentM_iff]
      constructor
      · rintro ⟨q, q1, q2, q3⟩
        refine ⟨q, q1, ?_, q3⟩
        rw [e27, if_neg (fun z => e (by rw [← z]; exact q3.symm))]
        exact q2
      · rintro ⟨q, q1, q2, q3⟩
        exact ⟨q, q1, (g27 q q2).2, q3⟩
  · obtain ⟨w1, w2, w3, w4, w5, w6, w7, w8, w9, w10, w11, w12⟩ := i8 q g1 g2
    have := e27 q
    refine ⟨w1, w2, w3, w4, w5, w6, w7, w8, w9, ?_, ?_, fun g => ?_⟩
    · rw [this]; split <;> omega
    · rw [this]; split <;> omega
    · have g : M 28 0 ≤ q := g
      rw [this, if_neg (by omega)]
      exact w12 g
  · exact i10 q q' g1 g2 g3 g4 (g27 q g5).2 (g27 q' g6).2 g7
  · exact i11 q g1 g2 (g27 q g3).2
theorem t_advance {Y M : wM} (I : Inv M) (Z : I9 M) (R : Rel Y M) {a : Int} (h : x_advance M a = 0) (hn : M 29 0 + 99 ≤ 50688) : Kept (mup (mix Y M) 29 0 (mix Y M 29 0 + a)) (mup M 29 0 (M 29 0 + a)) := by
  obtain ⟨i1, i2, i3, i3e, i4, i4e, i5, i6, i7, i8, i10, i11⟩ := I
  unfold x_advance at h
  obtain ⟨h1, -⟩ := ite0 h (by decide)
  refine ⟨OE.mup, R, ⟨?_, i2, i3, i3e, i4, i4e, i5, i6, i7, i8, i10, i11⟩, Z⟩
  obtain ⟨q1, q2, q3, q4, q5, q6, q7⟩ := i1
  refine ⟨q1, q2, q3, q4, q5, q6, ?_⟩
  show 0 ≤ M 29 0 + a ∧ M 29 0 + a ≤ 50688
  omega
theorem lentM_lo {M : wM} (i1 : I1 M) (i6 : I6 M) (i8 : I8 M) {f : Int} (hf : M 1 0 ≤ f) : lentM M f = false := lentM_false.mpr (fun q q1 q2 q3 => by
  obtain ⟨-, -, -, -, q21, q28, -⟩ := i1
  have w8 := i8 (q : Int) (by omega) (by omega)
  have w6 := i6 (M 23 q) (by omega) (by omega)
  omega)
theorem xnew_r {X : wM} {cr : Nat} {isR : Nat → Bool} {v : Nat → Int} {j : Nat} {i : Int} (h : j ≠ cr) (hj : isR j = true) : xnew X cr isR v j i = if i = X cr 0 then v j else X j i := by
  unfold xnew
  rw [if_neg (fun z => h z.1)]
  by_cases e : i = X cr 0
  · rw [if_pos ⟨hj, e⟩, if_pos e]
  · rw [if_neg (fun z => e z.2), if_neg e]
theorem t_addFilm {Y M : wM} (I : Inv M) (Z : I9 M) (R : Rel Y M) (h : x_addFilm M = 0) : Kept (xFilm (mix Y M)) (mup M 1 0 (M 1 0 + 1)) := by
  obtain ⟨i1, i2, i3, i3e, i4, i4e, i5, i6, i7, i8, i10, i11⟩ := I
  obtain ⟨r1, r0, r2, r3, r4⟩ := R
  unfold x_addFilm at h
  obtain ⟨h1, -⟩ := ite0 h (by decide)
  have i1' := i1
  obtain ⟨q1, q2, q3, q4, q5, q6, q7⟩ := i1'
  have e1 : mup M 1 0 (M 1 0 + 1) 1 0 = M 1 0 + 1 := mup_eq
  have ex : ∀ j i, j ≠ 1 → (r_film j = true → i ≠ M 1 0) → xFilm (mix Y M) j i = mix Y M j i := fun j i a b => by
    show (if j = 1 ∧ i = 0 then _ else if r_film j = true ∧ i = mix Y M 1 0 then _ else mix Y M j i) = _
    rw [if_neg (fun z => a z.1), if_neg (fun z => b z.1 z.2)]
  refine ⟨⟨fun j hj => ?_, fun f f1 f2 => ?_, fun _ _ _ => ⟨rfl, rfl, rfl⟩, fun _ _ _ => ⟨rfl, rfl, fun _ _ _ => rfl⟩, fun _ _ _ => ⟨rfl, rfl, rfl, rfl, rfl, rfl, rfl, rfl⟩, fun _ _ _ => ⟨rfl, rfl⟩⟩, ⟨r1, r0, fun f f1 f2 => ?_, r3, r4⟩, ⟨?_, fun s s1 s2 => ?_, fun f f1 f2 => ?_, i3e, fun r g1 g2 => ?_, i4e, i5, fun v v1 v2 => ?_, i7, i8, i10, i11⟩, Z⟩
  · rcases hj with rfl | rfl | rfl | rfl | rfl | rfl | rfl | rfl <;> rfl
  · rw [e1] at f2
    refine ⟨?_, fun k _ _ => rfl⟩
    refine (xnew_r (by decide) rfl).trans ?_
    show (if f = M 1 0 then 0 else M 3 f) = M 3 f
    by_cases e : f = M 1 0
    · rw [if_pos e]
      exact ((i3 f f1 (by omega)).2.2.1 (by omega)).symm
    · rw [if_neg e]
  · rw [e1] at f2
    refine (xnew_r (by decide) rfl).trans ?_
    show (if f = M 1 0 then 0 else Y 32 f) = bN (lentM M f)
    by_cases e : f = M 1 0
    · rw [if_pos e, lentM_lo i1 i6 i8 (by omega)]
      rfl
    · rw [if_neg e]
      exact r2 f f1 (by omega)
  · refine ⟨?_, q2, q3, q4, q5, q6, q7⟩
    rw [e1]
    omega
  · obtain ⟨w1, w2, w3⟩ := i2 s s1 s2
    refine ⟨w1, ?_, w3⟩
    rw [e1]
    exact Int.lt_trans w2 (by omega)
  · obtain ⟨w1, w2, w3, w4⟩ := i3 f f1 f2
    refine ⟨w1, w2, fun g => w3 ?_, w4⟩
    rw [e1] at g
    omega
  · obtain ⟨w1, w2, w3, w4, w5⟩ := i4 r g1 g2
    refine ⟨w1, w2, w3, fun g => ⟨(w4 g).1, ?_⟩, w5⟩
    rw [e1]
    exact Int.lt_trans (w4 g).2 (by omega)
  · obtain ⟨w1, w2, w3, w4⟩ := i6 v v1 v2
    refine ⟨w1, w2, fun g => ?_, w4⟩
    rw [e1]
    exact Int.lt_trans (w3 g) (by omega)
theorem t_addReel {Y M : wM} (I : Inv M) (Z : I9 M) (R : Rel Y M) {f : Int} (h : x_addReel M f = 0) : Kept (xReel (mix Y M) f) (mup (mup M 13 (M 17 0) f) 17 0 (M 17 0 + 1)) := by
  obtain ⟨i1, i2, i3, i3e, i4, i4e, i5, i6, i7, i8, i10, i11⟩ := I
  obtain ⟨r1, r0, r2, r3, r4⟩ := R
  unfold x_addReel at h
  obtain ⟨h1, h⟩ := ite0 h (by decide)
  obtain ⟨h2, -⟩ := ite0 h (by decide)
  have h1 := Decidable.not_not.mp h1
  obtain ⟨q1, q2, q3, q4, q5, q6, q7⟩ := i1
  have e17 : mup (mup M 13 (M 17 0) f) 17 0 (M 17 0 + 1) 17 0 = M 17 0 + 1 := mup_eq
  have e13 : ∀ i, mup (mup M 13 (M 17 0) f) 17 0 (M 17 0 + 1) 13 i = if i = M 17 0 then f else M 13 i := fun i => by
    show (if 13 = 17 ∧ i = 0 then _ else if 13 = 13 ∧ i = M 17 0 then f else M 13 i) = _
    simp
  have h16 : M 16 (M 17 0) = 0 := (i4 (M 17 0) (by omega) (by omega)).2.2.1 (Int.le_refl _)
  refine ⟨⟨fun j hj => ?_, fun _ _ _ => ⟨rfl, fun _ _ _ => rfl⟩, fun _ _ _ => ⟨rfl, rfl, rfl⟩, fun r g1 g2 => ⟨?_, ?_, fun _ _ _ => rfl⟩, fun _ _ _ => ⟨rfl, rfl, rfl, rfl, rfl, rfl, rfl, rfl⟩, fun _ _ _ => ⟨rfl, rfl⟩⟩, ⟨fun r k g1 g2 k1 k2 => ?_, r0, r2, r3, r4⟩, ⟨⟨q1, q2, ?_, q4, q5, q6, q7⟩, fun s s1 s2 => ?_, i3, i3e, fun r g1 g2 => ?_, i4e, i5, i6, i7, i8, i10, fun q g1 g2 g3 r g4 g5 g6 => ?_⟩, Z⟩
  · rcases hj with rfl | rfl | rfl | rfl | rfl | rfl | rfl | rfl <;> rfl
  · rw [e13]
    exact xnew_r (by decide) rfl
  · refine (xnew_r (by decide) rfl).trans ?_
    show (if r = M 17 0 then 0 else M 16 r) = M 16 r
    by_cases e : r = M 17 0
    · rw [if_pos e, e, h16]
    · rw [if_neg e]
  · rw [e17] at g2
    have k2 : k < M 16 r := k2
    have hr : r < M 17 0 := by
      rcases Int.lt_or_le r (M 17 0) with z | z
      · exact z
      · rw [show r = M 17 0 by omega] at k2
        omega
    exact r1 r k g1 hr k1 k2
  · rw [e17]; omega
  · obtain ⟨w1, w2, w3, w4, w5, w6, w7, w8, w9⟩ := i2 s s1 s2
    refine ⟨w1, w2, w3, w4, w5, w6, w7, ?_, w9⟩
    rw [e17]
    exact Int.lt_trans w8 (by omega)
  · obtain ⟨w1, w2, w3, w4, w5⟩ := i4 r g1 g2
    refine ⟨w1, w2, fun g => w3 (by rw [e17] at g; omega), fun g => ?_, fun k k1 k2 => ?_⟩
    · rw [e17] at g
      rw [e13]
      by_cases e : r = M 17 0
      · rw [if_pos e]; exact h1
      · rw [if_neg e]; exact w4 (by omega)
    · have k2 : k < M 16 r := k2
      obtain ⟨v1, v2, v3, v4, v5⟩ := w5 k k1 k2
      refine ⟨v1, v2, v3, ?_, v5⟩
      rw [e13, if_neg (fun e => by rw [e] at k2; omega)]
      exact v4
  · rw [e17] at g5
    by_cases e : r = M 17 0
    · refine Or.inl ?_
      show M 16 r < 2
      rw [e, h16]
      decide
    · rw [e13, if_neg e] at g6
      exact i11 q g1 g2 g3 r g4 (by omega) g6
theorem t_addVersion {Y M : wM} (I : Inv M) (Z : I9 M) (R : Rel Y M) {f a : Int} (h : x_addVersion M f a = 0) : Kept (xVersion (mix Y M) f a) (mup (mup (mup M 19 (M 21 0) f) 20 (M 21 0) a) 21 0 (M 21 0 + 1)) := by
  obtain ⟨i1, i2, i3, i3e, i4, i4e, i5, i6, i7, i8, i10, i11⟩ := I
  obtain ⟨r1, r0, r2, r3, r4⟩ := R
  unfold x_addVersion at h
  obtain ⟨h1, h⟩ := ite0 h (by decide)
  obtain ⟨h2, h⟩ := ite0 h (by decide)
  obtain ⟨h3, h⟩ := ite0 h (by decide)
  obtain ⟨h4, -⟩ := ite0 h (by decide)
  have h1 := Decidable.not_not.mp h1
  have h2 := Decidable.not_not.mp h2
  obtain ⟨q1, q2, q3, q4, q5, q6, q7⟩ := i1
  generalize hM' : mup (mup (mup M 19 (M 21 0) f) 20 (M 21 0) a) 21 0 (M 21 0 + 1) = M'
  have e21 : M' 21 0 = M 21 0 + 1 := by rw [← hM']; exact mup_eq
  have e19 : ∀ i, M' 19 i = if i = M 21 0 then f else M 19 i := fun i => by
    rw [← hM']
    show (if 19 = 21 ∧ i = 0 then _ else if 19 = 20 ∧ i = M 21 0 then _ else if 19 = 19 ∧ i = M 21 0 then f else M 19 i) = _
    simp
  have e20 : ∀ i, M' 20 i = if i = M 21 0 then a else M 20 i := fun i => by
    rw [← hM']
    show (if 20 = 21 ∧ i = 0 then _ else if 20 = 20 ∧ i = M 21 0 then a else if 20 = 19 ∧ i = M 21 0 then f else M 20 i) = _
    simp
  have eo : ∀ j i, j ≠ 19 → j ≠ 20 → j ≠ 21 → M' j i = M j i := fun j i a b c => by
    rw [← hM']
    show (if j = 21 ∧ i = 0 then _ else if j = 20 ∧ i = M 21 0 then _ else if j = 19 ∧ i = M 21 0 then f else M j i) = _
    rw [if_neg (fun z => c z.1), if_neg (fun z => b z.1), if_neg (fun z => a z.1)]
  have loanq : ∀ q, 0 ≤ q → q < M 28 0 → M' 19 (M 23 q) = M 19 (M 23 q) := fun q a b => by
    have := (i8 q a (by omega)).2.2.1 b
    rw [e19, if_neg (by omega)]
  have elent : ∀ f, lentM M' f = lentM M f := fun f => by
    unfold lentM
    rw [eo 28 0 (by decide) (by decide) (by decide)]
    refine anyI_cong (fun k hk => ?_)
    unfold lentP
    rw [eo 27 _ (by decide) (by decide) (by decide), eo 23 _ (by decide) (by decide) (by decide), loanq _ (by omega) (by omega)]
  subst hM'
  refine ⟨⟨fun j hj => ?_, fun _ _ _ => ⟨rfl, fun _ _ _ => rfl⟩, fun _ _ _ => ⟨rfl, rfl, rfl⟩, fun _ _ _ => ⟨rfl, rfl, fun _ _ _ => rfl⟩, fun _ _ _ => ⟨rfl, rfl, rfl, rfl, rfl, rfl, rfl, rfl⟩, fun v g1 g2 => ⟨?_, ?_⟩⟩, ⟨r1, r0, fun f f1 f2 => ?_, r3, fun q g1 g2 => ?_⟩, ⟨⟨q1, q2, q3, q4, ?_, q6, q7⟩, i2, i3, i3e, i4, i4e, i5, fun v v1 v2 => ?_, fun v s f g1 g2 g3 g4 g5 g6 g7 => ?_, fun q g1 g2 => ?_, fun q q' g1 g2 g3 g4 g5 g6 g7 => ?_, fun q g1 g2 g3 r g4 g5 g6 => ?_⟩, Z⟩
  · rcases hj with rfl | rfl | rfl | rfl | rfl | rfl | rfl | rfl <;> rfl
  · rw [e19]
    exact xnew_r (by decide) rfl
  · rw [e20]
    exact xnew_r (by decide) rfl
  · rw [elent]
    exact r2 f f1 f2
  · refine ⟨(r4 q g1 g2).1.trans (loanq q g1 g2).symm, (r4 q g1 g2).2⟩
  · rw [e21]; omega
  · obtain ⟨w1, w2, w3, w4⟩ := i6 v v1 v2
    rw [e19, e20, e21]
    by_cases e : v = M 21 0
    · rw [if_pos e, if_pos e]
      show 0 ≤ f ∧ f ≤ 5 ∧ (v < M 21 0 + 1 → f < M 1 0) ∧ 0 ≤ a ∧ a ≤ 7
      omega
    · rw [if_neg e, if_neg e]
      exact ⟨w1, w2, fun g => w3 (by omega), w4⟩
  · obtain ⟨w1, w2, w3⟩ := i7 v s f g1 g2 g3 g4 g5 g6 g7
    rw [e21, e19, if_neg (by omega)]
    exact ⟨by omega, w2, w3⟩
  · obtain ⟨w1, w2, w3, w4⟩ := i8 q g1 g2
    refine ⟨w1, w2, fun g => ?_, w4⟩
    rw [e21]
    exact Int.lt_trans (w3 g) (by omega)
  · have g7 : mup (mup (mup M 19 (M 21 0) f) 20 (M 21 0) a) 21 0 (M 21 0 + 1) 19 (M 23 q) = mup (mup (mup M 19 (M 21 0) f) 20 (M 21 0) a) 21 0 (M 21 0 + 1) 19 (M 23 q') := g7
    rw [loanq q g1 g2, loanq q' g3 g4] at g7
    exact i10 q q' g1 g2 g3 g4 g5 g6 g7
  · have g6 : M 13 r = mup (mup (mup M 19 (M 21 0) f) 20 (M 21 0) a) 21 0 (M 21 0 + 1) 19 (M 23 q) := g6
    rw [loanq q g1 g2] at g6
    exact i11 q g1 g2 g3 r g4 g5 g6
theorem hz_ver {Y M : wM} (I : Inv M) (R : Rel Y M) : ∀ i, 0 ≤ i → i < 61440 → mix Y M 33 (61440 * mix Y M 21 0 + i) = 0 := by
  obtain ⟨i1, -, -, -, -, -, -, -, i7, -⟩ := I
  obtain ⟨-, -, -, r3, -⟩ := R
  obtain ⟨-, -, -, -, q5, -⟩ := i1
  intro i a b
  by_cases h : M 21 0 < 10
  · have e := r3.1 (M 21 0) (i / 1024) (i % 1024) q5.1 h (by omega) (by omega) (by omega) (by omega)
    rw [show 61440 * M 21 0 + 1024 * (i / 1024) + i % 1024 = 61440 * M 21 0 + i by omega] at e
    refine Eq.trans e ?_
    cases c : outP M (M 21 0) (i / 1024) (i % 1024)
    · rfl
    · have := (i7 (M 21 0) (i / 1024) (i % 1024) q5.1 h (by omega) (by omega) (by omega) (by omega) c).1
      omega
  · exact r3.2 (61440 * M 21 0 + i) (by omega)
