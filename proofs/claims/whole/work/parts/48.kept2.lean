/-! EACH CHANGE kept: lend, run, show. -/
theorem great_ub {M : wM} {r : Int} {k : Nat} (hk : (k : Int) < M 16 r - 1) : M 15 (60 * r + k) ≤ greatM M r := (maxI_le.mp (Int.le_refl (greatM M r))).2 k (by omega)
theorem great_0 {M : wM} {r : Int} : 0 ≤ greatM M r := (maxI_le.mp (Int.le_refl (greatM M r))).1
/-- shots on a reel are apart -/
theorem apart {M : wM} (i1 : I1 M) (i4 : I4 M) {r r' : Int} (hr : 0 ≤ r ∧ r < M 17 0) (hr' : 0 ≤ r' ∧ r' < M 17 0) {k k' : Int} (hk : 0 ≤ k ∧ k < M 16 r) (hk' : 0 ≤ k' ∧ k' < M 16 r') (h : M 14 (60 * r + k) = M 14 (60 * r' + k')) : r = r' ∧ k = k' := by
  obtain ⟨-, -, q17, -⟩ := i1
  have w := (i4 r hr.1 (by omega)).2.2.2.2 k hk.1 hk.2
  have w' := (i4 r' hr'.1 (by omega)).2.2.2.2 k' hk'.1 hk'.2
  have e : r = r' := by rw [← w.2.2.1, ← w'.2.2.1, h]
  subst e
  exact ⟨rfl, w.2.2.2.2.2 k' hk'.1 hk'.2 h⟩
theorem aw_no {X : wM} {r w s : Int} : ∀ {n : Nat}, (∀ k : Nat, k < n → X 14 (60 * r + k) ≠ s) → awX X r w n 31 s = X 31 s
  | 0, _ => rfl
  | n + 1, h => by
    show (if 31 = 31 ∧ s = X 14 (60 * r + n) then _ else awX X r w n 31 s) = _
    rw [if_neg (fun z => h n (by omega) z.2.symm), aw_no (fun k hk => h k (by omega))]
theorem aw_at {X : wM} {r w : Int} {k : Nat} : ∀ {n : Nat}, k < n → (∀ k' : Nat, k' < n → k' ≠ k → X 14 (60 * r + k') ≠ X 14 (60 * r + k)) → awX X r w n 31 (X 14 (60 * r + k)) = X 31 (X 14 (60 * r + k)) + w
  | 0, h, _ => by omega
  | n + 1, h, h2 => by
    by_cases e : k = n
    · subst e
      show (if 31 = 31 ∧ X 14 (60 * r + k) = X 14 (60 * r + k) then awX X r w k 31 (X 14 (60 * r + k)) + w else _) = _
      rw [if_pos ⟨rfl, rfl⟩, aw_no (fun k' hk => h2 k' (by omega) (by omega))]
    · show (if 31 = 31 ∧ X 14 (60 * r + k) = X 14 (60 * r + n) then _ else awX X r w n 31 (X 14 (60 * r + k))) = _
      rw [if_neg (fun z => h2 n (by omega) (fun y => e y.symm) z.2.symm), aw_at (by omega) (fun k' hk => h2 k' (by omega))]
/-- wear on one reel, seen from any shot on a reel -/
theorem aw_reel {X M : wM} (i1 : I1 M) (i4 : I4 M) (e14 : ∀ i, X 14 i = M 14 i) {r r' w : Int} (hr : 0 ≤ r ∧ r < M 17 0) (hr' : 0 ≤ r' ∧ r' < M 17 0) {k : Int} (hk : 0 ≤ k ∧ k < M 16 r') : awX X r w (M 16 r - 1).toNat 31 (M 14 (60 * r' + k)) = X 31 (M 14 (60 * r' + k)) + (if r' = r ∧ k + 1 < M 16 r' then w else 0) := by
  by_cases c : r' = r ∧ k + 1 < M 16 r'
  · obtain ⟨e, c⟩ := c
    subst e
    rw [if_pos ⟨rfl, c⟩]
    have h := aw_at (X := X) (r := r') (w := w) (k := k.toNat) (n := (M 16 r' - 1).toNat) (by omega) (fun k' h1 h2 h3 => by
      rw [e14, e14] at h3
      have := (apart i1 i4 hr hr ⟨by omega, by omega⟩ ⟨by omega, by omega⟩ h3).2
      omega)
    rw [Int.toNat_of_nonneg hk.1, e14] at h
    exact h
  · rw [if_neg c, Int.add_zero]
    refine aw_no (fun k' h1 h2 => c ?_)
    rw [e14] at h2
    obtain ⟨e1, e2⟩ := apart i1 i4 hr hr' ⟨by omega, by omega⟩ hk h2
    subst e1
    exact ⟨rfl, by omega⟩
theorem aw_miss {X M : wM} (i1 : I1 M) (i4 : I4 M) (e14 : ∀ i, X 14 i = M 14 i) {r w s : Int} (hr : 0 ≤ r ∧ r < M 17 0) (hs : M 7 s = -1) : awX X r w (M 16 r - 1).toNat 31 s = X 31 s := by
  obtain ⟨-, -, q17, -⟩ := i1
  refine aw_no (fun k h1 h2 => ?_)
  rw [e14] at h2
  have w := ((i4 r hr.1 (by omega)).2.2.2.2 k (by omega) (by omega)).2.2.1
  rw [h2, hs] at w
  omega
theorem h_run {Y M : wM} (I : Inv M) (R : Rel Y M) : ∀ r, 0 ≤ r → r < M 17 0 → awOK (mix Y M) r 1 := by
  obtain ⟨i1, i2, i3, i3e, i4, i4e, i5, i6, i7, i8, i10, i11⟩ := I
  intro r g1 g2 k hk
  have hk : (k : Int) < M 16 r - 1 := hk
  have i1' := i1
  obtain ⟨-, -, q17, q18, -⟩ := i1'
  rw [aw_no (fun k' h1 h2 => by
    have h2 : M 14 (60 * r + (k' : Int)) = M 14 (60 * r + (k : Int)) := h2
    have := (apart i1 i4 ⟨g1, g2⟩ ⟨g1, g2⟩ ⟨by omega, by omega⟩ ⟨by omega, by omega⟩ h2).2
    omega), wear_at R.1 ⟨g1, g2⟩ hk]
  have := wear_lo i4 (r := r) ⟨g1, by omega⟩ hk
  omega
theorem wear15 {M : wM} {r w : Int} {i : Int} : wearM M r w 15 i = if 60 * r ≤ i ∧ i < 60 * r + (M 16 r - 1) then M 15 i + w else M 15 i := rfl
theorem great_w {M : wM} {r r' w : Int} (i4 : I4 M) (hr : 0 ≤ r ∧ r < 24) (hr' : 0 ≤ r' ∧ r' < 24) (h : r' ≠ r) (h60 : M 16 r ≤ 60) (h60' : M 16 r' ≤ 60) : greatM (wearM M r w) r' = greatM M r' := by
  unfold greatM
  show maxI (fun k => wearM M r w 15 (60 * r' + k)) (M 16 r' - 1).toNat = _
  refine maxI_cong (fun k hk => ?_)
  rw [wear15, if_neg (by omega)]
theorem t_run {Y M : wM} (I : Inv M) (Z : I9 M) (R : Rel Y M) {r : Int} (h : x_run M r = 0) : Kept (plX (mix Y M) r 1) (wearM M r 1) ∧ greatX (plX (mix Y M) r 1) r (M 16 r - 1).toNat = greatM (wearM M r 1) r := by
  obtain ⟨i1, i2, i3, i3e, i4, i4e, i5, i6, i7, i8, i10, i11⟩ := I
  obtain ⟨r1, r0, r2, r3, r4⟩ := R
  unfold x_run at h
  obtain ⟨h1, h⟩ := ite0 h (by decide)
  obtain ⟨h2, -⟩ := ite0 h (by decide)
  have h1 := Decidable.not_not.mp h1
  have i1' := i1
  obtain ⟨q1, q12, q17, q18, q21, q28, q29⟩ := i1'
  have hb : bearP M r 1 = true := by
    cases c : bearP M r 1
    · exact absurd (Or.inl c) h2
    · rfl
  have hl : lentM M (M 13 r) = false := by
    cases c : lentM M (M 13 r)
    · rfl
    · exact absurd (Or.inr c) h2
  have hb := of_decide_eq_true hb
  have h60 : ∀ r, 0 ≤ r → r < 24 → M 16 r ≤ 60 := fun r a b => by have := (i4 r a b).2.1; omega
  have p31 : ∀ s, plX (mix Y M) r 1 31 s = awX (mix Y M) r 1 (M 16 r - 1).toNat 31 s := fun s => rfl
  have hw1 : ∀ r' k, 0 ≤ r' → r' < M 17 0 → 0 ≤ k → k < M 16 r' → plX (mix Y M) r 1 31 (M 14 (60 * r' + k)) = if k + 1 < M 16 r' then wearM M r 1 15 (60 * r' + k) else 0 := fun r' k g1 g2 k1 k2 => by
    have hh := h60 r' g1 (by omega)
    rw [p31, aw_reel (X := mix Y M) i1 i4 (fun i => rfl) h1 ⟨g1, g2⟩ ⟨k1, k2⟩, wear15, show mix Y M 31 (M 14 (60 * r' + k)) = _ from r1 r' k g1 g2 k1 k2]
    have hr60 := h60 r h1.1 (by omega)
    by_cases c : k + 1 < M 16 r'
    · rw [if_pos c, if_pos c]
      by_cases e : r' = r
      · subst e
        rw [if_pos ⟨rfl, c⟩, if_pos (by omega)]
      · rw [if_neg (fun z => e z.1), if_neg (by omega), Int.add_zero]
    · rw [if_neg c, if_neg c, if_neg (fun z => c z.2), Int.add_zero]
  refine ⟨⟨?_, ⟨hw1, fun s s1 s2 s3 => ?_, fun f f1 f2 => by rw [plX_o (by decide) (by decide)]; exact r2 f f1 f2, ⟨fun v s f g1 g2 g3 g4 g5 g6 => by rw [plX_o (by decide) (by decide)]; exact r3.1 v s f g1 g2 g3 g4 g5 g6, fun i g => by rw [plX_o (by decide) (by decide)]; exact r3.2 i g⟩, fun q g1 g2 => by rw [plX_o (by decide) (by decide), plX_o (by decide) (by decide)]; exact r4 q g1 g2⟩, ⟨i1, i2, i3, i3e, fun r' g1 g2 => ?_, i4e, i5, i6, i7, i8, i10, fun q g1 g2 g3 r' g4 g5 g6 => ?_⟩, Z⟩, ?_⟩
  · refine OE.of (fun j i hj a0 a15 a22 a23 a25 => ?_)
    by_cases e : j = 30
    · subst e
      show (if 30 = 30 ∧ i = 0 then M 30 0 + onM M r else _) = (if 30 = 30 ∧ i = 0 then M 30 0 + onM M r else _)
      by_cases e2 : i = 0
      · rw [if_pos ⟨rfl, e2⟩, if_pos ⟨rfl, e2⟩]
      · rw [if_neg (fun z => e2 z.2), if_neg (fun z => e2 z.2), awX_o (by decide)]
        rfl
    · rw [plX_o e (by omega), mix_lo hj]
      show _ = (if j = 30 ∧ i = 0 then _ else if j = 15 then _ else M j i)
      rw [if_neg (fun z => e z.1), if_neg a15]
  · rw [p31, aw_miss (X := mix Y M) i1 i4 (fun i => rfl) h1 s3]
    exact r0 s s1 s2 s3
  · obtain ⟨w1, w2, w3, w4, w5⟩ := i4 r' g1 g2
    refine ⟨w1, w2, w3, w4, fun k k1 k2 => ?_⟩
    have k2 : k < M 16 r' := k2
    obtain ⟨v1, v2, v3, v4, v5, v6⟩ := w5 k k1 k2
    refine ⟨v1, v2, v3, v4, fun k3 => ?_, v6⟩
    have k3 : k + 1 < M 16 r' := k3
    have v5 := v5 k3
    rw [wear15]
    have hh := h60 r' g1 g2
    have hr60 := h60 r h1.1 (by omega)
    have e18 : wearM M r 1 18 0 = M 18 0 := rfl
    rw [e18]
    split
    · have e : r' = r := by omega
      subst e
      have := great_ub (M := M) (r := r') (k := k.toNat) (by omega)
      rw [Int.toNat_of_nonneg k1] at this
      omega
    · exact v5
  · have g5 : r' < M 17 0 := g5
    have e : r' ≠ r := fun z => by
      rw [z] at g6
      refine lentM_false.mp hl q.toNat ?_ ?_ ?_
      · have g2 : q < M 28 0 := g2
        omega
      · rw [Int.toNat_of_nonneg g1]; exact g3
      · rw [Int.toNat_of_nonneg g1]; exact g6.symm
    rw [great_w i4 ⟨h1.1, by omega⟩ ⟨g4, by omega⟩ e (h60 r h1.1 (by omega)) (h60 r' g4 (by omega))]
    exact i11 q g1 g2 g3 r' g4 g5 g6
  · unfold greatX
    show _ = maxI (fun k : Nat => wearM M r 1 15 (60 * r + k)) (M 16 r - 1).toNat
    refine maxI_cong (fun k hk => ?_)
    rw [show plX (mix Y M) r 1 14 (60 * r + (k : Int)) = M 14 (60 * r + (k : Int)) from plX_o (by decide) (by decide), hw1 r k h1.1 h1.2 (by omega) (by omega), if_pos (by omega)]
theorem bad_iff {M : wM} {f w : Int} : badM M f w (M 17 0).toNat = false ↔ ∀ r : Nat, (r : Int) < M 17 0 → M 13 (r : Int) = M 19 f → bearP M r w = true := by
  unfold badM
  rw [anyI_false]
  constructor
  · intro h r hr e
    have := h r (by omega)
    rw [decide_eq_true e, Bool.true_and] at this
    cases c : bearP M r w
    · rw [c] at this; exact absurd this (by decide)
    · rfl
  · intro h r hr
    by_cases e : M 13 (r : Int) = M 19 f
    · rw [h r (by omega) e]; simp
    · rw [decide_eq_false e]; rfl
theorem t_lend {Y M : wM} (I : Inv M) (Z : I9 M) (R : Rel Y M) {f a b g : Int} (h : x_lend M f a b g = 0) : Kept (leX (mix Y M) f a b g) (mup (mup (mup (mup (mup M 23 (M 28 0) f) 24 (M 28 0) a) 25 (M 28 0) b) 26 (M 28 0) (M 29 0 + g)) 28 0 (M 28 0 + 1)) := by
  obtain ⟨i1, i2, i3, i3e, i4, i4e, i5, i6, i7, i8, i10, i11⟩ := I
  obtain ⟨r1, r0, r2, r3, r4⟩ := R
  unfold x_lend at h
  obtain ⟨h1, h⟩ := ite0 h (by decide)
  obtain ⟨h2, h⟩ := ite0 h (by decide)
  obtain ⟨h3, h⟩ := ite0 h (by decide)
  obtain ⟨h4, -⟩ := ite0 h (by decide)
  have h1 := Decidable.not_not.mp h1
  have h2 := Decidable.not_not.mp h2
  have i1' := i1
  obtain ⟨q1, q12, q17, q18, q21, q28, q29⟩ := i1'
  have hl : lentM M (M 19 f) = false := by
    cases c : lentM M (M 19 f)
    · rfl
    · exact absurd (Or.inl c) h3
  have hb : badM M f (a * (1 + b)) (M 17 0).toNat = false := by
    cases c : badM M f (a * (1 + b)) (M 17 0).toNat
    · rfl
    · exact absurd (Or.inr c) h3
  have hb := bad_iff.mp hb
  have w6 := i6 f h1.1 (by omega)
  have w68 := w6.2.2.1 h1.2
  have h27 : M 27 (M 28 0) = 0 := by
    obtain ⟨-, -, -, -, -, -, -, -, -, -, -, w⟩ := i8 (M 28 0) q28.1 (by omega)
    exact w (Int.le_refl _)
  generalize hM' : mup (mup (mup (mup (mup M 23 (M 28 0) f) 24 (M 28 0) a) 25 (M 28 0) b) 26 (M 28 0) (M 29 0 + g)) 28 0 (M 28 0 + 1) = M'
  have e28 : M' 28 0 = M 28 0 + 1 := by rw [← hM']; exact mup_eq
  have eq4 : ∀ j i, M' j i = if j = 28 ∧ i = 0 then M 28 0 + 1 else if j = 26 ∧ i = M 28 0 then M 29 0 + g else if j = 25 ∧ i = M 28 0 then b else if j = 24 ∧ i = M 28 0 then a else if j = 23 ∧ i = M 28 0 then f else M j i := fun j i => by rw [← hM']; rfl
  have e23 : ∀ i, M' 23 i = if i = M 28 0 then f else M 23 i := fun i => by rw [eq4]; simp
  have e24 : ∀ i, M' 24 i = if i = M 28 0 then a else M 24 i := fun i => by rw [eq4]; simp
  have e25 : ∀ i, M' 25 i = if i = M 28 0 then b else M 25 i := fun i => by rw [eq4]; simp
  have e26 : ∀ i, M' 26 i = if i = M 28 0 then M 29 0 + g else M 26 i := fun i => by rw [eq4]; simp
  have eo : ∀ j i, j ≠ 23 → j ≠ 24 → j ≠ 25 → j ≠ 26 → j ≠ 28 → M' j i = M j i := fun j i a3 a4 a5 a6 a8 => by
    rw [eq4, if_neg (fun z => a8 z.1), if_neg (fun z => a6 z.1), if_neg (fun z => a5 z.1), if_neg (fun z => a4 z.1), if_neg (fun z => a3 z.1)]
  have hlent : ∀ f', lentM M' f' = true ↔ f' = M 19 f ∨ lentM M f' = true := fun f' => by
    rw [lentM_iff, lentM_iff]
    constructor
    · rintro ⟨q, g1, g2, g3⟩
      rw [e28] at g1
      rw [eo 27 _ (by decide) (by decide) (by decide) (by decide) (by decide)] at g2
      rw [eo 19 _ (by decide) (by decide) (by decide) (by decide) (by decide), e23] at g3
      by_cases e : (q : Int) = M 28 0
      · rw [if_pos e] at g3; exact Or.inl g3.symm
      · rw [if_neg e] at g3; exact Or.inr ⟨q, by omega, g2, g3⟩
    · rintro (e | ⟨q, g1, g2, g3⟩)
      · refine ⟨(M 28 0).toNat, by rw [e28]; omega, ?_, ?_⟩
        · rw [eo 27 _ (by decide) (by decide) (by decide) (by decide) (by decide), Int.toNat_of_nonneg q28.1]; exact h27
        · rw [eo 19 _ (by decide) (by decide) (by decide) (by decide) (by decide), e23, Int.toNat_of_nonneg q28.1, if_pos rfl]; exact e.symm
      · refine ⟨q, by rw [e28]; omega, ?_, ?_⟩
        · rw [eo 27 _ (by decide) (by decide) (by decide) (by decide) (by decide)]; exact g2
        · rw [eo 19 _ (by decide) (by decide) (by decide) (by decide) (by decide), e23, if_neg (by omega)]; exact g3
  have x4 : ∀ j i, j ≠ 28 → j ≠ 32 → leX (mix Y M) f a b g j i = if r_loan j = true ∧ i = M 28 0 then y_loan (M 19 f) (1 + b) (M 29 0 + g) a j else mix Y M j i := fun j i a8 a2 => by
    show (if j = 32 ∧ _ then _ else if j = 28 ∧ i = 0 then _ else if r_loan j = true ∧ i = mix Y M 28 0 then _ else mix Y M j i) = _
    rw [if_neg (fun z => a2 z.1), if_neg (fun z => a8 z.1)]
    rfl
  have x32 : ∀ i, leX (mix Y M) f a b g 32 i = if i = M 19 f then 1 else Y 32 i := fun i => by
    show (if 32 = 32 ∧ i = mix Y M 19 f then (1 : Int) else xLoan (mix Y M) (mix Y M 19 f) (1 + b) (mix Y M 29 0 + g) a 32 i) = _
    by_cases e : i = M 19 f
    · rw [if_pos ⟨rfl, e⟩, if_pos e]
    · rw [if_neg (fun z => e z.2), if_neg e]
      show (if 32 = 28 ∧ i = 0 then mix Y M 28 0 + 1 else if r_loan 32 = true ∧ i = mix Y M 28 0 then y_loan (mix Y M 19 f) (1 + b) (mix Y M 29 0 + g) a 32 else Y 32 i) = _
      rw [if_neg (by omega), if_neg (fun z => absurd z.1 (by decide))]
  subst hM'
  refine ⟨⟨fun j hj => ?_, fun _ _ _ => ⟨rfl, fun _ _ _ => rfl⟩, fun q g1 g2 => ⟨?_, ?_, ?_⟩, fun _ _ _ => ⟨rfl, rfl, fun _ _ _ => rfl⟩, fun _ _ _ => ⟨rfl, rfl, rfl, rfl, rfl, rfl, rfl, rfl⟩, fun _ _ _ => ⟨rfl, rfl⟩⟩, ⟨r1, r0, fun f' f1 f2 => ?_, r3, fun q g1 g2 => ?_⟩, ⟨⟨q1, q12, q17, q18, q21, ?_, q29⟩, i2, i3, i3e, i4, i4e, i5, i6, i7, fun q g1 g2 => ?_, fun q q' g1 g2 g3 g4 g5 g6 g7 => ?_, fun q g1 g2 g3 r g4 g5 g6 => ?_⟩, Z⟩
  · rcases hj with rfl | rfl | rfl | rfl | rfl | rfl | rfl | rfl <;> rfl
  · rw [e26, x4 26 q (by decide) (by decide)]
    by_cases e : q = M 28 0
    · rw [if_pos ⟨rfl, e⟩, if_pos e]; rfl
    · rw [if_neg (fun z => e z.2), if_neg e]; rfl
  · rw [e24, x4 24 q (by decide) (by decide)]
    by_cases e : q = M 28 0
    · rw [if_pos ⟨rfl, e⟩, if_pos e]; rfl
    · rw [if_neg (fun z => e z.2), if_neg e]; rfl
  · rw [eo 27 _ (by decide) (by decide) (by decide) (by decide) (by decide), x4 27 q (by decide) (by decide)]
    by_cases e : q = M 28 0
    · rw [if_pos ⟨rfl, e⟩, e, h27]; rfl
    · rw [if_neg (fun z => e z.2)]; rfl
  · rw [x32]
    by_cases e : f' = M 19 f
    · rw [if_pos e, (hlent f').mpr (Or.inl e)]; rfl
    · rw [if_neg e, r2 f' f1 f2]
      congr 1
      rw [Bool.eq_iff_iff, hlent]
      exact ⟨Or.inr, fun z => z.resolve_left e⟩
  · rw [e28] at g2
    rw [x4 34 q (by decide) (by decide), x4 35 q (by decide) (by decide), e23, e25, eo 19 _ (by decide) (by decide) (by decide) (by decide) (by decide)]
    by_cases e : q = M 28 0
    · rw [if_pos (show r_loan 34 = true ∧ q = M 28 0 from ⟨rfl, e⟩), if_pos (show r_loan 35 = true ∧ q = M 28 0 from ⟨rfl, e⟩), if_pos e, if_pos e]; exact ⟨rfl, rfl⟩
    · rw [if_neg (show ¬ (r_loan 34 = true ∧ q = M 28 0) from fun z => e z.2), if_neg (show ¬ (r_loan 35 = true ∧ q = M 28 0) from fun z => e z.2), if_neg e, if_neg e]
      exact r4 q g1 (by omega)
  · rw [e28]; omega
  · obtain ⟨w1, w2, w3, w4, w5, w6', w7, w8, w9, w10, w11, w12⟩ := i8 q g1 g2
    rw [e23, e24, e25, e26, e28, eo 27 _ (by decide) (by decide) (by decide) (by decide) (by decide), eo 21 _ (by decide) (by decide) (by decide) (by decide) (by decide)]
    by_cases e : q = M 28 0
    · rw [if_pos e, if_pos e, if_pos e, if_pos e]
      exact ⟨h1.1, by omega, fun _ => h1.2, by omega, by omega, by omega, by omega, by omega, by omega, w10, w11, fun z => by omega⟩
    · rw [if_neg e, if_neg e, if_neg e, if_neg e]
      exact ⟨w1, w2, fun z => w3 (by omega), w4, w5, w6', w7, w8, w9, w10, w11, fun z => w12 (by omega)⟩
  · rw [e28] at g2 g4
    rw [eo 27 _ (by decide) (by decide) (by decide) (by decide) (by decide)] at g5 g6
    rw [eo 19 _ (by decide) (by decide) (by decide) (by decide) (by decide), eo 19 _ (by decide) (by decide) (by decide) (by decide) (by decide), e23, e23] at g7
    by_cases e : q = M 28 0
    · by_cases e' : q' = M 28 0
      · omega
      · rw [if_pos e, if_neg e'] at g7
        exact absurd g7.symm (by have := lentM_false.mp hl q'.toNat (by omega) (by rw [Int.toNat_of_nonneg g3]; exact g6); rw [Int.toNat_of_nonneg g3] at this; exact this)
    · by_cases e' : q' = M 28 0
      · rw [if_neg e, if_pos e'] at g7
        exact absurd g7 (by have := lentM_false.mp hl q.toNat (by omega) (by rw [Int.toNat_of_nonneg g1]; exact g5); rw [Int.toNat_of_nonneg g1] at this; exact this)
      · rw [if_neg e, if_neg e'] at g7
        exact i10 q q' g1 (by omega) g3 (by omega) g5 g6 g7
  · rw [e28] at g2
    rw [eo 27 _ (by decide) (by decide) (by decide) (by decide) (by decide)] at g3
    rw [eo 19 _ (by decide) (by decide) (by decide) (by decide) (by decide), e23] at g6
    rw [e24, e25]
    have g5 : r < M 17 0 := g5
    show M 16 r < 2 ∨ greatM M r + _ ≤ M 18 0
    by_cases e : q = M 28 0
    · rw [if_pos e] at g6
      rw [if_pos e, if_pos e]
      have := hb r.toNat (by omega) (by rw [Int.toNat_of_nonneg g4]; exact g6)
      rw [Int.toNat_of_nonneg g4] at this
      exact of_decide_eq_true this
    · rw [if_neg e] at g6
      rw [if_neg e, if_neg e]
      exact i11 q g1 (by omega) g3 r g4 g5 g6
