/-! EACH CHANGE kept: join. -/
theorem cap {M : wM} (i1 : I1 M) (i4 : I4 M) {r q : Int} (hr : 0 ≤ r ∧ r < M 17 0) (hq : 0 ≤ q ∧ q < M 17 0) (h : ¬ r = q) : M 16 r + M 16 q ≤ M 12 0 := by
  have i1' := i1
  obtain ⟨-, q12, q17, -⟩ := i1'
  have wr := i4 r hr.1 (by omega)
  have wq := i4 q hq.1 (by omega)
  have hv : ∀ i : Nat, i < (M 16 r).toNat + (M 16 q).toNat → ((i : Int) < M 16 r ∧ 0 ≤ M 14 (60 * r + i) ∧ M 14 (60 * r + i) < M 12 0) ∨ (¬ (i : Int) < M 16 r ∧ (i : Int) - M 16 r < M 16 q ∧ 0 ≤ M 14 (60 * q + (i - M 16 r)) ∧ M 14 (60 * q + (i - M 16 r)) < M 12 0) := fun i hi => by
    by_cases c : (i : Int) < M 16 r
    · have v := wr.2.2.2.2 i (by omega) c
      exact Or.inl ⟨c, v.1, v.2.1⟩
    · have v := wq.2.2.2.2 (i - M 16 r) (by omega) (by omega)
      exact Or.inr ⟨c, by omega, v.1, v.2.1⟩
  have := pig (M 12 0).toNat ((M 16 r).toNat + (M 16 q).toNat) (fun i => if (i : Int) < M 16 r then (M 14 (60 * r + i)).toNat else (M 14 (60 * q + (i - M 16 r))).toNat) (fun i hi => by
    try dsimp only
    rcases hv i hi with ⟨c, h1, h2⟩ | ⟨c, -, h1, h2⟩
    · rw [if_pos c]; omega
    · rw [if_neg c]; omega) (fun i j hi hj e => by
    try dsimp only at e
    rcases hv i hi with ⟨c, h1, h2⟩ | ⟨c, c2, h1, h2⟩ <;> rcases hv j hj with ⟨c', h1', h2'⟩ | ⟨c', c2', h1', h2'⟩
    · rw [if_pos c, if_pos c'] at e
      have := (apart i1 i4 hr hr ⟨by omega, c⟩ ⟨by omega, c'⟩ (show M 14 (60 * r + (i : Int)) = M 14 (60 * r + (j : Int)) by omega)).2
      omega
    · rw [if_pos c, if_neg c'] at e
      exact absurd (apart i1 i4 hr hq (k := i) (k' := j - M 16 r) ⟨by omega, c⟩ ⟨by omega, c2'⟩ (by omega)).1 h
    · rw [if_neg c, if_pos c'] at e
      exact absurd (apart i1 i4 hq hr (k := i - M 16 r) (k' := j) ⟨by omega, c2⟩ ⟨by omega, c'⟩ (by omega)).1.symm h
    · rw [if_neg c, if_neg c'] at e
      have := (apart i1 i4 hq hq (k := i - M 16 r) (k' := j - M 16 r) ⟨by omega, c2⟩ ⟨by omega, c2'⟩ (by omega)).2
      omega)
  omega
theorem rset_at {X : wM} {j1 j2 : Nat} {f n' i : Int} {g : Int → Int} (hj : j2 ≠ j1) : rset X j1 j2 f n' g j2 i = if 60 * f ≤ i ∧ i < 60 * f + 60 then g (i - 60 * f) else X j2 i := by
  unfold rset
  rw [if_neg (fun x => hj x.1)]
  by_cases c : 60 * f ≤ i ∧ i < 60 * f + 60
  · rw [if_pos ⟨rfl, c⟩, if_pos c]
  · rw [if_neg (fun x => c x.2), if_neg c]
theorem mup_at {X : wM} {j : Nat} {i z i' : Int} : mup X j i z j i' = if i' = i then z else X j i' := by
  by_cases c : i' = i
  · rw [if_pos c]; exact if_pos ⟨rfl, c⟩
  · rw [if_neg c]; exact if_neg (fun x => c x.2)
theorem and5 {a b c d e f : Prop} (h : a ∧ b ∧ c ∧ d ∧ e) (g : f) : a ∧ b ∧ c ∧ d ∧ e ∧ f := ⟨h.1, h.2.1, h.2.2.1, h.2.2.2.1, h.2.2.2.2, g⟩
theorem jn14 {Y M : wM} {r q i : Int} (h16 : 0 ≤ M 16 r) : ∀ k : Nat, M 16 r + k ≤ 60 → jnX (mix Y M) r q k 14 i = if 60 * r + M 16 r ≤ i ∧ i < 60 * r + M 16 r + k then M 14 (60 * q + (i - 60 * r - M 16 r)) else M 14 i
  | 0, _ => by
    rw [if_neg (by omega)]
    rfl
  | k + 1, hk => by
    have ih := fun i => jn14 (Y := Y) (q := q) (i := i) h16 k (by omega)
    have e16 : jnX (mix Y M) r q k 16 r = M 16 r + k := jnX_r k
    rw [jnX]
    unfold apX
    rw [mup_oj (by decide), rset_at (by decide), e16]
    by_cases c : i = 60 * r + M 16 r + k
    · rw [if_pos (by omega), if_pos (by omega), if_pos (by omega)]
      show M 14 (60 * q + k) = _
      congr 1
      omega
    · have e : jnX (mix Y M) r q k 14 i = if 60 * r + M 16 r ≤ i ∧ i < 60 * r + M 16 r + ((k + 1 : Nat) : Int) then M 14 (60 * q + (i - 60 * r - M 16 r)) else M 14 i := by
        rw [ih]
        by_cases c2 : 60 * r + M 16 r ≤ i ∧ i < 60 * r + M 16 r + k
        · rw [if_pos c2, if_pos (by omega)]
        · rw [if_neg c2, if_neg (by omega)]
      by_cases c3 : 60 * r ≤ i ∧ i < 60 * r + 60
      · rw [if_pos c3, if_neg (by omega), show 60 * r + (i - 60 * r) = i by omega]
        exact e
      · rw [if_neg c3]
        exact e
theorem jn16 {X : wM} {r q i : Int} (h : i ≠ r) : ∀ k : Nat, jnX X r q k 16 i = X 16 i
  | 0 => rfl
  | k + 1 => by
    rw [jnX]
    unfold apX
    rw [mup_oj (by decide), rset_n' (by decide) h]
    exact jn16 h k
theorem jn7 {Y M : wM} {r q i : Int} : ∀ k : Nat, jnX (mix Y M) r q k 7 i = if anyI (fun k' => decide (M 14 (60 * q + k') = i)) k = true then r else M 7 i
  | 0 => rfl
  | k + 1 => by
    have ih := jn7 (Y := Y) (M := M) (r := r) (q := q) (i := i) k
    rw [jnX, anyI]
    unfold apX
    rw [mup_at, rset_o (by decide) (by decide), ih]
    by_cases c : i = mix Y M 14 (60 * q + (k : Int))
    · have c' : M 14 (60 * q + (k : Int)) = i := c.symm
      rw [if_pos c, decide_eq_true c', Bool.or_true, if_pos (rfl : true = true)]
    · have c' : ¬ M 14 (60 * q + (k : Int)) = i := fun x => c x.symm
      rw [if_neg c, decide_eq_false c', Bool.or_false]
theorem jo_o {X : wM} {r q i : Int} {j : Nat} (h7 : j ≠ 7) (h16 : j ≠ 16) (h14 : j ≠ 14) : joX X r q j i = X j i := by
  unfold joX
  rw [rset_o h16 h14, jnX_o h7 h16 h14]
theorem inQ {M : wM} {q i : Int} (h : 0 ≤ M 16 q) : anyI (fun k' => decide (M 14 (60 * q + k') = i)) (M 16 q).toNat = true ↔ ∃ k, 0 ≤ k ∧ k < M 16 q ∧ M 14 (60 * q + k) = i := by
  rw [anyI_iff]
  constructor
  · rintro ⟨k, h1, h2⟩
    exact ⟨k, by omega, by omega, of_decide_eq_true h2⟩
  · rintro ⟨k, h1, h2, h3⟩
    refine ⟨k.toNat, by omega, decide_eq_true ?_⟩
    rw [Int.toNat_of_nonneg h1]
    exact h3
theorem t_join {Y M : wM} (I : Inv M) (Z : I9 M) (R : Rel Y M) {r q : Int} (h : x_join M r q = 0) : Kept (joX (mix Y M) r q) (joinC M r q (M 16 q).toNat) := by
  obtain ⟨i1, i2, i3, i3e, i4, i4e, i5, i6, i7, i8, i10, i11⟩ := I
  obtain ⟨r1, r0, r2, r3, r4⟩ := R
  unfold x_join at h
  obtain ⟨h1, h⟩ := ite0 h (by decide)
  obtain ⟨h2, h⟩ := ite0 h (by decide)
  obtain ⟨h3, -⟩ := ite0 h (by decide)
  have h1 := Decidable.not_not.mp h1
  have h2 := Decidable.not_not.mp h2
  have n0 : ¬ M 16 r = 0 := fun c => h3 (Or.inl c)
  have n1 : ¬ M 16 q = 0 := fun c => h3 (Or.inr (Or.inl c))
  have hl : lentM M (M 13 r) = false := by
    cases c : lentM M (M 13 r)
    · rfl
    · exact absurd (Or.inr (Or.inr (Or.inr c))) h3
  have i1' := i1
  obtain ⟨q1, q12, q17, q18, q21, q28, q29⟩ := i1'
  have wr := i4 r h1.1.1 (by omega)
  have wq := i4 q h1.2.1 (by omega)
  have hcap := cap i1 i4 h1.1 h1.2 h2.1
  have hn : ((M 16 q).toNat : Int) = M 16 q := Int.toNat_of_nonneg wq.1
  have h60 : ∀ r, 0 ≤ r → r < 24 → 0 ≤ M 16 r ∧ M 16 r ≤ 60 := fun r a b => by have := i4 r a b; omega
  generalize hM' : joinC M r q (M 16 q).toNat = M'
  have e16 : ∀ i, M' 16 i = if i = r then M 16 r + M 16 q else if i = q then 0 else M 16 i := fun i => by
    rw [← hM', ← hn]; rfl
  have e14 : ∀ i, M' 14 i = if 60 * r + M 16 r ≤ i ∧ i < 60 * r + M 16 r + M 16 q then M 14 (60 * q + (i - 60 * r - M 16 r)) else M 14 i := fun i => by
    rw [← hM']
    show (if 60 * r + M 16 r ≤ i ∧ i < 60 * r + M 16 r + ((M 16 q).toNat : Int) then M 14 (60 * q + (i - 60 * r - M 16 r)) else M 14 i) = _
    rw [hn]
  have e15 : ∀ i, M' 15 i = if i = 60 * r + M 16 r - 1 then 0 else if 60 * r + M 16 r ≤ i ∧ i + 1 < 60 * r + M 16 r + M 16 q then M 15 (60 * q + (i - 60 * r - M 16 r)) else M 15 i := fun i => by
    rw [← hM']
    show (if (M 16 q).toNat = 0 then M 15 i else if i = 60 * r + M 16 r - 1 then 0 else if 60 * r + M 16 r ≤ i ∧ i + 1 < 60 * r + M 16 r + ((M 16 q).toNat : Int) then M 15 (60 * q + (i - 60 * r - M 16 r)) else M 15 i) = _
    rw [hn, if_neg (show ¬ (M 16 q).toNat = 0 by omega)]
  have e7y : ∀ i, (∃ k, 0 ≤ k ∧ k < M 16 q ∧ M 14 (60 * q + k) = i) → M' 7 i = r := fun i c => by
    rw [← hM']
    exact if_pos ((inQ wq.1).mpr c)
  have e7n : ∀ i, (¬ ∃ k, 0 ≤ k ∧ k < M 16 q ∧ M 14 (60 * q + k) = i) → M' 7 i = M 7 i := fun i c => by
    rw [← hM']
    exact if_neg (fun x => c ((inQ wq.1).mp x))
  have eo : ∀ j i, j ≠ 7 → j ≠ 14 → j ≠ 15 → j ≠ 16 → M' j i = M j i := fun j i a7 a14 a15 a16 => by
    rw [← hM']
    unfold joinC
    rw [if_neg a16, if_neg a14, if_neg a15, if_neg a7]
  have bl14 : ∀ r' k, r' ≠ r → 0 ≤ k → k < 60 → M' 14 (60 * r' + k) = M 14 (60 * r' + k) := fun r' k a b c => by rw [e14, if_neg (by omega)]
  have bl15 : ∀ r' k, r' ≠ r → 0 ≤ k → k < 60 → M' 15 (60 * r' + k) = M 15 (60 * r' + k) := fun r' k a b c => by rw [e15, if_neg (by omega), if_neg (by omega)]
  have r14a : ∀ k, k < M 16 r → M' 14 (60 * r + k) = M 14 (60 * r + k) := fun k a => by rw [e14, if_neg (by omega)]
  have r14b : ∀ t, 0 ≤ t → t < M 16 q → M' 14 (60 * r + (M 16 r + t)) = M 14 (60 * q + t) := fun t a b => by
    rw [e14, if_pos (by omega)]
    congr 1
    omega
  have r15a : ∀ k, k < M 16 r → M' 15 (60 * r + k) = if k + 1 < M 16 r then M 15 (60 * r + k) else 0 := fun k a => by
    rw [e15]
    by_cases c : k + 1 < M 16 r
    · rw [if_neg (by omega), if_neg (by omega), if_pos c]
    · rw [if_pos (by omega), if_neg c]
  have r15b : ∀ t, 0 ≤ t → t + 1 < M 16 q → M' 15 (60 * r + (M 16 r + t)) = M 15 (60 * q + t) := fun t a b => by
    rw [e15, if_neg (by omega), if_pos (by omega)]
    congr 1
    omega
  have nq : ∀ r' k, 0 ≤ r' → r' < 24 → r' ≠ q → 0 ≤ k → k < M 16 r' → M' 7 (M 14 (60 * r' + k)) = r' := fun r' k a b c d e => by
    have v := ((i4 r' a b).2.2.2.2 k d e).2.2.1
    rw [e7n _ (fun ⟨k', g1, g2, g3⟩ => by
      have v' := (wq.2.2.2.2 k' g1 g2).2.2.1
      rw [g3, v] at v'
      exact c v')]
    exact v
  have yq : ∀ t, 0 ≤ t → t < M 16 q → M' 7 (M 14 (60 * q + t)) = r := fun t a b => e7y _ ⟨t, a, b, rfl⟩
  have spl : ∀ k, 0 ≤ k → k < M 16 r + M 16 q → (k < M 16 r) ∨ ∃ t, 0 ≤ t ∧ t < M 16 q ∧ k = M 16 r + t := fun k a b => by
    by_cases c : k < M 16 r
    · exact Or.inl c
    · exact Or.inr ⟨k - M 16 r, by omega, by omega, by omega⟩
  have hXo : ∀ j i, j ≠ 7 → j ≠ 16 → j ≠ 14 → joX (mix Y M) r q j i = mix Y M j i := fun j i a b c => jo_o a b c
  have hgr : ∀ r', 0 ≤ r' → r' < 24 → r' ≠ r → r' ≠ q → greatM M' r' = greatM M r' := fun r' a b c d => by
    have := h60 r' a b
    unfold greatM
    rw [e16, if_neg c, if_neg d]
    exact maxI_cong (fun k hk => bl15 r' k c (by omega) (by omega))
  refine ⟨OE.of (fun j i hj a0 a15 a22 a23 a25 => ?_), ⟨fun r' k g1 g2 k1 k2 => ?_, fun s s1 s2 s3 => ?_, fun f f1 f2 => ?_, ⟨fun v s f g1 g2 g3 g4 g5 g6 => ?_, fun i g => ?_⟩, fun x g1 g2 => ⟨?_, ?_⟩⟩,
    ⟨?_, fun s s1 s2 => ?_, ?_, ?_, fun r' g1 g2 => ?_, fun s s1 s2 s3 => ?_, ?_, ?_, fun v s f g1 g2 g3 g4 g5 g6 g7 => ?_, ?_, ?_, fun x g1 g2 g3 r' g4 g5 g6 => ?_⟩, ?_⟩
  · by_cases e : j = 7
    · subst e
      unfold joX
      rw [rset_o (by decide) (by decide)]
      show jnX (mix Y M) r q (M 16 q).toNat 7 i = _
      rw [jn7]
      by_cases c : ∃ k, 0 ≤ k ∧ k < M 16 q ∧ M 14 (60 * q + k) = i
      · rw [e7y i c, if_pos ((inQ wq.1).mpr c)]
      · rw [e7n i c, if_neg (fun x => c ((inQ wq.1).mp x))]
    · by_cases e' : j = 16
      · subst e'
        rw [e16]
        unfold joX
        by_cases c : i = q
        · rw [c, rset_n, if_neg (fun x => h2.1 x.symm), if_pos rfl]
        · rw [rset_n' (by decide) c]
          show jnX (mix Y M) r q (M 16 q).toNat 16 i = _
          by_cases c2 : i = r
          · rw [c2, jnX_r, if_pos rfl, hn]
            rfl
          · rw [jn16 c2, if_neg c2, if_neg c]
            rfl
      · by_cases e'' : j = 14
        · subst e''
          rw [e14]
          unfold joX
          have hj14 := jn14 (Y := Y) (q := q) (i := i) wr.1 (M 16 q).toNat (by omega)
          rw [hn] at hj14
          show (if 14 = 16 ∧ i = q then _ else if 14 = 14 ∧ 60 * q ≤ i ∧ i < 60 * q + 60 then jnX (mix Y M) r q (M 16 q).toNat 14 (60 * q + (i - 60 * q)) else jnX (mix Y M) r q (M 16 q).toNat 14 i) = _
          rw [if_neg (show ¬ (14 = 16 ∧ i = q) from fun x => absurd x.1 (by decide)), show 60 * q + (i - 60 * q) = i by omega, ite_self]
          exact hj14
        · rw [hXo j i e e' e'', eo j i e e'' a15 e', mix_lo hj]
  · rw [e16] at k2 ⊢
    rw [eo 17 0 (by decide) (by decide) (by decide) (by decide)] at g2
    rw [hXo 31 _ (by decide) (by decide) (by decide)]
    show Y 31 (M' 14 (60 * r' + k)) = _
    by_cases c : r' = r
    · subst c
      rw [if_pos rfl] at k2 ⊢
      rcases spl k k1 k2 with c | ⟨t, t1, t2, rfl⟩
      · rw [r14a k c, if_pos (by omega), r15a k c]
        exact r1 r' k g1 g2 k1 c
      · rw [r14b t t1 t2, r1 q t h1.2.1 h1.2.2 t1 t2]
        by_cases c2 : t + 1 < M 16 q
        · rw [if_pos c2, if_pos (by omega), r15b t t1 c2]
        · rw [if_neg c2, if_neg (by omega)]
    · rw [if_neg c] at k2 ⊢
      by_cases c2 : r' = q
      · rw [if_pos c2] at k2
        omega
      · rw [if_neg c2] at k2 ⊢
        have := h60 r' g1 (by omega)
        rw [bl14 r' k c k1 (by omega), bl15 r' k c k1 (by omega)]
        exact r1 r' k g1 g2 k1 k2
  · rw [hXo 31 _ (by decide) (by decide) (by decide)]
    rw [eo 12 0 (by decide) (by decide) (by decide) (by decide)] at s2
    by_cases c : ∃ k, 0 ≤ k ∧ k < M 16 q ∧ M 14 (60 * q + k) = s
    · rw [e7y s c] at s3
      omega
    · rw [e7n s c] at s3
      exact r0 s s1 s2 s3
  · subst hM'
    rw [hXo 32 _ (by decide) (by decide) (by decide)]; exact r2 f f1 f2
  · subst hM'
    rw [hXo 33 _ (by decide) (by decide) (by decide)]; exact r3.1 v s f g1 g2 g3 g4 g5 g6
  · rw [hXo 33 _ (by decide) (by decide) (by decide)]; exact r3.2 i g
  · subst hM'
    rw [hXo 34 _ (by decide) (by decide) (by decide)]; exact (r4 x g1 g2).1
  · subst hM'
    rw [hXo 35 _ (by decide) (by decide) (by decide)]; exact (r4 x g1 g2).2
  · subst hM'; exact i1
  · rw [eo 12 0 (by decide) (by decide) (by decide) (by decide)] at s2
    obtain ⟨w1, w2, w3, w4, w5, w6, w7, w8, w9⟩ := i2 s s1 s2
    have h7 : -1 ≤ M' 7 s ∧ M' 7 s < M 17 0 := by
      by_cases c : ∃ k, 0 ≤ k ∧ k < M 16 q ∧ M 14 (60 * q + k) = s
      · rw [e7y s c]; omega
      · rw [e7n s c]; omega
    subst hM'
    exact ⟨w1, w2, w3, w4, w5, w6, h7.1, h7.2, w9⟩
  · subst hM'; exact i3
  · subst hM'; exact i3e
  · obtain ⟨w1, w2, w3, w4, w5⟩ := i4 r' g1 g2
    rw [eo 12 0 (by decide) (by decide) (by decide) (by decide), eo 17 0 (by decide) (by decide) (by decide) (by decide), eo 13 r' (by decide) (by decide) (by decide) (by decide), eo 1 0 (by decide) (by decide) (by decide) (by decide), eo 18 0 (by decide) (by decide) (by decide) (by decide), e16]
    by_cases c : r' = r
    · subst c
      rw [if_pos rfl]
      refine ⟨by omega, hcap, fun g => by omega, w4, fun k k1 k2 => ?_⟩
      have inj : ∀ k', 0 ≤ k' → k' < M 16 r' + M 16 q → M' 14 (60 * r' + k) = M' 14 (60 * r' + k') → k = k' := fun k' k1' k2' he => by
        rcases spl k k1 k2 with c | ⟨t, t1, t2, rfl⟩ <;> rcases spl k' k1' k2' with c' | ⟨t', t1', t2', rfl⟩
        · rw [r14a k c, r14a k' c'] at he
          exact (apart i1 i4 h1.1 h1.1 ⟨k1, c⟩ ⟨k1', c'⟩ he).2
        · rw [r14a k c, r14b t' t1' t2'] at he
          exact absurd (apart i1 i4 h1.1 h1.2 ⟨k1, c⟩ ⟨t1', t2'⟩ he).1 h2.1
        · rw [r14b t t1 t2, r14a k' c'] at he
          exact absurd (apart i1 i4 h1.2 h1.1 ⟨t1, t2⟩ ⟨k1', c'⟩ he).1.symm h2.1
        · rw [r14b t t1 t2, r14b t' t1' t2'] at he
          have := (apart i1 i4 h1.2 h1.2 ⟨t1, t2⟩ ⟨t1', t2'⟩ he).2
          omega
      refine and5 ?_ inj
      rcases spl k k1 k2 with c | ⟨t, t1, t2, rfl⟩
      · obtain ⟨v1, v2, v3, v4, v5, v6⟩ := w5 k k1 c
        rw [r14a k c, nq r' k g1 g2 h2.1 k1 c, r15a k c, eo 4 _ (by decide) (by decide) (by decide) (by decide)]
        refine ⟨v1, v2, rfl, v4, fun _ => ?_⟩
        split
        · rename_i c2
          exact v5 c2
        · omega
      · obtain ⟨v1, v2, v3, v4, v5, v6⟩ := wq.2.2.2.2 t t1 t2
        rw [r14b t t1 t2, yq t t1 t2, eo 4 _ (by decide) (by decide) (by decide) (by decide)]
        refine ⟨v1, v2, rfl, v4.trans h2.2.symm, fun c3 => ?_⟩
        rw [r15b t t1 (by omega)]
        exact v5 (by omega)
    · rw [if_neg c]
      by_cases c2 : r' = q
      · rw [if_pos c2]
        exact ⟨Int.le_refl _, by omega, fun _ => rfl, w4, fun k k1 k2 => by omega⟩
      · rw [if_neg c2]
        have h9 := h60 r' g1 g2
        refine ⟨w1, w2, w3, w4, fun k k1 k2 => ?_⟩
        obtain ⟨v1, v2, v3, v4, v5, v6⟩ := w5 k k1 k2
        rw [bl14 r' k c k1 (by omega), bl15 r' k c k1 (by omega), nq r' k g1 g2 c2 k1 k2, eo 4 _ (by decide) (by decide) (by decide) (by decide)]
        refine ⟨v1, v2, rfl, v4, v5, fun k' k1' k2' he => ?_⟩
        rw [bl14 r' k' c k1' (by omega)] at he
        exact v6 k' k1' k2' he
  · rw [eo 12 0 (by decide) (by decide) (by decide) (by decide)] at s2
    by_cases c : ∃ k, 0 ≤ k ∧ k < M 16 q ∧ M 14 (60 * q + k) = s
    · rw [e7y s c]
      obtain ⟨t, t1, t2, t3⟩ := c
      exact ⟨M 16 r + t, by omega, by rw [e16, if_pos rfl]; omega, by rw [r14b t t1 t2]; exact t3⟩
    · rw [e7n s c] at s3 ⊢
      obtain ⟨k, k1, k2, k3⟩ := i4e s s1 s2 s3
      have w := i2 s s1 s2
      have nqs : M 7 s ≠ q := fun e => c ⟨k, k1, by rw [← e]; exact k2, by rw [← e]; exact k3⟩
      have h9 := h60 (M 7 s) s3 (by omega)
      by_cases c2 : M 7 s = r
      · rw [c2] at k2 k3 ⊢
        exact ⟨k, k1, by rw [e16, if_pos rfl]; omega, by rw [r14a k k2]; exact k3⟩
      · exact ⟨k, k1, by rw [e16, if_neg c2, if_neg nqs]; exact k2, by rw [bl14 _ k c2 k1 (by omega)]; exact k3⟩
  · subst hM'; exact i5
  · subst hM'; exact i6
  · have h7 : M 7 s ≠ -1 → M' 7 s ≠ -1 := fun x => by
      by_cases c : ∃ k, 0 ≤ k ∧ k < M 16 q ∧ M 14 (60 * q + k) = s
      · rw [e7y s c]; omega
      · rw [e7n s c]; exact x
    subst hM'
    obtain ⟨v1, v2, v3, v4, v5⟩ := i7 v s f g1 g2 g3 g4 g5 g6 g7
    exact ⟨v1, v2, v3, h7 v4, v5⟩
  · subst hM'; exact i8
  · subst hM'; exact i10
  · have g : x < M 28 0 ∧ M 27 x = 0 ∧ r' < M 17 0 ∧ M 13 r' = M 19 (M 23 x) := by
      subst hM'
      exact ⟨g2, g3, g5, g6⟩
    obtain ⟨g2, g3, g5, g6⟩ := g
    have nF : ∀ r'', M 13 r'' = M 13 r → r' ≠ r'' := fun r'' e z => by
      rw [z, e] at g6
      refine lentM_false.mp hl x.toNat (by omega) ?_ ?_
      · rw [Int.toNat_of_nonneg g1]; exact g3
      · rw [Int.toNat_of_nonneg g1]; exact g6.symm
    have a1 := nF r rfl
    have a2 := nF q h2.2.symm
    rw [hgr r' g4 (by omega) a1 a2, e16, if_neg a1, if_neg a2, eo 24 x (by decide) (by decide) (by decide) (by decide), eo 25 x (by decide) (by decide) (by decide) (by decide), eo 18 0 (by decide) (by decide) (by decide) (by decide)]
    exact i11 x g1 g2 g3 r' g4 g5 g6
  · subst hM'; exact Z
