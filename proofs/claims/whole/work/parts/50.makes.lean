/-! EACH CHANGE kept: a new shot, a shot put on a reel, a reel with a shot. -/
theorem mk_r {M : wM} {f z a b : Int} {j : Nat} {i : Int} (h2 : j ≠ 2) (h3 : j ≠ 3) (h12 : j ≠ 12) : makesM M f z a b j i = if j = 11 ∧ i = M 12 0 then -1 else if j = 10 ∧ i = M 12 0 then -1 else if j = 7 ∧ i = M 12 0 then -1 else if j = 6 ∧ i = M 12 0 then b else if j = 5 ∧ i = M 12 0 then a else if j = 4 ∧ i = M 12 0 then f else M j i := by
  show (if j = 12 ∧ i = 0 then M 12 0 + 1 else if j = 11 ∧ i = M 12 0 then -1 else if j = 10 ∧ i = M 12 0 then -1 else if j = 7 ∧ i = M 12 0 then -1 else if j = 6 ∧ i = M 12 0 then b else if j = 5 ∧ i = M 12 0 then a else if j = 4 ∧ i = M 12 0 then f else if j = 3 ∧ i = f then M 3 f + 1 else if j = 2 ∧ i = 60 * f + z then M 12 0 else shK M f z j i) = _
  rw [if_neg (show ¬ (j = 12 ∧ i = 0) from fun x => h12 x.1), if_neg (show ¬ (j = 3 ∧ i = f) from fun x => h3 x.1), if_neg (show ¬ (j = 2 ∧ i = 60 * f + z) from fun x => h2 x.1), show shK M f z j i = M j i from if_neg h2]
theorem mk_2 {M : wM} {f z a b i : Int} : makesM M f z a b 2 i = if i = 60 * f + z then M 12 0 else if 60 * f + z < i ∧ i ≤ 60 * f + M 3 f then M 2 (i - 1) else M 2 i := by
  by_cases e : i = 60 * f + z
  · rw [if_pos e]
    exact if_pos ⟨rfl, e⟩
  · rw [if_neg e]
    exact if_neg (fun x => e x.2)
theorem mk_3 {M : wM} {f z a b i : Int} : makesM M f z a b 3 i = if i = f then M 3 f + 1 else M 3 i := by
  by_cases e : i = f
  · rw [if_pos e]
    exact if_pos ⟨rfl, e⟩
  · rw [if_neg e]
    exact if_neg (fun x => e x.2)
theorem mk_12 {M : wM} {f z a b : Int} : makesM M f z a b 12 0 = M 12 0 + 1 := rfl
theorem mk_o {M : wM} {f z a b : Int} {j : Nat} {i : Int} (h2 : j ≠ 2) (h3 : j ≠ 3) (h4 : j ≠ 4) (h5 : j ≠ 5) (h6 : j ≠ 6) (h7 : j ≠ 7) (h10 : j ≠ 10) (h11 : j ≠ 11) (h12 : j ≠ 12) : makesM M f z a b j i = M j i := by
  rw [mk_r h2 h3 h12, if_neg (fun x => h11 x.1), if_neg (fun x => h10 x.1), if_neg (fun x => h7 x.1), if_neg (fun x => h6 x.1), if_neg (fun x => h5 x.1), if_neg (fun x => h4 x.1)]
theorem mk_s {M : wM} {f z a b : Int} {j : Nat} {i : Int} (h2 : j ≠ 2) (h3 : j ≠ 3) (h12 : j ≠ 12) (hi : i ≠ M 12 0) : makesM M f z a b j i = M j i := by
  rw [mk_r h2 h3 h12, if_neg (fun x => hi x.2), if_neg (fun x => hi x.2), if_neg (fun x => hi x.2), if_neg (fun x => hi x.2), if_neg (fun x => hi x.2), if_neg (fun x => hi x.2)]
theorem mk_n {M : wM} {f z a b : Int} : makesM M f z a b 4 (M 12 0) = f ∧ makesM M f z a b 5 (M 12 0) = a ∧ makesM M f z a b 6 (M 12 0) = b ∧ makesM M f z a b 7 (M 12 0) = -1 ∧ makesM M f z a b 10 (M 12 0) = -1 ∧ makesM M f z a b 11 (M 12 0) = -1 := by
  refine ⟨?_, ?_, ?_, ?_, ?_, ?_⟩ <;> rw [mk_r (by decide) (by decide) (by decide)] <;> simp
theorem t_makes {Y M : wM} (I : Inv M) (Z : I9 M) (R : Rel Y M) {f z a b : Int} (hf : 0 ≤ f ∧ f < M 1 0) (hz : 0 ≤ z ∧ z ≤ M 3 f) (ha : 1 ≤ a ∧ a ≤ 999) (hb : 0 ≤ b ∧ b ≤ 9) (hc : M 12 0 < 60) {g : Int → Int} (hg : ∀ k, 0 ≤ k → k < M 3 f + 1 → g k = if k < z then M 2 (60 * f + k) else if k = z then M 12 0 else M 2 (60 * f + (k - 1))) : Kept (rset (xShot (mix Y M) f a b) 3 2 f (M 3 f + 1) g) (makesM M f z a b) := by
  obtain ⟨i1, i2, i3, i3e, i4, i4e, i5, i6, i7, i8, i10, i11⟩ := I
  obtain ⟨r1, r0, r2, r3, r4⟩ := R
  obtain ⟨q1, q12, q17, q18, q21, q28, q29⟩ := i1
  have w3 := i3 f hf.1 (by omega)
  have eo : ∀ j i, j ≠ 2 → j ≠ 3 → j ≠ 4 → j ≠ 5 → j ≠ 6 → j ≠ 7 → j ≠ 10 → j ≠ 11 → j ≠ 12 → makesM M f z a b j i = M j i := fun j i a1 a2 a3 a4 a5 a6 a7 a8 a9 => mk_o a1 a2 a3 a4 a5 a6 a7 a8 a9
  have es : ∀ j i, j ≠ 2 → j ≠ 3 → j ≠ 12 → i ≠ M 12 0 → makesM M f z a b j i = M j i := fun j i a1 a2 a3 a4 => mk_s a1 a2 a3 a4
  have e2n : ∀ f' k, f' ≠ f → 0 ≤ k → k < 60 → makesM M f z a b 2 (60 * f' + k) = M 2 (60 * f' + k) := fun f' k h1 h2 h3 => by
    rw [mk_2, if_neg (by omega), if_neg (by omega)]
  have e2f : ∀ k, 0 ≤ k → k < M 3 f + 1 → makesM M f z a b 2 (60 * f + k) = if k < z then M 2 (60 * f + k) else if k = z then M 12 0 else M 2 (60 * f + (k - 1)) := fun k h1 h2 => by
    rw [mk_2]
    by_cases c : k < z
    · rw [if_pos c, if_neg (by omega), if_neg (by omega)]
    · rw [if_neg c]
      by_cases c2 : k = z
      · rw [if_pos c2, if_pos (by omega)]
      · rw [if_neg c2, if_neg (by omega), if_pos (by omega)]
        congr 1
        omega
  obtain ⟨n4, n5, n6, n7, n10, n11⟩ := @mk_n M f z a b
  have xo : ∀ j i, j ≠ 2 → j ≠ 3 → j ≠ 12 → rset (xShot (mix Y M) f a b) 3 2 f (M 3 f + 1) g j i = if r_shot j = true ∧ i = M 12 0 then y_shot f a b j else mix Y M j i := fun j i a2 a3 a12 => by
    rw [rset_o a3 a2]
    show (if j = 12 ∧ i = 0 then mix Y M 12 0 + 1 else if r_shot j = true ∧ i = mix Y M 12 0 then y_shot f a b j else mix Y M j i) = _
    rw [if_neg (fun x => a12 x.1)]
    rfl
  have xs : ∀ j i, j ≠ 2 → j ≠ 3 → j ≠ 12 → i ≠ M 12 0 → rset (xShot (mix Y M) f a b) 3 2 f (M 3 f + 1) g j i = mix Y M j i := fun j i a2 a3 a12 h => by rw [xo j i a2 a3 a12, if_neg (fun x => h x.2)]
  have xq : ∀ j i, j ≠ 2 → j ≠ 3 → j ≠ 12 → r_shot j = false → rset (xShot (mix Y M) f a b) 3 2 f (M 3 f + 1) g j i = mix Y M j i := fun j i a2 a3 a12 h => by rw [xo j i a2 a3 a12, if_neg (fun x => by rw [h] at x; exact absurd x.1 (by decide))]
  have xn : ∀ j, j ≠ 2 → j ≠ 3 → j ≠ 12 → r_shot j = true → rset (xShot (mix Y M) f a b) 3 2 f (M 3 f + 1) g j (M 12 0) = y_shot f a b j := fun j a2 a3 a12 h => by rw [xo j _ a2 a3 a12, if_pos ⟨h, rfl⟩]
  have e3 : ∀ f', makesM M f z a b 3 f' = if f' = f then M 3 f + 1 else M 3 f' := fun f' => mk_3
  refine ⟨⟨fun j hj => ?_, fun f' f1 f2 => ⟨?_, fun k k1 k2 => ?_⟩, fun q g1 g2 => ⟨?_, ?_, ?_⟩, fun r g1 g2 => ⟨?_, ?_, fun k k1 k2 => ?_⟩, fun s s1 s2 => ?_, fun v g1 g2 => ⟨?_, ?_⟩⟩, ⟨fun r k g1 g2 k1 k2 => ?_, fun s s1 s2 s3 => ?_, fun f' f1 f2 => ?_, ⟨fun v s f' g1 g2 g3 g4 g5 g6 => ?_, fun i g => ?_⟩, fun q g1 g2 => ⟨?_, ?_⟩⟩,
    ⟨⟨?_, ?_, ?_, ?_, ?_, ?_, ?_⟩, fun s s1 s2 => ?_, fun f' f1 f2 => ?_, fun s s1 s2 => ?_, fun r g1 g2 => ?_, fun s s1 s2 s3 => ?_, fun s s1 s2 s3 => ?_, i6, fun v s f' g1 g2 g3 g4 g5 g6 g7 => ?_, i8, i10, i11⟩, fun s s1 s2 => ?_⟩
  · by_cases e : j = 12
    · subst e
      rw [rset_o (by decide) (by decide)]
      rfl
    · rw [xq j 0 (by omega) (by omega) e (by rcases hj with rfl | rfl | rfl | rfl | rfl | rfl | rfl | rfl <;> first | rfl | omega), eo j 0 (by omega) (by omega) (by omega) (by omega) (by omega) (by omega) (by omega) (by omega) e, mix_lo (by omega)]
  · rw [e3]
    by_cases e : f' = f
    · rw [e, rset_n, if_pos rfl]
    · rw [rset_n' (by decide) e, if_neg e]
      rfl
  · rw [e3] at k2
    have f2 : f' < M 1 0 := f2
    have w3' := i3 f' f1 (by omega)
    by_cases e : f' = f
    · rw [if_pos e] at k2
      subst e
      rw [rset_e (by decide) ⟨k1, by omega⟩, hg k k1 k2, e2f k k1 k2]
    · rw [if_neg e] at k2
      rw [rset_e' (by decide) ⟨k1, by omega⟩ e, e2n f' k e k1 (by omega)]
      rfl
  · rw [xq 26 q (by decide) (by decide) (by decide) rfl]; exact (eo 26 q (by decide) (by decide) (by decide) (by decide) (by decide) (by decide) (by decide) (by decide) (by decide)).symm
  · rw [xq 24 q (by decide) (by decide) (by decide) rfl]; exact (eo 24 q (by decide) (by decide) (by decide) (by decide) (by decide) (by decide) (by decide) (by decide) (by decide)).symm
  · rw [xq 27 q (by decide) (by decide) (by decide) rfl]; exact (eo 27 q (by decide) (by decide) (by decide) (by decide) (by decide) (by decide) (by decide) (by decide) (by decide)).symm
  · rw [xq 13 r (by decide) (by decide) (by decide) rfl]; exact (eo 13 r (by decide) (by decide) (by decide) (by decide) (by decide) (by decide) (by decide) (by decide) (by decide)).symm
  · rw [xq 16 r (by decide) (by decide) (by decide) rfl]; exact (eo 16 r (by decide) (by decide) (by decide) (by decide) (by decide) (by decide) (by decide) (by decide) (by decide)).symm
  · rw [xq 14 _ (by decide) (by decide) (by decide) rfl]; exact (eo 14 _ (by decide) (by decide) (by decide) (by decide) (by decide) (by decide) (by decide) (by decide) (by decide)).symm
  · have s2 : s < M 12 0 + 1 := s2
    by_cases e : s = M 12 0
    · subst e
      rw [xn 4 (by decide) (by decide) (by decide) rfl, xn 5 (by decide) (by decide) (by decide) rfl, xn 6 (by decide) (by decide) (by decide) rfl, xn 7 (by decide) (by decide) (by decide) rfl, xn 8 (by decide) (by decide) (by decide) rfl, xn 9 (by decide) (by decide) (by decide) rfl, xn 10 (by decide) (by decide) (by decide) rfl, xn 11 (by decide) (by decide) (by decide) rfl, n4, n5, n6, n7, n10, n11, eo 8 _ (by decide) (by decide) (by decide) (by decide) (by decide) (by decide) (by decide) (by decide) (by decide), eo 9 _ (by decide) (by decide) (by decide) (by decide) (by decide) (by decide) (by decide) (by decide) (by decide)]
      obtain ⟨z8, z9⟩ := Z (M 12 0) (Int.le_refl _) hc
      exact ⟨rfl, rfl, rfl, rfl, z8.symm, z9.symm, rfl, rfl⟩
    · have h : ∀ j, j ≠ 2 → j ≠ 3 → j ≠ 12 → j < 31 → rset (xShot (mix Y M) f a b) 3 2 f (M 3 f + 1) g j s = makesM M f z a b j s := fun j a2 a3 a12 hj => by rw [xs j s a2 a3 a12 e, es j s a2 a3 a12 e, mix_lo hj]
      exact ⟨h 4 (by decide) (by decide) (by decide) (by decide), h 5 (by decide) (by decide) (by decide) (by decide), h 6 (by decide) (by decide) (by decide) (by decide), h 7 (by decide) (by decide) (by decide) (by decide), h 8 (by decide) (by decide) (by decide) (by decide), h 9 (by decide) (by decide) (by decide) (by decide), h 10 (by decide) (by decide) (by decide) (by decide), h 11 (by decide) (by decide) (by decide) (by decide)⟩
  · rw [xq 19 _ (by decide) (by decide) (by decide) rfl]; exact (eo 19 _ (by decide) (by decide) (by decide) (by decide) (by decide) (by decide) (by decide) (by decide) (by decide)).symm
  · rw [xq 20 _ (by decide) (by decide) (by decide) rfl]; exact (eo 20 _ (by decide) (by decide) (by decide) (by decide) (by decide) (by decide) (by decide) (by decide) (by decide)).symm
  · have k2 : k < M 16 r := k2
    have g2 : r < M 17 0 := g2
    have w := (i4 r g1 (by omega)).2.2.2.2 k k1 k2
    have := r1 r k g1 g2 k1 k2
    rw [eo 14 _ (by decide) (by decide) (by decide) (by decide) (by decide) (by decide) (by decide) (by decide) (by decide), xs 31 _ (by decide) (by decide) (by decide) (by omega)]
    exact this
  · have s2 : s < M 12 0 + 1 := s2
    by_cases e : s = M 12 0
    · rw [e, xn 31 (by decide) (by decide) (by decide) rfl]; rfl
    · rw [xs 31 _ (by decide) (by decide) (by decide) e]
      rw [es 7 s (by decide) (by decide) (by decide) e] at s3
      exact r0 s s1 (by omega) s3
  · rw [xq 32 _ (by decide) (by decide) (by decide) rfl]; exact r2 f' f1 f2
  · rw [xq 33 _ (by decide) (by decide) (by decide) rfl]; exact r3.1 v s f' g1 g2 g3 g4 g5 g6
  · rw [xq 33 _ (by decide) (by decide) (by decide) rfl]; exact r3.2 i g
  · rw [xq 34 _ (by decide) (by decide) (by decide) rfl]; exact (r4 q g1 g2).1
  · rw [xq 35 _ (by decide) (by decide) (by decide) rfl]; exact (r4 q g1 g2).2
  · exact q1
  · rw [mk_12]; omega
  · exact q17
  · exact q18
  · exact q21
  · exact q28
  · exact q29
  · have s2 : s < M 12 0 + 1 := s2
    rw [mk_12, eo 1 0 (by decide) (by decide) (by decide) (by decide) (by decide) (by decide) (by decide) (by decide) (by decide), eo 17 0 (by decide) (by decide) (by decide) (by decide) (by decide) (by decide) (by decide) (by decide) (by decide), eo 8 s (by decide) (by decide) (by decide) (by decide) (by decide) (by decide) (by decide) (by decide) (by decide), eo 9 s (by decide) (by decide) (by decide) (by decide) (by decide) (by decide) (by decide) (by decide) (by decide)]
    by_cases e : s = M 12 0
    · subst e
      obtain ⟨z8, z9⟩ := Z (M 12 0) (Int.le_refl _) hc
      rw [n4, n5, n6, n7, n10, n11, z8, z9]
      omega
    · rw [es 4 s (by decide) (by decide) (by decide) e, es 5 s (by decide) (by decide) (by decide) e, es 6 s (by decide) (by decide) (by decide) e, es 7 s (by decide) (by decide) (by decide) e, es 10 s (by decide) (by decide) (by decide) e, es 11 s (by decide) (by decide) (by decide) e]
      have := i2 s s1 (by omega)
      omega
  · have w3' := i3 f' f1 f2
    rw [e3, mk_12, eo 1 0 (by decide) (by decide) (by decide) (by decide) (by decide) (by decide) (by decide) (by decide) (by decide)]
    by_cases e : f' = f
    · subst e
      rw [if_pos rfl]
      refine ⟨by omega, by omega, fun _ => by omega, fun k k1 k2 => ?_⟩
      have hin : ∀ k, 0 ≤ k → k < M 3 f' + 1 → (k < z ∧ makesM M f' z a b 2 (60 * f' + k) = M 2 (60 * f' + k) ∧ k < M 3 f') ∨ (k = z ∧ makesM M f' z a b 2 (60 * f' + k) = M 12 0) ∨ (z < k ∧ makesM M f' z a b 2 (60 * f' + k) = M 2 (60 * f' + (k - 1)) ∧ 0 ≤ k - 1 ∧ k - 1 < M 3 f') := fun k k1 k2 => by
        rw [e2f k k1 k2]
        by_cases c : k < z
        · rw [if_pos c]; exact Or.inl ⟨c, rfl, by omega⟩
        · rw [if_neg c]
          by_cases c2 : k = z
          · rw [if_pos c2]; exact Or.inr (Or.inl ⟨c2, rfl⟩)
          · rw [if_neg c2]; exact Or.inr (Or.inr ⟨by omega, rfl, by omega, by omega⟩)
      have hlt : ∀ k, 0 ≤ k → k < M 3 f' → M 2 (60 * f' + k) < M 12 0 := fun k a b => (w3'.2.2.2 k a b).2.1
      have hq : 0 ≤ makesM M f' z a b 2 (60 * f' + k) ∧ makesM M f' z a b 2 (60 * f' + k) < M 12 0 + 1 ∧ makesM M f' z a b 4 (makesM M f' z a b 2 (60 * f' + k)) = f' := by
        rcases hin k k1 k2 with ⟨c, h, h9⟩ | ⟨c, h⟩ | ⟨c, h, h8, h9⟩
        · rw [h]
          have v := w3'.2.2.2 k k1 h9
          exact ⟨v.1, by omega, by rw [es 4 _ (by decide) (by decide) (by decide) (by omega)]; exact v.2.2.1⟩
        · rw [h]
          exact ⟨by omega, by omega, n4⟩
        · rw [h]
          have v := w3'.2.2.2 (k - 1) h8 h9
          exact ⟨v.1, by omega, by rw [es 4 _ (by decide) (by decide) (by decide) (by omega)]; exact v.2.2.1⟩
      refine ⟨hq.1, hq.2.1, hq.2.2, fun k' k1' k2' he => ?_⟩
      rcases hin k k1 k2 with ⟨c, h, h9⟩ | ⟨c, h⟩ | ⟨c, h, h8, h9⟩ <;> rcases hin k' k1' k2' with ⟨c', h', h9'⟩ | ⟨c', h'⟩ | ⟨c', h', h8', h9'⟩ <;> rw [h, h'] at he
      · exact (w3'.2.2.2 k k1 h9).2.2.2 k' k1' h9' he
      · have := hlt k k1 h9
        omega
      · have := (w3'.2.2.2 k k1 h9).2.2.2 (k' - 1) h8' h9' he
        omega
      · have := hlt k' k1' h9'
        omega
      · omega
      · have := hlt (k' - 1) h8' h9'
        omega
      · have := (w3'.2.2.2 (k - 1) h8 h9).2.2.2 k' k1' h9' he
        omega
      · have := hlt (k - 1) h8 h9
        omega
      · have := (w3'.2.2.2 (k - 1) h8 h9).2.2.2 (k' - 1) h8' h9' he
        omega
    · rw [if_neg e]
      refine ⟨w3'.1, by omega, w3'.2.2.1, fun k k1 k2 => ?_⟩
      have v := w3'.2.2.2 k k1 k2
      rw [e2n f' k e k1 (by omega), es 4 _ (by decide) (by decide) (by decide) (by omega)]
      refine ⟨v.1, by omega, v.2.2.1, fun k' k1' k2' he => ?_⟩
      rw [e2n f' k' e k1' (by omega)] at he
      exact v.2.2.2 k' k1' k2' he
  · have s2 : s < M 12 0 + 1 := s2
    by_cases e : s = M 12 0
    · subst e
      rw [n4, e3, if_pos rfl]
      refine ⟨z, hz.1, by omega, ?_⟩
      rw [e2f z hz.1 (by omega), if_neg (by omega), if_pos rfl]
    · rw [es 4 s (by decide) (by decide) (by decide) e, e3]
      obtain ⟨k, k1, k2, k3⟩ := i3e s s1 (by omega)
      have v := i2 s s1 (by omega)
      have w3' := i3 (M 4 s) v.1 (by omega)
      by_cases e2 : M 4 s = f
      · rw [if_pos e2, e2]
        rw [e2] at k2 k3
        by_cases c : k < z
        · exact ⟨k, k1, by omega, by rw [e2f k k1 (by omega), if_pos c]; exact k3⟩
        · exact ⟨k + 1, by omega, by omega, by rw [e2f (k + 1) (by omega) (by omega), if_neg (by omega), if_neg (by omega), show k + 1 - 1 = k by omega]; exact k3⟩
      · rw [if_neg e2]
        exact ⟨k, k1, k2, by rw [e2n _ k e2 k1 (by omega)]; exact k3⟩
  · obtain ⟨w1, w2, w3', w4, w5⟩ := i4 r g1 g2
    rw [mk_12, eo 16 r (by decide) (by decide) (by decide) (by decide) (by decide) (by decide) (by decide) (by decide) (by decide), eo 17 0 (by decide) (by decide) (by decide) (by decide) (by decide) (by decide) (by decide) (by decide) (by decide), eo 13 r (by decide) (by decide) (by decide) (by decide) (by decide) (by decide) (by decide) (by decide) (by decide), eo 1 0 (by decide) (by decide) (by decide) (by decide) (by decide) (by decide) (by decide) (by decide) (by decide)]
    refine ⟨w1, by omega, w3', w4, fun k k1 k2 => ?_⟩
    obtain ⟨v1, v2, v3, v4, v5, v6⟩ := w5 k k1 k2
    rw [eo 14 _ (by decide) (by decide) (by decide) (by decide) (by decide) (by decide) (by decide) (by decide) (by decide), eo 15 _ (by decide) (by decide) (by decide) (by decide) (by decide) (by decide) (by decide) (by decide) (by decide), eo 18 0 (by decide) (by decide) (by decide) (by decide) (by decide) (by decide) (by decide) (by decide) (by decide), es 7 _ (by decide) (by decide) (by decide) (by omega), es 4 _ (by decide) (by decide) (by decide) (by omega)]
    exact ⟨v1, by omega, v3, v4, v5, v6⟩
  · have s2 : s < M 12 0 + 1 := s2
    by_cases e : s = M 12 0
    · subst e
      rw [n7] at s3
      omega
    · rw [es 7 s (by decide) (by decide) (by decide) e] at s3 ⊢
      exact i4e s s1 (by omega) s3
  · have s2 : s < M 12 0 + 1 := s2
    by_cases e : s = M 12 0
    · subst e
      rw [n11] at s3
      omega
    · rw [es 11 s (by decide) (by decide) (by decide) e] at s3 ⊢
      have v := i2 s s1 (by omega)
      have v5 := i5 s s1 (by omega) s3
      rw [es 10 s (by decide) (by decide) (by decide) e, es 10 _ (by decide) (by decide) (by decide) (show M 11 s ≠ M 12 0 by omega), es 4 _ (by decide) (by decide) (by decide) (show M 11 s ≠ M 12 0 by omega), es 4 s (by decide) (by decide) (by decide) e, es 6 _ (by decide) (by decide) (by decide) (show M 11 s ≠ M 12 0 by omega), es 6 s (by decide) (by decide) (by decide) e]
      exact v5
  · have v := i7 v s f' g1 g2 g3 g4 g5 g6 g7
    rw [mk_12, es 4 s (by decide) (by decide) (by decide) (by omega), es 7 s (by decide) (by decide) (by decide) (by omega), es 5 s (by decide) (by decide) (by decide) (by omega)]
    exact ⟨v.1, by omega, v.2.2⟩
  · rw [mk_12] at s1
    exact Z s (by omega) s2
theorem t_addShot {Y M : wM} (I : Inv M) (Z : I9 M) (R : Rel Y M) {f a b : Int} (h : x_addShot M f a b = 0) : Kept (asX (mix Y M) f a b) (makesM M f (M 3 f) a b) := by
  unfold x_addShot at h
  obtain ⟨h1, h⟩ := ite0 h (by decide)
  obtain ⟨h2, h⟩ := ite0 h (by decide)
  obtain ⟨h3, -⟩ := ite0 h (by decide)
  have h1 := Decidable.not_not.mp h1
  have h2 := Decidable.not_not.mp h2
  have i1 := I.1
  have i3 := I.2.2.1
  obtain ⟨q1, q12, -⟩ := i1
  have w3 := i3 f h1.1 (by omega)
  refine t_makes I Z R h1 ⟨w3.1, Int.le_refl _⟩ h2.1 h2.2 (by omega) (fun k k1 k2 => ?_)
  show (if k = M 3 f then M 12 0 else M 2 (60 * f + k)) = _
  by_cases c : k = M 3 f
  · rw [if_pos c, if_neg (by omega), if_pos c]
  · rw [if_neg c, if_pos (by omega)]
