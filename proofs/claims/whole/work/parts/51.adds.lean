/-! EACH CHANGE kept: a shot put on a reel, a new reel, found. -/
theorem ad_15 {M : wM} {r s i : Int} : addsM M r s 0 15 i = if i = 60 * r + M 16 r - 1 then (if M 16 r ≤ 0 then M 15 (60 * r + M 16 r - 1) else 0) else M 15 i := by
  show (if 15 = 15 ∧ i = 60 * r + M 16 r - 1 then (if M 16 r ≤ 0 then M 15 (60 * r + M 16 r - 1) else 0) else M 15 i) = _
  by_cases e : i = 60 * r + M 16 r - 1
  · rw [if_pos (show 15 = 15 ∧ i = 60 * r + M 16 r - 1 from ⟨rfl, e⟩), if_pos e]
  · rw [if_neg (show ¬ (15 = 15 ∧ i = 60 * r + M 16 r - 1) from fun x => e x.2), if_neg e]
theorem ad_14 {M : wM} {r s i : Int} : addsM M r s 0 14 i = if i = 60 * r + M 16 r then s else M 14 i := by
  by_cases e : i = 60 * r + M 16 r
  · rw [if_pos e]; exact if_pos ⟨rfl, e⟩
  · rw [if_neg e]; exact if_neg (fun x => e x.2)
theorem ad_16 {M : wM} {r s i : Int} : addsM M r s 0 16 i = if i = r then M 16 r + 1 else M 16 i := by
  by_cases e : i = r
  · rw [if_pos e]; exact if_pos ⟨rfl, e⟩
  · rw [if_neg e]; exact if_neg (fun x => e x.2)
theorem ad_7 {M : wM} {r s i : Int} : addsM M r s 0 7 i = if i = s then r else M 7 i := by
  by_cases e : i = s
  · rw [if_pos e]; exact if_pos ⟨rfl, e⟩
  · rw [if_neg e]; exact if_neg (fun x => e x.2)
theorem ad_o {M : wM} {r s i : Int} {j : Nat} (h7 : j ≠ 7) (h16 : j ≠ 16) (h14 : j ≠ 14) (h15 : j ≠ 15) : addsM M r s 0 j i = M j i := by
  unfold addsM
  rw [mup_oj h7, mup_oj h16, mup_oj h14, mup_oj h15]
theorem t_adds {X M : wM} (x : OE X M) (I : Inv M) (Z : I9 M) (R : Rel X M) {r s : Int} (hr : 0 ≤ r ∧ r < M 17 0) (hs : 0 ≤ s ∧ s < M 12 0) (h7 : M 7 s = -1) (h4 : M 4 s = M 13 r) (hl : lentM M (M 13 r) = false) : Kept (apX X r s) (addsM M r s 0) := by
  obtain ⟨i1, i2, i3, i3e, i4, i4e, i5, i6, i7, i8, i10, i11⟩ := I
  obtain ⟨r1, r0, r2, r3, r4⟩ := R
  obtain ⟨x0, x1, x2, x3, x4, x5⟩ := x
  have i1' := i1
  obtain ⟨q1, q12, q17, q18, q21, q28, q29⟩ := i1'
  have hlt := reelM_lt i1 i4 (r := r) (s := s) ⟨hr.1, by omega⟩ hs (by omega)
  have h60 : ∀ r, 0 ≤ r → r < 24 → 0 ≤ M 16 r ∧ M 16 r ≤ 60 := fun r a b => by have := i4 r a b; omega
  have hr16 := h60 r hr.1 (by omega)
  have xr := x3 r hr.1 hr.2
  have e15o : ∀ r' k, r' ≠ r → 0 ≤ k → k < 60 → addsM M r s 0 15 (60 * r' + k) = M 15 (60 * r' + k) := fun r' k a b c => by
    rw [ad_15]
    by_cases e : 60 * r' + k = 60 * r + M 16 r - 1
    · rw [if_pos e, if_pos (by omega), ← e]
    · rw [if_neg e]
  have e15r : ∀ k, 0 ≤ k → k < M 16 r → addsM M r s 0 15 (60 * r + k) = if k + 1 < M 16 r then M 15 (60 * r + k) else 0 := fun k b c => by
    rw [ad_15]
    by_cases e : k + 1 < M 16 r
    · rw [if_neg (by omega), if_pos e]
    · rw [if_pos (by omega), if_neg (by omega), if_neg e]
  have e14o : ∀ r' k, r' ≠ r → 0 ≤ k → k < 60 → addsM M r s 0 14 (60 * r' + k) = M 14 (60 * r' + k) := fun r' k a b c => by rw [ad_14, if_neg (by omega)]
  have e14r : ∀ k, k < M 16 r → addsM M r s 0 14 (60 * r + k) = M 14 (60 * r + k) := fun k c => by rw [ad_14, if_neg (by omega)]
  have e14n : addsM M r s 0 14 (60 * r + M 16 r) = s := by rw [ad_14, if_pos rfl]
  have onr : ∀ r' k, 0 ≤ r' → r' < 24 → 0 ≤ k → k < M 16 r' → M 14 (60 * r' + k) ≠ s := fun r' k a b c d e => by
    have v := ((i4 r' a b).2.2.2.2 k c d).2.2.1
    rw [e, h7] at v
    omega
  have ax : ∀ j i, j ≠ 7 → j ≠ 16 → j ≠ 14 → apX X r s j i = X j i := fun j i a b c => apX_o a b c
  have hgr : ∀ r', 0 ≤ r' → r' < 24 → r' ≠ r → greatM (addsM M r s 0) r' = greatM M r' := fun r' a b c => by
    have := h60 r' a b
    unfold greatM
    rw [ad_16, if_neg c]
    exact maxI_cong (fun k hk => e15o r' k c (by omega) (by omega))
  refine ⟨⟨fun j hj => ?_, fun f f1 f2 => ⟨?_, fun k k1 k2 => ?_⟩, fun q g1 g2 => ⟨?_, ?_, ?_⟩, fun r' g1 g2 => ⟨?_, ?_, fun k k1 k2 => ?_⟩, fun s' s1 s2 => ?_, fun v g1 g2 => ⟨?_, ?_⟩⟩, ⟨fun r' k g1 g2 k1 k2 => ?_, fun s' s1 s2 s3 => ?_, fun f f1 f2 => ?_, ⟨fun v s f g1 g2 g3 g4 g5 g6 => ?_, fun i g => ?_⟩, fun q g1 g2 => ⟨?_, ?_⟩⟩,
    ⟨i1, fun s' s1 s2 => ?_, i3, i3e, fun r' g1 g2 => ?_, fun s' s1 s2 s3 => ?_, i5, i6, fun v s' f g1 g2 g3 g4 g5 g6 g7 => ?_, i8, i10, fun q g1 g2 g3 r' g4 g5 g6 => ?_⟩, Z⟩
  · rw [ax j 0 (by omega) (by omega) (by omega), ad_o (by omega) (by omega) (by omega) (by omega)]
    exact x0 j hj
  · rw [ax 3 f (by decide) (by decide) (by decide)]; exact (x1 f f1 f2).1
  · rw [ax 2 _ (by decide) (by decide) (by decide)]; exact (x1 f f1 f2).2 k k1 k2
  · rw [ax 26 _ (by decide) (by decide) (by decide)]; exact (x2 q g1 g2).1
  · rw [ax 24 _ (by decide) (by decide) (by decide)]; exact (x2 q g1 g2).2.1
  · rw [ax 27 _ (by decide) (by decide) (by decide)]; exact (x2 q g1 g2).2.2
  · rw [ax 13 _ (by decide) (by decide) (by decide)]; exact (x3 r' g1 g2).1
  · rw [ad_16]
    unfold apX
    rw [mup_oj (by decide)]
    by_cases e : r' = r
    · rw [e, rset_n, if_pos rfl, xr.2.1]
    · rw [rset_n' (by decide) e, if_neg e]
      exact (x3 r' g1 g2).2.1
  · rw [ad_16] at k2
    have g2 : r' < M 17 0 := g2
    have h9 := h60 r' g1 (by omega)
    unfold apX
    rw [mup_oj (by decide)]
    by_cases e : r' = r
    · rw [if_pos e] at k2
      subst e
      rw [rset_e (by decide) ⟨k1, by omega⟩, xr.2.1]
      by_cases e2 : k = M 16 r'
      · rw [if_pos e2, e2, e14n]
      · rw [if_neg e2, e14r k (by omega)]
        exact xr.2.2 k k1 (by omega)
    · rw [if_neg e] at k2
      rw [rset_e' (by decide) ⟨k1, by omega⟩ e, e14o r' k e k1 (by omega)]
      exact (x3 r' g1 g2).2.2 k k1 k2
  · obtain ⟨v4, v5, v6, v7, v8, v9, v10, v11⟩ := x4 s' s1 s2
    refine ⟨?_, ?_, ?_, ?_, ?_, ?_, ?_, ?_⟩
    · rw [ax 4 _ (by decide) (by decide) (by decide)]; exact v4
    · rw [ax 5 _ (by decide) (by decide) (by decide)]; exact v5
    · rw [ax 6 _ (by decide) (by decide) (by decide)]; exact v6
    · rw [ad_7]
      unfold apX
      by_cases e : s' = s
      · rw [if_pos e, e, mup_eq]
      · rw [if_neg e, mup_ne e, rset_o (by decide) (by decide)]
        exact v7
    · rw [ax 8 _ (by decide) (by decide) (by decide)]; exact v8
    · rw [ax 9 _ (by decide) (by decide) (by decide)]; exact v9
    · rw [ax 10 _ (by decide) (by decide) (by decide)]; exact v10
    · rw [ax 11 _ (by decide) (by decide) (by decide)]; exact v11
  · rw [ax 19 _ (by decide) (by decide) (by decide)]; exact (x5 v g1 g2).1
  · rw [ax 20 _ (by decide) (by decide) (by decide)]; exact (x5 v g1 g2).2
  · have g2 : r' < M 17 0 := g2
    have h9 := h60 r' g1 (by omega)
    rw [ad_16] at k2 ⊢
    rw [ax 31 _ (by decide) (by decide) (by decide)]
    by_cases e : r' = r
    · subst e
      rw [if_pos rfl] at k2 ⊢
      by_cases e2 : k = M 16 r'
      · rw [e2, e14n, if_neg (by omega)]
        exact r0 s hs.1 hs.2 h7
      · rw [e14r k (by omega), if_pos (by omega), e15r k k1 (by omega)]
        exact r1 r' k g1 g2 k1 (by omega)
    · rw [if_neg e] at k2 ⊢
      rw [e14o r' k e k1 (by omega), e15o r' k e k1 (by omega)]
      exact r1 r' k g1 g2 k1 k2
  · rw [ax 31 _ (by decide) (by decide) (by decide)]
    rw [ad_7] at s3
    by_cases e : s' = s
    · rw [if_pos e] at s3
      omega
    · rw [if_neg e] at s3
      exact r0 s' s1 s2 s3
  · rw [ax 32 _ (by decide) (by decide) (by decide)]; exact r2 f f1 f2
  · rw [ax 33 _ (by decide) (by decide) (by decide)]; exact r3.1 v s f g1 g2 g3 g4 g5 g6
  · rw [ax 33 _ (by decide) (by decide) (by decide)]; exact r3.2 i g
  · rw [ax 34 _ (by decide) (by decide) (by decide)]; exact (r4 q g1 g2).1
  · rw [ax 35 _ (by decide) (by decide) (by decide)]; exact (r4 q g1 g2).2
  · obtain ⟨w1, w2, w3, w4, w5, w6, w7, w8, w9⟩ := i2 s' s1 s2
    refine ⟨w1, w2, w3, w4, w5, w6, ?_, ?_, w9⟩
    · rw [ad_7]
      split
      · omega
      · exact w7
    · rw [ad_7]
      show (if _ then _ else _ : Int) < M 17 0
      split
      · exact hr.2
      · exact w8
  · obtain ⟨w1, w2, w3, w4, w5⟩ := i4 r' g1 g2
    rw [ad_16]
    by_cases e : r' = r
    · subst e
      rw [if_pos rfl]
      refine ⟨by omega, ?_, fun g => ?_, w4, fun k k1 k2 => ?_⟩
      · show M 16 r' + 1 ≤ M 12 0
        omega
      · have g : M 17 0 ≤ r' := g
        omega
      · have hin : ∀ k, 0 ≤ k → k < M 16 r' + 1 → (k < M 16 r' ∧ addsM M r' s 0 14 (60 * r' + k) = M 14 (60 * r' + k)) ∨ (k = M 16 r' ∧ addsM M r' s 0 14 (60 * r' + k) = s) := fun k k1 k2 => by
          by_cases c : k = M 16 r'
          · exact Or.inr ⟨c, by rw [c]; exact e14n⟩
          · exact Or.inl ⟨by omega, e14r k (by omega)⟩
        rcases hin k k1 k2 with ⟨c, h⟩ | ⟨c, h⟩
        · obtain ⟨v1, v2, v3, v4, v5, v6⟩ := w5 k k1 c
          rw [h, ad_7, if_neg (onr r' k g1 g2 k1 c)]
          refine ⟨v1, v2, v3, v4, fun _ => ?_, fun k' k1' k2' he => ?_⟩
          · rw [e15r k k1 c]
            show (0 : Int) ≤ (if _ then _ else _) ∧ (if _ then _ else _ : Int) ≤ M 18 0
            split
            · rename_i c2
              exact v5 c2
            · omega
          · rcases hin k' k1' k2' with ⟨c', h'⟩ | ⟨c', h'⟩
            · rw [h'] at he
              exact v6 k' k1' c' he
            · rw [h'] at he
              exact absurd he (onr r' k g1 g2 k1 c)
        · rw [h, ad_7, if_pos rfl]
          refine ⟨hs.1, hs.2, rfl, h4, fun c3 => by omega, fun k' k1' k2' he => ?_⟩
          rcases hin k' k1' k2' with ⟨c', h'⟩ | ⟨c', h'⟩
          · rw [h'] at he
            exact absurd he.symm (onr r' k' g1 g2 k1' c')
          · omega
    · rw [if_neg e]
      have h9 := h60 r' g1 g2
      refine ⟨w1, w2, w3, w4, fun k k1 k2 => ?_⟩
      obtain ⟨v1, v2, v3, v4, v5, v6⟩ := w5 k k1 k2
      rw [e14o r' k e k1 (by omega), e15o r' k e k1 (by omega), ad_7, if_neg (onr r' k g1 g2 k1 k2)]
      refine ⟨v1, v2, v3, v4, v5, fun k' k1' k2' he => ?_⟩
      rw [e14o r' k' e k1' (by omega)] at he
      exact v6 k' k1' k2' he
  · rw [ad_7] at s3 ⊢
    by_cases e : s' = s
    · rw [if_pos e]
      refine ⟨M 16 r, hr16.1, ?_, ?_⟩
      · rw [ad_16, if_pos rfl]; omega
      · rw [e14n]; exact e.symm
    · rw [if_neg e] at s3 ⊢
      obtain ⟨k, k1, k2, k3⟩ := i4e s' s1 s2 s3
      have w := i2 s' s1 s2
      have h9 := h60 (M 7 s') s3 (by omega)
      by_cases e2 : M 7 s' = r
      · rw [e2] at k2 k3 ⊢
        exact ⟨k, k1, by rw [ad_16, if_pos rfl]; omega, by rw [e14r k k2]; exact k3⟩
      · exact ⟨k, k1, by rw [ad_16, if_neg e2]; exact k2, by rw [e14o _ k e2 k1 (by omega)]; exact k3⟩
  · obtain ⟨v1, v2, v3, v4, v5⟩ := i7 v s' f g1 g2 g3 g4 g5 g6 g7
    refine ⟨v1, v2, v3, ?_, v5⟩
    rw [ad_7]
    split
    · omega
    · exact v4
  · have g2 : q < M 28 0 := g2
    have g3 : M 27 q = 0 := g3
    have g5 : r' < M 17 0 := g5
    have g6 : M 13 r' = M 19 (M 23 q) := g6
    have e : r' ≠ r := fun z => by
      rw [z] at g6
      refine lentM_false.mp hl q.toNat (by omega) ?_ ?_
      · rw [Int.toNat_of_nonneg g1]; exact g3
      · rw [Int.toNat_of_nonneg g1]; exact g6.symm
    rw [hgr r' g4 (by omega) e, ad_16, if_neg e]
    exact i11 q g1 g2 g3 r' g4 g5 g6
theorem t_put {Y M : wM} (I : Inv M) (Z : I9 M) (R : Rel Y M) {r z : Int} (h : x_put M r z = 0) : Kept (apX (mix Y M) r z) (addsM M r z 0) := by
  unfold x_put at h
  obtain ⟨h1, h⟩ := ite0 h (by decide)
  obtain ⟨h2, h⟩ := ite0 h (by decide)
  obtain ⟨h3, -⟩ := ite0 h (by decide)
  have h1 := Decidable.not_not.mp h1
  have h2 := Decidable.not_not.mp h2
  have h7 : M 7 z = -1 := by
    by_cases c : M 7 z = -1
    · exact c
    · exact absurd (Or.inl c) h3
  have hl : lentM M (M 13 r) = false := by
    rw [← h2]
    cases c : lentM M (M 4 z)
    · rfl
    · exact absurd (Or.inr (Or.inr c)) h3
  exact t_adds OE.rf I Z R h1.1 h1.2 h7 h2 hl
theorem xr_o {X : wM} {f i : Int} {j : Nat} (h17 : j ≠ 17) (h13 : j ≠ 13) (h16 : j ≠ 16) : xReel X f j i = X j i := by
  show (if j = 17 ∧ i = 0 then _ else if r_reel j = true ∧ i = X 17 0 then _ else X j i) = _
  have e : r_reel j = false := by
    unfold r_reel
    split <;> first | rfl | omega
  rw [if_neg (fun x => h17 x.1), if_neg (fun x => by rw [e] at x; exact absurd x.1 (by decide))]
theorem t_reel {X M : wM} (x : OE X M) (I : Inv M) (Z : I9 M) (R : Rel X M) {f : Int} (hf : 0 ≤ f ∧ f < M 1 0) (h24 : M 17 0 < 24) : Kept (xReel X f) (mup (mup M 13 (M 17 0) f) 17 0 (M 17 0 + 1)) := by
  have hx : x_addReel M f = 0 := by
    unfold x_addReel
    rw [if_neg (fun z => z hf), if_neg (by omega)]
  have R' : Rel (mix X M) M := R
  obtain ⟨⟨k0, k1, k2, k3, k4, k5⟩, kr, ki, kz⟩ := t_addReel I Z R hx
  obtain ⟨x0, x1, x2, x3, x4, x5⟩ := x
  have e17 := x0 17 (by simp)
  have same : ∀ i, (xReel X f 13 i = if i = M 17 0 then f else X 13 i) ∧ (xReel X f 16 i = if i = M 17 0 then 0 else X 16 i) := fun i => by
    rw [← e17]
    exact ⟨xnew_r (by decide) rfl, xnew_r (by decide) rfl⟩
  have e17' : mup (mup M 13 (M 17 0) f) 17 0 (M 17 0 + 1) 17 0 = M 17 0 + 1 := mup_eq
  have e13 : ∀ i, mup (mup M 13 (M 17 0) f) 17 0 (M 17 0 + 1) 13 i = if i = M 17 0 then f else M 13 i := fun i => by
    show (if 13 = 17 ∧ i = 0 then _ else if 13 = 13 ∧ i = M 17 0 then f else M 13 i) = _
    simp
  have i4 := I.2.2.2.2.1
  have q17 := I.1.2.2.1
  have h16 : M 16 (M 17 0) = 0 := (i4 (M 17 0) (by omega) (by omega)).2.2.1 (Int.le_refl _)
  obtain ⟨r1, r0, r2, r3, r4⟩ := R
  refine ⟨⟨fun j hj => ?_, fun a b c => ⟨?_, fun k d e => ?_⟩, fun a b c => ⟨?_, ?_, ?_⟩, fun r g1 g2 => ?_, fun s s1 s2 => ?_, fun v a b => ⟨?_, ?_⟩⟩, ⟨fun r k g1 g2 k1 k2 => ?_, fun s s1 s2 s3 => ?_, fun f f1 f2 => ?_, ⟨fun v s f g1 g2 g3 g4 g5 g6 => ?_, fun i g => ?_⟩, fun q g1 g2 => ⟨?_, ?_⟩⟩, ki, kz⟩
  · by_cases e : j = 17
    · subst e
      rw [e17']
      show X 17 0 + 1 = _
      rw [e17]
    · rw [xr_o e (by omega) (by omega), mup_oj e, mup_oj (by omega)]
      exact x0 j hj
  · rw [xr_o (by decide) (by decide) (by decide)]; exact (x1 a b c).1
  · rw [xr_o (by decide) (by decide) (by decide)]; exact (x1 a b c).2 k d e
  · rw [xr_o (by decide) (by decide) (by decide)]; exact (x2 a b c).1
  · rw [xr_o (by decide) (by decide) (by decide)]; exact (x2 a b c).2.1
  · rw [xr_o (by decide) (by decide) (by decide)]; exact (x2 a b c).2.2
  · rw [e17'] at g2
    rw [(same r).1, (same r).2, e13]
    by_cases e : r = M 17 0
    · rw [if_pos e, if_pos e, if_pos e]
      refine ⟨rfl, ?_, fun k k1 k2 => ?_⟩
      · show (0 : Int) = M 16 r
        rw [e, h16]
      · have k2 : k < M 16 r := k2
        rw [e, h16] at k2
        omega
    · rw [if_neg e, if_neg e, if_neg e]
      obtain ⟨v1, v2, v3⟩ := x3 r g1 (by omega)
      refine ⟨v1, v2, fun k k1 k2 => ?_⟩
      rw [xr_o (by decide) (by decide) (by decide)]
      exact v3 k k1 k2
  · obtain ⟨v4, v5, v6, v7, v8, v9, v10, v11⟩ := x4 s s1 s2
    refine ⟨?_, ?_, ?_, ?_, ?_, ?_, ?_, ?_⟩ <;> rw [xr_o (by decide) (by decide) (by decide)] <;> assumption
  · rw [xr_o (by decide) (by decide) (by decide)]; exact (x5 v a b).1
  · rw [xr_o (by decide) (by decide) (by decide)]; exact (x5 v a b).2
  · rw [e17'] at g2
    have k2 : k < M 16 r := k2
    rw [xr_o (by decide) (by decide) (by decide)]
    have hr : r < M 17 0 := by
      rcases Int.lt_or_le r (M 17 0) with z | z
      · exact z
      · rw [show r = M 17 0 by omega] at k2
        omega
    exact r1 r k g1 hr k1 k2
  · rw [xr_o (by decide) (by decide) (by decide)]; exact r0 s s1 s2 s3
  · rw [xr_o (by decide) (by decide) (by decide)]; exact r2 f f1 f2
  · rw [xr_o (by decide) (by decide) (by decide)]; exact r3.1 v s f g1 g2 g3 g4 g5 g6
  · rw [xr_o (by decide) (by decide) (by decide)]; exact r3.2 i g
  · rw [xr_o (by decide) (by decide) (by decide)]; exact (r4 q g1 g2).1
  · rw [xr_o (by decide) (by decide) (by decide)]; exact (r4 q g1 g2).2
theorem t_found {Y M : wM} (I : Inv M) (Z : I9 M) (R : Rel Y M) {f z a b : Int} (h : x_found M f z a b = 0) : Kept (fdX (mix Y M) f z a b) (addsM (mup (mup (makesM M f z a b) 13 (M 17 0) f) 17 0 (M 17 0 + 1)) (M 17 0) (M 12 0) 0) := by
  unfold x_found at h
  obtain ⟨h1, h⟩ := ite0 h (by decide)
  obtain ⟨h2, h⟩ := ite0 h (by decide)
  obtain ⟨h3, h⟩ := ite0 h (by decide)
  obtain ⟨h4, -⟩ := ite0 h (by decide)
  have h1 := Decidable.not_not.mp h1
  have h2 := Decidable.not_not.mp h2
  have q := I.1
  obtain ⟨q1, q12, q17, -⟩ := q
  have hl : lentM M f = false := by
    cases c : lentM M f
    · rfl
    · exact absurd c h3
  obtain ⟨x1, y1, j1, z1⟩ := t_makes I Z R h1.1 h1.2 h2.1 h2.2 (by omega) (g := fiX (mix Y M) f z) (fun k k1 k2 => rfl)
  have k2 : Kept (xReel (fd1 (mix Y M) f z a b) f) (mup (mup (makesM M f z a b) 13 (M 17 0) f) 17 0 (M 17 0 + 1)) := t_reel x1 j1 z1 y1 (f := f) h1.1 (show M 17 0 < 24 by omega)
  obtain ⟨x2, y2, j2, z2⟩ := k2
  obtain ⟨n4, n5, n6, n7, n10, n11⟩ := @mk_n M f z a b
  have e : mup (mup (makesM M f z a b) 13 (M 17 0) f) 17 0 (M 17 0 + 1) 13 (M 17 0) = f := by rw [mup_oj (by decide), mup_eq]
  have k : Kept (apX (xReel (fd1 (mix Y M) f z a b) f) (M 17 0) (M 12 0)) (addsM (mup (mup (makesM M f z a b) 13 (M 17 0) f) 17 0 (M 17 0 + 1)) (M 17 0) (M 12 0) 0) := t_adds x2 j2 z2 y2 (r := M 17 0) (s := M 12 0) ⟨q17.1, by show M 17 0 < M 17 0 + 1; omega⟩ ⟨q12.1, by show M 12 0 < M 12 0 + 1; omega⟩ n7 (n4.trans e.symm) (by
    rw [e]
    exact hl)
  exact k
