/-! EACH CHANGE kept: show, scan. -/
theorem sw_reel {Y M : wM} (i1 : I1 M) (i4 : I4 M) {z F w : Int} (hF : mix Y M 34 z = F) (hw : mix Y M 35 z = w) {r : Int} (hr : 0 ≤ r ∧ r < M 17 0) {k : Int} (hk : 0 ≤ k ∧ k < M 16 r) : ∀ n : Nat, (n : Int) ≤ M 17 0 → swX (mix Y M) z n 31 (M 14 (60 * r + k)) = Y 31 (M 14 (60 * r + k)) + (if r < n ∧ M 13 r = F ∧ k + 1 < M 16 r then w else 0)
  | 0, _ => by
    rw [if_neg (by omega), Int.add_zero]
    rfl
  | n + 1, hn => by
    have ih := sw_reel i1 i4 hF hw hr hk n (by omega)
    rw [swX]
    by_cases c : mix Y M 13 (n : Int) = mix Y M 34 z
    · rw [if_pos c]
      have c' : M 13 (n : Int) = F := by rw [← hF]; exact c
      have e16 : swX (mix Y M) z n 16 (n : Int) = M 16 (n : Int) := swX_o (by decide) (by decide) n
      have e14 : ∀ i, swX (mix Y M) z n 14 i = M 14 i := fun i => swX_o (by decide) (by decide) n
      show awX (swX (mix Y M) z n) n (mix Y M 35 z) (swX (mix Y M) z n 16 (n : Int) - 1).toNat 31 (M 14 (60 * r + k)) = _
      rw [e16, aw_reel i1 i4 e14 (r := (n : Int)) (by omega) hr hk, ih, hw]
      by_cases e : r = (n : Int)
      · subst e
        rw [if_neg (show ¬ ((n : Int) < (n : Int) ∧ _) from fun h => by omega), Int.add_zero]
        by_cases k1 : k + 1 < M 16 (n : Int)
        · rw [if_pos ⟨rfl, k1⟩, if_pos ⟨by omega, c', k1⟩]
        · rw [if_neg (fun h => k1 h.2), if_neg (fun h => k1 h.2.2)]
      · rw [if_neg (show ¬ (r = (n : Int) ∧ _) from fun h => e h.1), Int.add_zero]
        by_cases k1 : r < (n : Int) ∧ M 13 r = F ∧ k + 1 < M 16 r
        · rw [if_pos k1, if_pos ⟨by omega, k1.2⟩]
        · rw [if_neg k1, if_neg (fun h => k1 ⟨by omega, h.2⟩)]
    · rw [if_neg c, ih]
      have c' : ¬ M 13 (n : Int) = F := fun h => c (by rw [hF]; exact h)
      by_cases k1 : r < (n : Int) ∧ M 13 r = F ∧ k + 1 < M 16 r
      · rw [if_pos k1, if_pos ⟨by omega, k1.2⟩]
      · rw [if_neg k1, if_neg (fun h => k1 ⟨by
          rcases Int.lt_or_le r n with g | g
          · exact g
          · exfalso
            have : r = n := by omega
            rw [this] at h
            exact c' h.2.1, h.2⟩)]
theorem sw_miss {Y M : wM} (i1 : I1 M) (i4 : I4 M) {z s : Int} (hs : M 7 s = -1) : ∀ n : Nat, (n : Int) ≤ M 17 0 → swX (mix Y M) z n 31 s = Y 31 s
  | 0, _ => rfl
  | n + 1, hn => by
    have ih := sw_miss (Y := Y) i1 i4 (z := z) hs n (by omega)
    rw [swX]
    split
    · have e16 : swX (mix Y M) z n 16 (n : Int) = M 16 (n : Int) := swX_o (by decide) (by decide) n
      show awX (swX (mix Y M) z n) n (mix Y M 35 z) (swX (mix Y M) z n 16 (n : Int) - 1).toNat 31 s = _
      rw [e16, aw_miss (X := swX (mix Y M) z n) i1 i4 (fun i => swX_o (by decide) (by decide) n) (by omega) hs, ih]
    · exact ih
theorem sw_30 {Y M : wM} {z : Int} : ∀ n : Nat, swX (mix Y M) z n 30 0 = M 30 0 + sumI (fun r : Nat => if M 13 r = mix Y M 34 z then onM M r else 0) n
  | 0 => by
    show M 30 0 = M 30 0 + 0
    omega
  | n + 1 => by
    have ih := sw_30 (Y := Y) (M := M) (z := z) n
    rw [swX, sumI]
    show (if M 13 (n : Int) = mix Y M 34 z then plX (swX (mix Y M) z n) n (mix Y M 35 z) else swX (mix Y M) z n) 30 0 = _
    split
    · show swX (mix Y M) z n 30 0 + onM (swX (mix Y M) z n) n = _
      have e : onM (swX (mix Y M) z n) (n : Int) = onM M n := by
        unfold onM
        rw [show swX (mix Y M) z n 16 (n : Int) = M 16 (n : Int) from swX_o (by decide) (by decide) n]
        exact sumI_cong (fun k _ => by rw [show swX (mix Y M) z n 14 (60 * (n : Int) + k) = M 14 (60 * (n : Int) + k) from swX_o (by decide) (by decide) n]; exact swX_o (by decide) (by decide) n)
      rw [ih, e]
      omega
    · rw [ih]
      omega
theorem h_show {Y M : wM} (I : Inv M) (R : Rel Y M) : ∀ z, 0 ≤ z → z < M 28 0 → M 27 z = 0 → ¬ M 24 z = 0 → ∀ k : Nat, (k : Int) < M 17 0 → M 13 k = mix Y M 34 z → awOK (swX (mix Y M) z k) k (mix Y M 35 z) := by
  obtain ⟨i1, i2, i3, i3e, i4, i4e, i5, i6, i7, i8, i10, i11⟩ := I
  intro z z1 z2 z3 z4 r hr e j hj
  have e16 : swX (mix Y M) z r 16 (r : Int) = M 16 (r : Int) := swX_o (by decide) (by decide) r
  have e14 : ∀ i, swX (mix Y M) z r 14 i = M 14 i := fun i => swX_o (by decide) (by decide) r
  rw [e16] at hj
  have i1' := i1
  obtain ⟨-, -, q17, q18, -, q28, -⟩ := i1'
  have hw : mix Y M 35 z = 1 + M 25 z := (R.2.2.2.2 z z1 z2).2
  have w8 := i8 z z1 (by omega)
  rw [aw_no (fun k' h1 h2 => by
    rw [e14, e14] at h2
    have := (apart i1 i4 ⟨by omega, hr⟩ ⟨by omega, hr⟩ ⟨by omega, by omega⟩ ⟨by omega, by omega⟩ h2).2
    omega), e14, sw_reel i1 i4 rfl rfl ⟨by omega, hr⟩ ⟨by omega, by omega⟩ r (by omega), if_neg (by omega), R.1 r j (by omega) hr (by omega) (by omega), if_pos (by omega), hw]
  have := wear_lo i4 (r := (r : Int)) ⟨by omega, by omega⟩ hj
  omega
theorem t_show {Y M : wM} (I : Inv M) (Z : I9 M) (R : Rel Y M) {z : Int} (h : x_show M z = 0) : Kept (mup (swX (mix Y M) z (M 17 0).toNat) 24 z (M 24 z - 1)) (mup (showC M z (M 17 0).toNat) 24 z (M 24 z - 1)) := by
  obtain ⟨i1, i2, i3, i3e, i4, i4e, i5, i6, i7, i8, i10, i11⟩ := I
  obtain ⟨r1, r0, r2, r3, r4⟩ := R
  unfold x_show at h
  obtain ⟨h1, h⟩ := ite0 h (by decide)
  obtain ⟨h2, -⟩ := ite0 h (by decide)
  have h1 := Decidable.not_not.mp h1
  have h27 : M 27 z = 0 := by
    by_cases c : M 27 z = 0
    · exact c
    · exact absurd (Or.inl c) h2
  have h24 : ¬ M 24 z = 0 := fun c => h2 (Or.inr c)
  have i1' := i1
  obtain ⟨q1, q12, q17, q18, q21, q28, q29⟩ := i1'
  obtain ⟨hF, hw⟩ := r4 z h1.1 h1.2
  have w8 := i8 z h1.1 (by omega)
  generalize hM' : mup (showC M z (M 17 0).toNat) 24 z (M 24 z - 1) = M'
  have e24 : ∀ q, M' 24 q = if q = z then M 24 z - 1 else M 24 q := fun q => by
    rw [← hM']
    show (if 24 = 24 ∧ q = z then M 24 z - 1 else M 24 q) = _
    simp
  have e15 : ∀ r k, 0 ≤ r → r < M 17 0 → 0 ≤ k → k < 60 → M' 15 (60 * r + k) = M 15 (60 * r + k) + (if M 13 r = M 19 (M 23 z) ∧ k + 1 < M 16 r then 1 + M 25 z else 0) := fun r k g1 g2 g3 g4 => by
    rw [← hM']
    show showC M z (M 17 0).toNat 15 (60 * r + k) = _
    rw [sC15, show (60 * r + k) / 60 = r by omega, show (60 * r + k) % 60 = k by omega]
    by_cases c : M 13 r = M 19 (M 23 z) ∧ k + 1 < M 16 r
    · rw [if_pos ⟨⟨by omega, by omega⟩, c⟩, if_pos c]
    · rw [if_neg (fun x => c x.2), if_neg c, Int.add_zero]
  have eo : ∀ j i, j ≠ 15 → j ≠ 30 → j ≠ 24 → M' j i = M j i := fun j i a5 a0 a4 => by
    rw [← hM']
    show (if j = 24 ∧ i = z then _ else showC M z (M 17 0).toNat j i) = _
    rw [if_neg (fun x => a4 x.1)]
    unfold showC
    rw [if_neg a5, if_neg a0]
  have h60 : ∀ r, 0 ≤ r → r < 24 → M 16 r ≤ 60 := fun r a b => by have := (i4 r a b).2.1; omega
  have hX : ∀ j i, j ≠ 30 → j ≠ 31 → mup (swX (mix Y M) z (M 17 0).toNat) 24 z (M 24 z - 1) j i = if j = 24 ∧ i = z then M 24 z - 1 else mix Y M j i := fun j i a b => by
    show (if j = 24 ∧ i = z then _ else swX (mix Y M) z (M 17 0).toNat j i) = _
    rw [swX_o a b]
  have hgr : ∀ r, 0 ≤ r → r < M 17 0 → greatM M' r ≤ greatM M r + (if M 13 r = M 19 (M 23 z) ∧ 2 ≤ M 16 r then 1 + M 25 z else 0) := fun r g1 g2 => by
    have e16 : M' 16 r = M 16 r := eo 16 r (by decide) (by decide) (by decide)
    have := h60 r g1 (by omega)
    unfold greatM
    rw [e16]
    refine maxI_le.mpr ⟨?_, fun k hk => ?_⟩
    · have := @great_0 M r
      unfold greatM at this
      split <;> omega
    · rw [e15 r k g1 g2 (by omega) (by omega)]
      have := great_ub (M := M) (r := r) (k := k) (by omega)
      unfold greatM at this
      by_cases c : M 13 r = M 19 (M 23 z)
      · rw [if_pos ⟨c, by omega⟩, if_pos ⟨c, by omega⟩]; omega
      · rw [if_neg (fun x => c x.1), if_neg (fun x => c x.1)]; omega
  have hmul : 1 + M 25 z ≤ M 24 z * (1 + M 25 z) := by
    rcases (show M 25 z = 0 ∨ M 25 z = 1 ∨ M 25 z = 2 ∨ M 25 z = 3 by omega) with c | c | c | c <;> rw [c] <;> omega
  have hmul2 : (M 24 z - 1) * (1 + M 25 z) = M 24 z * (1 + M 25 z) - (1 + M 25 z) := by rw [Int.sub_mul, Int.one_mul]
  have heat : ∀ r, 0 ≤ r → r < M 17 0 → M 13 r = M 19 (M 23 z) → M 16 r < 2 ∨ greatM M r + M 24 z * (1 + M 25 z) ≤ M 18 0 := fun r g1 g2 g3 => i11 z h1.1 h1.2 h27 r g1 g2 g3
  subst hM'
  refine ⟨OE.of (fun j i hj a0 a15 a22 a23 a25 => ?_), ⟨fun r k g1 g2 k1 k2 => ?_, fun s s1 s2 s3 => ?_, fun f f1 f2 => ?_, ⟨fun v s f g1 g2 g3 g4 g5 g6 => ?_, fun i g => ?_⟩, fun q g1 g2 => ⟨?_, ?_⟩⟩, ⟨i1, i2, i3, i3e, fun r g1 g2 => ?_, i4e, i5, i6, i7, fun q g1 g2 => ?_, i10, fun q g1 g2 g3 r g4 g5 g6 => ?_⟩, Z⟩
  · by_cases e : j = 30
    · subst e
      show swX (mix Y M) z (M 17 0).toNat 30 i = showC M z (M 17 0).toNat 30 i
      rw [sC30]
      by_cases e2 : i = 0
      · subst e2
        rw [sw_30, if_pos rfl, show mix Y M 34 z = M 19 (M 23 z) from hF]
      · rw [if_neg e2]
        have : ∀ n, swX (mix Y M) z n 30 i = M 30 i := fun n => by
          induction n with
          | zero => rfl
          | succ n ih =>
            rw [swX]
            split
            · show (if 30 = 30 ∧ i = 0 then _ else awX (swX (mix Y M) z n) n (mix Y M 35 z) _ 30 i) = _
              rw [if_neg (fun x => e2 x.2), awX_o (by decide), ih]
            · exact ih
        exact this _
    · rw [hX j i e (by omega)]
      by_cases e2 : j = 24
      · subst e2
        rw [e24]
        by_cases e3 : i = z
        · rw [if_pos ⟨rfl, e3⟩, if_pos e3]
        · rw [if_neg (fun x => e3 x.2), if_neg e3]; rfl
      · rw [if_neg (fun x => e2 x.1), eo j i a15 e e2, mix_lo hj]
  · have k2 : k < M 16 r := k2
    have g2 : r < M 17 0 := g2
    show swX (mix Y M) z (M 17 0).toNat 31 (M 14 (60 * r + k)) = if k + 1 < M 16 r then _ else 0
    have := h60 r g1 (by omega)
    rw [sw_reel i1 i4 hF hw ⟨g1, g2⟩ ⟨k1, k2⟩ _ (by omega), r1 r k g1 g2 k1 k2, e15 r k g1 g2 k1 (by omega)]
    by_cases c : k + 1 < M 16 r
    · rw [if_pos c, if_pos c]
      by_cases c2 : M 13 r = M 19 (M 23 z)
      · rw [if_pos ⟨by omega, c2, c⟩, if_pos ⟨c2, c⟩]
      · rw [if_neg (fun x => c2 x.2.1), if_neg (fun x => c2 x.1)]
    · rw [if_neg c, if_neg c, if_neg (fun x => c x.2.2), Int.add_zero]
  · exact (sw_miss i1 i4 s3 _ (by omega)).trans (r0 s s1 s2 s3)
  · rw [hX 32 f (by decide) (by decide), if_neg (by omega)]
    exact r2 f f1 f2
  · rw [hX 33 _ (by decide) (by decide), if_neg (by omega)]
    exact r3.1 v s f g1 g2 g3 g4 g5 g6
  · rw [hX 33 _ (by decide) (by decide), if_neg (by omega)]
    exact r3.2 i g
  · rw [hX 34 _ (by decide) (by decide), if_neg (by omega)]
    exact (r4 q g1 g2).1
  · rw [hX 35 _ (by decide) (by decide), if_neg (by omega)]
    exact (r4 q g1 g2).2
  · obtain ⟨w1, w2, w3, w4, w5⟩ := i4 r g1 g2
    refine ⟨w1, w2, w3, w4, fun k k1 k2 => ?_⟩
    have k2 : k < M 16 r := k2
    obtain ⟨v1, v2, v3, v4, v5, v6⟩ := w5 k k1 k2
    refine ⟨v1, v2, v3, v4, fun k3 => ?_, v6⟩
    have k3 : k + 1 < M 16 r := k3
    have v5 := v5 k3
    have := h60 r g1 g2
    have hr : r < M 17 0 := by
      rcases Int.lt_or_le r (M 17 0) with x | x
      · exact x
      · have := w3 x
        omega
    rw [e15 r k g1 hr k1 (by omega), eo 18 0 (by decide) (by decide) (by decide)]
    by_cases c : M 13 r = M 19 (M 23 z)
    · rw [if_pos ⟨c, k3⟩]
      have hh := great_ub (M := M) (r := r) (k := k.toNat) (by omega)
      rw [Int.toNat_of_nonneg k1] at hh
      rcases heat r g1 hr c with x | x
      · omega
      · omega
    · rw [if_neg (fun x => c x.1), Int.add_zero]
      exact v5
  · obtain ⟨w1, w2, w3, w4, w5, w6⟩ := i8 q g1 g2
    refine ⟨w1, w2, w3, ?_, ?_, w6⟩
    · rw [e24]
      by_cases e : q = z
      · rw [if_pos e]; omega
      · rw [if_neg e]; exact w4
    · rw [e24]
      by_cases e : q = z
      · rw [if_pos e]; omega
      · rw [if_neg e]; exact w5
  · have g2 : q < M 28 0 := g2
    have g3 : M 27 q = 0 := g3
    have g5 : r < M 17 0 := g5
    have g6 : M 13 r = M 19 (M 23 q) := g6
    have hh := hgr r g4 g5
    show M 16 r < 2 ∨ greatM _ r + _ * (1 + M 25 q) ≤ M 18 0
    rw [e24]
    by_cases e : q = z
    · subst e
      rw [if_pos rfl]
      rcases heat r g4 g5 g6 with x | x
      · exact Or.inl x
      · by_cases c2 : M 16 r < 2
        · exact Or.inl c2
        · rw [if_pos ⟨g6, by omega⟩] at hh
          refine Or.inr ?_
          rw [hmul2]
          omega
    · rw [if_neg e]
      have hne : ¬ M 13 r = M 19 (M 23 z) := fun x => e (i10 q z g1 g2 h1.1 h1.2 g3 h27 (by rw [← g6, x]))
      rw [if_neg (fun x => hne x.1), Int.add_zero] at hh
      rcases i11 q g1 g2 g3 r g4 g5 g6 with x | x
      · exact Or.inl x
      · exact Or.inr (by omega)
theorem loss_b {M : wM} (i2 : I2 M) {r k : Int} (hs : 0 ≤ M 14 (60 * r + k) ∧ M 14 (60 * r + k) < M 12 0) : 0 ≤ lossM M r k ∧ lossM M r k ≤ 999 := by
  have w := i2 _ hs.1 hs.2
  have h : ∀ b, 0 ≤ bN b ∧ bN b ≤ 1 := fun b => by cases b <;> decide
  have h1 := h (wornP M r k)
  have h2 := h (wornP M r (k - 1))
  unfold lossM
  split <;> omega
theorem sc8_b {M : wM} {r z i : Int} (hz : 1 ≤ z ∧ z ≤ 4) (h : 0 ≤ M 8 i ∧ M 8 i ≤ 4) : ∀ k, 0 ≤ sc8 M r z k i ∧ sc8 M r z k i ≤ 4
  | 0 => h
  | k + 1 => by
    have := sc8_b (r := r) hz h k
    rw [sc8]
    split <;> omega
theorem sc9_b {M : wM} {r z i : Int} (h : 0 ≤ M 9 i ∧ M 9 i ≤ 999) : ∀ {n : Nat}, (∀ k : Nat, k < n → 0 ≤ lossM M r k ∧ lossM M r k ≤ 999) → 0 ≤ sc9 M r z n i ∧ sc9 M r z n i ≤ 999
  | 0, _ => h
  | n + 1, hl => by
    have h1 := sc9_b (r := r) (z := z) h (n := n) (fun k hk => hl k (by omega))
    have h2 := hl n (by omega)
    rw [sc9]
    split <;> omega
theorem sc_no {M : wM} {r z s : Int} : ∀ {n : Nat}, (∀ k : Nat, k < n → M 14 (60 * r + k) ≠ s) → sc8 M r z n s = M 8 s ∧ sc9 M r z n s = M 9 s
  | 0, _ => ⟨rfl, rfl⟩
  | n + 1, h => by
    have ih := sc_no (z := z) (fun k hk => h k (Nat.lt_succ_of_lt hk))
    have := h n (by omega)
    rw [sc8, sc9, if_neg (fun x => this x.1.symm), if_neg (fun x => this x.1.symm)]
    exact ih
theorem scX_at {Y M : wM} (R1' : R1 Y M) (i1 : I1 M) (i4 : I4 M) {r z : Int} (hr : 0 ≤ r ∧ r < M 17 0) : ∀ n : Nat, (n : Int) ≤ M 16 r → ∀ j i, scX (mix Y M) r z n j i = if j = 8 then sc8 M r z n i else if j = 9 then sc9 M r z n i else mix Y M j i
  | 0, _, j, i => by
    show mix Y M j i = _
    by_cases e : j = 8
    · rw [if_pos e, e]; rfl
    · rw [if_neg e]
      by_cases e : j = 9
      · rw [if_pos e, e]; rfl
      · rw [if_neg e]
  | n + 1, hn, j, i => by
    have ih := scX_at R1' i1 i4 (z := z) hr n (by omega)
    have e8 := (sc_no (M := M) (r := r) (z := z) (s := M 14 (60 * r + (n : Int))) (n := n) (fun k hk x => by
      have := (apart i1 i4 hr hr ⟨by omega, by omega⟩ ⟨by omega, by omega⟩ x).2
      omega)).1
    have hx8 : scX (mix Y M) r z n 8 (M 14 (60 * r + (n : Int))) = M 8 (M 14 (60 * r + (n : Int))) := by rw [ih, if_pos rfl, e8]
    have hl : lostX (mix Y M) r (n : Int) = lossM M r n := lost_at R1' hr
    rw [scX]
    show tkX (scX (mix Y M) r z n) (M 14 (60 * r + (n : Int))) z (lostX (mix Y M) r n) j i = _
    rw [hl]
    unfold tkX
    rw [hx8, sc8, sc9]
    by_cases c : M 8 (M 14 (60 * r + (n : Int))) ≤ z
    · rw [if_pos c]
      show (if j = 9 ∧ i = M 14 (60 * r + (n : Int)) then lossM M r n else if j = 8 ∧ i = M 14 (60 * r + (n : Int)) then z else scX (mix Y M) r z n j i) = _
      rw [ih]
      by_cases ei : i = M 14 (60 * r + (n : Int))
      · by_cases e : j = 8
        · rw [if_neg (by omega), if_pos ⟨e, ei⟩, if_pos e, if_pos ⟨ei, by rw [ei]; exact c⟩]
        · by_cases e9 : j = 9
          · rw [if_pos ⟨e9, ei⟩, if_neg e, if_pos e9, if_pos ⟨ei, by rw [ei]; exact c⟩]
          · rw [if_neg (fun x => e9 x.1), if_neg (fun x => e x.1), if_neg e, if_neg e9, if_neg e, if_neg e9]
      · rw [if_neg (show ¬ (j = 9 ∧ i = M 14 (60 * r + (n : Int))) from fun x => ei x.2), if_neg (show ¬ (j = 8 ∧ i = M 14 (60 * r + (n : Int))) from fun x => ei x.2), if_neg (show ¬ (i = M 14 (60 * r + (n : Int)) ∧ M 8 i ≤ z) from fun x => ei x.1), if_neg (show ¬ (i = M 14 (60 * r + (n : Int)) ∧ M 8 i ≤ z) from fun x => ei x.1)]
    · rw [if_neg c, ih]
      have : ¬ (i = M 14 (60 * r + (n : Int)) ∧ M 8 i ≤ z) := fun x => c (by rw [← x.1]; exact x.2)
      rw [if_neg this, if_neg this]
theorem t_scan {Y M : wM} (I : Inv M) (Z : I9 M) (R : Rel Y M) {r z : Int} (h : x_scan M r z = 0) : Kept (scX (mix Y M) r z (M 16 r).toNat) (scanC M r z (M 16 r).toNat) := by
  obtain ⟨i1, i2, i3, i3e, i4, i4e, i5, i6, i7, i8, i10, i11⟩ := I
  obtain ⟨r1, r0, r2, r3, r4⟩ := R
  unfold x_scan at h
  obtain ⟨h1, h⟩ := ite0 h (by decide)
  obtain ⟨h2, -⟩ := ite0 h (by decide)
  have h1 := Decidable.not_not.mp h1
  have h2 := Decidable.not_not.mp h2
  have i1' := i1
  obtain ⟨q1, q12, q17, q18, q21, q28, q29⟩ := i1'
  have w16 := i4 r h1.1 (by omega)
  have hx := scX_at (z := z) r1 i1 i4 h1 (M 16 r).toNat (by omega)
  have e8 : ∀ s, scanC M r z (M 16 r).toNat 8 s = sc8 M r z (M 16 r).toNat s := fun s => rfl
  have e9 : ∀ s, scanC M r z (M 16 r).toNat 9 s = sc9 M r z (M 16 r).toNat s := fun s => rfl
  have hxo : ∀ j i, 31 ≤ j → scX (mix Y M) r z (M 16 r).toNat j i = Y j i := fun j i hj => by
    rw [hx, if_neg (by omega), if_neg (by omega)]
    exact if_pos hj
  refine ⟨OE.of (fun j i hj a0 a15 a22 a23 a25 => ?_), ⟨fun r k g1 g2 k1 k2 => ?_, fun s s1 s2 s3 => ?_, fun f f1 f2 => ?_, ⟨fun v s f g1 g2 g3 g4 g5 g6 => ?_, fun i g => ?_⟩, fun q g1 g2 => ⟨?_, ?_⟩⟩, ⟨i1, fun s s1 s2 => ?_, i3, i3e, i4, i4e, i5, i6, i7, i8, i10, i11⟩, fun s s1 s2 => ?_⟩
  · rw [hx]
    show _ = (if j = 8 then _ else if j = 9 then _ else M j i)
    rw [mix_lo hj]
  · rw [hxo 31 _ (by decide)]
    exact r1 r k g1 g2 k1 k2
  · rw [hxo 31 _ (by decide)]
    exact r0 s s1 s2 s3
  · rw [hxo 32 _ (by decide)]
    exact r2 f f1 f2
  · rw [hxo 33 _ (by decide)]
    exact r3.1 v s f g1 g2 g3 g4 g5 g6
  · rw [hxo 33 _ (by decide)]
    exact r3.2 i g
  · rw [hxo 34 _ (by decide)]
    exact (r4 q g1 g2).1
  · rw [hxo 35 _ (by decide)]
    exact (r4 q g1 g2).2
  · obtain ⟨w1, w2, w3, w4, w5, w6, w7, w8, w9, w10, w11, w12, w13⟩ := i2 s s1 s2
    have b8 := sc8_b (M := M) (r := r) (i := s) h2 ⟨w9, w10⟩ (M 16 r).toNat
    have b9 := sc9_b (M := M) (r := r) (z := z) (i := s) ⟨w11, w12⟩ (n := (M 16 r).toNat) (fun k hk => loss_b i2 (by
      have := w16.2.2.2.2 k (by omega) (by omega)
      exact ⟨this.1, this.2.1⟩))
    rw [e8, e9]
    exact ⟨w1, w2, w3, w4, w5, w6, w7, w8, b8.1, b8.2, b9.1, b9.2, w13⟩
  · have s1 : M 12 0 ≤ s := s1
    have := sc_no (M := M) (r := r) (z := z) (s := s) (n := (M 16 r).toNat) (fun k hk x => by
      have := w16.2.2.2.2 k (by omega) (by omega)
      omega)
    rw [e8, e9, this.1, this.2]
    exact Z s s1 s2
