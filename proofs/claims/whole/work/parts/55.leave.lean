/-! EACH CHANGE kept: frames, what isSound rests on, leaveOut. -/
theorem sumI_cut {f : Nat → Int} {n : Nat} : ∀ d : Nat, (∀ k, n ≤ k → k < n + d → f k = 0) → sumI f (n + d) = sumI f n
  | 0, _ => rfl
  | d + 1, h => by
    rw [show n + (d + 1) = (n + d) + 1 from rfl, sumI, sumI_cut d (fun k a b => h k a (by omega)), h (n + d) (by omega) (by omega), Int.add_zero]
theorem sumI_cut' {f : Nat → Int} {n m : Nat} (hm : n ≤ m) (h : ∀ k, n ≤ k → k < m → f k = 0) : sumI f m = sumI f n := by
  have := sumI_cut (f := f) (n := n) (m - n) (fun k a b => h k a (by omega))
  rwa [show n + (m - n) = m by omega] at this
theorem sumI_com {f : Nat → Int} : ∀ n : Nat, sumI (fun k => 1 - f k) n = n - sumI f n
  | 0 => rfl
  | n + 1 => by
    rw [sumI, sumI, sumI_com n]
    omega
theorem bit33 {Y M : wM} (r3 : R3 Y M) {v s : Int} (hv : 0 ≤ v ∧ v < 10) (hs : 0 ≤ s ∧ s < 60) {k : Nat} (hk : k < 1024) : bitX (mix Y M) v s k = bN (outP M v s k) := r3.1 v s k hv.1 hv.2 hs.1 hs.2 (by omega) (by omega)
theorem out_0 {M : wM} (i7 : I7 M) {v s : Int} (hv : 0 ≤ v ∧ v < 10) (hs : 0 ≤ s ∧ s < 60) {k : Nat} (hk : k < 1024) (h : M 7 s = -1 ∨ M 5 s ≤ k) : outP M v s k = false := by
  cases c : outP M v s k
  · rfl
  · have := i7 v s k hv.1 hv.2 hs.1 hs.2 (by omega) (by omega) c
    omega
theorem keep_at {Y M : wM} (i2 : I2 M) (i7 : I7 M) (r3 : R3 Y M) (q12 : M 12 0 ≤ 60) {v s : Int} (hv : 0 ≤ v ∧ v < 10) (hs : 0 ≤ s ∧ s < M 12 0) : keptM M s - leftX (mix Y M) v s 1024 = keepM M v s ∧ cntX (mix Y M) v s (keptM M s).toNat = keepM M v s := by
  have w := i2 s hs.1 hs.2
  have hl : leftX (mix Y M) v s 1024 = sumI (fun k : Nat => bN (outP M v s k)) 1024 := sumI_cong (fun k hk => bit33 r3 hv ⟨hs.1, by omega⟩ hk)
  unfold keepM keepJ keptM
  by_cases c : M 7 s = -1
  · rw [if_pos c, if_pos c, hl, sumI_zero (fun k hk => by rw [out_0 i7 hv ⟨hs.1, by omega⟩ hk (Or.inl c)]; rfl)]
    exact ⟨rfl, rfl⟩
  · rw [if_neg c, if_neg c, hl, sumI_com, sumI_cut' (n := (M 5 s).toNat) (m := 1024) (by omega) (fun k a b => by rw [out_0 i7 hv ⟨hs.1, by omega⟩ b (Or.inr (by omega))]; rfl)]
    refine ⟨by omega, ?_⟩
    unfold cntX
    rw [← sumI_com]
    refine sumI_cong (fun k hk => ?_)
    rw [bit33 r3 hv ⟨hs.1, by omega⟩ (by omega)]
    cases outP M v s k <;> simp [bN]
theorem e_framesV {Y M : wM} (I : Inv M) (R : Rel Y M) {v : Int} (hv : 0 ≤ v ∧ v < M 21 0) : lenSX (mix Y M) v (M 19 v) (M 3 (M 19 v)).toNat = v_frames M v ∧ lenFX (mix Y M) v (M 19 v) (M 3 (M 19 v)).toNat = v_frames M v := by
  obtain ⟨i1, i2, i3, i3e, i4, i4e, i5, i6, i7, -⟩ := I
  obtain ⟨-, -, -, r3, -⟩ := R
  obtain ⟨q1, q12, q17, q18, q21, -⟩ := i1
  have w6 := i6 v hv.1 (by omega)
  have w3 := i3 (M 19 v) w6.1 (by omega)
  have hk : ∀ k : Nat, k < (M 3 (M 19 v)).toNat → 0 ≤ M 2 (60 * M 19 v + k) ∧ M 2 (60 * M 19 v + k) < M 12 0 := fun k h => by
    have := w3.2.2.2 k (by omega) (by omega)
    exact ⟨this.1, this.2.1⟩
  exact ⟨sumI_cong (fun k h => (keep_at i2 i7 r3 q12.2 ⟨hv.1, by omega⟩ (hk k h)).1), sumI_cong (fun k h => (keep_at i2 i7 r3 q12.2 ⟨hv.1, by omega⟩ (hk k h)).2)⟩
theorem h_sound {Y M : wM} (I : Inv M) (R : Rel Y M) : withX (mix Y M) (M 18 0) (M 17 0).toNat = false ∧ (∀ s, 0 ≤ s → s < M 12 0 → ¬ M 11 s = -1 → ¬ M 10 (M 11 s) = -1 ∧ gradeM (mix Y M) s = M 10 (M 11 s) ∧ M 4 (M 11 s) = M 4 s ∧ M 6 (M 11 s) = M 6 s) ∧ ∀ v, 0 ≤ v → v < M 21 0 → lenSX (mix Y M) v (M 19 v) (M 3 (M 19 v)).toNat = lenFX (mix Y M) v (M 19 v) (M 3 (M 19 v)).toNat := by
  refine ⟨?_, fun s a b c => ?_, fun v a b => (e_framesV I R ⟨a, b⟩).1.trans (e_framesV I R ⟨a, b⟩).2.symm⟩
  · obtain ⟨i1, -, -, -, i4, -⟩ := I
    have i1' := i1
    obtain ⟨q1, q12, q17, q18, -⟩ := i1'
    cases c : withX (mix Y M) (M 18 0) (M 17 0).toNat
    · rfl
    · have h := (with_iff R.1 i1 i4 (by omega)).mp c
      have : mostM M (M 17 0).toNat ≤ M 18 0 := maxI_le.mpr ⟨by omega, fun r hr => maxI_le.mpr ⟨by omega, fun k hk => (wear_lo i4 (r := (r : Int)) ⟨by omega, by omega⟩ (by omega)).2⟩⟩
      omega
  · obtain ⟨i1, i2, -, -, -, -, i5, -⟩ := I
    have w := i2 s a b
    obtain ⟨v1, v2, v3, v4⟩ := i5 s a b (by omega)
    refine ⟨by omega, ?_, v3, v4⟩
    show (if M 10 s = -1 then (if M 11 s = -1 then -1 else M 10 (M 11 s)) else M 10 s) = _
    rw [if_pos v1, if_neg c]
theorem outA_bit {A : Int → Int} {v s f : Int} (hf : 0 ≤ f) : outA A v s f = bitI (A (32 * (60 * v + s) + f / 32)) (f % 32).toNat := by
  unfold outA
  have h := @bit_at (A (32 * (60 * v + s) + f / 32)) (f % 32).toNat (by omega)
  rw [Int.toNat_of_nonneg (by omega)] at h
  exact h
theorem loJ_at {A : Int → Int} {v s F a b : Int} {w : Bool} (hs : 0 ≤ s ∧ s < 60) {v' s' f' : Int} (hv' : 0 ≤ v') (hs' : 0 ≤ s' ∧ s' < 60) (hf' : 0 ≤ f' ∧ f' < 1024) : ∀ n : Nat, n ≤ 1024 → outA (loJ A v s F a b w n) v' s' f' = if v' = v ∧ s' = s ∧ f' < n ∧ a ≤ F + f' ∧ F + f' < b then w else outA A v' s' f'
  | 0, _ => by
    rw [if_neg (by omega)]
    rfl
  | n + 1, hn => by
    have ih := loJ_at (A := A) (F := F) (a := a) (b := b) (w := w) (v := v) hs hv' hs' hf' n (by omega)
    rw [loJ]
    by_cases c : loC (loJ A v s F a b w n) v s F a b w n = true
    · rw [if_pos c]
      unfold loC at c
      rw [Bool.and_eq_true, decide_eq_true_eq] at c
      obtain ⟨c1, c2⟩ := c
      rw [outA_bit hf'.1]
      try dsimp only
      unfold loX
      by_cases c3 : v' = v ∧ s' = s ∧ f' = n
      · obtain ⟨e1, e2, e3⟩ := c3
        subst e1
        subst e2
        subst e3
        rw [if_pos rfl, bit_xor, if_pos ⟨rfl, rfl, by omega, c1⟩]
        have hb := bit_one (((n : Nat) : Int) % 32).toNat (by omega) (((n : Nat) : Int) % 32).toNat (by omega)
        rw [Int.toNat_of_nonneg (by omega)] at hb
        rw [hb, decide_eq_true rfl, ← outA_bit (by omega)]
        have c2 : (outA (loJ A v' s' F a b w n) v' s' n != w) = true := c2
        cases h1 : outA (loJ A v' s' F a b w n) v' s' n <;> cases w <;> simp_all
      · have e : (if v' = v ∧ s' = s ∧ f' < ((n + 1 : Nat) : Int) ∧ a ≤ F + f' ∧ F + f' < b then w else outA A v' s' f') = if v' = v ∧ s' = s ∧ f' < (n : Int) ∧ a ≤ F + f' ∧ F + f' < b then w else outA A v' s' f' := by
          by_cases c4 : v' = v ∧ s' = s ∧ f' < (n : Int) ∧ a ≤ F + f' ∧ F + f' < b
          · rw [if_pos c4, if_pos ⟨c4.1, c4.2.1, by omega, c4.2.2.2⟩]
          · rw [if_neg c4, if_neg (fun x => c4 ⟨x.1, x.2.1, by
              have : ¬ f' = n := fun y => c3 ⟨x.1, x.2.1, y⟩
              omega, x.2.2.2⟩)]
        rw [e, ← ih, outA_bit hf'.1]
        by_cases c5 : 32 * (60 * v' + s') + f' / 32 = 32 * (60 * v + s) + (n : Int) / 32
        · rw [if_pos c5, bit_xor]
          have hb := bit_one (((n : Nat) : Int) % 32).toNat (by omega) (f' % 32).toNat (by omega)
          rw [Int.toNat_of_nonneg (by omega)] at hb
          rw [hb, decide_eq_false (by omega), ← c5]
          simp
        · rw [if_neg c5]
    · rw [if_neg c, ih]
      by_cases c4 : v' = v ∧ s' = s ∧ f' < (n : Int) ∧ a ≤ F + f' ∧ F + f' < b
      · rw [if_pos c4, if_pos ⟨c4.1, c4.2.1, by omega, c4.2.2.2⟩]
      · rw [if_neg c4]
        by_cases c5 : v' = v ∧ s' = s ∧ f' < ((n + 1 : Nat) : Int) ∧ a ≤ F + f' ∧ F + f' < b
        · rw [if_pos c5]
          have hn' : f' = n := by omega
          obtain ⟨e1, e2, -, e4⟩ := c5
          subst e1
          subst e2
          rw [hn'] at e4 ih ⊢
          unfold loC at c
          rw [Bool.and_eq_true, decide_eq_true_eq] at c
          have c6 : ¬ (outA (loJ A v' s' F a b w n) v' s' n != w) = true := fun x => c ⟨e4, x⟩
          rw [if_neg (by omega)] at ih
          rw [ih] at c6
          cases h1 : outA A v' s' n <;> cases w <;> simp_all
        · rw [if_neg c5]
theorem loN_at {A : Int → Int} {v s F a b : Int} {w : Bool} (hv : 0 ≤ v) (hs : 0 ≤ s ∧ s < 60) : ∀ n : Nat, n ≤ 1024 → loN A v s F a b w n = sumI (fun j : Nat => bN (decide (a ≤ F + j ∧ F + j < b) && (outA A v s j != w))) n
  | 0, _ => rfl
  | n + 1, hn => by
    rw [loN, sumI, loN_at hv hs n (by omega)]
    unfold loC
    rw [loJ_at hs hv hs (f' := (n : Int)) ⟨by omega, by omega⟩ n (by omega), if_neg (by omega)]
theorem lvo_at {Y M : wM} (I : Inv M) (R : Rel Y M) {v F a b : Int} {w : Bool} (hv : 0 ≤ v ∧ v < 10) (hF : 0 ≤ F ∧ F < 6) : ∀ n : Nat, (n : Int) ≤ M 3 F → (∀ v' s' f', 0 ≤ v' → v' < 10 → 0 ≤ s' → s' < 60 → 0 ≤ f' → f' < 1024 → lvX (mix Y M) v F a b w n 33 (61440 * v' + 1024 * s' + f') = bN (outA (loK M v F a b w n) v' s' f')) ∧ (∀ i, 614400 ≤ i → lvX (mix Y M) v F a b w n 33 i = 0) ∧ lvN (mix Y M) v F a b w n = loM M v F a b w n ∧
    ∀ v' s' f', 0 ≤ v' → v' < 10 → 0 ≤ s' → s' < 60 → 0 ≤ f' → f' < 1024 → outA (loK M v F a b w n) v' s' f' = true → outP M v' s' f' = true ∨ (v' = v ∧ s' < M 12 0 ∧ M 4 s' = F ∧ M 7 s' ≠ -1 ∧ f' < M 5 s')
  | 0, _ => ⟨R.2.2.2.1.1, R.2.2.2.1.2, rfl, fun _ _ _ _ _ _ _ _ _ h => Or.inl h⟩
  | n + 1, hn => by
    obtain ⟨ih1, ih2, ih3, ih4⟩ := lvo_at I R (a := a) (b := b) (w := w) hv hF n (by omega)
    obtain ⟨i1, i2, i3, -⟩ := I
    obtain ⟨q1, q12, -⟩ := i1
    have w3 := (i3 F hF.1 hF.2).2.2.2 n (by omega) (by omega)
    have w2 := i2 _ w3.1 w3.2.1
    have es : mix Y M 2 (60 * F + (n : Int)) = M 2 (60 * F + (n : Int)) := rfl
    have ek : keptM (mix Y M) (M 2 (60 * F + (n : Int))) = keptM M (M 2 (60 * F + (n : Int))) := rfl
    have ea : aheadM (mix Y M) F n = aheadM M F n := rfl
    have eX : lvX (mix Y M) v F a b w (n + 1) = mkK (lvX (mix Y M) v F a b w n) v (M 2 (60 * F + (n : Int))) (max (a - aheadM M F n) 0) (min (b - aheadM M F n) (keptM M (M 2 (60 * F + (n : Int))))) w 16 := rfl
    have eN : lvN (mix Y M) v F a b w (n + 1) = lvN (mix Y M) v F a b w n + mkN (lvX (mix Y M) v F a b w n) v (M 2 (60 * F + (n : Int))) (max (a - aheadM M F n) 0) (min (b - aheadM M F n) (keptM M (M 2 (60 * F + (n : Int))))) w 1024 := rfl
    have eM : loM M v F a b w (n + 1) = loM M v F a b w n + (if M 7 (M 2 (60 * F + (n : Int))) = -1 then 0 else loN (loK M v F a b w n) v (M 2 (60 * F + (n : Int))) (aheadM M F n) a b w (M 5 (M 2 (60 * F + (n : Int)))).toNat) := rfl
    have eK : loK M v F a b w (n + 1) = if M 7 (M 2 (60 * F + (n : Int))) = -1 then loK M v F a b w n else loJ (loK M v F a b w n) v (M 2 (60 * F + (n : Int))) (aheadM M F n) a b w (M 5 (M 2 (60 * F + (n : Int)))).toNat := rfl
    rw [eX, eN, eM, eK]
    generalize hs : M 2 (60 * F + (n : Int)) = s at *
    generalize hh : aheadM M F n = A at *
    have hk : keptM M s = if M 7 s = -1 then 0 else M 5 s := rfl
    have hout : ∀ v' s' f', 0 ≤ v' → v' < 10 → 0 ≤ s' → s' < 60 → 0 ≤ f' → f' < 1024 → outA (if M 7 s = -1 then loK M v F a b w n else loJ (loK M v F a b w n) v s A a b w (M 5 s).toNat) v' s' f' = if v' = v ∧ s' = s ∧ f' < keptM M s ∧ a ≤ A + f' ∧ A + f' < b then w else outA (loK M v F a b w n) v' s' f' := fun v' s' f' g1 g2 g3 g4 g5 g6 => by
      by_cases c : M 7 s = -1
      · rw [if_pos c, hk, if_pos c, if_neg (by omega)]
      · rw [if_neg c, hk, if_neg c, loJ_at ⟨w3.1, by omega⟩ g1 ⟨g3, g4⟩ ⟨g5, g6⟩ _ (by omega), Int.toNat_of_nonneg (by omega)]
    refine ⟨fun v' s' f' g1 g2 g3 g4 g5 g6 => ?_, fun i hi => ?_, ?_, fun v' s' f' g1 g2 g3 g4 g5 g6 g7 => ?_⟩
    · rw [hout v' s' f' g1 g2 g3 g4 g5 g6]
      by_cases c : v' = v ∧ s' = s ∧ f' < keptM M s ∧ a ≤ A + f' ∧ A + f' < b
      · rw [if_pos c]
        exact if_pos ⟨rfl, ⟨by omega, by omega⟩, by omega, by omega⟩
      · rw [if_neg c, ← ih1 v' s' f' g1 g2 g3 g4 g5 g6]
        exact if_neg (by omega)
    · refine Eq.trans (if_neg ?_) (ih2 i hi)
      omega
    · rw [ih3]
      refine congrArg (fun x => loM M v F a b w n + x) ?_
      have hb : ∀ f : Nat, f < 1024 → mkB (lvX (mix Y M) v F a b w n) v s (max (a - A) 0) (min (b - A) (keptM M s)) w f = bN (decide ((a ≤ A + f ∧ A + f < b) ∧ (f : Int) < keptM M s) && (outA (loK M v F a b w n) v s f != w)) := fun f hf => by
        unfold mkB
        rw [ih1 v s f hv.1 hv.2 w3.1 (by omega) (by omega) (by omega), bN_1]
        congr 2
        rw [decide_eq_decide]
        omega
      unfold mkN
      rw [sumI_cong (fun k hk' => hb k hk')]
      by_cases c : M 7 s = -1
      · rw [if_pos c]
        refine sumI_zero (fun k hk' => ?_)
        rw [hk, if_pos c, decide_eq_false (by omega)]
        rfl
      · rw [if_neg c, loN_at hv.1 ⟨w3.1, by omega⟩ _ (by omega), sumI_cut' (n := (M 5 s).toNat) (m := 1024) (by omega) (fun k k1 k2 => by rw [hk, if_neg c, decide_eq_false (by omega)]; rfl)]
        refine sumI_cong (fun k hk' => ?_)
        congr 2
        rw [decide_eq_decide, hk, if_neg c]
        omega
    · rw [hout v' s' f' g1 g2 g3 g4 g5 g6] at g7
      by_cases c : v' = v ∧ s' = s ∧ f' < keptM M s ∧ a ≤ A + f' ∧ A + f' < b
      · obtain ⟨c1, c2, c3, -⟩ := c
        rw [hk] at c3
        by_cases c4 : M 7 s = -1
        · rw [if_pos c4] at c3; omega
        · rw [if_neg c4] at c3
          rw [c2]
          exact Or.inr ⟨c1, w3.2.1, w3.2.2.1, c4, c3⟩
      · rw [if_neg c] at g7
        exact ih4 v' s' f' g1 g2 g3 g4 g5 g6 g7
theorem t_leaveOut {Y M : wM} (I : Inv M) (Z : I9 M) (R : Rel Y M) {v a b : Int} {w : Bool} (h : x_leaveOut M v a b w = 0) : Kept (lvX (mix Y M) v (M 19 v) a b w (M 3 (M 19 v)).toNat) (mset M 22 (loK M v (M 19 v) a b w (M 3 (M 19 v)).toNat)) ∧ lvN (mix Y M) v (M 19 v) a b w (M 3 (M 19 v)).toNat = loM M v (M 19 v) a b w (M 3 (M 19 v)).toNat := by
  unfold x_leaveOut at h
  obtain ⟨h1, -⟩ := ite0 h (by decide)
  have h1 := Decidable.not_not.mp h1
  have I' := I
  have R' := R
  obtain ⟨i1, i2, i3, i3e, i4, i4e, i5, i6, i7, i8, i10, i11⟩ := I
  obtain ⟨r1, r0, r2, r3, r4⟩ := R
  obtain ⟨q1, q12, q17, q18, q21, q28, q29⟩ := i1
  have w6 := i6 v h1.1 (by omega)
  have w3 := i3 (M 19 v) w6.1 (by omega)
  obtain ⟨a1, a2, a3, a4⟩ := lvo_at I' R' (a := a) (b := b) (w := w) (v := v) (F := M 19 v) ⟨h1.1, by omega⟩ ⟨w6.1, by omega⟩ (M 3 (M 19 v)).toNat (by omega)
  have xo : ∀ j i, j ≠ 33 → lvX (mix Y M) v (M 19 v) a b w (M 3 (M 19 v)).toNat j i = mix Y M j i := fun j i hj => lvX_o hj _
  refine ⟨⟨OE.of (fun j i hj a0 a15 a22 a23 a25 => ?_), ⟨fun r k g1 g2 k1 k2 => ?_, fun s s1 s2 s3 => ?_, fun f f1 f2 => ?_, ⟨a1, a2⟩, fun x g1 g2 => ⟨?_, ?_⟩⟩, ⟨⟨q1, q12, q17, q18, q21, q28, q29⟩, i2, i3, i3e, i4, i4e, i5, i6, fun v' s f g1 g2 g3 g4 g5 g6 g7 => ?_, i8, i10, i11⟩, Z⟩, a3⟩
  · rw [xo j i (by omega), mset_o a22, mix_lo hj]
  · rw [xo 31 _ (by decide)]; exact r1 r k g1 g2 k1 k2
  · rw [xo 31 _ (by decide)]; exact r0 s s1 s2 s3
  · rw [xo 32 _ (by decide)]; exact r2 f f1 f2
  · rw [xo 34 _ (by decide)]; exact (r4 x g1 g2).1
  · rw [xo 35 _ (by decide)]; exact (r4 x g1 g2).2
  · rcases a4 v' s f g1 g2 g3 g4 g5 g6 g7 with c | ⟨c1, c2, c3, c4, c5⟩
    · exact i7 v' s f g1 g2 g3 g4 g5 g6 c
    · rw [c1]
      exact ⟨h1.2, c2, c3, c4, c5⟩
