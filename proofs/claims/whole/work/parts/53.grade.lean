/-! EACH CHANGE kept: grade, passOn. -/
theorem mset_at {M : wM} {j : Nat} {g : Int → Int} {i : Int} : mset M j g j i = g i := if_pos rfl
theorem mset_o {M : wM} {j j' : Nat} {g : Int → Int} {i : Int} (h : j' ≠ j) : mset M j g j' i = M j' i := if_neg h
theorem gr_10 {M : wM} {z g k i : Int} : grC M z g k 10 i = if i = z then g else M 10 i := by
  unfold grC msetK
  rw [mset_o (by decide), mup_oj (by decide), mup_at]
theorem gr_11 {M : wM} {z g k i : Int} (hi : 0 ≤ i ∧ i < k) : grC M z g k 11 i = if i = z then -1 else if g = -1 ∧ M 11 i = z then -1 else M 11 i := by
  unfold grC msetK
  rw [mset_at, if_pos hi]
  unfold grH
  rw [mup_at]
  by_cases c : i = z
  · rw [if_pos c, if_pos c]
    by_cases c2 : g = -1 ∧ (-1 : Int) = z
    · rw [if_pos c2]
    · rw [if_neg c2]
  · rw [if_neg c, if_neg c]
theorem gr_o {M : wM} {z g k i : Int} {j : Nat} (h10 : j ≠ 10) (h11 : j ≠ 11) : grC M z g k j i = M j i := by
  unfold grC msetK
  rw [mset_o h11, mup_oj h11, mup_oj h10]
theorem dr_at {X : wM} {f s t : Int} (hs : 0 ≤ s) : ∀ n : Nat, drX X f s n 11 t = if anyI (fun k => decide (X 2 (60 * f + k) = t)) n = true ∧ X 11 t = s then -1 else X 11 t
  | 0 => by
    rw [if_neg (fun x => absurd (show false = true from x.1) (by decide))]
    rfl
  | n + 1 => by
    have ih := fun t => dr_at (X := X) (f := f) (s := s) (t := t) hs n
    rw [drX, anyI]
    by_cases c : X 2 (60 * f + n) = t
    · rw [decide_eq_true c, Bool.or_true, c]
      have iht := ih t
      by_cases c2 : X 11 t = s
      · rw [if_pos (show (true = true ∧ X 11 t = s) from ⟨rfl, c2⟩)]
        by_cases c3 : anyI (fun k => decide (X 2 (60 * f + k) = t)) n = true
        · rw [if_pos ⟨c3, c2⟩] at iht
          rw [iht, if_neg (by omega), iht]
        · rw [if_neg (fun x => c3 x.1)] at iht
          rw [iht, if_pos c2, mup_at, if_pos rfl]
      · rw [if_neg (fun x => c2 x.2)] at iht
        rw [if_neg (show ¬ (true = true ∧ X 11 t = s) from fun x => c2 x.2), iht, if_neg c2, iht]
    · rw [decide_eq_false c, Bool.or_false, ← ih t]
      split
      · rw [mup_at, if_neg (fun x => c x.symm)]
      · rfl
theorem film_of {M : wM} (i2 : I2 M) (i3 : I3 M) (i3e : I3e M) (i1 : I1 M) {s f : Int} (hs : 0 ≤ s ∧ s < M 12 0) (hf : 0 ≤ f ∧ f < 6) : anyI (fun k => decide (M 2 (60 * f + k) = s)) (M 3 f).toNat = true ↔ M 4 s = f := by
  rw [anyI_iff]
  constructor
  · rintro ⟨k, h1, h2⟩
    have h2 := of_decide_eq_true h2
    rw [← h2]
    exact ((i3 f hf.1 hf.2).2.2.2 k (by omega) (by omega)).2.2.1
  · intro e
    obtain ⟨k, k1, k2, k3⟩ := i3e s hs.1 hs.2
    rw [e] at k2 k3
    refine ⟨k.toNat, by omega, decide_eq_true ?_⟩
    rw [Int.toNat_of_nonneg k1]
    exact k3
theorem gx_o {X : wM} {z g i : Int} {j : Nat} (h10 : j ≠ 10) (h11 : j ≠ 11) : grX X z g j i = X j i := by
  unfold grX
  split
  · rw [drX_o h11, mup_oj h11, mup_oj h10]
  · rw [mup_oj h11, mup_oj h10]
theorem t_grade {Y M : wM} (I : Inv M) (Z : I9 M) (R : Rel Y M) {z g : Int} (h : x_grade M z g = 0) : Kept (grX (mix Y M) z g) (grC M z g (M 12 0)) := by
  obtain ⟨i1, i2, i3, i3e, i4, i4e, i5, i6, i7, i8, i10, i11⟩ := I
  obtain ⟨r1, r0, r2, r3, r4⟩ := R
  unfold x_grade at h
  obtain ⟨h1, h⟩ := ite0 h (by decide)
  obtain ⟨h2, h⟩ := ite0 h (by decide)
  have h1 := Decidable.not_not.mp h1
  have h2 := Decidable.not_not.mp h2
  have wz := i2 z h1.1 h1.2
  have q1 := i1.1
  have eo : ∀ j i, j ≠ 10 → j ≠ 11 → grC M z g (M 12 0) j i = M j i := fun j i a b => gr_o a b
  have xo : ∀ j i, j ≠ 10 → j ≠ 11 → grX (mix Y M) z g j i = mix Y M j i := fun j i a b => gx_o a b
  have x10 : ∀ i, grX (mix Y M) z g 10 i = if i = z then g else M 10 i := fun i => by
    unfold grX
    split
    · rw [drX_o (by decide), mup_oj (by decide), mup_at]
      rfl
    · rw [mup_oj (by decide), mup_at]
      rfl
  have x11 : ∀ i, 0 ≤ i → i < M 12 0 → grX (mix Y M) z g 11 i = if i = z then -1 else if g = -1 ∧ M 11 i = z then -1 else M 11 i := fun i a b => by
    unfold grX
    by_cases c : g = -1
    · rw [if_pos c, dr_at h1.1]
      have e11 : mup (mup (mix Y M) 10 z g) 11 z (-1) 11 i = if i = z then -1 else M 11 i := by
        rw [mup_at, mup_oj (by decide)]
        rfl
      rw [e11]
      by_cases c1 : i = z
      · rw [if_pos c1, if_pos c1]
        split <;> rfl
      · rw [if_neg c1, if_neg c1]
        by_cases c2 : M 11 i = z
        · have v := i5 i a b (by omega)
          have hP := (film_of i2 i3 i3e i1 (s := i) (f := M 4 z) ⟨a, b⟩ ⟨wz.1, by omega⟩).mpr (by rw [c2] at v; exact v.2.2.1.symm)
          exact (if_pos (And.intro hP c2)).trans (if_pos ⟨c, c2⟩).symm
        · exact (if_neg (fun x => c2 x.2)).trans (if_neg (fun x => c2 x.2)).symm
    · rw [if_neg c, mup_at, mup_oj (by decide), if_neg (show ¬ (g = -1 ∧ M 11 i = z) from fun x => c x.1)]
      rfl
  have g11 : ∀ i, 0 ≤ i → i < M 12 0 → grC M z g (M 12 0) 11 i = if i = z then -1 else if g = -1 ∧ M 11 i = z then -1 else M 11 i := fun i a b => gr_11 ⟨a, b⟩
  refine ⟨⟨fun j hj => ?_, fun _ _ _ => ⟨?_, fun _ _ _ => ?_⟩, fun _ _ _ => ⟨?_, ?_, ?_⟩, fun _ _ _ => ⟨?_, ?_, fun _ _ _ => ?_⟩, fun s s1 s2 => ⟨?_, ?_, ?_, ?_, ?_, ?_, ?_, ?_⟩, fun _ _ _ => ⟨?_, ?_⟩⟩, ⟨fun r k g1 g2 k1 k2 => ?_, fun s s1 s2 s3 => ?_, fun f f1 f2 => ?_, ⟨fun v s f g1 g2 g3 g4 g5 g6 => ?_, fun i g => ?_⟩, fun x g1 g2 => ⟨?_, ?_⟩⟩,
    ⟨i1, fun s s1 s2 => ?_, i3, i3e, i4, i4e, fun s s1 s2 s3 => ?_, i6, i7, i8, i10, i11⟩, Z⟩
  · rw [xo j 0 (by omega) (by omega), eo j 0 (by omega) (by omega), mix_lo (by omega)]
  all_goals try (rw [xo _ _ (by decide) (by decide)]; first | rfl | (rw [eo _ _ (by decide) (by decide)]; rfl))
  · rw [x10, gr_10]
  · rw [x11 s s1 s2, g11 s s1 s2]
  · rw [xo _ _ (by decide) (by decide)]; exact r1 r k g1 g2 k1 k2
  · rw [xo _ _ (by decide) (by decide)]; exact r0 s s1 s2 s3
  · rw [xo _ _ (by decide) (by decide)]; exact r2 f f1 f2
  · rw [xo _ _ (by decide) (by decide)]; exact r3.1 v s f g1 g2 g3 g4 g5 g6
  · rw [xo _ _ (by decide) (by decide)]; exact r3.2 i g
  · rw [xo _ _ (by decide) (by decide)]; exact (r4 x g1 g2).1
  · rw [xo _ _ (by decide) (by decide)]; exact (r4 x g1 g2).2
  · obtain ⟨w1, w2, w3, w4, w5, w6, w7, w8, w9, w10, w11, w12, w13, w14, w15, w16⟩ := i2 s s1 s2
    refine ⟨w1, w2, w3, w4, w5, w6, w7, w8, w9, w10, w11, w12, ?_, ?_, ?_, ?_⟩
    · rw [gr_10]; split <;> omega
    · rw [gr_10]; split <;> omega
    · rw [g11 s s1 s2]
      split
      · omega
      · split <;> omega
    · show _ < M 12 0
      rw [g11 s s1 s2]
      split
      · omega
      · split <;> omega
  · have s2 : s < M 12 0 := s2
    rw [g11 s s1 s2] at s3 ⊢
    by_cases c : s = z
    · rw [if_pos c] at s3
      omega
    · rw [if_neg c] at s3 ⊢
      by_cases c2 : g = -1 ∧ M 11 s = z
      · rw [if_pos c2] at s3
        omega
      · rw [if_neg c2] at s3 ⊢
        obtain ⟨v1, v2, v3, v4⟩ := i5 s s1 s2 s3
        rw [gr_10, gr_10, if_neg c]
        refine ⟨v1, ?_, v3, v4⟩
        split
        · rename_i c3
          have : ¬ g = -1 := fun x => c2 ⟨x, c3⟩
          omega
        · exact v2
theorem po_11 {M : wM} {z k i : Int} (hi : 0 ≤ i ∧ i < k) : poC M z k 11 i = if poP M z i = true then z else M 11 i := by
  unfold poC msetK
  rw [mset_at, if_pos hi]
theorem po_o {M : wM} {z k i : Int} {j : Nat} (h11 : j ≠ 11) : poC M z k j i = M j i := by
  unfold poC msetK
  exact mset_o h11
theorem pn_at {X : wM} {f z t : Int} : ∀ n : Nat, pnX X f z n 11 t = if anyI (fun k => decide (X 2 (60 * f + k) = t) && qoP X f z k) n = true then z else X 11 t
  | 0 => rfl
  | n + 1 => by
    have ih := pn_at (X := X) (f := f) (z := z) (t := t) n
    rw [pnX, anyI]
    by_cases c : qoP X f z n = true
    · rw [if_pos c, c, Bool.and_true, mup_at]
      by_cases c2 : t = X 2 (60 * f + n)
      · rw [if_pos c2, decide_eq_true c2.symm, Bool.or_true, if_pos (rfl : true = true)]
      · rw [if_neg c2, decide_eq_false (fun x => c2 x.symm), Bool.or_false]
        exact ih
    · have c' : qoP X f z n = false := by cases e : qoP X f z n; rfl; exact absurd e c
      rw [if_neg c, c', Bool.and_false, Bool.or_false]
      exact ih
/-- a sum over places is a sum over what lies there -/
theorem sumI_zero {f : Nat → Int} : ∀ {n : Nat}, (∀ k, k < n → f k = 0) → sumI f n = 0
  | 0, _ => rfl
  | n + 1, h => by rw [sumI, sumI_zero (fun k hk => h k (by omega)), h n (by omega)]; rfl
theorem sumI_take {f : Nat → Int} {j : Nat} : ∀ {m : Nat}, j < m → sumI f m = f j + sumI (fun i => if i = j then 0 else f i) m
  | 0, h => by omega
  | m + 1, h => by
    rw [sumI, sumI]
    by_cases c : j = m
    · subst c
      rw [if_pos rfl, sumI_cong (g := f) (f := fun i => if i = j then 0 else f i) (fun k hk => if_neg (by omega))]
      omega
    · rw [if_neg (by omega), sumI_take (j := j) (m := m) (by omega)]
      omega
theorem sumI_re : ∀ {n m : Nat} {g : Nat → Nat} {p : Nat → Int}, (∀ k, k < n → g k < m) → (∀ k k', k < n → k' < n → g k = g k' → k = k') → (∀ i, i < m → p i ≠ 0 → ∃ k, k < n ∧ g k = i) → sumI (fun k => p (g k)) n = sumI p m
  | 0, m, g, p, _, _, h3 => by
    rw [sumI_zero (f := p) (fun i hi => by
      by_cases c : p i = 0
      · exact c
      · obtain ⟨k, hk, -⟩ := h3 i hi c
        omega)]
    rfl
  | n + 1, m, g, p, h1, h2, h3 => by
    rw [sumI, sumI_take (f := p) (h1 n (by omega))]
    have ih := sumI_re (n := n) (m := m) (g := g) (p := fun i => if i = g n then 0 else p i) (fun k hk => h1 k (by omega)) (fun k k' a b e => h2 k k' (by omega) (by omega) e) (fun i hi hp => by
      have hp : (if i = g n then 0 else p i) ≠ 0 := hp
      by_cases c : i = g n
      · rw [if_pos c] at hp; exact absurd rfl hp
      · rw [if_neg c] at hp
        obtain ⟨k, hk, e⟩ := h3 i hi hp
        refine ⟨k, ?_, e⟩
        rcases Nat.lt_or_ge k n with x | x
        · exact x
        · exact absurd (by rw [← e, show k = n by omega]) c)
    rw [← ih, sumI_cong (f := fun k => p (g k)) (g := fun k => if g k = g n then 0 else p (g k)) (fun k hk => (if_neg (fun e => by
      have := h2 k n (by omega) (by omega) e
      omega)).symm)]
    omega
theorem t_passOn {Y M : wM} (I : Inv M) (Z : I9 M) (R : Rel Y M) {z : Int} (h : x_passOn M z = 0) : Kept (pnX (mix Y M) (M 4 z) z (M 3 (M 4 z)).toNat) (poC M z (M 12 0)) ∧ poN (mix Y M) (M 4 z) z (M 3 (M 4 z)).toNat = sumI (fun k : Nat => bN (poP M z k)) (M 12 0).toNat := by
  obtain ⟨i1, i2, i3, i3e, i4, i4e, i5, i6, i7, i8, i10, i11⟩ := I
  obtain ⟨r1, r0, r2, r3, r4⟩ := R
  unfold x_passOn at h
  obtain ⟨h1, h⟩ := ite0 h (by decide)
  obtain ⟨h2, -⟩ := ite0 h (by decide)
  have h1 := Decidable.not_not.mp h1
  have wz := i2 z h1.1 h1.2
  have q1 := i1.1
  have hf : 0 ≤ M 4 z ∧ M 4 z < 6 := ⟨wz.1, by omega⟩
  have w3 := i3 (M 4 z) hf.1 hf.2
  have hq : ∀ k : Nat, qoP (mix Y M) (M 4 z) z k = decide (¬ M 2 (60 * M 4 z + k) = z ∧ M 6 (M 2 (60 * M 4 z + k)) = M 6 z ∧ M 10 (M 2 (60 * M 4 z + k)) = -1) := fun k => rfl
  have hqp : ∀ k : Nat, (k : Int) < M 3 (M 4 z) → qoP (mix Y M) (M 4 z) z k = poP M z (M 2 (60 * M 4 z + k)) := fun k hk => by
    rw [hq]
    unfold poP
    rw [decide_eq_decide]
    have v := (w3.2.2.2 k (by omega) hk).2.2.1
    constructor
    · rintro ⟨a, b, c⟩
      exact ⟨a, v, b, c⟩
    · rintro ⟨a, -, b, c⟩
      exact ⟨a, b, c⟩
  have xo : ∀ j i, j ≠ 11 → pnX (mix Y M) (M 4 z) z (M 3 (M 4 z)).toNat j i = mix Y M j i := fun j i a => pnX_o a _
  have x11 : ∀ i, 0 ≤ i → i < M 12 0 → pnX (mix Y M) (M 4 z) z (M 3 (M 4 z)).toNat 11 i = if poP M z i = true then z else M 11 i := fun i a b => by
    rw [pn_at]
    show (if _ then z else M 11 i) = _
    have e : anyI (fun k => decide (mix Y M 2 (60 * M 4 z + k) = i) && qoP (mix Y M) (M 4 z) z k) (M 3 (M 4 z)).toNat = poP M z i := by
      rw [Bool.eq_iff_iff, anyI_iff]
      constructor
      · rintro ⟨k, k1, k2⟩
        rw [Bool.and_eq_true, decide_eq_true_eq, hqp k (by omega)] at k2
        obtain ⟨k2, k3⟩ := k2
        have k2 : M 2 (60 * M 4 z + k) = i := k2
        rw [k2] at k3
        exact k3
      · intro hp
        obtain ⟨k, k1, k2⟩ := (anyI_iff _ _).mp ((film_of i2 i3 i3e i1 ⟨a, b⟩ hf).mpr (of_decide_eq_true hp).2.1)
        have k2 := of_decide_eq_true k2
        refine ⟨k, k1, ?_⟩
        rw [Bool.and_eq_true, decide_eq_true_eq, hqp k (by omega)]
        refine ⟨k2, ?_⟩
        rw [k2]
        exact hp
    rw [e]
  refine ⟨⟨⟨fun j hj => ?_, fun _ _ _ => ⟨?_, fun _ _ _ => ?_⟩, fun _ _ _ => ⟨?_, ?_, ?_⟩, fun _ _ _ => ⟨?_, ?_, fun _ _ _ => ?_⟩, fun s s1 s2 => ⟨?_, ?_, ?_, ?_, ?_, ?_, ?_, ?_⟩, fun _ _ _ => ⟨?_, ?_⟩⟩, ⟨fun r k g1 g2 k1 k2 => ?_, fun s s1 s2 s3 => ?_, fun f f1 f2 => ?_, ⟨fun v s f g1 g2 g3 g4 g5 g6 => ?_, fun i g => ?_⟩, fun x g1 g2 => ⟨?_, ?_⟩⟩,
    ⟨i1, fun s s1 s2 => ?_, i3, i3e, i4, i4e, fun s s1 s2 s3 => ?_, i6, i7, i8, i10, i11⟩, Z⟩, ?_⟩
  · rw [xo j 0 (by omega), po_o (by omega), mix_lo (by omega)]
  all_goals try (rw [xo _ _ (by decide)]; first | rfl | (rw [po_o (by decide)]; rfl))
  · rw [x11 s s1 s2, po_11 (k := M 12 0) ⟨s1, s2⟩]
  · rw [xo _ _ (by decide)]; exact r1 r k g1 g2 k1 k2
  · rw [xo _ _ (by decide)]; exact r0 s s1 s2 s3
  · rw [xo _ _ (by decide)]; exact r2 f f1 f2
  · rw [xo _ _ (by decide)]; exact r3.1 v s f g1 g2 g3 g4 g5 g6
  · rw [xo _ _ (by decide)]; exact r3.2 i g
  · rw [xo _ _ (by decide)]; exact (r4 x g1 g2).1
  · rw [xo _ _ (by decide)]; exact (r4 x g1 g2).2
  · obtain ⟨w1, w2, w3, w4, w5, w6, w7, w8, w9, w10, w11, w12, w13, w14, w15, w16⟩ := i2 s s1 s2
    refine ⟨w1, w2, w3, w4, w5, w6, w7, w8, w9, w10, w11, w12, w13, w14, ?_, ?_⟩
    · rw [po_11 (k := M 12 0) ⟨s1, s2⟩]; split <;> omega
    · show _ < M 12 0
      rw [po_11 (k := M 12 0) ⟨s1, s2⟩]; split <;> omega
  · have s2 : s < M 12 0 := s2
    rw [po_11 ⟨s1, s2⟩] at s3 ⊢
    by_cases c : poP M z s = true
    · rw [if_pos c]
      have c := of_decide_eq_true c
      exact ⟨c.2.2.2, by show 0 ≤ M 10 z; omega, c.2.1.symm, c.2.2.1.symm⟩
    · rw [if_neg c] at s3 ⊢
      exact i5 s s1 s2 s3
  · unfold poN
    rw [sumI_cong (f := fun i => bN (qoP (mix Y M) (M 4 z) z i)) (g := fun k => (fun i : Nat => bN (poP M z i)) (M 2 (60 * M 4 z + k)).toNat) (fun k hk => by
      have v := w3.2.2.2 k (by omega) (by omega)
      show bN _ = bN (poP M z (((M 2 (60 * M 4 z + (k : Int))).toNat : Nat) : Int))
      rw [Int.toNat_of_nonneg v.1, hqp k (by omega)])]
    refine sumI_re (g := fun k => (M 2 (60 * M 4 z + k)).toNat) (p := fun i : Nat => bN (poP M z i)) (fun k hk => ?_) (fun k k' a b e => ?_) (fun i hi hp => ?_)
    · have v := w3.2.2.2 k (by omega) (by omega)
      show (M 2 (60 * M 4 z + (k : Int))).toNat < _
      omega
    · have e : (M 2 (60 * M 4 z + (k : Int))).toNat = (M 2 (60 * M 4 z + (k' : Int))).toNat := e
      have v := w3.2.2.2 k (by omega) (by omega)
      have v' := w3.2.2.2 k' (by omega) (by omega)
      have := v.2.2.2 k' (by omega) (by omega) (by omega)
      omega
    · have hp : bN (poP M z i) ≠ 0 := hp
      have c := of_decide_eq_true (bN_n0.mp hp)
      obtain ⟨k, k1, k2⟩ := (anyI_iff _ _).mp ((film_of i2 i3 i3e i1 (s := i) ⟨by omega, by omega⟩ hf).mpr c.2.1)
      have k2 := of_decide_eq_true k2
      exact ⟨k, k1, by show (M 2 (60 * M 4 z + (k : Int))).toNat = i; omega⟩
