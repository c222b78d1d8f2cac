/-! THE CLASS's memory: rows of films and reels changed. -/
def rset (X : wM) (j1 j2 : Nat) (f n' : Int) (g : Int → Int) : wM := fun j i => if j = j1 ∧ i = f then n' else if j = j2 ∧ 60 * f ≤ i ∧ i < 60 * f + 60 then g (i - 60 * f) else X j i
theorem rset_n {X : wM} {j1 j2 : Nat} {f n' : Int} {g : Int → Int} : rset X j1 j2 f n' g j1 f = n' := if_pos ⟨rfl, rfl⟩
theorem rset_n' {X : wM} {j1 j2 : Nat} {f n' f' : Int} {g : Int → Int} (hj : j1 ≠ j2) (h : f' ≠ f) : rset X j1 j2 f n' g j1 f' = X j1 f' := by
  unfold rset
  rw [if_neg (fun z => h z.2), if_neg (fun z => hj z.1)]
theorem rset_e {X : wM} {j1 j2 : Nat} {f n' k : Int} {g : Int → Int} (hj : j1 ≠ j2) (hk : 0 ≤ k ∧ k < 60) : rset X j1 j2 f n' g j2 (60 * f + k) = g k := by
  unfold rset
  rw [if_neg (fun z => hj z.1.symm), if_pos ⟨rfl, by omega, by omega⟩]
  congr 1
  omega
theorem rset_e' {X : wM} {j1 j2 : Nat} {f n' f' k : Int} {g : Int → Int} (hj : j1 ≠ j2) (hk : 0 ≤ k ∧ k < 60) (h : f' ≠ f) : rset X j1 j2 f n' g j2 (60 * f' + k) = X j2 (60 * f' + k) := by
  unfold rset
  rw [if_neg (fun z => hj z.1.symm), if_neg (by omega)]
theorem rset_o {X : wM} {j1 j2 j : Nat} {f n' i : Int} {g : Int → Int} (h1 : j ≠ j1) (h2 : j ≠ j2) : rset X j1 j2 f n' g j i = X j i := by
  unfold rset
  rw [if_neg (fun z => h1 z.1), if_neg (fun z => h2 z.1)]
def nT2 (t0 t1 t : Nat × Int) : Prop := t ≠ t0 ∧ t ≠ t1
theorem lF.K {S S' : wS} {T T' : Nat → Nat × Int} {a : Nat} {t : Nat × Int} (h : lF S S' T a t) (ht : TE S T T') (ha : T a = t) : ∀ c, sK S c ≠ 0 → nT2 t (t.1 + 10, t.2) (T c) → ceq S S' c ∧ T' c = T c := by
  intro c hc hn
  obtain ⟨a1, a2, a3, a4⟩ := h c hc
  refine ⟨⟨a1, a2, fun f => ?_, fun k i => ?_⟩, ht c hc⟩
  · rcases a3 f with q | q
    · exact absurd (by rw [q.1]; exact ha) hn.1
    · exact q
  · rcases a4 k i with q | q
    · exact absurd q.2.2 hn.2
    · exact q
theorem lF.cF {S S' : wS} {T : Nat → Nat × Int} {a : Nat} {t : Nat × Int} (h : lF S S' T a t) (ha : sK S a = 8) : cF S S' := by
  intro c hc
  obtain ⟨a1, a2, a3, a4⟩ := h c hc
  refine ⟨a1, a2, fun ho => ⟨a1, a2, fun f => ?_, fun k i => ?_⟩⟩
  · rcases a3 f with q | q
    · unfold isO at ho
      rw [q.1, ha] at ho
      omega
    · exact q
  · rcases a4 k i with q | q
    · unfold isO at ho
      rw [q.2.1] at ho
      omega
    · exact q
theorem WF.row1 {X : wM} {f n' : Int} {g : Int → Int} (h : WF X) (hf : 0 ≤ f ∧ f < X 1 0) (hn : 0 ≤ n' ∧ n' ≤ 60) (hg : ∀ k, 0 ≤ k → k < n' → 0 ≤ g k ∧ g k < X 12 0) : WF (rset X 3 2 f n' g) := by
  obtain ⟨w6, w1, w2, w3, w4, w5⟩ := h
  refine ⟨w6, fun i h1 h2 => ?_, w2, w3, w4, w5⟩
  have w := w1 i h1 h2
  unfold wf1 at *
  by_cases e : i = f
  · subst e
    rw [rset_n]
    refine ⟨hn, w.2.1, fun k k1 k2 => ?_⟩
    rw [rset_e (by decide) (by omega)]
    exact hg k k1 k2
  · rw [rset_n' (by decide) e]
    refine ⟨w.1, w.2.1, fun k k1 k2 => ?_⟩
    rw [rset_e' (by decide) (by omega) e]
    exact w.2.2 k k1 k2
theorem WF.row2 {X : wM} {f n' : Int} {g : Int → Int} (h : WF X) (hf : 0 ≤ f ∧ f < X 17 0) (hn : 0 ≤ n' ∧ n' ≤ 60) (hg : ∀ k, 0 ≤ k → k < n' → 0 ≤ g k ∧ g k < X 12 0) : WF (rset X 16 14 f n' g) := by
  obtain ⟨w6, w1, w2, w3, w4, w5⟩ := h
  refine ⟨w6, w1, w2, fun i h1 h2 => ?_, w4, w5⟩
  have w := w3 i h1 h2
  unfold wf3 at *
  by_cases e : i = f
  · subst e
    rw [rset_n]
    refine ⟨w.1, hn, fun k k1 k2 => ?_⟩
    rw [rset_e (by decide) (by omega)]
    exact hg k k1 k2
  · rw [rset_n' (by decide) e]
    refine ⟨w.1, w.2.1, fun k k1 k2 => ?_⟩
    rw [rset_e' (by decide) (by omega) e]
    exact w.2.2 k k1 k2

theorem RC.row1 {E : Nat} {S S' : wS} {G : wG} {X : wM} {T : Nat → Nat × Int} {f n' : Int} {g : Int → Int} {e' : Int → Nat} (hw : WF X) (hh : HH E S G T X) (hf : 0 ≤ f ∧ f < X 1 0) (h : LsP E S T (G 21 f) (21, f) n' e' S') (he : ∀ k, 0 ≤ k → k < n' → e' k = G 4 (g k)) (hn : 0 ≤ n' ∧ n' ≤ 60) (hg : ∀ k, 0 ≤ k → k < n' → 0 ≤ g k ∧ g k < X 12 0) : RC E S' G (rset X 3 2 f n' g) ∧ cF S S' := by
  obtain ⟨T', t1, t2, t3⟩ := h
  obtain ⟨a1, a2, a3, a4, a5, a6, ⟨⟨b0, b1, b2, b3, b4⟩, c1, c2⟩, hv⟩ := hh
  have hA := c1 f hf.1 hf.2
  have K := t3.K t1 hA.2.1
  have w6 := hw.1
  refine ⟨⟨hw.row1 hf hn hg, T', a1.kp (by decide) K (fun i => by simp [nT2]), a2.kp (by decide) K (fun i => by simp [nT2]), a3.kp (by decide) K (fun i => by simp [nT2]), a4.kp (by decide) K (fun i => by simp [nT2]), a5.kp (by decide) K (fun i => by simp [nT2]), a6.kp (by decide) K (fun i => by simp [nT2]), ⟨⟨b0.kp K (by simp [nT2]) (by simp [nT2]), b1.kp K (by simp [nT2]) (by simp [nT2]), b2.kp K (by simp [nT2]) (by simp [nT2]), b3.kp K (by simp [nT2]) (by simp [nT2]), b4.kp K (by simp [nT2]) (by simp [nT2])⟩, ?_, ?_⟩, hv.kp K (fun i => by simp [nT2])⟩, t3.cF hA.1⟩
  · intro i h1 h2
    by_cases e : i = f
    · subst e
      refine t2.cg rset_n (fun k k1 k2 => ?_)
      show G 4 (rset X 3 2 i n' g 2 (60 * i + k)) = e' k
      rw [rset_e (by decide) (by omega), he k k1 k2]
    · have w := hw.2.1 i h1 h2
      refine ((c1 i h1 h2).kp K (by simp [nT2, e]) (by simp [nT2, e])).cg (rset_n' (by decide) e) (fun k k1 k2 => ?_)
      show G 4 (rset X 3 2 f n' g 2 (60 * i + k)) = _
      rw [rset_e' (by decide) ⟨k1, by unfold wf1 at w; omega⟩ e]
  · intro i h1 h2
    exact (c2 i h1 h2).kp K (by simp [nT2]) (by simp [nT2])

theorem RC.row2 {E : Nat} {S S' : wS} {G : wG} {X : wM} {T : Nat → Nat × Int} {f n' : Int} {g : Int → Int} {e' : Int → Nat} (hw : WF X) (hh : HH E S G T X) (hf : 0 ≤ f ∧ f < X 17 0) (h : LsP E S T (G 22 f) (22, f) n' e' S') (he : ∀ k, 0 ≤ k → k < n' → e' k = G 4 (g k)) (hn : 0 ≤ n' ∧ n' ≤ 60) (hg : ∀ k, 0 ≤ k → k < n' → 0 ≤ g k ∧ g k < X 12 0) : RC E S' G (rset X 16 14 f n' g) ∧ cF S S' := by
  obtain ⟨T', t1, t2, t3⟩ := h
  obtain ⟨a1, a2, a3, a4, a5, a6, ⟨⟨b0, b1, b2, b3, b4⟩, c1, c2⟩, hv⟩ := hh
  have hA := c2 f hf.1 hf.2
  have K := t3.K t1 hA.2.1
  have w6 := hw.1
  refine ⟨⟨hw.row2 hf hn hg, T', a1.kp (by decide) K (fun i => by simp [nT2]), a2.kp (by decide) K (fun i => by simp [nT2]), a3.kp (by decide) K (fun i => by simp [nT2]), a4.kp (by decide) K (fun i => by simp [nT2]), a5.kp (by decide) K (fun i => by simp [nT2]), a6.kp (by decide) K (fun i => by simp [nT2]), ⟨⟨b0.kp K (by simp [nT2]) (by simp [nT2]), b1.kp K (by simp [nT2]) (by simp [nT2]), b2.kp K (by simp [nT2]) (by simp [nT2]), b3.kp K (by simp [nT2]) (by simp [nT2]), b4.kp K (by simp [nT2]) (by simp [nT2])⟩, ?_, ?_⟩, hv.kp K (fun i => by simp [nT2])⟩, t3.cF hA.1⟩
  · intro i h1 h2
    exact (c1 i h1 h2).kp K (by simp [nT2]) (by simp [nT2])
  · intro i h1 h2
    by_cases e : i = f
    · subst e
      refine t2.cg rset_n (fun k k1 k2 => ?_)
      show G 4 (rset X 16 14 i n' g 14 (60 * i + k)) = e' k
      rw [rset_e (by decide) (by omega), he k k1 k2]
    · have w := hw.2.2.2.1 i h1 h2
      refine ((c2 i h1 h2).kp K (by simp [nT2, e]) (by simp [nT2, e])).cg (rset_n' (by decide) e) (fun k k1 k2 => ?_)
      show G 4 (rset X 16 14 f n' g 14 (60 * i + k)) = _
      rw [rset_e' (by decide) ⟨k1, by unfold wf3 at w; omega⟩ e]

/-- other numbers, the same where they are asked -/
def XE (X X' : wM) : Prop := (∀ j, j = 1 ∨ j = 12 ∨ j = 17 ∨ j = 18 ∨ j = 21 ∨ j = 28 ∨ j = 29 ∨ j = 30 → X' j 0 = X j 0) ∧
  (∀ f, 0 ≤ f → f < X 1 0 → X' 3 f = X 3 f ∧ X' 32 f = X 32 f ∧ ∀ k, 0 ≤ k → k < X 3 f → X' 2 (60 * f + k) = X 2 (60 * f + k)) ∧
  (∀ q, 0 ≤ q → q < X 28 0 → X' 34 q = X 34 q ∧ X' 35 q = X 35 q ∧ X' 26 q = X 26 q ∧ X' 24 q = X 24 q ∧ X' 27 q = X 27 q) ∧
  (∀ r, 0 ≤ r → r < X 17 0 → X' 13 r = X 13 r ∧ X' 16 r = X 16 r ∧ ∀ k, 0 ≤ k → k < X 16 r → X' 14 (60 * r + k) = X 14 (60 * r + k)) ∧
  (∀ s, 0 ≤ s → s < X 12 0 → X' 4 s = X 4 s ∧ X' 5 s = X 5 s ∧ X' 6 s = X 6 s ∧ X' 7 s = X 7 s ∧ X' 8 s = X 8 s ∧ X' 9 s = X 9 s ∧ X' 10 s = X 10 s ∧ X' 11 s = X 11 s ∧ X' 31 s = X 31 s) ∧
  ∀ v, 0 ≤ v → v < X 21 0 → X' 19 v = X 19 v ∧ X' 20 v = X 20 v ∧ ∀ i, 0 ≤ i → i < 61440 → X' 33 (61440 * v + i) = X 33 (61440 * v + i)
theorem RC.xe {E : Nat} {S : wS} {G : wG} {X X' : wM} (h : RC E S G X) (x : XE X X') : RC E S G X' := by
  obtain ⟨⟨w6, w1, w2, w3, w4, w5⟩, T, a1, a2, a3, a4, a5, a6, ⟨⟨b0, b1, b2, b3, b4⟩, c1, c2⟩, hv⟩ := h
  obtain ⟨x6, x1, x2, x3, x4, x5⟩ := x
  have e1 := x6 1 (by simp)
  have e12 := x6 12 (by simp)
  have e17 := x6 17 (by simp)
  have e18 := x6 18 (by simp)
  have e21 := x6 21 (by simp)
  have e28 := x6 28 (by simp)
  have e29 := x6 29 (by simp)
  have e30 := x6 30 (by simp)
  refine ⟨⟨?_, ?_, ?_, ?_, ?_, ?_⟩, T, a1.cg e1 ?_, a2.cg e28 ?_, a3.cg e17 ?_, a4.cg e12 ?_, a5.cg e21 ?_, a6.cg rfl ?_, ⟨⟨b0.cg e1 (fun _ _ _ => rfl), b1.cg e12 (fun _ _ _ => rfl), b2.cg e17 (fun _ _ _ => rfl), b3.cg e21 (fun _ _ _ => rfl), b4.cg e28 (fun _ _ _ => rfl)⟩, ?_, ?_⟩, ?_⟩
  · unfold wf6 at *; rw [e1, e12, e17, e18, e21, e28, e29]; exact w6
  · intro i h1 h2; rw [e1] at h2; have w := w1 i h1 h2; obtain ⟨g1, g2, g3⟩ := x1 i h1 h2
    unfold wf1 at *; rw [g1, g2, e12]
    exact ⟨w.1, w.2.1, fun k k1 k2 => by rw [g3 k k1 k2]; exact w.2.2 k k1 k2⟩
  · intro i h1 h2; rw [e28] at h2; have w := w2 i h1 h2; obtain ⟨g1, g2, g3, g4, g5⟩ := x2 i h1 h2
    unfold wf2 at *; rw [g1, g2, g3, g4, g5, e1]; exact w
  · intro i h1 h2; rw [e17] at h2; have w := w3 i h1 h2; obtain ⟨g1, g2, g3⟩ := x3 i h1 h2
    unfold wf3 at *; rw [g1, g2, e12, e1]
    exact ⟨w.1, w.2.1, fun k k1 k2 => by rw [g3 k k1 k2]; exact w.2.2 k k1 k2⟩
  · intro i h1 h2; rw [e12] at h2; have w := w4 i h1 h2; obtain ⟨g1, g2, g3, g4, g5, g6, g7, g8, g9⟩ := x4 i h1 h2
    unfold wf4 at *; rw [g1, g2, g3, g4, g5, g6, g7, g8, g9, e1, e17, e12]; exact w
  · intro i h1 h2; rw [e21] at h2; have w := w5 i h1 h2; obtain ⟨g1, g2, g3⟩ := x5 i h1 h2
    unfold wf5 at *; rw [g1, g2, e1]; exact w
  · intro i h1 h2 j hj; obtain ⟨g1, g2, g3⟩ := x1 i h1 h2
    rcases (show j = 0 ∨ j = 1 by omega) with rfl | rfl
    · rfl
    · simp only [oF1]; rw [g2]
  · intro i h1 h2 j hj; obtain ⟨g1, g2, g3, g4, g5⟩ := x2 i h1 h2
    rcases (show j = 0 ∨ j = 1 ∨ j = 2 ∨ j = 3 ∨ j = 4 by omega) with rfl | rfl | rfl | rfl | rfl <;> simp only [oF2, g1, g2, g3, g4, g5]
  · intro i h1 h2 j hj; obtain ⟨g1, g2, g3⟩ := x3 i h1 h2
    rcases (show j = 0 ∨ j = 1 ∨ j = 2 by omega) with rfl | rfl | rfl <;> simp only [oF3, g1]
  · intro i h1 h2 j hj; obtain ⟨g1, g2, g3, g4, g5, g6, g7, g8, g9⟩ := x4 i h1 h2
    rcases (show j = 0 ∨ j = 1 ∨ j = 2 ∨ j = 3 ∨ j = 4 ∨ j = 5 ∨ j = 6 ∨ j = 7 ∨ j = 8 ∨ j = 9 by omega) with rfl | rfl | rfl | rfl | rfl | rfl | rfl | rfl | rfl | rfl <;> simp only [oF4, g1, g2, g3, g4, g5, g6, g7, g8, g9]
  · intro i h1 h2 j hj; obtain ⟨g1, g2, g3⟩ := x5 i h1 h2
    rcases (show j = 0 ∨ j = 1 ∨ j = 2 by omega) with rfl | rfl | rfl <;> simp only [oF5, g1, g2]
  · intro i h1 h2 j hj
    rcases (show j = 0 ∨ j = 1 ∨ j = 2 ∨ j = 3 ∨ j = 4 ∨ j = 5 ∨ j = 6 ∨ j = 7 by omega) with rfl | rfl | rfl | rfl | rfl | rfl | rfl | rfl <;> simp only [oF6, e18, e29, e30]
  · intro i h1 h2; rw [e1] at h2; obtain ⟨g1, g2, g3⟩ := x1 i h1 h2
    exact (c1 i h1 h2).cg g1 (fun k k1 k2 => by rw [g3 k k1 k2])
  · intro i h1 h2; rw [e17] at h2; obtain ⟨g1, g2, g3⟩ := x3 i h1 h2
    exact (c2 i h1 h2).cg g2 (fun k k1 k2 => by rw [g3 k k1 k2])
  · intro i h1 h2; rw [e21] at h2; obtain ⟨g1, g2, g3⟩ := x5 i h1 h2
    obtain ⟨d1, d2, d3, d4⟩ := hv i h1 h2
    refine ⟨d1, d2, d3, fun j hj => ?_⟩
    obtain ⟨w, q1, q2⟩ := d4 j hj
    refine ⟨w, q1, fun b hb => ?_⟩
    have e := g3 (64 * (j : Int) + b) (by omega) (by omega)
    rw [q2 b hb, show 61440 * i + 64 * (j : Int) + b = 61440 * i + (64 * (j : Int) + b) by omega, e]
/-- nothing of ours is touched -/
theorem RC.keep {E : Nat} {S S' : wS} {G : wG} {X : wM} (h : RC E S G X) (K : ∀ c, sK S c ≠ 0 → sK S c ≠ 7 → sK S c ≠ 9 → sK S c ≠ 11 → sK S c ≠ 13 → (sK S c = 10 → sN S c = 960) → ceq S S' c) : RC E S' G X := by
  obtain ⟨hw, T, a1, a2, a3, a4, a5, a6, ⟨⟨b0, b1, b2, b3, b4⟩, c1, c2⟩, hv⟩ := h
  have ho : ∀ {kd : Nat} {n : Int} {m : Nat} {F : Int → Nat → Value}, 1 ≤ kd ∧ kd ≤ 6 → HO S G T kd n m F → HO S' G T kd n m F := by
    intro kd n m F hkd h i i1 i2
    obtain ⟨d1, d2, d3⟩ := h i i1 i2
    obtain ⟨k1, k2, k3, k4⟩ := K (G kd i) (by omega) (by omega) (by omega) (by omega) (by omega) (by omega)
    exact ⟨k1.trans d1, d2, fun j hj => (k3 _).trans (d3 j hj)⟩
  have hl : ∀ {a : Nat} {t : Nat × Int} {n : Int} {e : Int → Nat}, AL E S T a t n e → AL E S' T a t n e := by
    intro a t n e h
    obtain ⟨d1, d2, ⟨z, d3⟩, d4, d5, b, d6, d7⟩ := h
    obtain ⟨k1, k2, k3, k4⟩ := K a (by omega) (by omega) (by omega) (by omega) (by omega) (by omega)
    refine ⟨k1.trans d1, d2, ⟨z, (k3 _).trans d3⟩, (k3 _).trans d4, d5, b, (k3 _).trans d6, ?_⟩
    rcases d7 with d7 | ⟨g1, g2, g3, g4, g5, g6⟩
    · exact Or.inl d7
    · obtain ⟨m1, m2, m3, m4⟩ := K b (by omega) (by omega) (by omega) (by omega) (by omega) (by omega)
      exact Or.inr ⟨m1.trans g1, g2, by rw [m2]; exact g3, by rw [m2]; exact g4, by rw [m2]; exact g5, fun k hk => (m4 _ _).trans (g6 k hk)⟩
  refine ⟨hw, T, ho (by omega) a1, ho (by omega) a2, ho (by omega) a3, ho (by omega) a4, ho (by omega) a5, ho (by omega) a6, ⟨⟨hl b0, hl b1, hl b2, hl b3, hl b4⟩, fun f g1 g2 => hl (c1 f g1 g2), fun f g1 g2 => hl (c2 f g1 g2)⟩, fun v g1 g2 => ?_⟩
  obtain ⟨d1, d2, d3, d4⟩ := hv v g1 g2
  obtain ⟨k1, k2, k3, k4⟩ := K (G 9 v) (by omega) (by omega) (by omega) (by omega) (by omega) (fun _ => d3)
  refine ⟨k1.trans d1, d2, k2.trans d3, fun j hj => ?_⟩
  obtain ⟨w, q1, q2⟩ := d4 j hj
  exact ⟨w, (k4 _ _).trans q1, q2⟩
theorem RC.mF {E : Nat} {S S' : wS} {G : wG} {X : wM} (h : RC E S G X) (f : mF S S') : RC E S' G X := by
  obtain ⟨f1, f2, f3, f4⟩ := f
  obtain ⟨hw, T, a1, a2, a3, a4, a5, a6, ⟨⟨b0, b1, b2, b3, b4⟩, c1, c2⟩, hv⟩ := h
  have ho : ∀ {kd : Nat} {n : Int} {m : Nat} {F : Int → Nat → Value}, kd ≤ 6 → m ≤ 64 → HO S G T kd n m F → HO S' G T kd n m F := by
    intro kd n m F hkd hm h i i1 i2
    obtain ⟨d1, d2, d3⟩ := h i i1 i2
    exact ⟨by rw [f1]; exact d1, d2, fun j hj => by rw [f3 _ (by omega)]; exact d3 j hj⟩
  have hl : ∀ {a : Nat} {t : Nat × Int} {n : Int} {e : Int → Nat}, AL E S T a t n e → AL E S' T a t n e := by
    intro a t n e h
    obtain ⟨d1, d2, ⟨z, d3⟩, d4, d5, b, d6, d7⟩ := h
    refine ⟨by rw [f1]; exact d1, d2, ⟨z, by rw [f3 _ (by omega)]; exact d3⟩, by rw [f3 _ (by omega)]; exact d4, d5, b, by rw [f3 _ (by omega)]; exact d6, ?_⟩
    rcases d7 with d7 | ⟨g1, g2, g3, g4, g5, g6⟩
    · exact Or.inl d7
    · exact Or.inr ⟨by rw [f1]; exact g1, g2, by rw [f2]; exact g3, by rw [f2]; exact g4, by rw [f2]; exact g5, fun k hk => by rw [f4 _ (by decide) (by decide)]; exact g6 k hk⟩
  refine ⟨hw, T, ho (by omega) (by omega) a1, ho (by omega) (by omega) a2, ho (by omega) (by omega) a3, ho (by omega) (by omega) a4, ho (by omega) (by omega) a5, ho (by omega) (by omega) a6, ⟨⟨hl b0, hl b1, hl b2, hl b3, hl b4⟩, fun f g1 g2 => hl (c1 f g1 g2), fun f g1 g2 => hl (c2 f g1 g2)⟩, fun v g1 g2 => ?_⟩
  obtain ⟨d1, d2, d3, d4⟩ := hv v g1 g2
  exact ⟨by rw [f1]; exact d1, d2, by rw [f2]; exact d3, fun j hj => by rw [f4 _ (by decide) (by decide)]; exact d4 j hj⟩
/-- the reference stands, where the class alone is touched -/
theorem RM.cF {S S' : wS} {o : Nat} {B : Nat → Nat} {m : wM} (h : RM S o B m) (f : cF S S') : RM S' o B m := by
  obtain ⟨h1, h2, h3, h4, h5⟩ := h
  obtain ⟨k1, k2, k3⟩ := f o (by omega)
  obtain ⟨-, -, k4, -⟩ := k3 (Or.inl h1)
  refine ⟨k1.trans h1, fun j hj => ?_, fun j hj hl => by rw [k4]; exact h3 j hj hl, by rw [k4]; exact h4, h5⟩
  obtain ⟨a1, a2, a3, a4⟩ := h2 j hj
  have hkd := mKd_c j
  obtain ⟨m1, m2, m3⟩ := f (B j) (by omega)
  obtain ⟨-, -, -, m4⟩ := m3 (by unfold isO; omega)
  exact ⟨by rw [k4]; exact a1, m1.trans a2, m2.trans a3, fun i hi => by rw [m4]; exact a4 i hi⟩

