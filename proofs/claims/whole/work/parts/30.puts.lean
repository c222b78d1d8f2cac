/-! THE CLASS's memory: fields written, lists changed, other numbers, what is left. -/
theorem mup_eq {X : wM} {j : Nat} {i z : Int} : mup X j i z j i = z := if_pos ⟨rfl, rfl⟩
theorem mup_ne {X : wM} {j : Nat} {i z : Int} {i' : Int} (h : ¬ i' = i) : mup X j i z j i' = X j i' := if_neg (fun q => h q.2)

theorem RC.p_1_1 {E : Nat} {S : wS} {G : wG} {X : wM} {i9 : Int} {z : Int} (h : RC E S G X) (hi : 0 ≤ i9 ∧ i9 < X 1 0) (hz : 0 ≤ z ∧ z ≤ 1) : RC E (sPut S (64 * 1 + 1) (G 1 i9) (.int (iN z))) G (mup X 32 i9 z) := by
  obtain ⟨⟨w6, w1, w2, w3, w4, w5⟩, T, a1, a2, a3, a4, a5, a6, hl, hv⟩ := h
  have ht := (a1 i9 hi.1 hi.2).2.1
  have K := ceq_put (S := S) (f := 64 * 1 + 1) (v := .int (iN z)) ht
  refine ⟨⟨w6, fun i h1 h2 => ?_, w2, w3, w4, w5⟩, T, (a1.put hi).cg rfl (fun i h1 h2 j hj => ?_), a2.kp (by decide) K (fun i => by simp [nT]), a3.kp (by decide) K (fun i => by simp [nT]), a4.kp (by decide) K (fun i => by simp [nT]), a5.kp (by decide) K (fun i => by simp [nT]), a6.kp (by decide) K (fun i => by simp [nT]), hl.kp K (fun j i hj => by intro z; have := congrArg Prod.fst z; have e : j = 1 := this; omega), hv.kp K (fun i => by simp [nT])⟩
  · have w := w1 i h1 h2
    unfold wf1 at *
    by_cases e : i = i9
    · subst e
      simp only [mup_eq]
      exact ⟨w.1, hz, w.2.2⟩
    · simp only [mup_ne e]
      exact w
  · by_cases e : i = i9 ∧ j = 1
    · rw [if_pos e, e.1, e.2]
      show (.int (iN ((mup X 32 i9 z) 32 i9)) : Value) = _
      rw [mup_eq]
    · rw [if_neg e]
      rcases (show j = 0 ∨ j = 1 by omega) with rfl | rfl
      · rfl
      · show (.int (iN ((mup X 32 i9 z) 32 i)) : Value) = (.int (iN ((X) 32 i)) : Value)
        rw [mup_ne (fun z => e ⟨z, rfl⟩)]

theorem RC.p_2_3 {E : Nat} {S : wS} {G : wG} {X : wM} {i9 : Int} {z : Int} (h : RC E S G X) (hi : 0 ≤ i9 ∧ i9 < X 28 0) (hz : 0 ≤ z ∧ z ≤ 9) : RC E (sPut S (64 * 2 + 3) (G 2 i9) (.int (iN z))) G (mup X 24 i9 z) := by
  obtain ⟨⟨w6, w1, w2, w3, w4, w5⟩, T, a1, a2, a3, a4, a5, a6, hl, hv⟩ := h
  have ht := (a2 i9 hi.1 hi.2).2.1
  have K := ceq_put (S := S) (f := 64 * 2 + 3) (v := .int (iN z)) ht
  refine ⟨⟨w6, w1, fun i h1 h2 => ?_, w3, w4, w5⟩, T, a1.kp (by decide) K (fun i => by simp [nT]), (a2.put hi).cg rfl (fun i h1 h2 j hj => ?_), a3.kp (by decide) K (fun i => by simp [nT]), a4.kp (by decide) K (fun i => by simp [nT]), a5.kp (by decide) K (fun i => by simp [nT]), a6.kp (by decide) K (fun i => by simp [nT]), hl.kp K (fun j i hj => by intro z; have := congrArg Prod.fst z; have e : j = 2 := this; omega), hv.kp K (fun i => by simp [nT])⟩
  · have w := w2 i h1 h2
    unfold wf2 at *
    by_cases e : i = i9
    · subst e
      simp only [mup_eq]
      exact ⟨w.1, w.2.1, w.2.2.1, hz, w.2.2.2.2⟩
    · simp only [mup_ne e]
      exact w
  · by_cases e : i = i9 ∧ j = 3
    · rw [if_pos e, e.1, e.2]
      show (.int (iN ((mup X 24 i9 z) 24 i9)) : Value) = _
      rw [mup_eq]
    · rw [if_neg e]
      rcases (show j = 0 ∨ j = 1 ∨ j = 2 ∨ j = 3 ∨ j = 4 by omega) with rfl | rfl | rfl | rfl | rfl
      · rfl
      · rfl
      · rfl
      · show (.int (iN ((mup X 24 i9 z) 24 i)) : Value) = (.int (iN ((X) 24 i)) : Value)
        rw [mup_ne (fun z => e ⟨z, rfl⟩)]
      · rfl

theorem RC.p_2_4 {E : Nat} {S : wS} {G : wG} {X : wM} {i9 : Int} {z : Int} (h : RC E S G X) (hi : 0 ≤ i9 ∧ i9 < X 28 0) (hz : 0 ≤ z ∧ z ≤ 1) : RC E (sPut S (64 * 2 + 4) (G 2 i9) (.int (iN z))) G (mup X 27 i9 z) := by
  obtain ⟨⟨w6, w1, w2, w3, w4, w5⟩, T, a1, a2, a3, a4, a5, a6, hl, hv⟩ := h
  have ht := (a2 i9 hi.1 hi.2).2.1
  have K := ceq_put (S := S) (f := 64 * 2 + 4) (v := .int (iN z)) ht
  refine ⟨⟨w6, w1, fun i h1 h2 => ?_, w3, w4, w5⟩, T, a1.kp (by decide) K (fun i => by simp [nT]), (a2.put hi).cg rfl (fun i h1 h2 j hj => ?_), a3.kp (by decide) K (fun i => by simp [nT]), a4.kp (by decide) K (fun i => by simp [nT]), a5.kp (by decide) K (fun i => by simp [nT]), a6.kp (by decide) K (fun i => by simp [nT]), hl.kp K (fun j i hj => by intro z; have := congrArg Prod.fst z; have e : j = 2 := this; omega), hv.kp K (fun i => by simp [nT])⟩
  · have w := w2 i h1 h2
    unfold wf2 at *
    by_cases e : i = i9
    · subst e
      simp only [mup_eq]
      exact ⟨w.1, w.2.1, w.2.2.1, w.2.2.2.1, hz⟩
    · simp only [mup_ne e]
      exact w
  · by_cases e : i = i9 ∧ j = 4
    · rw [if_pos e, e.1, e.2]
      show (.int (iN ((mup X 27 i9 z) 27 i9)) : Value) = _
      rw [mup_eq]
    · rw [if_neg e]
      rcases (show j = 0 ∨ j = 1 ∨ j = 2 ∨ j = 3 ∨ j = 4 by omega) with rfl | rfl | rfl | rfl | rfl
      · rfl
      · rfl
      · rfl
      · rfl
      · show (.int (iN ((mup X 27 i9 z) 27 i)) : Value) = (.int (iN ((X) 27 i)) : Value)
        rw [mup_ne (fun z => e ⟨z, rfl⟩)]

theorem RC.p_4_3 {E : Nat} {S : wS} {G : wG} {X : wM} {i9 : Int} {z : Int} (h : RC E S G X) (hi : 0 ≤ i9 ∧ i9 < X 12 0) (hz : 0 ≤ z ∧ z ≤ 999) : RC E (sPut S (64 * 4 + 3) (G 4 i9) (.int (iN z))) G (mup X 5 i9 z) := by
  obtain ⟨⟨w6, w1, w2, w3, w4, w5⟩, T, a1, a2, a3, a4, a5, a6, hl, hv⟩ := h
  have ht := (a4 i9 hi.1 hi.2).2.1
  have K := ceq_put (S := S) (f := 64 * 4 + 3) (v := .int (iN z)) ht
  refine ⟨⟨w6, w1, w2, w3, fun i h1 h2 => ?_, w5⟩, T, a1.kp (by decide) K (fun i => by simp [nT]), a2.kp (by decide) K (fun i => by simp [nT]), a3.kp (by decide) K (fun i => by simp [nT]), (a4.put hi).cg rfl (fun i h1 h2 j hj => ?_), a5.kp (by decide) K (fun i => by simp [nT]), a6.kp (by decide) K (fun i => by simp [nT]), hl.kp K (fun j i hj => by intro z; have := congrArg Prod.fst z; have e : j = 4 := this; omega), hv.kp K (fun i => by simp [nT])⟩
  · have w := w4 i h1 h2
    unfold wf4 at *
    by_cases e : i = i9
    · subst e
      simp only [mup_eq]
      exact ⟨w.1, hz, w.2.2.1, w.2.2.2.1, w.2.2.2.2.1, w.2.2.2.2.2.1, w.2.2.2.2.2.2.1, w.2.2.2.2.2.2.2.1, w.2.2.2.2.2.2.2.2⟩
    · simp only [mup_ne e]
      exact w
  · by_cases e : i = i9 ∧ j = 3
    · rw [if_pos e, e.1, e.2]
      show (.int (iN ((mup X 5 i9 z) 5 i9)) : Value) = _
      rw [mup_eq]
    · rw [if_neg e]
      rcases (show j = 0 ∨ j = 1 ∨ j = 2 ∨ j = 3 ∨ j = 4 ∨ j = 5 ∨ j = 6 ∨ j = 7 ∨ j = 8 ∨ j = 9 by omega) with rfl | rfl | rfl | rfl | rfl | rfl | rfl | rfl | rfl | rfl
      · rfl
      · rfl
      · rfl
      · show (.int (iN ((mup X 5 i9 z) 5 i)) : Value) = (.int (iN ((X) 5 i)) : Value)
        rw [mup_ne (fun z => e ⟨z, rfl⟩)]
      · rfl
      · rfl
      · rfl
      · rfl
      · rfl
      · rfl

theorem RC.p_4_5 {E : Nat} {S : wS} {G : wG} {X : wM} {i9 : Int} {z : Int} (h : RC E S G X) (hi : 0 ≤ i9 ∧ i9 < X 12 0) (hz : 0 ≤ z ∧ z ≤ 100) : RC E (sPut S (64 * 4 + 5) (G 4 i9) (.int (iN z))) G (mup X 31 i9 z) := by
  obtain ⟨⟨w6, w1, w2, w3, w4, w5⟩, T, a1, a2, a3, a4, a5, a6, hl, hv⟩ := h
  have ht := (a4 i9 hi.1 hi.2).2.1
  have K := ceq_put (S := S) (f := 64 * 4 + 5) (v := .int (iN z)) ht
  refine ⟨⟨w6, w1, w2, w3, fun i h1 h2 => ?_, w5⟩, T, a1.kp (by decide) K (fun i => by simp [nT]), a2.kp (by decide) K (fun i => by simp [nT]), a3.kp (by decide) K (fun i => by simp [nT]), (a4.put hi).cg rfl (fun i h1 h2 j hj => ?_), a5.kp (by decide) K (fun i => by simp [nT]), a6.kp (by decide) K (fun i => by simp [nT]), hl.kp K (fun j i hj => by intro z; have := congrArg Prod.fst z; have e : j = 4 := this; omega), hv.kp K (fun i => by simp [nT])⟩
  · have w := w4 i h1 h2
    unfold wf4 at *
    by_cases e : i = i9
    · subst e
      simp only [mup_eq]
      exact ⟨w.1, w.2.1, w.2.2.1, w.2.2.2.1, w.2.2.2.2.1, w.2.2.2.2.2.1, w.2.2.2.2.2.2.1, w.2.2.2.2.2.2.2.1, hz⟩
    · simp only [mup_ne e]
      exact w
  · by_cases e : i = i9 ∧ j = 5
    · rw [if_pos e, e.1, e.2]
      show (.int (iN ((mup X 31 i9 z) 31 i9)) : Value) = _
      rw [mup_eq]
    · rw [if_neg e]
      rcases (show j = 0 ∨ j = 1 ∨ j = 2 ∨ j = 3 ∨ j = 4 ∨ j = 5 ∨ j = 6 ∨ j = 7 ∨ j = 8 ∨ j = 9 by omega) with rfl | rfl | rfl | rfl | rfl | rfl | rfl | rfl | rfl | rfl
      · rfl
      · rfl
      · rfl
      · rfl
      · rfl
      · show (.int (iN ((mup X 31 i9 z) 31 i)) : Value) = (.int (iN ((X) 31 i)) : Value)
        rw [mup_ne (fun z => e ⟨z, rfl⟩)]
      · rfl
      · rfl
      · rfl
      · rfl

theorem RC.p_4_6 {E : Nat} {S : wS} {G : wG} {X : wM} {i9 : Int} {z : Int} (h : RC E S G X) (hi : 0 ≤ i9 ∧ i9 < X 12 0) (hz : 0 ≤ z ∧ z ≤ 4) : RC E (sPut S (64 * 4 + 6) (G 4 i9) (.int (iN z))) G (mup X 8 i9 z) := by
  obtain ⟨⟨w6, w1, w2, w3, w4, w5⟩, T, a1, a2, a3, a4, a5, a6, hl, hv⟩ := h
  have ht := (a4 i9 hi.1 hi.2).2.1
  have K := ceq_put (S := S) (f := 64 * 4 + 6) (v := .int (iN z)) ht
  refine ⟨⟨w6, w1, w2, w3, fun i h1 h2 => ?_, w5⟩, T, a1.kp (by decide) K (fun i => by simp [nT]), a2.kp (by decide) K (fun i => by simp [nT]), a3.kp (by decide) K (fun i => by simp [nT]), (a4.put hi).cg rfl (fun i h1 h2 j hj => ?_), a5.kp (by decide) K (fun i => by simp [nT]), a6.kp (by decide) K (fun i => by simp [nT]), hl.kp K (fun j i hj => by intro z; have := congrArg Prod.fst z; have e : j = 4 := this; omega), hv.kp K (fun i => by simp [nT])⟩
  · have w := w4 i h1 h2
    unfold wf4 at *
    by_cases e : i = i9
    · subst e
      simp only [mup_eq]
      exact ⟨w.1, w.2.1, w.2.2.1, w.2.2.2.1, hz, w.2.2.2.2.2.1, w.2.2.2.2.2.2.1, w.2.2.2.2.2.2.2.1, w.2.2.2.2.2.2.2.2⟩
    · simp only [mup_ne e]
      exact w
  · by_cases e : i = i9 ∧ j = 6
    · rw [if_pos e, e.1, e.2]
      show (.int (iN ((mup X 8 i9 z) 8 i9)) : Value) = _
      rw [mup_eq]
    · rw [if_neg e]
      rcases (show j = 0 ∨ j = 1 ∨ j = 2 ∨ j = 3 ∨ j = 4 ∨ j = 5 ∨ j = 6 ∨ j = 7 ∨ j = 8 ∨ j = 9 by omega) with rfl | rfl | rfl | rfl | rfl | rfl | rfl | rfl | rfl | rfl
      · rfl
      · rfl
      · rfl
      · rfl
      · rfl
      · rfl
      · show (.int (iN ((mup X 8 i9 z) 8 i)) : Value) = (.int (iN ((X) 8 i)) : Value)
        rw [mup_ne (fun z => e ⟨z, rfl⟩)]
      · rfl
      · rfl
      · rfl

theorem RC.p_4_7 {E : Nat} {S : wS} {G : wG} {X : wM} {i9 : Int} {z : Int} (h : RC E S G X) (hi : 0 ≤ i9 ∧ i9 < X 12 0) (hz : 0 ≤ z ∧ z ≤ 999) : RC E (sPut S (64 * 4 + 7) (G 4 i9) (.int (iN z))) G (mup X 9 i9 z) := by
  obtain ⟨⟨w6, w1, w2, w3, w4, w5⟩, T, a1, a2, a3, a4, a5, a6, hl, hv⟩ := h
  have ht := (a4 i9 hi.1 hi.2).2.1
  have K := ceq_put (S := S) (f := 64 * 4 + 7) (v := .int (iN z)) ht
  refine ⟨⟨w6, w1, w2, w3, fun i h1 h2 => ?_, w5⟩, T, a1.kp (by decide) K (fun i => by simp [nT]), a2.kp (by decide) K (fun i => by simp [nT]), a3.kp (by decide) K (fun i => by simp [nT]), (a4.put hi).cg rfl (fun i h1 h2 j hj => ?_), a5.kp (by decide) K (fun i => by simp [nT]), a6.kp (by decide) K (fun i => by simp [nT]), hl.kp K (fun j i hj => by intro z; have := congrArg Prod.fst z; have e : j = 4 := this; omega), hv.kp K (fun i => by simp [nT])⟩
  · have w := w4 i h1 h2
    unfold wf4 at *
    by_cases e : i = i9
    · subst e
      simp only [mup_eq]
      exact ⟨w.1, w.2.1, w.2.2.1, w.2.2.2.1, w.2.2.2.2.1, hz, w.2.2.2.2.2.2.1, w.2.2.2.2.2.2.2.1, w.2.2.2.2.2.2.2.2⟩
    · simp only [mup_ne e]
      exact w
  · by_cases e : i = i9 ∧ j = 7
    · rw [if_pos e, e.1, e.2]
      show (.int (iN ((mup X 9 i9 z) 9 i9)) : Value) = _
      rw [mup_eq]
    · rw [if_neg e]
      rcases (show j = 0 ∨ j = 1 ∨ j = 2 ∨ j = 3 ∨ j = 4 ∨ j = 5 ∨ j = 6 ∨ j = 7 ∨ j = 8 ∨ j = 9 by omega) with rfl | rfl | rfl | rfl | rfl | rfl | rfl | rfl | rfl | rfl
      · rfl
      · rfl
      · rfl
      · rfl
      · rfl
      · rfl
      · rfl
      · show (.int (iN ((mup X 9 i9 z) 9 i)) : Value) = (.int (iN ((X) 9 i)) : Value)
        rw [mup_ne (fun z => e ⟨z, rfl⟩)]
      · rfl
      · rfl

theorem RC.p_4_8 {E : Nat} {S : wS} {G : wG} {X : wM} {i9 : Int} {z : Int} (h : RC E S G X) (hi : 0 ≤ i9 ∧ i9 < X 12 0) (hz : -1 ≤ z ∧ z ≤ 99) : RC E (sPut S (64 * 4 + 8) (G 4 i9) (.int (iN z))) G (mup X 10 i9 z) := by
  obtain ⟨⟨w6, w1, w2, w3, w4, w5⟩, T, a1, a2, a3, a4, a5, a6, hl, hv⟩ := h
  have ht := (a4 i9 hi.1 hi.2).2.1
  have K := ceq_put (S := S) (f := 64 * 4 + 8) (v := .int (iN z)) ht
  refine ⟨⟨w6, w1, w2, w3, fun i h1 h2 => ?_, w5⟩, T, a1.kp (by decide) K (fun i => by simp [nT]), a2.kp (by decide) K (fun i => by simp [nT]), a3.kp (by decide) K (fun i => by simp [nT]), (a4.put hi).cg rfl (fun i h1 h2 j hj => ?_), a5.kp (by decide) K (fun i => by simp [nT]), a6.kp (by decide) K (fun i => by simp [nT]), hl.kp K (fun j i hj => by intro z; have := congrArg Prod.fst z; have e : j = 4 := this; omega), hv.kp K (fun i => by simp [nT])⟩
  · have w := w4 i h1 h2
    unfold wf4 at *
    by_cases e : i = i9
    · subst e
      simp only [mup_eq]
      exact ⟨w.1, w.2.1, w.2.2.1, w.2.2.2.1, w.2.2.2.2.1, w.2.2.2.2.2.1, hz, w.2.2.2.2.2.2.2.1, w.2.2.2.2.2.2.2.2⟩
    · simp only [mup_ne e]
      exact w
  · by_cases e : i = i9 ∧ j = 8
    · rw [if_pos e, e.1, e.2]
      show (.int (iN ((mup X 10 i9 z) 10 i9)) : Value) = _
      rw [mup_eq]
    · rw [if_neg e]
      rcases (show j = 0 ∨ j = 1 ∨ j = 2 ∨ j = 3 ∨ j = 4 ∨ j = 5 ∨ j = 6 ∨ j = 7 ∨ j = 8 ∨ j = 9 by omega) with rfl | rfl | rfl | rfl | rfl | rfl | rfl | rfl | rfl | rfl
      · rfl
      · rfl
      · rfl
      · rfl
      · rfl
      · rfl
      · rfl
      · rfl
      · show (.int (iN ((mup X 10 i9 z) 10 i)) : Value) = (.int (iN ((X) 10 i)) : Value)
        rw [mup_ne (fun z => e ⟨z, rfl⟩)]
      · rfl

theorem RC.p_6_5 {E : Nat} {S : wS} {G : wG} {X : wM} {z : Int} (h : RC E S G X) (hz : 2 ≤ z ∧ z ≤ 50) : RC E (sPut S (64 * 6 + 5) (G 6 0) (.int (iN z))) G (mup X 18 0 z) := by
  obtain ⟨⟨w6, w1, w2, w3, w4, w5⟩, T, a1, a2, a3, a4, a5, a6, hl, hv⟩ := h
  have ht := (a6 0 (show (0 : Int) ≤ 0 ∧ (0 : Int) < 1 by decide).1 (show (0 : Int) ≤ 0 ∧ (0 : Int) < 1 by decide).2).2.1
  have K := ceq_put (S := S) (f := 64 * 6 + 5) (v := .int (iN z)) ht
  refine ⟨⟨?_, w1, w2, w3, w4, w5⟩, T, a1.kp (by decide) K (fun i => by simp [nT]), a2.kp (by decide) K (fun i => by simp [nT]), a3.kp (by decide) K (fun i => by simp [nT]), a4.kp (by decide) K (fun i => by simp [nT]), a5.kp (by decide) K (fun i => by simp [nT]), (a6.put (show (0 : Int) ≤ 0 ∧ (0 : Int) < 1 by decide)).cg rfl (fun i h1 h2 j hj => ?_), hl.kp K (fun j i hj => by intro z; have := congrArg Prod.fst z; have e : j = 6 := this; omega), hv.kp K (fun i => by simp [nT])⟩
  · unfold wf6 at *
    exact ⟨w6.1, w6.2.1, w6.2.2.1, w6.2.2.2.1, w6.2.2.2.2.1, hz, w6.2.2.2.2.2.2⟩
  · by_cases e : i = 0 ∧ j = 5
    · rw [if_pos e, e.1, e.2]
      show (.int (iN ((mup X 18 0 z) 18 0)) : Value) = _
      rw [mup_eq]
    · rw [if_neg e]
      rcases (show j = 0 ∨ j = 1 ∨ j = 2 ∨ j = 3 ∨ j = 4 ∨ j = 5 ∨ j = 6 ∨ j = 7 by omega) with rfl | rfl | rfl | rfl | rfl | rfl | rfl | rfl
      · rfl
      · rfl
      · rfl
      · rfl
      · rfl
      · exact absurd ⟨by omega, rfl⟩ e
      · rfl
      · rfl

theorem RC.p_6_6 {E : Nat} {S : wS} {G : wG} {X : wM} {z : Int} (h : RC E S G X) (hz : 0 ≤ z ∧ z ≤ 60000) : RC E (sPut S (64 * 6 + 6) (G 6 0) (.int (iN z))) G (mup X 29 0 z) := by
  obtain ⟨⟨w6, w1, w2, w3, w4, w5⟩, T, a1, a2, a3, a4, a5, a6, hl, hv⟩ := h
  have ht := (a6 0 (show (0 : Int) ≤ 0 ∧ (0 : Int) < 1 by decide).1 (show (0 : Int) ≤ 0 ∧ (0 : Int) < 1 by decide).2).2.1
  have K := ceq_put (S := S) (f := 64 * 6 + 6) (v := .int (iN z)) ht
  refine ⟨⟨?_, w1, w2, w3, w4, w5⟩, T, a1.kp (by decide) K (fun i => by simp [nT]), a2.kp (by decide) K (fun i => by simp [nT]), a3.kp (by decide) K (fun i => by simp [nT]), a4.kp (by decide) K (fun i => by simp [nT]), a5.kp (by decide) K (fun i => by simp [nT]), (a6.put (show (0 : Int) ≤ 0 ∧ (0 : Int) < 1 by decide)).cg rfl (fun i h1 h2 j hj => ?_), hl.kp K (fun j i hj => by intro z; have := congrArg Prod.fst z; have e : j = 6 := this; omega), hv.kp K (fun i => by simp [nT])⟩
  · unfold wf6 at *
    exact ⟨w6.1, w6.2.1, w6.2.2.1, w6.2.2.2.1, w6.2.2.2.2.1, w6.2.2.2.2.2.1, hz⟩
  · by_cases e : i = 0 ∧ j = 6
    · rw [if_pos e, e.1, e.2]
      show (.int (iN ((mup X 29 0 z) 29 0)) : Value) = _
      rw [mup_eq]
    · rw [if_neg e]
      rcases (show j = 0 ∨ j = 1 ∨ j = 2 ∨ j = 3 ∨ j = 4 ∨ j = 5 ∨ j = 6 ∨ j = 7 by omega) with rfl | rfl | rfl | rfl | rfl | rfl | rfl | rfl
      · rfl
      · rfl
      · rfl
      · rfl
      · rfl
      · rfl
      · exact absurd ⟨by omega, rfl⟩ e
      · rfl

theorem RC.p_4_4 {E : Nat} {S : wS} {G : wG} {X : wM} {i9 : Int} {z : Int} (h : RC E S G X) (hi : 0 ≤ i9 ∧ i9 < X 12 0) (hz2 : 0 ≤ z ∧ z < X 17 0) : RC E (sPut S (64 * 4 + 4) (G 4 i9) (.ref (G 3 z))) G (mup X 7 i9 z) := by
  obtain ⟨⟨w6, w1, w2, w3, w4, w5⟩, T, a1, a2, a3, a4, a5, a6, hl, hv⟩ := h
  have ht := (a4 i9 hi.1 hi.2).2.1
  have K := ceq_put (S := S) (f := 64 * 4 + 4) (v := .ref (G 3 z)) ht
  refine ⟨⟨w6, w1, w2, w3, fun i h1 h2 => ?_, w5⟩, T, a1.kp (by decide) K (fun i => by simp [nT]), a2.kp (by decide) K (fun i => by simp [nT]), a3.kp (by decide) K (fun i => by simp [nT]), (a4.put hi).cg rfl (fun i h1 h2 j hj => ?_), a5.kp (by decide) K (fun i => by simp [nT]), a6.kp (by decide) K (fun i => by simp [nT]), hl.kp K (fun j i hj => by intro z; have := congrArg Prod.fst z; have e : j = 4 := this; omega), hv.kp K (fun i => by simp [nT])⟩
  · have w := w4 i h1 h2
    unfold wf4 at *
    by_cases e : i = i9
    · subst e
      simp only [mup_eq]
      have hz : -1 ≤ z ∧ z < X 17 0 := ⟨by omega, hz2.2⟩
      exact ⟨w.1, w.2.1, w.2.2.1, hz, w.2.2.2.2.1, w.2.2.2.2.2.1, w.2.2.2.2.2.2.1, w.2.2.2.2.2.2.2.1, w.2.2.2.2.2.2.2.2⟩
    · simp only [mup_ne e]
      exact w
  · by_cases e : i = i9 ∧ j = 4
    · rw [if_pos e, e.1, e.2]
      show nref (G 3) ((mup X 7 i9 z) 7 i9) = _
      rw [mup_eq]; exact if_neg (by omega)
    · rw [if_neg e]
      rcases (show j = 0 ∨ j = 1 ∨ j = 2 ∨ j = 3 ∨ j = 4 ∨ j = 5 ∨ j = 6 ∨ j = 7 ∨ j = 8 ∨ j = 9 by omega) with rfl | rfl | rfl | rfl | rfl | rfl | rfl | rfl | rfl | rfl
      · rfl
      · rfl
      · rfl
      · rfl
      · show nref (G 3) ((mup X 7 i9 z) 7 i) = nref (G 3) ((X) 7 i)
        rw [mup_ne (fun z => e ⟨z, rfl⟩)]
      · rfl
      · rfl
      · rfl
      · rfl
      · rfl

theorem RC.p_4_9 {E : Nat} {S : wS} {G : wG} {X : wM} {i9 : Int} {z : Int} (h : RC E S G X) (hi : 0 ≤ i9 ∧ i9 < X 12 0) (hz2 : 0 ≤ z ∧ z < X 12 0) : RC E (sPut S (64 * 4 + 9) (G 4 i9) (.ref (G 4 z))) G (mup X 11 i9 z) := by
  obtain ⟨⟨w6, w1, w2, w3, w4, w5⟩, T, a1, a2, a3, a4, a5, a6, hl, hv⟩ := h
  have ht := (a4 i9 hi.1 hi.2).2.1
  have K := ceq_put (S := S) (f := 64 * 4 + 9) (v := .ref (G 4 z)) ht
  refine ⟨⟨w6, w1, w2, w3, fun i h1 h2 => ?_, w5⟩, T, a1.kp (by decide) K (fun i => by simp [nT]), a2.kp (by decide) K (fun i => by simp [nT]), a3.kp (by decide) K (fun i => by simp [nT]), (a4.put hi).cg rfl (fun i h1 h2 j hj => ?_), a5.kp (by decide) K (fun i => by simp [nT]), a6.kp (by decide) K (fun i => by simp [nT]), hl.kp K (fun j i hj => by intro z; have := congrArg Prod.fst z; have e : j = 4 := this; omega), hv.kp K (fun i => by simp [nT])⟩
  · have w := w4 i h1 h2
    unfold wf4 at *
    by_cases e : i = i9
    · subst e
      simp only [mup_eq]
      have hz : -1 ≤ z ∧ z < X 12 0 := ⟨by omega, hz2.2⟩
      exact ⟨w.1, w.2.1, w.2.2.1, w.2.2.2.1, w.2.2.2.2.1, w.2.2.2.2.2.1, w.2.2.2.2.2.2.1, hz, w.2.2.2.2.2.2.2.2⟩
    · simp only [mup_ne e]
      exact w
  · by_cases e : i = i9 ∧ j = 9
    · rw [if_pos e, e.1, e.2]
      show nref (G 4) ((mup X 11 i9 z) 11 i9) = _
      rw [mup_eq]; exact if_neg (by omega)
    · rw [if_neg e]
      rcases (show j = 0 ∨ j = 1 ∨ j = 2 ∨ j = 3 ∨ j = 4 ∨ j = 5 ∨ j = 6 ∨ j = 7 ∨ j = 8 ∨ j = 9 by omega) with rfl | rfl | rfl | rfl | rfl | rfl | rfl | rfl | rfl | rfl
      · rfl
      · rfl
      · rfl
      · rfl
      · rfl
      · rfl
      · rfl
      · rfl
      · rfl
      · show nref (G 4) ((mup X 11 i9 z) 11 i) = nref (G 4) ((X) 11 i)
        rw [mup_ne (fun z => e ⟨z, rfl⟩)]

theorem RC.p_4_9N {E : Nat} {S : wS} {G : wG} {X : wM} {i9 : Int} (h : RC E S G X) (hi : 0 ≤ i9 ∧ i9 < X 12 0)  : RC E (sPut S (64 * 4 + 9) (G 4 i9) (.null)) G (mup X 11 i9 (-1)) := by
  obtain ⟨⟨w6, w1, w2, w3, w4, w5⟩, T, a1, a2, a3, a4, a5, a6, hl, hv⟩ := h
  have ht := (a4 i9 hi.1 hi.2).2.1
  have K := ceq_put (S := S) (f := 64 * 4 + 9) (v := .null) ht
  refine ⟨⟨w6, w1, w2, w3, fun i h1 h2 => ?_, w5⟩, T, a1.kp (by decide) K (fun i => by simp [nT]), a2.kp (by decide) K (fun i => by simp [nT]), a3.kp (by decide) K (fun i => by simp [nT]), (a4.put hi).cg rfl (fun i h1 h2 j hj => ?_), a5.kp (by decide) K (fun i => by simp [nT]), a6.kp (by decide) K (fun i => by simp [nT]), hl.kp K (fun j i hj => by intro z; have := congrArg Prod.fst z; have e : j = 4 := this; omega), hv.kp K (fun i => by simp [nT])⟩
  · have w := w4 i h1 h2
    unfold wf4 at *
    by_cases e : i = i9
    · subst e
      simp only [mup_eq]
      have hz : (-1 : Int) ≤ -1 ∧ -1 < X 12 0 := ⟨by omega, by omega⟩
      exact ⟨w.1, w.2.1, w.2.2.1, w.2.2.2.1, w.2.2.2.2.1, w.2.2.2.2.2.1, w.2.2.2.2.2.2.1, hz, w.2.2.2.2.2.2.2.2⟩
    · simp only [mup_ne e]
      exact w
  · by_cases e : i = i9 ∧ j = 9
    · rw [if_pos e, e.1, e.2]
      show nref (G 4) ((mup X 11 i9 (-1)) 11 i9) = _
      rw [mup_eq]; exact if_pos rfl
    · rw [if_neg e]
      rcases (show j = 0 ∨ j = 1 ∨ j = 2 ∨ j = 3 ∨ j = 4 ∨ j = 5 ∨ j = 6 ∨ j = 7 ∨ j = 8 ∨ j = 9 by omega) with rfl | rfl | rfl | rfl | rfl | rfl | rfl | rfl | rfl | rfl
      · rfl
      · rfl
      · rfl
      · rfl
      · rfl
      · rfl
      · rfl
      · rfl
      · rfl
      · show nref (G 4) ((mup X 11 i9 (-1)) 11 i) = nref (G 4) ((X) 11 i)
        rw [mup_ne (fun z => e ⟨z, rfl⟩)]

theorem RC.p_6_7 {E : Nat} {S : wS} {G : wG} {X : wM} {z : Int} (h : RC E S G X)  : RC E (sPut S (64 * 6 + 7) (G 6 0) (.long (iL z))) G (mup X 30 0 z) := by
  obtain ⟨⟨w6, w1, w2, w3, w4, w5⟩, T, a1, a2, a3, a4, a5, a6, hl, hv⟩ := h
  have ht := (a6 0 (show (0 : Int) ≤ 0 ∧ (0 : Int) < 1 by decide).1 (show (0 : Int) ≤ 0 ∧ (0 : Int) < 1 by decide).2).2.1
  have K := ceq_put (S := S) (f := 64 * 6 + 7) (v := .long (iL z)) ht
  refine ⟨⟨?_, w1, w2, w3, w4, w5⟩, T, a1.kp (by decide) K (fun i => by simp [nT]), a2.kp (by decide) K (fun i => by simp [nT]), a3.kp (by decide) K (fun i => by simp [nT]), a4.kp (by decide) K (fun i => by simp [nT]), a5.kp (by decide) K (fun i => by simp [nT]), (a6.put (show (0 : Int) ≤ 0 ∧ (0 : Int) < 1 by decide)).cg rfl (fun i h1 h2 j hj => ?_), hl.kp K (fun j i hj => by intro z; have := congrArg Prod.fst z; have e : j = 6 := this; omega), hv.kp K (fun i => by simp [nT])⟩
  · unfold wf6 at *
    exact ⟨w6.1, w6.2.1, w6.2.2.1, w6.2.2.2.1, w6.2.2.2.2.1, w6.2.2.2.2.2.1, w6.2.2.2.2.2.2⟩
  · by_cases e : i = 0 ∧ j = 7
    · rw [if_pos e, e.1, e.2]
      show (.long (iL ((mup X 30 0 z) 30 0)) : Value) = _
      rw [mup_eq]
    · rw [if_neg e]
      rcases (show j = 0 ∨ j = 1 ∨ j = 2 ∨ j = 3 ∨ j = 4 ∨ j = 5 ∨ j = 6 ∨ j = 7 by omega) with rfl | rfl | rfl | rfl | rfl | rfl | rfl | rfl
      · rfl
      · rfl
      · rfl
      · rfl
      · rfl
      · rfl
      · rfl
      · exact absurd ⟨by omega, rfl⟩ e

section PROWS
variable {p : Program} {l : Launch} {e : Env} {R : Room} {s : State} {m : MethodId} {args : Array Value} {below : List Frame} {meth : Method} {c : Code} {nL : Nat} {D : wD} {A : Nat → Prop} {Q : State → Prop}
variable {cc : ByteArray} {own : String} {pc : Nat} {lv : List (Nat × Value)} {st : List Value} {S0 S : wS} {k n : Nat} {E0 : Nat} {G : wG} {X : wM}
theorem nz01 {z : Int} (h : 0 ≤ z ∧ z ≤ 1) : narrow .boolean (.int (iN z)) = .int (iN z) ∧ fits .boolean (.int (iN z)) = true := by
  rcases (show z = 0 ∨ z = 1 by omega) with rfl | rfl <;> decide
theorem jp_1_1 (C : Cx p l s m args meth c cc nL own D A) (hR : RCF E0 S0 S G X) {i9 : Int} {z : Int} (hi : 0 ≤ i9 ∧ i9 < X 1 0) (hz : 0 ≤ z ∧ z ≤ 1) {idx : Nat} (hf : FL own idx 1 1) (d : decode cc pc = .ok (.putfield idx, 3)) (kk : ∀ S', RCF E0 S0 S' G (mup X 32 i9 z) → J p l e R s m args below meth c nL D A Q (pc + 3) lv st S' k n) : J p l e R s m args below meth c nL D A Q pc lv (.int (iN z) :: .ref (G 1 i9) :: st) S k n :=
  j_put C hf (hR.1.k1 hi) ⟨by decide, by decide, by decide⟩ (by decide) (nz01 hz).1 (nz01 hz).2 d (kk _ ⟨hR.1.p_1_1 hi hz, hR.2.put (hR.1.k1 hi) (by omega)⟩)
theorem jp_2_3 (C : Cx p l s m args meth c cc nL own D A) (hR : RCF E0 S0 S G X) {i9 : Int} {z : Int} (hi : 0 ≤ i9 ∧ i9 < X 28 0) (hz : 0 ≤ z ∧ z ≤ 9) {idx : Nat} (hf : FL own idx 2 3) (d : decode cc pc = .ok (.putfield idx, 3)) (kk : ∀ S', RCF E0 S0 S' G (mup X 24 i9 z) → J p l e R s m args below meth c nL D A Q (pc + 3) lv st S' k n) : J p l e R s m args below meth c nL D A Q pc lv (.int (iN z) :: .ref (G 2 i9) :: st) S k n :=
  j_put C hf (hR.1.k2 hi) ⟨by decide, by decide, by decide⟩ (by decide) rfl rfl d (kk _ ⟨hR.1.p_2_3 hi hz, hR.2.put (hR.1.k2 hi) (by omega)⟩)
theorem jp_2_4 (C : Cx p l s m args meth c cc nL own D A) (hR : RCF E0 S0 S G X) {i9 : Int} {z : Int} (hi : 0 ≤ i9 ∧ i9 < X 28 0) (hz : 0 ≤ z ∧ z ≤ 1) {idx : Nat} (hf : FL own idx 2 4) (d : decode cc pc = .ok (.putfield idx, 3)) (kk : ∀ S', RCF E0 S0 S' G (mup X 27 i9 z) → J p l e R s m args below meth c nL D A Q (pc + 3) lv st S' k n) : J p l e R s m args below meth c nL D A Q pc lv (.int (iN z) :: .ref (G 2 i9) :: st) S k n :=
  j_put C hf (hR.1.k2 hi) ⟨by decide, by decide, by decide⟩ (by decide) (nz01 hz).1 (nz01 hz).2 d (kk _ ⟨hR.1.p_2_4 hi hz, hR.2.put (hR.1.k2 hi) (by omega)⟩)
theorem jp_4_3 (C : Cx p l s m args meth c cc nL own D A) (hR : RCF E0 S0 S G X) {i9 : Int} {z : Int} (hi : 0 ≤ i9 ∧ i9 < X 12 0) (hz : 0 ≤ z ∧ z ≤ 999) {idx : Nat} (hf : FL own idx 4 3) (d : decode cc pc = .ok (.putfield idx, 3)) (kk : ∀ S', RCF E0 S0 S' G (mup X 5 i9 z) → J p l e R s m args below meth c nL D A Q (pc + 3) lv st S' k n) : J p l e R s m args below meth c nL D A Q pc lv (.int (iN z) :: .ref (G 4 i9) :: st) S k n :=
  j_put C hf (hR.1.k4 hi) ⟨by decide, by decide, by decide⟩ (by decide) rfl rfl d (kk _ ⟨hR.1.p_4_3 hi hz, hR.2.put (hR.1.k4 hi) (by omega)⟩)
theorem jp_4_5 (C : Cx p l s m args meth c cc nL own D A) (hR : RCF E0 S0 S G X) {i9 : Int} {z : Int} (hi : 0 ≤ i9 ∧ i9 < X 12 0) (hz : 0 ≤ z ∧ z ≤ 100) {idx : Nat} (hf : FL own idx 4 5) (d : decode cc pc = .ok (.putfield idx, 3)) (kk : ∀ S', RCF E0 S0 S' G (mup X 31 i9 z) → J p l e R s m args below meth c nL D A Q (pc + 3) lv st S' k n) : J p l e R s m args below meth c nL D A Q pc lv (.int (iN z) :: .ref (G 4 i9) :: st) S k n :=
  j_put C hf (hR.1.k4 hi) ⟨by decide, by decide, by decide⟩ (by decide) rfl rfl d (kk _ ⟨hR.1.p_4_5 hi hz, hR.2.put (hR.1.k4 hi) (by omega)⟩)
theorem jp_4_6 (C : Cx p l s m args meth c cc nL own D A) (hR : RCF E0 S0 S G X) {i9 : Int} {z : Int} (hi : 0 ≤ i9 ∧ i9 < X 12 0) (hz : 0 ≤ z ∧ z ≤ 4) {idx : Nat} (hf : FL own idx 4 6) (d : decode cc pc = .ok (.putfield idx, 3)) (kk : ∀ S', RCF E0 S0 S' G (mup X 8 i9 z) → J p l e R s m args below meth c nL D A Q (pc + 3) lv st S' k n) : J p l e R s m args below meth c nL D A Q pc lv (.int (iN z) :: .ref (G 4 i9) :: st) S k n :=
  j_put C hf (hR.1.k4 hi) ⟨by decide, by decide, by decide⟩ (by decide) rfl rfl d (kk _ ⟨hR.1.p_4_6 hi hz, hR.2.put (hR.1.k4 hi) (by omega)⟩)
theorem jp_4_7 (C : Cx p l s m args meth c cc nL own D A) (hR : RCF E0 S0 S G X) {i9 : Int} {z : Int} (hi : 0 ≤ i9 ∧ i9 < X 12 0) (hz : 0 ≤ z ∧ z ≤ 999) {idx : Nat} (hf : FL own idx 4 7) (d : decode cc pc = .ok (.putfield idx, 3)) (kk : ∀ S', RCF E0 S0 S' G (mup X 9 i9 z) → J p l e R s m args below meth c nL D A Q (pc + 3) lv st S' k n) : J p l e R s m args below meth c nL D A Q pc lv (.int (iN z) :: .ref (G 4 i9) :: st) S k n :=
  j_put C hf (hR.1.k4 hi) ⟨by decide, by decide, by decide⟩ (by decide) rfl rfl d (kk _ ⟨hR.1.p_4_7 hi hz, hR.2.put (hR.1.k4 hi) (by omega)⟩)
theorem jp_4_8 (C : Cx p l s m args meth c cc nL own D A) (hR : RCF E0 S0 S G X) {i9 : Int} {z : Int} (hi : 0 ≤ i9 ∧ i9 < X 12 0) (hz : -1 ≤ z ∧ z ≤ 99) {idx : Nat} (hf : FL own idx 4 8) (d : decode cc pc = .ok (.putfield idx, 3)) (kk : ∀ S', RCF E0 S0 S' G (mup X 10 i9 z) → J p l e R s m args below meth c nL D A Q (pc + 3) lv st S' k n) : J p l e R s m args below meth c nL D A Q pc lv (.int (iN z) :: .ref (G 4 i9) :: st) S k n :=
  j_put C hf (hR.1.k4 hi) ⟨by decide, by decide, by decide⟩ (by decide) rfl rfl d (kk _ ⟨hR.1.p_4_8 hi hz, hR.2.put (hR.1.k4 hi) (by omega)⟩)
theorem jp_6_5 (C : Cx p l s m args meth c cc nL own D A) (hR : RCF E0 S0 S G X) {z : Int} (hz : 2 ≤ z ∧ z ≤ 50) {idx : Nat} (hf : FL own idx 6 5) (d : decode cc pc = .ok (.putfield idx, 3)) (kk : ∀ S', RCF E0 S0 S' G (mup X 18 0 z) → J p l e R s m args below meth c nL D A Q (pc + 3) lv st S' k n) : J p l e R s m args below meth c nL D A Q pc lv (.int (iN z) :: .ref (G 6 0) :: st) S k n :=
  j_put C hf (hR.1.k6 ) ⟨by decide, by decide, by decide⟩ (by decide) rfl rfl d (kk _ ⟨hR.1.p_6_5  hz, hR.2.put (hR.1.k6 ) (by omega)⟩)
theorem jp_6_6 (C : Cx p l s m args meth c cc nL own D A) (hR : RCF E0 S0 S G X) {z : Int} (hz : 0 ≤ z ∧ z ≤ 60000) {idx : Nat} (hf : FL own idx 6 6) (d : decode cc pc = .ok (.putfield idx, 3)) (kk : ∀ S', RCF E0 S0 S' G (mup X 29 0 z) → J p l e R s m args below meth c nL D A Q (pc + 3) lv st S' k n) : J p l e R s m args below meth c nL D A Q pc lv (.int (iN z) :: .ref (G 6 0) :: st) S k n :=
  j_put C hf (hR.1.k6 ) ⟨by decide, by decide, by decide⟩ (by decide) rfl rfl d (kk _ ⟨hR.1.p_6_6  hz, hR.2.put (hR.1.k6 ) (by omega)⟩)
theorem jp_4_4 (C : Cx p l s m args meth c cc nL own D A) (hR : RCF E0 S0 S G X) {i9 : Int} {z : Int} (hi : 0 ≤ i9 ∧ i9 < X 12 0) (hz : 0 ≤ z ∧ z < X 17 0) {idx : Nat} (hf : FL own idx 4 4) (d : decode cc pc = .ok (.putfield idx, 3)) (kk : ∀ S', RCF E0 S0 S' G (mup X 7 i9 z) → J p l e R s m args below meth c nL D A Q (pc + 3) lv st S' k n) : J p l e R s m args below meth c nL D A Q pc lv (.ref (G 3 z) :: .ref (G 4 i9) :: st) S k n :=
  j_put C hf (hR.1.k4 hi) ⟨by decide, by decide, by decide⟩ (by decide) rfl rfl d (kk _ ⟨hR.1.p_4_4 hi hz, hR.2.put (hR.1.k4 hi) (by omega)⟩)
theorem jp_4_9 (C : Cx p l s m args meth c cc nL own D A) (hR : RCF E0 S0 S G X) {i9 : Int} {z : Int} (hi : 0 ≤ i9 ∧ i9 < X 12 0) (hz : 0 ≤ z ∧ z < X 12 0) {idx : Nat} (hf : FL own idx 4 9) (d : decode cc pc = .ok (.putfield idx, 3)) (kk : ∀ S', RCF E0 S0 S' G (mup X 11 i9 z) → J p l e R s m args below meth c nL D A Q (pc + 3) lv st S' k n) : J p l e R s m args below meth c nL D A Q pc lv (.ref (G 4 z) :: .ref (G 4 i9) :: st) S k n :=
  j_put C hf (hR.1.k4 hi) ⟨by decide, by decide, by decide⟩ (by decide) rfl rfl d (kk _ ⟨hR.1.p_4_9 hi hz, hR.2.put (hR.1.k4 hi) (by omega)⟩)
theorem jp_4_9N (C : Cx p l s m args meth c cc nL own D A) (hR : RCF E0 S0 S G X) {i9 : Int} (hi : 0 ≤ i9 ∧ i9 < X 12 0)  {idx : Nat} (hf : FL own idx 4 9) (d : decode cc pc = .ok (.putfield idx, 3)) (kk : ∀ S', RCF E0 S0 S' G (mup X 11 i9 (-1)) → J p l e R s m args below meth c nL D A Q (pc + 3) lv st S' k n) : J p l e R s m args below meth c nL D A Q pc lv (.null :: .ref (G 4 i9) :: st) S k n :=
  j_put C hf (hR.1.k4 hi) ⟨by decide, by decide, by decide⟩ (by decide) rfl rfl d (kk _ ⟨hR.1.p_4_9N hi , hR.2.put (hR.1.k4 hi) (by omega)⟩)
theorem jp_6_7 (C : Cx p l s m args meth c cc nL own D A) (hR : RCF E0 S0 S G X) {z : Int}  {idx : Nat} (hf : FL own idx 6 7) (d : decode cc pc = .ok (.putfield idx, 3)) (kk : ∀ S', RCF E0 S0 S' G (mup X 30 0 z) → J p l e R s m args below meth c nL D A Q (pc + 3) lv st S' k n) : J p l e R s m args below meth c nL D A Q pc lv (.long (iL z) :: .ref (G 6 0) :: st) S k n :=
  j_put C hf (hR.1.k6 ) ⟨by decide, by decide, by decide⟩ (by decide) rfl rfl d (kk _ ⟨hR.1.p_6_7  , hR.2.put (hR.1.k6 ) (by omega)⟩)
end PROWS
