/-! THE LAW's own rows of one element: written, they leave both objects as they are. -/
theorem RC.put10 {E : Nat} {S : wS} {G : wG} {X : wM} {a : Nat} {v : Value} (h : RC E S G X) (ha : sN S a = 1) : RC E (sPutE S 10 a 0 v) G X := by
  obtain ⟨hw, T, a1, a2, a3, a4, a5, a6, hl, hv⟩ := h
  refine ⟨hw, T, a1, a2, a3, a4, a5, a6, hl, fun v9 h1 h2 => ?_⟩
  obtain ⟨b1, b2, b3, b4⟩ := hv v9 h1 h2
  refine ⟨b1, b2, b3, fun i hi => ?_⟩
  obtain ⟨w, w1, w2⟩ := b4 i hi
  refine ⟨w, (sE_putE' (fun z => ?_)).trans w1, w2⟩
  rw [z.2.1, ha] at b3
  omega
theorem RC.put13 {E : Nat} {S : wS} {G : wG} {X : wM} {a : Nat} {v : Value} (h : RC E S G X) : RC E (sPutE S 13 a 0 v) G X := by
  obtain ⟨hw, T, a1, a2, a3, a4, a5, a6, hl, hv⟩ := h
  exact ⟨hw, T, a1, a2, a3, a4, a5, a6, hl, hv⟩
theorem Jn.put10 {E : Nat} {S : wS} {q : Nat} {M : wM} {a : Nat} {v : Value} (h : Jn E S q M) (ha : sN S a = 1) : Jn E (sPutE S 10 a 0 v) q M := by
  obtain ⟨G, Y, h1, h2, h3⟩ := h
  exact ⟨G, Y, h1, h2.put10 ha, h3⟩
theorem Jn.put13 {E : Nat} {S : wS} {q : Nat} {M : wM} {a : Nat} {v : Value} (h : Jn E S q M) : Jn E (sPutE S 13 a 0 v) q M := by
  obtain ⟨G, Y, h1, h2, h3⟩ := h
  exact ⟨G, Y, h1, h2.put13, h3⟩
theorem RM.putO {S : wS} {o : Nat} {B : Nat → Nat} {m : wM} {kd a : Nat} {v : Value} (h : RM S o B m) (hk : kd = 10 ∨ kd = 13) : RM (sPutE S kd a 0 v) o B m := by
  obtain ⟨h1, h2, h3, h4, h5⟩ := h
  refine ⟨h1, fun j hj => ?_, h3, h4, h5⟩
  obtain ⟨g1, g2, g3, g4⟩ := h2 j hj
  refine ⟨g1, g2, g3, fun i hi => (sE_putE' (fun z => ?_)).trans (g4 i hi)⟩
  have := mKd_c j
  omega
