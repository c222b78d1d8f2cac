/-! THE START: both objects new. -/
theorem out_M0 {v s f : Int} (hf : 0 ≤ f) : outP M0 v s f = false := by
  rw [outP_bit hf]
  have h : ∀ p : Nat, p < 32 → bitI 0 p = false := by decide +kernel
  exact h _ (by omega)
theorem Inv_M0 : Inv M0 := by
  have e : ∀ j i, j ≠ 18 → M0 j i = 0 := fun j i h => if_neg h
  refine ⟨by unfold I1 M0; decide, fun s s1 s2 => ?_, fun f f1 f2 => ?_, fun s s1 s2 => ?_, fun r g1 g2 => ?_, fun s s1 s2 => ?_, fun s s1 s2 => ?_, fun v v1 v2 => ?_, fun v s f g1 g2 g3 g4 g5 g6 g7 => ?_, fun q g1 g2 => ?_, fun q q' g1 g2 => ?_, fun q g1 g2 => ?_⟩
  · rw [e 12 0 (by decide)] at s2; omega
  · rw [e 3 f (by decide), e 12 0 (by decide)]
    exact ⟨by omega, by omega, fun _ => rfl, fun k k1 k2 => by omega⟩
  · rw [e 12 0 (by decide)] at s2; omega
  · rw [e 16 r (by decide), e 12 0 (by decide), e 17 0 (by decide)]
    exact ⟨by omega, by omega, fun _ => rfl, fun g => by omega, fun k k1 k2 => by omega⟩
  · rw [e 12 0 (by decide)] at s2; omega
  · rw [e 12 0 (by decide)] at s2; omega
  · rw [e 19 v (by decide), e 20 v (by decide), e 21 0 (by decide), e 1 0 (by decide)]
    omega
  · rw [out_M0 g5] at g7
    exact absurd g7 (by decide)
  · rw [e 23 q (by decide), e 24 q (by decide), e 25 q (by decide), e 26 q (by decide), e 27 q (by decide), e 28 0 (by decide), e 21 0 (by decide)]
    omega
  · rw [e 28 0 (by decide)] at g2; omega
  · rw [e 28 0 (by decide)] at g2; omega
theorem I9_M0 : I9 M0 := fun s _ _ => ⟨rfl, rfl⟩
theorem Jn_M0 {E : Nat} {S : wS} {G : wG} (h : RC E S G M0) : Jn E S (G 6 0) M0 := by
  have e : ∀ j i, j ≠ 18 → M0 j i = 0 := fun j i h => if_neg h
  refine ⟨G, fun _ _ => 0, rfl, h.xe ⟨fun j hj => mix_lo (by omega), fun f f1 f2 => ?_, fun q f1 f2 => ?_, fun q f1 f2 => ?_, fun q f1 f2 => ?_, fun q f1 f2 => ?_⟩, ⟨fun r k g1 g2 => ?_, fun s _ _ _ => rfl, fun f f1 f2 => ?_, ⟨fun v s f g1 g2 g3 g4 g5 g6 => ?_, fun _ _ => rfl⟩, fun q g1 g2 => ?_⟩, Inv_M0, I9_M0⟩
  · rw [e 1 0 (by decide)] at f2; omega
  · rw [e 28 0 (by decide)] at f2; omega
  · rw [e 17 0 (by decide)] at f2; omega
  · rw [e 12 0 (by decide)] at f2; omega
  · rw [e 21 0 (by decide)] at f2; omega
  · rw [e 17 0 (by decide)] at g2; omega
  · rw [e 1 0 (by decide)] at f2; omega
  · rw [out_M0 g5]; rfl
  · rw [e 28 0 (by decide)] at g2; omega
theorem Jn.mF {E : Nat} {S S' : wS} {q : Nat} {M : wM} (h : Jn E S q M) (f : mF S S') : Jn E S' q M := by
  obtain ⟨G, Y, h1, h2, h3⟩ := h
  exact ⟨G, Y, h1, h2.mF f, h3⟩
