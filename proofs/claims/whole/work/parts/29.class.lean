/-! THE CLASS's memory: addresses by kind and number, tables of numbers. -/
abbrev wG : Type := Nat → Int → Nat
def nref (g : Int → Nat) (z : Int) : Value := if z = -1 then .null else .ref (g z)
def oF1 (G : wG) (X : wM) (i : Int) : Nat → Value
  | 0 => .ref (G 21 i)
  | _ => .int (iN (X 32 i))
def oF2 (G : wG) (X : wM) (i : Int) : Nat → Value
  | 0 => .ref (G 1 (X 34 i))
  | 1 => .int (iN (X 35 i))
  | 2 => .int (iN (X 26 i))
  | 3 => .int (iN (X 24 i))
  | _ => .int (iN (X 27 i))
def oF3 (G : wG) (X : wM) (i : Int) : Nat → Value
  | 0 => .ref (G 1 (X 13 i))
  | 1 => .int (iN i)
  | _ => .ref (G 22 i)
def oF4 (G : wG) (X : wM) (i : Int) : Nat → Value
  | 0 => .ref (G 1 (X 4 i))
  | 1 => .int (iN i)
  | 2 => .int (iN (X 6 i))
  | 3 => .int (iN (X 5 i))
  | 4 => nref (G 3) (X 7 i)
  | 5 => .int (iN (X 31 i))
  | 6 => .int (iN (X 8 i))
  | 7 => .int (iN (X 9 i))
  | 8 => .int (iN (X 10 i))
  | _ => nref (G 4) (X 11 i)
def oF5 (G : wG) (X : wM) (i : Int) : Nat → Value
  | 0 => .ref (G 1 (X 19 i))
  | 1 => .int (iN (X 20 i))
  | _ => .ref (G 9 i)
def oF6 (G : wG) (X : wM) (_ : Int) : Nat → Value
  | 0 => .ref (G 20 0)
  | 1 => .ref (G 20 1)
  | 2 => .ref (G 20 2)
  | 3 => .ref (G 20 3)
  | 4 => .ref (G 20 4)
  | 5 => .int (iN (X 18 0))
  | 6 => .int (iN (X 29 0))
  | _ => .long (iL (X 30 0))
def wf1 (X : wM) (f : Int) : Prop := (0 ≤ X 3 f ∧ X 3 f ≤ 60) ∧ (0 ≤ X 32 f ∧ X 32 f ≤ 1) ∧ ∀ k, 0 ≤ k → k < X 3 f → 0 ≤ X 2 (60 * f + k) ∧ X 2 (60 * f + k) < X 12 0
def wf2 (X : wM) (q : Int) : Prop := (0 ≤ X 34 q ∧ X 34 q < X 1 0) ∧ (1 ≤ X 35 q ∧ X 35 q ≤ 4) ∧ (0 ≤ X 26 q ∧ X 26 q ≤ 60000) ∧ (0 ≤ X 24 q ∧ X 24 q ≤ 9) ∧ 0 ≤ X 27 q ∧ X 27 q ≤ 1
def wf3 (X : wM) (r : Int) : Prop := (0 ≤ X 13 r ∧ X 13 r < X 1 0) ∧ (0 ≤ X 16 r ∧ X 16 r ≤ 60) ∧ ∀ k, 0 ≤ k → k < X 16 r → 0 ≤ X 14 (60 * r + k) ∧ X 14 (60 * r + k) < X 12 0
def wf4 (X : wM) (s : Int) : Prop := (0 ≤ X 4 s ∧ X 4 s < X 1 0) ∧ (0 ≤ X 5 s ∧ X 5 s ≤ 999) ∧ (0 ≤ X 6 s ∧ X 6 s ≤ 9) ∧ (-1 ≤ X 7 s ∧ X 7 s < X 17 0) ∧ (0 ≤ X 8 s ∧ X 8 s ≤ 4) ∧ (0 ≤ X 9 s ∧ X 9 s ≤ 999) ∧ (-1 ≤ X 10 s ∧ X 10 s ≤ 99) ∧ (-1 ≤ X 11 s ∧ X 11 s < X 12 0) ∧ 0 ≤ X 31 s ∧ X 31 s ≤ 100
def wf5 (X : wM) (v : Int) : Prop := (0 ≤ X 19 v ∧ X 19 v < X 1 0) ∧ 0 ≤ X 20 v ∧ X 20 v ≤ 7
def wf6 (X : wM) : Prop := (0 ≤ X 1 0 ∧ X 1 0 ≤ 6) ∧ (0 ≤ X 12 0 ∧ X 12 0 ≤ 60) ∧ (0 ≤ X 17 0 ∧ X 17 0 ≤ 24) ∧ (0 ≤ X 21 0 ∧ X 21 0 ≤ 10) ∧ (0 ≤ X 28 0 ∧ X 28 0 ≤ 20) ∧ (2 ≤ X 18 0 ∧ X 18 0 ≤ 50) ∧ 0 ≤ X 29 0 ∧ X 29 0 ≤ 60000
/-- the numbers fit -/
def WF (X : wM) : Prop := wf6 X ∧ (∀ i, 0 ≤ i → i < X 1 0 → wf1 X i) ∧ (∀ i, 0 ≤ i → i < X 28 0 → wf2 X i) ∧ (∀ i, 0 ≤ i → i < X 17 0 → wf3 X i) ∧ (∀ i, 0 ≤ i → i < X 12 0 → wf4 X i) ∧ ∀ i, 0 ≤ i → i < X 21 0 → wf5 X i
/-- objects of one kind -/
def HO (S : wS) (G : wG) (T : Nat → Nat × Int) (kd : Nat) (n : Int) (m : Nat) (F : Int → Nat → Value) : Prop := ∀ i, 0 ≤ i → i < n → sK S (G kd i) = kd ∧ T (G kd i) = (kd, i) ∧ ∀ j, j < m → sG S (64 * kd + j) (G kd i) = F i j
/-- rows of bits of the versions -/
def HV (S : wS) (G : wG) (T : Nat → Nat × Int) (n : Int) (B : Int → Int) : Prop := ∀ v, 0 ≤ v → v < n → sK S (G 9 v) = 10 ∧ T (G 9 v) = (9, v) ∧ sN S (G 9 v) = 960 ∧ ∀ i : Nat, i < 960 → ∃ w : Int64, sE S 10 (G 9 v) i = .long w ∧ ∀ b : Nat, b < 64 → bN (w.toBitVec.getLsbD b) = B (61440 * v + 64 * i + b)
def HL (E : Nat) (S : wS) (G : wG) (T : Nat → Nat × Int) (X : wM) : Prop :=
  (AL E S T (G 20 0) (20, 0) (X 1 0) (fun k => G 1 k) ∧ AL E S T (G 20 1) (20, 1) (X 12 0) (fun k => G 4 k) ∧ AL E S T (G 20 2) (20, 2) (X 17 0) (fun k => G 3 k) ∧ AL E S T (G 20 3) (20, 3) (X 21 0) (fun k => G 5 k) ∧ AL E S T (G 20 4) (20, 4) (X 28 0) (fun k => G 2 k)) ∧
  (∀ f, 0 ≤ f → f < X 1 0 → AL E S T (G 21 f) (21, f) (X 3 f) (fun k => G 4 (X 2 (60 * f + k)))) ∧
  ∀ r, 0 ≤ r → r < X 17 0 → AL E S T (G 22 r) (22, r) (X 16 r) (fun k => G 4 (X 14 (60 * r + k)))
def HH (E : Nat) (S : wS) (G : wG) (T : Nat → Nat × Int) (X : wM) : Prop :=
  HO S G T 1 (X 1 0) 2 (oF1 G X) ∧ HO S G T 2 (X 28 0) 5 (oF2 G X) ∧ HO S G T 3 (X 17 0) 3 (oF3 G X) ∧ HO S G T 4 (X 12 0) 10 (oF4 G X) ∧ HO S G T 5 (X 21 0) 3 (oF5 G X) ∧ HO S G T 6 1 8 (oF6 G X) ∧ HL E S G T X ∧ HV S G T (X 21 0) (X 33)
/-- THE CLASS's object G 6 0 in the memory S with the numbers X -/
def RC (E : Nat) (S : wS) (G : wG) (X : wM) : Prop := WF X ∧ ∃ T, HH E S G T X
/-- what is not the class's -/
def isO (S : wS) (c : Nat) : Prop := sK S c = 7 ∨ sK S c = 9 ∨ sK S c = 11 ∨ sK S c = 13 ∨ (sK S c = 10 ∧ sN S c ≠ 960)
def ceq (S S' : wS) (c : Nat) : Prop := sK S' c = sK S c ∧ sN S' c = sN S c ∧ (∀ f, sG S' f c = sG S f c) ∧ ∀ k i, sE S' k c i = sE S k c i
def cF (S S' : wS) : Prop := ∀ c, sK S c ≠ 0 → sK S' c = sK S c ∧ sN S' c = sN S c ∧ (isO S c → ceq S S' c)
theorem ceq.rf {S : wS} {c : Nat} : ceq S S c := ⟨rfl, rfl, fun _ => rfl, fun _ _ => rfl⟩
theorem ceq.tr {S1 S2 S3 : wS} {c : Nat} (h : ceq S1 S2 c) (h' : ceq S2 S3 c) : ceq S1 S3 c := ⟨h'.1.trans h.1, h'.2.1.trans h.2.1, fun f => (h'.2.2.1 f).trans (h.2.2.1 f), fun k i => (h'.2.2.2 k i).trans (h.2.2.2 k i)⟩
theorem cF.rf {S : wS} : cF S S := fun _ _ => ⟨rfl, rfl, fun _ => ceq.rf⟩
theorem cF.tr {S1 S2 S3 : wS} (h : cF S1 S2) (h' : cF S2 S3) : cF S1 S3 := by
  intro c hc
  obtain ⟨a1, a2, a3⟩ := h c hc
  obtain ⟨b1, b2, b3⟩ := h' c (by rw [a1]; exact hc)
  refine ⟨b1.trans a1, b2.trans a2, fun ho => (a3 ho).tr (b3 ?_)⟩
  unfold isO at *
  rw [a1, a2]
  exact ho
theorem cF.put {S0 S : wS} {kd j a : Nat} {v : Value} (h : cF S0 S) (hk : sK S a = kd) (h6 : kd ≤ 6 ∨ kd = 8) : cF S0 (sPut S (64 * kd + j) a v) := by
  refine cF.tr h (fun c hc => ⟨rfl, rfl, fun ho => ⟨rfl, rfl, fun f => sG_put' (fun z => ?_), fun _ _ => rfl⟩⟩)
  unfold isO at ho
  rw [z.2, hk] at ho
  omega
theorem cF.putE {S0 S : wS} {a i : Nat} {v : Value} (h : cF S0 S) (hk : sK S a = 10) (h6 : sN S a = 960) : cF S0 (sPutE S 10 a i v) := by
  refine cF.tr h (fun c hc => ⟨rfl, rfl, fun ho => ⟨rfl, rfl, fun f => rfl, fun k i9 => sE_putE' (fun z => ?_)⟩⟩)
  unfold isO at ho
  rw [z.2.1, hk] at ho
  omega
theorem cF.new {S0 S : wS} {kd a : Nat} {f : Nat → Value} (h : cF S0 S) (ha : sK S a = 0) : cF S0 (sNew S kd a f) := by
  refine cF.tr h (fun c hc => ?_)
  have hne : c ≠ a := fun z => hc (by rw [z]; exact ha)
  exact ⟨sK_new' hne, rfl, fun _ => ⟨sK_new' hne, rfl, fun f => sG_new' hne, fun _ _ => rfl⟩⟩
theorem cF.newA {S0 S : wS} {kd a n : Nat} {f : Nat → Value} (h : cF S0 S) (ha : sK S a = 0) : cF S0 (sNewA S kd a n f) := by
  refine cF.tr h (fun c hc => ?_)
  have hne : c ≠ a := fun z => hc (by rw [z]; exact ha)
  exact ⟨sK_newA' hne, sN_newA' hne, fun _ => ⟨sK_newA' hne, sN_newA' hne, fun f => rfl, fun _ _ => sE_newA' hne⟩⟩
theorem HO.cg {S : wS} {G : wG} {T : Nat → Nat × Int} {kd : Nat} {n n' : Int} {m : Nat} {F F' : Int → Nat → Value} (h : HO S G T kd n m F) (hn : n' = n) (e : ∀ i, 0 ≤ i → i < n → ∀ j, j < m → F' i j = F i j) : HO S G T kd n' m F' :=
  fun i h1 h2 => ⟨(h i h1 (hn ▸ h2)).1, (h i h1 (hn ▸ h2)).2.1, fun j hj => by rw [e i h1 (hn ▸ h2) j hj]; exact (h i h1 (hn ▸ h2)).2.2 j hj⟩
theorem HO.kp {S S' : wS} {G : wG} {T T' : Nat → Nat × Int} {kd : Nat} {n : Int} {m : Nat} {F : Int → Nat → Value} {P : Nat × Int → Prop} (h : HO S G T kd n m F) (h1 : 1 ≤ kd) (K : ∀ c, sK S c ≠ 0 → P (T c) → ceq S S' c ∧ T' c = T c) (ht : ∀ i, P (kd, i)) : HO S' G T' kd n m F := by
  intro i i1 i2
  obtain ⟨a1, a2, a3⟩ := h i i1 i2
  obtain ⟨⟨k1, k2, k3, k4⟩, k5⟩ := K (G kd i) (by omega) (by rw [a2]; exact ht i)
  exact ⟨k1.trans a1, k5.trans a2, fun j hj => (k3 _).trans (a3 j hj)⟩
theorem HV.kp {S S' : wS} {G : wG} {T T' : Nat → Nat × Int} {n : Int} {B : Int → Int} {P : Nat × Int → Prop} (h : HV S G T n B) (K : ∀ c, sK S c ≠ 0 → P (T c) → ceq S S' c ∧ T' c = T c) (ht : ∀ i, P (9, i)) : HV S' G T' n B := by
  intro i i1 i2
  obtain ⟨a1, a2, a3, a4⟩ := h i i1 i2
  obtain ⟨⟨k1, k2, k3, k4⟩, k5⟩ := K (G 9 i) (by omega) (by rw [a2]; exact ht i)
  refine ⟨k1.trans a1, k5.trans a2, k2.trans a3, fun j hj => ?_⟩
  obtain ⟨w, w1, w2⟩ := a4 j hj
  exact ⟨w, (k4 _ _).trans w1, w2⟩
theorem AL.kp {E : Nat} {S S' : wS} {T T' : Nat → Nat × Int} {a : Nat} {t : Nat × Int} {n : Int} {e : Int → Nat} {P : Nat × Int → Prop} (h : AL E S T a t n e) (K : ∀ c, sK S c ≠ 0 → P (T c) → ceq S S' c ∧ T' c = T c) (h1 : P t) (h2 : P (t.1 + 10, t.2)) : AL E S' T' a t n e := by
  obtain ⟨a1, a2, ⟨z, a3⟩, a4, a5, b, a6, a7⟩ := h
  obtain ⟨⟨k1, k2, k3, k4⟩, k5⟩ := K a (by omega) (by rw [a2]; exact h1)
  refine ⟨k1.trans a1, k5.trans a2, ⟨z, (k3 _).trans a3⟩, (k3 _).trans a4, a5, b, (k3 _).trans a6, ?_⟩
  rcases a7 with a7 | ⟨g1, g2, g3, g4, g5, g6⟩
  · exact Or.inl a7
  · obtain ⟨⟨m1, m2, m3, m4⟩, m5⟩ := K b (by omega) (by rw [g2]; exact h2)
    exact Or.inr ⟨m1.trans g1, m5.trans g2, by rw [m2]; exact g3, by rw [m2]; exact g4, by rw [m2]; exact g5, fun k hk => (m4 _ _).trans (g6 k hk)⟩
theorem AL.cg {E : Nat} {S : wS} {T : Nat → Nat × Int} {a : Nat} {t : Nat × Int} {n n' : Int} {e e' : Int → Nat} (h : AL E S T a t n e) (hn : n' = n) (he : ∀ k, 0 ≤ k → k < n → e' k = e k) : AL E S T a t n' e' := by
  subst hn
  obtain ⟨a1, a2, a3, a4, a5, b, a6, a7⟩ := h
  refine ⟨a1, a2, a3, a4, a5, b, a6, ?_⟩
  rcases a7 with a7 | ⟨g1, g2, g3, g4, g5, g6⟩
  · exact Or.inl a7
  · exact Or.inr ⟨g1, g2, g3, g4, g5, fun k hk => by rw [he k (by omega) hk]; exact g6 k hk⟩
/-- all lists stand, where nothing of them is touched -/
theorem HL.kp {E : Nat} {S S' : wS} {G : wG} {T T' : Nat → Nat × Int} {X : wM} {P : Nat × Int → Prop} (h : HL E S G T X) (K : ∀ c, sK S c ≠ 0 → P (T c) → ceq S S' c ∧ T' c = T c) (h2 : ∀ j i, 20 ≤ j → P (j, i)) : HL E S' G T' X := by
  obtain ⟨⟨b0, b1, b2, b3, b4⟩, c1, c2⟩ := h
  refine ⟨⟨b0.kp K (h2 _ _ (by decide)) (h2 _ _ (by decide)), b1.kp K (h2 _ _ (by decide)) (h2 _ _ (by decide)), b2.kp K (h2 _ _ (by decide)) (h2 _ _ (by decide)), b3.kp K (h2 _ _ (by decide)) (h2 _ _ (by decide)), b4.kp K (h2 _ _ (by decide)) (h2 _ _ (by decide))⟩, fun f g1 g2 => ?_, fun r g1 g2 => ?_⟩
  · exact (c1 f g1 g2).kp K (h2 _ _ (by omega)) (h2 _ _ (show 20 ≤ 21 + 10 by omega))
  · exact (c2 r g1 g2).kp K (h2 _ _ (by omega)) (h2 _ _ (show 20 ≤ 22 + 10 by omega))
theorem HO.put {S : wS} {G : wG} {T : Nat → Nat × Int} {kd : Nat} {n : Int} {m : Nat} {F : Int → Nat → Value} {i : Int} {j : Nat} {v : Value} (h : HO S G T kd n m F) (hi : 0 ≤ i ∧ i < n) : HO (sPut S (64 * kd + j) (G kd i) v) G T kd n m (fun i' j' => if i' = i ∧ j' = j then v else F i' j') := by
  intro i' i1 i2
  obtain ⟨a1, a2, a3⟩ := h i' i1 i2
  obtain ⟨b1, b2, b3⟩ := h i hi.1 hi.2
  refine ⟨a1, a2, fun j' hj' => ?_⟩
  show _ = (if i' = i ∧ j' = j then v else F i' j')
  by_cases e : i' = i ∧ j' = j
  · rw [if_pos e, e.1, e.2]; exact sG_put
  · rw [if_neg e, sG_put' (fun z => e ⟨?_, by omega⟩)]
    · exact a3 j' hj'
    · have := congrArg T z.2
      rw [a2, b2] at this
      exact congrArg Prod.snd this
/-- another tag -/
def nT (t0 t : Nat × Int) : Prop := t ≠ t0
theorem ceq_put {S : wS} {T : Nat → Nat × Int} {f a : Nat} {v : Value} {t0 : Nat × Int} (ha : T a = t0) : ∀ c, sK S c ≠ 0 → nT t0 (T c) → ceq S (sPut S f a v) c ∧ T c = T c :=
  fun c _ h => ⟨⟨rfl, rfl, fun g => sG_put' (fun z => h (by rw [z.2]; exact ha)), fun _ _ => rfl⟩, rfl⟩

theorem RC.k1 {E : Nat} {S : wS} {G : wG} {X : wM} {i9 : Int} (h : RC E S G X) (hi : 0 ≤ i9 ∧ i9 < X 1 0) : sK S (G 1 i9) = 1 := by
  obtain ⟨T, hT⟩ := h.2
  exact (hT.1 i9 hi.1 hi.2).1
theorem RC.g1 {E : Nat} {S : wS} {G : wG} {X : wM} {i9 : Int} (h : RC E S G X) (hi : 0 ≤ i9 ∧ i9 < X 1 0) {j : Nat} (hj : j < 2) : sG S (64 * 1 + j) (G 1 i9) = oF1 G X i9 j := by
  obtain ⟨T, hT⟩ := h.2
  exact (hT.1 i9 hi.1 hi.2).2.2 j hj
theorem RC.inj1 {E : Nat} {S : wS} {G : wG} {X : wM} {a b : Int} (h : RC E S G X) (ha : 0 ≤ a ∧ a < X 1 0) (hb : 0 ≤ b ∧ b < X 1 0) (e : G 1 a = G 1 b) : a = b := by
  obtain ⟨T, hT⟩ := h.2
  have h1 := (hT.1 a ha.1 ha.2).2.1
  have h2 := (hT.1 b hb.1 hb.2).2.1
  rw [e, h2] at h1
  exact (congrArg Prod.snd h1).symm
theorem RC.w1 {E : Nat} {S : wS} {G : wG} {X : wM} {i9 : Int} (h : RC E S G X) (hi : 0 ≤ i9 ∧ i9 < X 1 0) : wf1 X i9 := h.1.2.1 i9 hi.1 hi.2
theorem RC.k2 {E : Nat} {S : wS} {G : wG} {X : wM} {i9 : Int} (h : RC E S G X) (hi : 0 ≤ i9 ∧ i9 < X 28 0) : sK S (G 2 i9) = 2 := by
  obtain ⟨T, hT⟩ := h.2
  exact (hT.2.1 i9 hi.1 hi.2).1
theorem RC.g2 {E : Nat} {S : wS} {G : wG} {X : wM} {i9 : Int} (h : RC E S G X) (hi : 0 ≤ i9 ∧ i9 < X 28 0) {j : Nat} (hj : j < 5) : sG S (64 * 2 + j) (G 2 i9) = oF2 G X i9 j := by
  obtain ⟨T, hT⟩ := h.2
  exact (hT.2.1 i9 hi.1 hi.2).2.2 j hj
theorem RC.inj2 {E : Nat} {S : wS} {G : wG} {X : wM} {a b : Int} (h : RC E S G X) (ha : 0 ≤ a ∧ a < X 28 0) (hb : 0 ≤ b ∧ b < X 28 0) (e : G 2 a = G 2 b) : a = b := by
  obtain ⟨T, hT⟩ := h.2
  have h1 := (hT.2.1 a ha.1 ha.2).2.1
  have h2 := (hT.2.1 b hb.1 hb.2).2.1
  rw [e, h2] at h1
  exact (congrArg Prod.snd h1).symm
theorem RC.w2 {E : Nat} {S : wS} {G : wG} {X : wM} {i9 : Int} (h : RC E S G X) (hi : 0 ≤ i9 ∧ i9 < X 28 0) : wf2 X i9 := h.1.2.2.1 i9 hi.1 hi.2
theorem RC.k3 {E : Nat} {S : wS} {G : wG} {X : wM} {i9 : Int} (h : RC E S G X) (hi : 0 ≤ i9 ∧ i9 < X 17 0) : sK S (G 3 i9) = 3 := by
  obtain ⟨T, hT⟩ := h.2
  exact (hT.2.2.1 i9 hi.1 hi.2).1
theorem RC.g3 {E : Nat} {S : wS} {G : wG} {X : wM} {i9 : Int} (h : RC E S G X) (hi : 0 ≤ i9 ∧ i9 < X 17 0) {j : Nat} (hj : j < 3) : sG S (64 * 3 + j) (G 3 i9) = oF3 G X i9 j := by
  obtain ⟨T, hT⟩ := h.2
  exact (hT.2.2.1 i9 hi.1 hi.2).2.2 j hj
theorem RC.inj3 {E : Nat} {S : wS} {G : wG} {X : wM} {a b : Int} (h : RC E S G X) (ha : 0 ≤ a ∧ a < X 17 0) (hb : 0 ≤ b ∧ b < X 17 0) (e : G 3 a = G 3 b) : a = b := by
  obtain ⟨T, hT⟩ := h.2
  have h1 := (hT.2.2.1 a ha.1 ha.2).2.1
  have h2 := (hT.2.2.1 b hb.1 hb.2).2.1
  rw [e, h2] at h1
  exact (congrArg Prod.snd h1).symm
theorem RC.w3 {E : Nat} {S : wS} {G : wG} {X : wM} {i9 : Int} (h : RC E S G X) (hi : 0 ≤ i9 ∧ i9 < X 17 0) : wf3 X i9 := h.1.2.2.2.1 i9 hi.1 hi.2
theorem RC.k4 {E : Nat} {S : wS} {G : wG} {X : wM} {i9 : Int} (h : RC E S G X) (hi : 0 ≤ i9 ∧ i9 < X 12 0) : sK S (G 4 i9) = 4 := by
  obtain ⟨T, hT⟩ := h.2
  exact (hT.2.2.2.1 i9 hi.1 hi.2).1
theorem RC.g4 {E : Nat} {S : wS} {G : wG} {X : wM} {i9 : Int} (h : RC E S G X) (hi : 0 ≤ i9 ∧ i9 < X 12 0) {j : Nat} (hj : j < 10) : sG S (64 * 4 + j) (G 4 i9) = oF4 G X i9 j := by
  obtain ⟨T, hT⟩ := h.2
  exact (hT.2.2.2.1 i9 hi.1 hi.2).2.2 j hj
theorem RC.inj4 {E : Nat} {S : wS} {G : wG} {X : wM} {a b : Int} (h : RC E S G X) (ha : 0 ≤ a ∧ a < X 12 0) (hb : 0 ≤ b ∧ b < X 12 0) (e : G 4 a = G 4 b) : a = b := by
  obtain ⟨T, hT⟩ := h.2
  have h1 := (hT.2.2.2.1 a ha.1 ha.2).2.1
  have h2 := (hT.2.2.2.1 b hb.1 hb.2).2.1
  rw [e, h2] at h1
  exact (congrArg Prod.snd h1).symm
theorem RC.w4 {E : Nat} {S : wS} {G : wG} {X : wM} {i9 : Int} (h : RC E S G X) (hi : 0 ≤ i9 ∧ i9 < X 12 0) : wf4 X i9 := h.1.2.2.2.2.1 i9 hi.1 hi.2
theorem RC.k5 {E : Nat} {S : wS} {G : wG} {X : wM} {i9 : Int} (h : RC E S G X) (hi : 0 ≤ i9 ∧ i9 < X 21 0) : sK S (G 5 i9) = 5 := by
  obtain ⟨T, hT⟩ := h.2
  exact (hT.2.2.2.2.1 i9 hi.1 hi.2).1
theorem RC.g5 {E : Nat} {S : wS} {G : wG} {X : wM} {i9 : Int} (h : RC E S G X) (hi : 0 ≤ i9 ∧ i9 < X 21 0) {j : Nat} (hj : j < 3) : sG S (64 * 5 + j) (G 5 i9) = oF5 G X i9 j := by
  obtain ⟨T, hT⟩ := h.2
  exact (hT.2.2.2.2.1 i9 hi.1 hi.2).2.2 j hj
theorem RC.inj5 {E : Nat} {S : wS} {G : wG} {X : wM} {a b : Int} (h : RC E S G X) (ha : 0 ≤ a ∧ a < X 21 0) (hb : 0 ≤ b ∧ b < X 21 0) (e : G 5 a = G 5 b) : a = b := by
  obtain ⟨T, hT⟩ := h.2
  have h1 := (hT.2.2.2.2.1 a ha.1 ha.2).2.1
  have h2 := (hT.2.2.2.2.1 b hb.1 hb.2).2.1
  rw [e, h2] at h1
  exact (congrArg Prod.snd h1).symm
theorem RC.w5 {E : Nat} {S : wS} {G : wG} {X : wM} {i9 : Int} (h : RC E S G X) (hi : 0 ≤ i9 ∧ i9 < X 21 0) : wf5 X i9 := h.1.2.2.2.2.2 i9 hi.1 hi.2
theorem RC.k6 {E : Nat} {S : wS} {G : wG} {X : wM} (h : RC E S G X)  : sK S (G 6 0) = 6 := by
  obtain ⟨T, hT⟩ := h.2
  exact (hT.2.2.2.2.2.1 0 (by decide) (by decide)).1
theorem RC.g6 {E : Nat} {S : wS} {G : wG} {X : wM} (h : RC E S G X)  {j : Nat} (hj : j < 8) : sG S (64 * 6 + j) (G 6 0) = oF6 G X 0 j := by
  obtain ⟨T, hT⟩ := h.2
  exact (hT.2.2.2.2.2.1 0 (by decide) (by decide)).2.2 j hj
theorem RC.w6 {E : Nat} {S : wS} {G : wG} {X : wM} (h : RC E S G X) : wf6 X := h.1.1
theorem RC.q_row {E : Nat} {S : wS} {G : wG} {X : wM} {i9 : Int} (h : RC E S G X) (hi : 0 ≤ i9 ∧ i9 < X 1 0) : sK S (G 21 i9) = 8 := by
  obtain ⟨T, hT⟩ := h.2
  exact (hT.2.2.2.2.2.2.1.2.1 i9 hi.1 hi.2).1
theorem z_row (l : Launch) (hfl : l.stackTraces = false) {E : Nat} {S : wS} {G : wG} {X : wM} {i9 : Int} (h : RC E S G X) (hi : 0 ≤ i9 ∧ i9 < X 1 0) : Ct l yJx4a65c_size_8abf5 cJx4a65c_size_8abf5 1 (some FieldType.int) 1 0 0 [.ref (G 21 i9)] S (fun r S' => r = .inl (some (.int (iN (X 3 i9)))) ∧ S' = S) := by
  obtain ⟨T, hT⟩ := h.2
  obtain ⟨a1, -, -, a4, -⟩ := hT.2.2.2.2.2.2.1.2.1 i9 hi.1 hi.2
  exact c_alSize l hfl a1 a4
theorem e_row (l : Launch) (hfl : l.stackTraces = false) {E : Nat} {S : wS} {G : wG} {X : wM} {i9 : Int} (h : RC E S G X) (hi : 0 ≤ i9 ∧ i9 < X 1 0) : Ct l yJx4a65c_isEmpty_aae02 cJx4a65c_isEmpty_aae02 1 (some FieldType.boolean) 1 0 0 [.ref (G 21 i9)] S (fun r S' => r = .inl (some (.int (iN (bN (decide (X 3 i9 = 0)))))) ∧ S' = S) := by
  obtain ⟨T, hT⟩ := h.2
  obtain ⟨a1, -, -, a4, a5, -⟩ := hT.2.2.2.2.2.2.1.2.1 i9 hi.1 hi.2
  exact c_alEmpty l hfl a1 a4 (by unfold rg; omega)
theorem g_row (l : Launch) (hfl : l.stackTraces = false) {E : Nat} {S : wS} {G : wG} {X : wM} {i9 : Int} {k9 : Int} (h : RC E S G X) (hi : 0 ≤ i9 ∧ i9 < X 1 0) (hk : 0 ≤ k9 ∧ k9 < X 3 i9) : Ct l yJx4a65c_get_915e3 cJx4a65c_get_915e3 2 (some (FieldType.object "java/lang/Object")) 3 0 0 [.ref (G 21 i9), .int (iN k9)] S (fun r S' => r = .inl (some (.ref (G 4 (X 2 (60 * i9 + k9))))) ∧ S' = S ∧ (0 ≤ X 2 (60 * i9 + k9) ∧ X 2 (60 * i9 + k9) < X 12 0)) := by
  obtain ⟨T, hT⟩ := h.2
  exact c_alGet l hfl (hT.2.2.2.2.2.2.1.2.1 i9 hi.1 hi.2) hk ((h.w1 hi).2.2 k9 hk.1 hk.2)
theorem RC.q_rrow {E : Nat} {S : wS} {G : wG} {X : wM} {i9 : Int} (h : RC E S G X) (hi : 0 ≤ i9 ∧ i9 < X 17 0) : sK S (G 22 i9) = 8 := by
  obtain ⟨T, hT⟩ := h.2
  exact (hT.2.2.2.2.2.2.1.2.2 i9 hi.1 hi.2).1
theorem z_rrow (l : Launch) (hfl : l.stackTraces = false) {E : Nat} {S : wS} {G : wG} {X : wM} {i9 : Int} (h : RC E S G X) (hi : 0 ≤ i9 ∧ i9 < X 17 0) : Ct l yJx4a65c_size_8abf5 cJx4a65c_size_8abf5 1 (some FieldType.int) 1 0 0 [.ref (G 22 i9)] S (fun r S' => r = .inl (some (.int (iN (X 16 i9)))) ∧ S' = S) := by
  obtain ⟨T, hT⟩ := h.2
  obtain ⟨a1, -, -, a4, -⟩ := hT.2.2.2.2.2.2.1.2.2 i9 hi.1 hi.2
  exact c_alSize l hfl a1 a4
theorem e_rrow (l : Launch) (hfl : l.stackTraces = false) {E : Nat} {S : wS} {G : wG} {X : wM} {i9 : Int} (h : RC E S G X) (hi : 0 ≤ i9 ∧ i9 < X 17 0) : Ct l yJx4a65c_isEmpty_aae02 cJx4a65c_isEmpty_aae02 1 (some FieldType.boolean) 1 0 0 [.ref (G 22 i9)] S (fun r S' => r = .inl (some (.int (iN (bN (decide (X 16 i9 = 0)))))) ∧ S' = S) := by
  obtain ⟨T, hT⟩ := h.2
  obtain ⟨a1, -, -, a4, a5, -⟩ := hT.2.2.2.2.2.2.1.2.2 i9 hi.1 hi.2
  exact c_alEmpty l hfl a1 a4 (by unfold rg; omega)
theorem g_rrow (l : Launch) (hfl : l.stackTraces = false) {E : Nat} {S : wS} {G : wG} {X : wM} {i9 : Int} {k9 : Int} (h : RC E S G X) (hi : 0 ≤ i9 ∧ i9 < X 17 0) (hk : 0 ≤ k9 ∧ k9 < X 16 i9) : Ct l yJx4a65c_get_915e3 cJx4a65c_get_915e3 2 (some (FieldType.object "java/lang/Object")) 3 0 0 [.ref (G 22 i9), .int (iN k9)] S (fun r S' => r = .inl (some (.ref (G 4 (X 14 (60 * i9 + k9))))) ∧ S' = S ∧ (0 ≤ X 14 (60 * i9 + k9) ∧ X 14 (60 * i9 + k9) < X 12 0)) := by
  obtain ⟨T, hT⟩ := h.2
  exact c_alGet l hfl (hT.2.2.2.2.2.2.1.2.2 i9 hi.1 hi.2) hk ((h.w3 hi).2.2 k9 hk.1 hk.2)
theorem RC.q_L0 {E : Nat} {S : wS} {G : wG} {X : wM} (h : RC E S G X)  : sK S (G 20 0) = 8 := by
  obtain ⟨T, hT⟩ := h.2
  exact (hT.2.2.2.2.2.2.1.1.1).1
theorem z_L0 (l : Launch) (hfl : l.stackTraces = false) {E : Nat} {S : wS} {G : wG} {X : wM} (h : RC E S G X)  : Ct l yJx4a65c_size_8abf5 cJx4a65c_size_8abf5 1 (some FieldType.int) 1 0 0 [.ref (G 20 0)] S (fun r S' => r = .inl (some (.int (iN (X 1 0)))) ∧ S' = S) := by
  obtain ⟨T, hT⟩ := h.2
  obtain ⟨a1, -, -, a4, -⟩ := hT.2.2.2.2.2.2.1.1.1
  exact c_alSize l hfl a1 a4
theorem e_L0 (l : Launch) (hfl : l.stackTraces = false) {E : Nat} {S : wS} {G : wG} {X : wM} (h : RC E S G X)  : Ct l yJx4a65c_isEmpty_aae02 cJx4a65c_isEmpty_aae02 1 (some FieldType.boolean) 1 0 0 [.ref (G 20 0)] S (fun r S' => r = .inl (some (.int (iN (bN (decide (X 1 0 = 0)))))) ∧ S' = S) := by
  obtain ⟨T, hT⟩ := h.2
  obtain ⟨a1, -, -, a4, a5, -⟩ := hT.2.2.2.2.2.2.1.1.1
  exact c_alEmpty l hfl a1 a4 (by unfold rg; omega)
theorem g_L0 (l : Launch) (hfl : l.stackTraces = false) {E : Nat} {S : wS} {G : wG} {X : wM} {k9 : Int} (h : RC E S G X)  (hk : 0 ≤ k9 ∧ k9 < X 1 0) : Ct l yJx4a65c_get_915e3 cJx4a65c_get_915e3 2 (some (FieldType.object "java/lang/Object")) 3 0 0 [.ref (G 20 0), .int (iN k9)] S (fun r S' => r = .inl (some (.ref (G 1 k9))) ∧ S' = S ∧ True) := by
  obtain ⟨T, hT⟩ := h.2
  exact c_alGet l hfl (hT.2.2.2.2.2.2.1.1.1) hk (trivial)
theorem RC.q_L1 {E : Nat} {S : wS} {G : wG} {X : wM} (h : RC E S G X)  : sK S (G 20 1) = 8 := by
  obtain ⟨T, hT⟩ := h.2
  exact (hT.2.2.2.2.2.2.1.1.2.1).1
theorem z_L1 (l : Launch) (hfl : l.stackTraces = false) {E : Nat} {S : wS} {G : wG} {X : wM} (h : RC E S G X)  : Ct l yJx4a65c_size_8abf5 cJx4a65c_size_8abf5 1 (some FieldType.int) 1 0 0 [.ref (G 20 1)] S (fun r S' => r = .inl (some (.int (iN (X 12 0)))) ∧ S' = S) := by
  obtain ⟨T, hT⟩ := h.2
  obtain ⟨a1, -, -, a4, -⟩ := hT.2.2.2.2.2.2.1.1.2.1
  exact c_alSize l hfl a1 a4
theorem e_L1 (l : Launch) (hfl : l.stackTraces = false) {E : Nat} {S : wS} {G : wG} {X : wM} (h : RC E S G X)  : Ct l yJx4a65c_isEmpty_aae02 cJx4a65c_isEmpty_aae02 1 (some FieldType.boolean) 1 0 0 [.ref (G 20 1)] S (fun r S' => r = .inl (some (.int (iN (bN (decide (X 12 0 = 0)))))) ∧ S' = S) := by
  obtain ⟨T, hT⟩ := h.2
  obtain ⟨a1, -, -, a4, a5, -⟩ := hT.2.2.2.2.2.2.1.1.2.1
  exact c_alEmpty l hfl a1 a4 (by unfold rg; omega)
theorem g_L1 (l : Launch) (hfl : l.stackTraces = false) {E : Nat} {S : wS} {G : wG} {X : wM} {k9 : Int} (h : RC E S G X)  (hk : 0 ≤ k9 ∧ k9 < X 12 0) : Ct l yJx4a65c_get_915e3 cJx4a65c_get_915e3 2 (some (FieldType.object "java/lang/Object")) 3 0 0 [.ref (G 20 1), .int (iN k9)] S (fun r S' => r = .inl (some (.ref (G 4 k9))) ∧ S' = S ∧ True) := by
  obtain ⟨T, hT⟩ := h.2
  exact c_alGet l hfl (hT.2.2.2.2.2.2.1.1.2.1) hk (trivial)
theorem RC.q_L2 {E : Nat} {S : wS} {G : wG} {X : wM} (h : RC E S G X)  : sK S (G 20 2) = 8 := by
  obtain ⟨T, hT⟩ := h.2
  exact (hT.2.2.2.2.2.2.1.1.2.2.1).1
theorem z_L2 (l : Launch) (hfl : l.stackTraces = false) {E : Nat} {S : wS} {G : wG} {X : wM} (h : RC E S G X)  : Ct l yJx4a65c_size_8abf5 cJx4a65c_size_8abf5 1 (some FieldType.int) 1 0 0 [.ref (G 20 2)] S (fun r S' => r = .inl (some (.int (iN (X 17 0)))) ∧ S' = S) := by
  obtain ⟨T, hT⟩ := h.2
  obtain ⟨a1, -, -, a4, -⟩ := hT.2.2.2.2.2.2.1.1.2.2.1
  exact c_alSize l hfl a1 a4
theorem e_L2 (l : Launch) (hfl : l.stackTraces = false) {E : Nat} {S : wS} {G : wG} {X : wM} (h : RC E S G X)  : Ct l yJx4a65c_isEmpty_aae02 cJx4a65c_isEmpty_aae02 1 (some FieldType.boolean) 1 0 0 [.ref (G 20 2)] S (fun r S' => r = .inl (some (.int (iN (bN (decide (X 17 0 = 0)))))) ∧ S' = S) := by
  obtain ⟨T, hT⟩ := h.2
  obtain ⟨a1, -, -, a4, a5, -⟩ := hT.2.2.2.2.2.2.1.1.2.2.1
  exact c_alEmpty l hfl a1 a4 (by unfold rg; omega)
theorem g_L2 (l : Launch) (hfl : l.stackTraces = false) {E : Nat} {S : wS} {G : wG} {X : wM} {k9 : Int} (h : RC E S G X)  (hk : 0 ≤ k9 ∧ k9 < X 17 0) : Ct l yJx4a65c_get_915e3 cJx4a65c_get_915e3 2 (some (FieldType.object "java/lang/Object")) 3 0 0 [.ref (G 20 2), .int (iN k9)] S (fun r S' => r = .inl (some (.ref (G 3 k9))) ∧ S' = S ∧ True) := by
  obtain ⟨T, hT⟩ := h.2
  exact c_alGet l hfl (hT.2.2.2.2.2.2.1.1.2.2.1) hk (trivial)
theorem RC.q_L3 {E : Nat} {S : wS} {G : wG} {X : wM} (h : RC E S G X)  : sK S (G 20 3) = 8 := by
  obtain ⟨T, hT⟩ := h.2
  exact (hT.2.2.2.2.2.2.1.1.2.2.2.1).1
theorem z_L3 (l : Launch) (hfl : l.stackTraces = false) {E : Nat} {S : wS} {G : wG} {X : wM} (h : RC E S G X)  : Ct l yJx4a65c_size_8abf5 cJx4a65c_size_8abf5 1 (some FieldType.int) 1 0 0 [.ref (G 20 3)] S (fun r S' => r = .inl (some (.int (iN (X 21 0)))) ∧ S' = S) := by
  obtain ⟨T, hT⟩ := h.2
  obtain ⟨a1, -, -, a4, -⟩ := hT.2.2.2.2.2.2.1.1.2.2.2.1
  exact c_alSize l hfl a1 a4
theorem e_L3 (l : Launch) (hfl : l.stackTraces = false) {E : Nat} {S : wS} {G : wG} {X : wM} (h : RC E S G X)  : Ct l yJx4a65c_isEmpty_aae02 cJx4a65c_isEmpty_aae02 1 (some FieldType.boolean) 1 0 0 [.ref (G 20 3)] S (fun r S' => r = .inl (some (.int (iN (bN (decide (X 21 0 = 0)))))) ∧ S' = S) := by
  obtain ⟨T, hT⟩ := h.2
  obtain ⟨a1, -, -, a4, a5, -⟩ := hT.2.2.2.2.2.2.1.1.2.2.2.1
  exact c_alEmpty l hfl a1 a4 (by unfold rg; omega)
theorem g_L3 (l : Launch) (hfl : l.stackTraces = false) {E : Nat} {S : wS} {G : wG} {X : wM} {k9 : Int} (h : RC E S G X)  (hk : 0 ≤ k9 ∧ k9 < X 21 0) : Ct l yJx4a65c_get_915e3 cJx4a65c_get_915e3 2 (some (FieldType.object "java/lang/Object")) 3 0 0 [.ref (G 20 3), .int (iN k9)] S (fun r S' => r = .inl (some (.ref (G 5 k9))) ∧ S' = S ∧ True) := by
  obtain ⟨T, hT⟩ := h.2
  exact c_alGet l hfl (hT.2.2.2.2.2.2.1.1.2.2.2.1) hk (trivial)
theorem RC.q_L4 {E : Nat} {S : wS} {G : wG} {X : wM} (h : RC E S G X)  : sK S (G 20 4) = 8 := by
  obtain ⟨T, hT⟩ := h.2
  exact (hT.2.2.2.2.2.2.1.1.2.2.2.2).1
theorem z_L4 (l : Launch) (hfl : l.stackTraces = false) {E : Nat} {S : wS} {G : wG} {X : wM} (h : RC E S G X)  : Ct l yJx4a65c_size_8abf5 cJx4a65c_size_8abf5 1 (some FieldType.int) 1 0 0 [.ref (G 20 4)] S (fun r S' => r = .inl (some (.int (iN (X 28 0)))) ∧ S' = S) := by
  obtain ⟨T, hT⟩ := h.2
  obtain ⟨a1, -, -, a4, -⟩ := hT.2.2.2.2.2.2.1.1.2.2.2.2
  exact c_alSize l hfl a1 a4
theorem e_L4 (l : Launch) (hfl : l.stackTraces = false) {E : Nat} {S : wS} {G : wG} {X : wM} (h : RC E S G X)  : Ct l yJx4a65c_isEmpty_aae02 cJx4a65c_isEmpty_aae02 1 (some FieldType.boolean) 1 0 0 [.ref (G 20 4)] S (fun r S' => r = .inl (some (.int (iN (bN (decide (X 28 0 = 0)))))) ∧ S' = S) := by
  obtain ⟨T, hT⟩ := h.2
  obtain ⟨a1, -, -, a4, a5, -⟩ := hT.2.2.2.2.2.2.1.1.2.2.2.2
  exact c_alEmpty l hfl a1 a4 (by unfold rg; omega)
theorem g_L4 (l : Launch) (hfl : l.stackTraces = false) {E : Nat} {S : wS} {G : wG} {X : wM} {k9 : Int} (h : RC E S G X)  (hk : 0 ≤ k9 ∧ k9 < X 28 0) : Ct l yJx4a65c_get_915e3 cJx4a65c_get_915e3 2 (some (FieldType.object "java/lang/Object")) 3 0 0 [.ref (G 20 4), .int (iN k9)] S (fun r S' => r = .inl (some (.ref (G 2 k9))) ∧ S' = S ∧ True) := by
  obtain ⟨T, hT⟩ := h.2
  exact c_alGet l hfl (hT.2.2.2.2.2.2.1.1.2.2.2.2) hk (trivial)
def RCF (E : Nat) (S0 S : wS) (G : wG) (X : wM) : Prop := RC E S G X ∧ cF S0 S
section CROWS
variable {p : Program} {l : Launch} {e : Env} {R : Room} {s : State} {m : MethodId} {args : Array Value} {below : List Frame} {meth : Method} {c : Code} {nL : Nat} {D : wD} {A : Nat → Prop} {Q : State → Prop}
variable {cc : ByteArray} {own : String} {pc : Nat} {lv : List (Nat × Value)} {st : List Value} {S0 S : wS} {k n : Nat} {E0 : Nat} {G : wG} {X : wM}
theorem jg_1_0 (C : Cx p l s m args meth c cc nL own D A) (hR : RCF E0 S0 S G X) {i9 : Int} (hi : 0 ≤ i9 ∧ i9 < X 1 0) {idx : Nat} (hf : FL own idx 1 0) (d : decode cc pc = .ok (.getfield idx, 3)) (kk : J p l e R s m args below meth c nL D A Q (pc + 3) lv (.ref (G 21 i9) :: st) S k n) : J p l e R s m args below meth c nL D A Q pc lv (.ref (G 1 i9) :: st) S k n :=
  j_get C hf (hR.1.k1 hi ) ⟨by decide, by decide, by decide⟩ (hR.1.g1 hi (j := 0) (by decide)) d kk
theorem jg_1_1 (C : Cx p l s m args meth c cc nL own D A) (hR : RCF E0 S0 S G X) {i9 : Int} (hi : 0 ≤ i9 ∧ i9 < X 1 0) {idx : Nat} (hf : FL own idx 1 1) (d : decode cc pc = .ok (.getfield idx, 3)) (kk : (0 ≤ X 32 i9 ∧ X 32 i9 ≤ 1) → J p l e R s m args below meth c nL D A Q (pc + 3) lv (.int (iN (X 32 i9)) :: st) S k n) : J p l e R s m args below meth c nL D A Q pc lv (.ref (G 1 i9) :: st) S k n :=
  j_get C hf (hR.1.k1 hi ) ⟨by decide, by decide, by decide⟩ (hR.1.g1 hi (j := 1) (by decide)) d (kk ((hR.1.w1 hi ).2.1))
theorem jg_2_0 (C : Cx p l s m args meth c cc nL own D A) (hR : RCF E0 S0 S G X) {i9 : Int} (hi : 0 ≤ i9 ∧ i9 < X 28 0) {idx : Nat} (hf : FL own idx 2 0) (d : decode cc pc = .ok (.getfield idx, 3)) (kk : (0 ≤ X 34 i9 ∧ X 34 i9 < X 1 0) → J p l e R s m args below meth c nL D A Q (pc + 3) lv (.ref (G 1 (X 34 i9)) :: st) S k n) : J p l e R s m args below meth c nL D A Q pc lv (.ref (G 2 i9) :: st) S k n :=
  j_get C hf (hR.1.k2 hi ) ⟨by decide, by decide, by decide⟩ (hR.1.g2 hi (j := 0) (by decide)) d (kk ((hR.1.w2 hi ).1))
theorem jg_2_1 (C : Cx p l s m args meth c cc nL own D A) (hR : RCF E0 S0 S G X) {i9 : Int} (hi : 0 ≤ i9 ∧ i9 < X 28 0) {idx : Nat} (hf : FL own idx 2 1) (d : decode cc pc = .ok (.getfield idx, 3)) (kk : (1 ≤ X 35 i9 ∧ X 35 i9 ≤ 4) → J p l e R s m args below meth c nL D A Q (pc + 3) lv (.int (iN (X 35 i9)) :: st) S k n) : J p l e R s m args below meth c nL D A Q pc lv (.ref (G 2 i9) :: st) S k n :=
  j_get C hf (hR.1.k2 hi ) ⟨by decide, by decide, by decide⟩ (hR.1.g2 hi (j := 1) (by decide)) d (kk ((hR.1.w2 hi ).2.1))
theorem jg_2_2 (C : Cx p l s m args meth c cc nL own D A) (hR : RCF E0 S0 S G X) {i9 : Int} (hi : 0 ≤ i9 ∧ i9 < X 28 0) {idx : Nat} (hf : FL own idx 2 2) (d : decode cc pc = .ok (.getfield idx, 3)) (kk : (0 ≤ X 26 i9 ∧ X 26 i9 ≤ 60000) → J p l e R s m args below meth c nL D A Q (pc + 3) lv (.int (iN (X 26 i9)) :: st) S k n) : J p l e R s m args below meth c nL D A Q pc lv (.ref (G 2 i9) :: st) S k n :=
  j_get C hf (hR.1.k2 hi ) ⟨by decide, by decide, by decide⟩ (hR.1.g2 hi (j := 2) (by decide)) d (kk ((hR.1.w2 hi ).2.2.1))
theorem jg_2_3 (C : Cx p l s m args meth c cc nL own D A) (hR : RCF E0 S0 S G X) {i9 : Int} (hi : 0 ≤ i9 ∧ i9 < X 28 0) {idx : Nat} (hf : FL own idx 2 3) (d : decode cc pc = .ok (.getfield idx, 3)) (kk : (0 ≤ X 24 i9 ∧ X 24 i9 ≤ 9) → J p l e R s m args below meth c nL D A Q (pc + 3) lv (.int (iN (X 24 i9)) :: st) S k n) : J p l e R s m args below meth c nL D A Q pc lv (.ref (G 2 i9) :: st) S k n :=
  j_get C hf (hR.1.k2 hi ) ⟨by decide, by decide, by decide⟩ (hR.1.g2 hi (j := 3) (by decide)) d (kk ((hR.1.w2 hi ).2.2.2.1))
theorem jg_2_4 (C : Cx p l s m args meth c cc nL own D A) (hR : RCF E0 S0 S G X) {i9 : Int} (hi : 0 ≤ i9 ∧ i9 < X 28 0) {idx : Nat} (hf : FL own idx 2 4) (d : decode cc pc = .ok (.getfield idx, 3)) (kk : (0 ≤ X 27 i9 ∧ X 27 i9 ≤ 1) → J p l e R s m args below meth c nL D A Q (pc + 3) lv (.int (iN (X 27 i9)) :: st) S k n) : J p l e R s m args below meth c nL D A Q pc lv (.ref (G 2 i9) :: st) S k n :=
  j_get C hf (hR.1.k2 hi ) ⟨by decide, by decide, by decide⟩ (hR.1.g2 hi (j := 4) (by decide)) d (kk ((hR.1.w2 hi ).2.2.2.2))
theorem jg_3_0 (C : Cx p l s m args meth c cc nL own D A) (hR : RCF E0 S0 S G X) {i9 : Int} (hi : 0 ≤ i9 ∧ i9 < X 17 0) {idx : Nat} (hf : FL own idx 3 0) (d : decode cc pc = .ok (.getfield idx, 3)) (kk : (0 ≤ X 13 i9 ∧ X 13 i9 < X 1 0) → J p l e R s m args below meth c nL D A Q (pc + 3) lv (.ref (G 1 (X 13 i9)) :: st) S k n) : J p l e R s m args below meth c nL D A Q pc lv (.ref (G 3 i9) :: st) S k n :=
  j_get C hf (hR.1.k3 hi ) ⟨by decide, by decide, by decide⟩ (hR.1.g3 hi (j := 0) (by decide)) d (kk ((hR.1.w3 hi ).1))
theorem jg_3_1 (C : Cx p l s m args meth c cc nL own D A) (hR : RCF E0 S0 S G X) {i9 : Int} (hi : 0 ≤ i9 ∧ i9 < X 17 0) {idx : Nat} (hf : FL own idx 3 1) (d : decode cc pc = .ok (.getfield idx, 3)) (kk : J p l e R s m args below meth c nL D A Q (pc + 3) lv (.int (iN i9) :: st) S k n) : J p l e R s m args below meth c nL D A Q pc lv (.ref (G 3 i9) :: st) S k n :=
  j_get C hf (hR.1.k3 hi ) ⟨by decide, by decide, by decide⟩ (hR.1.g3 hi (j := 1) (by decide)) d kk
theorem jg_3_2 (C : Cx p l s m args meth c cc nL own D A) (hR : RCF E0 S0 S G X) {i9 : Int} (hi : 0 ≤ i9 ∧ i9 < X 17 0) {idx : Nat} (hf : FL own idx 3 2) (d : decode cc pc = .ok (.getfield idx, 3)) (kk : J p l e R s m args below meth c nL D A Q (pc + 3) lv (.ref (G 22 i9) :: st) S k n) : J p l e R s m args below meth c nL D A Q pc lv (.ref (G 3 i9) :: st) S k n :=
  j_get C hf (hR.1.k3 hi ) ⟨by decide, by decide, by decide⟩ (hR.1.g3 hi (j := 2) (by decide)) d kk
theorem jg_4_0 (C : Cx p l s m args meth c cc nL own D A) (hR : RCF E0 S0 S G X) {i9 : Int} (hi : 0 ≤ i9 ∧ i9 < X 12 0) {idx : Nat} (hf : FL own idx 4 0) (d : decode cc pc = .ok (.getfield idx, 3)) (kk : (0 ≤ X 4 i9 ∧ X 4 i9 < X 1 0) → J p l e R s m args below meth c nL D A Q (pc + 3) lv (.ref (G 1 (X 4 i9)) :: st) S k n) : J p l e R s m args below meth c nL D A Q pc lv (.ref (G 4 i9) :: st) S k n :=
  j_get C hf (hR.1.k4 hi ) ⟨by decide, by decide, by decide⟩ (hR.1.g4 hi (j := 0) (by decide)) d (kk ((hR.1.w4 hi ).1))
theorem jg_4_1 (C : Cx p l s m args meth c cc nL own D A) (hR : RCF E0 S0 S G X) {i9 : Int} (hi : 0 ≤ i9 ∧ i9 < X 12 0) {idx : Nat} (hf : FL own idx 4 1) (d : decode cc pc = .ok (.getfield idx, 3)) (kk : J p l e R s m args below meth c nL D A Q (pc + 3) lv (.int (iN i9) :: st) S k n) : J p l e R s m args below meth c nL D A Q pc lv (.ref (G 4 i9) :: st) S k n :=
  j_get C hf (hR.1.k4 hi ) ⟨by decide, by decide, by decide⟩ (hR.1.g4 hi (j := 1) (by decide)) d kk
theorem jg_4_2 (C : Cx p l s m args meth c cc nL own D A) (hR : RCF E0 S0 S G X) {i9 : Int} (hi : 0 ≤ i9 ∧ i9 < X 12 0) {idx : Nat} (hf : FL own idx 4 2) (d : decode cc pc = .ok (.getfield idx, 3)) (kk : (0 ≤ X 6 i9 ∧ X 6 i9 ≤ 9) → J p l e R s m args below meth c nL D A Q (pc + 3) lv (.int (iN (X 6 i9)) :: st) S k n) : J p l e R s m args below meth c nL D A Q pc lv (.ref (G 4 i9) :: st) S k n :=
  j_get C hf (hR.1.k4 hi ) ⟨by decide, by decide, by decide⟩ (hR.1.g4 hi (j := 2) (by decide)) d (kk ((hR.1.w4 hi ).2.2.1))
theorem jg_4_3 (C : Cx p l s m args meth c cc nL own D A) (hR : RCF E0 S0 S G X) {i9 : Int} (hi : 0 ≤ i9 ∧ i9 < X 12 0) {idx : Nat} (hf : FL own idx 4 3) (d : decode cc pc = .ok (.getfield idx, 3)) (kk : (0 ≤ X 5 i9 ∧ X 5 i9 ≤ 999) → J p l e R s m args below meth c nL D A Q (pc + 3) lv (.int (iN (X 5 i9)) :: st) S k n) : J p l e R s m args below meth c nL D A Q pc lv (.ref (G 4 i9) :: st) S k n :=
  j_get C hf (hR.1.k4 hi ) ⟨by decide, by decide, by decide⟩ (hR.1.g4 hi (j := 3) (by decide)) d (kk ((hR.1.w4 hi ).2.1))
theorem jn_4_4 (C : Cx p l s m args meth c cc nL own D A) (hR : RCF E0 S0 S G X) {i9 : Int} (hi : 0 ≤ i9 ∧ i9 < X 12 0) {idx : Nat} (hf : FL own idx 4 4) (d : decode cc pc = .ok (.getfield idx, 3)) (kn : X 7 i9 = -1 → J p l e R s m args below meth c nL D A Q (pc + 3) lv (.null :: st) S k n) (kr : (¬ X 7 i9 = -1 ∧ 0 ≤ X 7 i9 ∧ X 7 i9 < X 17 0) → J p l e R s m args below meth c nL D A Q (pc + 3) lv (.ref (G 3 (X 7 i9)) :: st) S k n) : J p l e R s m args below meth c nL D A Q pc lv (.ref (G 4 i9) :: st) S k n := by
  have w := (hR.1.w4 hi ).2.2.2.1
  have hg := (hR.1.g4 hi (j := 4) (by decide))
  by_cases z : X 7 i9 = -1
  · refine j_get C hf (hR.1.k4 hi ) ⟨by decide, by decide, by decide⟩ (v := .null) ?_ d (kn z)
    rw [hg]
    show nref (G 3) (X 7 i9) = _
    rw [nref, if_pos z]
  · refine j_get C hf (hR.1.k4 hi ) ⟨by decide, by decide, by decide⟩ (v := .ref (G 3 (X 7 i9))) ?_ d (kr ⟨z, by omega, by omega⟩)
    rw [hg]
    show nref (G 3) (X 7 i9) = _
    rw [nref, if_neg z]
theorem jg_4_5 (C : Cx p l s m args meth c cc nL own D A) (hR : RCF E0 S0 S G X) {i9 : Int} (hi : 0 ≤ i9 ∧ i9 < X 12 0) {idx : Nat} (hf : FL own idx 4 5) (d : decode cc pc = .ok (.getfield idx, 3)) (kk : (0 ≤ X 31 i9 ∧ X 31 i9 ≤ 100) → J p l e R s m args below meth c nL D A Q (pc + 3) lv (.int (iN (X 31 i9)) :: st) S k n) : J p l e R s m args below meth c nL D A Q pc lv (.ref (G 4 i9) :: st) S k n :=
  j_get C hf (hR.1.k4 hi ) ⟨by decide, by decide, by decide⟩ (hR.1.g4 hi (j := 5) (by decide)) d (kk ((hR.1.w4 hi ).2.2.2.2.2.2.2.2))
theorem jg_4_6 (C : Cx p l s m args meth c cc nL own D A) (hR : RCF E0 S0 S G X) {i9 : Int} (hi : 0 ≤ i9 ∧ i9 < X 12 0) {idx : Nat} (hf : FL own idx 4 6) (d : decode cc pc = .ok (.getfield idx, 3)) (kk : (0 ≤ X 8 i9 ∧ X 8 i9 ≤ 4) → J p l e R s m args below meth c nL D A Q (pc + 3) lv (.int (iN (X 8 i9)) :: st) S k n) : J p l e R s m args below meth c nL D A Q pc lv (.ref (G 4 i9) :: st) S k n :=
  j_get C hf (hR.1.k4 hi ) ⟨by decide, by decide, by decide⟩ (hR.1.g4 hi (j := 6) (by decide)) d (kk ((hR.1.w4 hi ).2.2.2.2.1))
theorem jg_4_7 (C : Cx p l s m args meth c cc nL own D A) (hR : RCF E0 S0 S G X) {i9 : Int} (hi : 0 ≤ i9 ∧ i9 < X 12 0) {idx : Nat} (hf : FL own idx 4 7) (d : decode cc pc = .ok (.getfield idx, 3)) (kk : (0 ≤ X 9 i9 ∧ X 9 i9 ≤ 999) → J p l e R s m args below meth c nL D A Q (pc + 3) lv (.int (iN (X 9 i9)) :: st) S k n) : J p l e R s m args below meth c nL D A Q pc lv (.ref (G 4 i9) :: st) S k n :=
  j_get C hf (hR.1.k4 hi ) ⟨by decide, by decide, by decide⟩ (hR.1.g4 hi (j := 7) (by decide)) d (kk ((hR.1.w4 hi ).2.2.2.2.2.1))
theorem jg_4_8 (C : Cx p l s m args meth c cc nL own D A) (hR : RCF E0 S0 S G X) {i9 : Int} (hi : 0 ≤ i9 ∧ i9 < X 12 0) {idx : Nat} (hf : FL own idx 4 8) (d : decode cc pc = .ok (.getfield idx, 3)) (kk : (-1 ≤ X 10 i9 ∧ X 10 i9 ≤ 99) → J p l e R s m args below meth c nL D A Q (pc + 3) lv (.int (iN (X 10 i9)) :: st) S k n) : J p l e R s m args below meth c nL D A Q pc lv (.ref (G 4 i9) :: st) S k n :=
  j_get C hf (hR.1.k4 hi ) ⟨by decide, by decide, by decide⟩ (hR.1.g4 hi (j := 8) (by decide)) d (kk ((hR.1.w4 hi ).2.2.2.2.2.2.1))
theorem jn_4_9 (C : Cx p l s m args meth c cc nL own D A) (hR : RCF E0 S0 S G X) {i9 : Int} (hi : 0 ≤ i9 ∧ i9 < X 12 0) {idx : Nat} (hf : FL own idx 4 9) (d : decode cc pc = .ok (.getfield idx, 3)) (kn : X 11 i9 = -1 → J p l e R s m args below meth c nL D A Q (pc + 3) lv (.null :: st) S k n) (kr : (¬ X 11 i9 = -1 ∧ 0 ≤ X 11 i9 ∧ X 11 i9 < X 12 0) → J p l e R s m args below meth c nL D A Q (pc + 3) lv (.ref (G 4 (X 11 i9)) :: st) S k n) : J p l e R s m args below meth c nL D A Q pc lv (.ref (G 4 i9) :: st) S k n := by
  have w := (hR.1.w4 hi ).2.2.2.2.2.2.2.1
  have hg := (hR.1.g4 hi (j := 9) (by decide))
  by_cases z : X 11 i9 = -1
  · refine j_get C hf (hR.1.k4 hi ) ⟨by decide, by decide, by decide⟩ (v := .null) ?_ d (kn z)
    rw [hg]
    show nref (G 4) (X 11 i9) = _
    rw [nref, if_pos z]
  · refine j_get C hf (hR.1.k4 hi ) ⟨by decide, by decide, by decide⟩ (v := .ref (G 4 (X 11 i9))) ?_ d (kr ⟨z, by omega, by omega⟩)
    rw [hg]
    show nref (G 4) (X 11 i9) = _
    rw [nref, if_neg z]
theorem jg_5_0 (C : Cx p l s m args meth c cc nL own D A) (hR : RCF E0 S0 S G X) {i9 : Int} (hi : 0 ≤ i9 ∧ i9 < X 21 0) {idx : Nat} (hf : FL own idx 5 0) (d : decode cc pc = .ok (.getfield idx, 3)) (kk : (0 ≤ X 19 i9 ∧ X 19 i9 < X 1 0) → J p l e R s m args below meth c nL D A Q (pc + 3) lv (.ref (G 1 (X 19 i9)) :: st) S k n) : J p l e R s m args below meth c nL D A Q pc lv (.ref (G 5 i9) :: st) S k n :=
  j_get C hf (hR.1.k5 hi ) ⟨by decide, by decide, by decide⟩ (hR.1.g5 hi (j := 0) (by decide)) d (kk ((hR.1.w5 hi ).1))
theorem jg_5_1 (C : Cx p l s m args meth c cc nL own D A) (hR : RCF E0 S0 S G X) {i9 : Int} (hi : 0 ≤ i9 ∧ i9 < X 21 0) {idx : Nat} (hf : FL own idx 5 1) (d : decode cc pc = .ok (.getfield idx, 3)) (kk : (0 ≤ X 20 i9 ∧ X 20 i9 ≤ 7) → J p l e R s m args below meth c nL D A Q (pc + 3) lv (.int (iN (X 20 i9)) :: st) S k n) : J p l e R s m args below meth c nL D A Q pc lv (.ref (G 5 i9) :: st) S k n :=
  j_get C hf (hR.1.k5 hi ) ⟨by decide, by decide, by decide⟩ (hR.1.g5 hi (j := 1) (by decide)) d (kk ((hR.1.w5 hi ).2))
theorem jg_5_2 (C : Cx p l s m args meth c cc nL own D A) (hR : RCF E0 S0 S G X) {i9 : Int} (hi : 0 ≤ i9 ∧ i9 < X 21 0) {idx : Nat} (hf : FL own idx 5 2) (d : decode cc pc = .ok (.getfield idx, 3)) (kk : J p l e R s m args below meth c nL D A Q (pc + 3) lv (.ref (G 9 i9) :: st) S k n) : J p l e R s m args below meth c nL D A Q pc lv (.ref (G 5 i9) :: st) S k n :=
  j_get C hf (hR.1.k5 hi ) ⟨by decide, by decide, by decide⟩ (hR.1.g5 hi (j := 2) (by decide)) d kk
theorem jg_6_0 (C : Cx p l s m args meth c cc nL own D A) (hR : RCF E0 S0 S G X)  {idx : Nat} (hf : FL own idx 6 0) (d : decode cc pc = .ok (.getfield idx, 3)) (kk : J p l e R s m args below meth c nL D A Q (pc + 3) lv (.ref (G 20 0) :: st) S k n) : J p l e R s m args below meth c nL D A Q pc lv (.ref (G 6 0) :: st) S k n :=
  j_get C hf (hR.1.k6 ) ⟨by decide, by decide, by decide⟩ (hR.1.g6 (j := 0) (by decide)) d kk
theorem jg_6_1 (C : Cx p l s m args meth c cc nL own D A) (hR : RCF E0 S0 S G X)  {idx : Nat} (hf : FL own idx 6 1) (d : decode cc pc = .ok (.getfield idx, 3)) (kk : J p l e R s m args below meth c nL D A Q (pc + 3) lv (.ref (G 20 1) :: st) S k n) : J p l e R s m args below meth c nL D A Q pc lv (.ref (G 6 0) :: st) S k n :=
  j_get C hf (hR.1.k6 ) ⟨by decide, by decide, by decide⟩ (hR.1.g6 (j := 1) (by decide)) d kk
theorem jg_6_2 (C : Cx p l s m args meth c cc nL own D A) (hR : RCF E0 S0 S G X)  {idx : Nat} (hf : FL own idx 6 2) (d : decode cc pc = .ok (.getfield idx, 3)) (kk : J p l e R s m args below meth c nL D A Q (pc + 3) lv (.ref (G 20 2) :: st) S k n) : J p l e R s m args below meth c nL D A Q pc lv (.ref (G 6 0) :: st) S k n :=
  j_get C hf (hR.1.k6 ) ⟨by decide, by decide, by decide⟩ (hR.1.g6 (j := 2) (by decide)) d kk
theorem jg_6_3 (C : Cx p l s m args meth c cc nL own D A) (hR : RCF E0 S0 S G X)  {idx : Nat} (hf : FL own idx 6 3) (d : decode cc pc = .ok (.getfield idx, 3)) (kk : J p l e R s m args below meth c nL D A Q (pc + 3) lv (.ref (G 20 3) :: st) S k n) : J p l e R s m args below meth c nL D A Q pc lv (.ref (G 6 0) :: st) S k n :=
  j_get C hf (hR.1.k6 ) ⟨by decide, by decide, by decide⟩ (hR.1.g6 (j := 3) (by decide)) d kk
theorem jg_6_4 (C : Cx p l s m args meth c cc nL own D A) (hR : RCF E0 S0 S G X)  {idx : Nat} (hf : FL own idx 6 4) (d : decode cc pc = .ok (.getfield idx, 3)) (kk : J p l e R s m args below meth c nL D A Q (pc + 3) lv (.ref (G 20 4) :: st) S k n) : J p l e R s m args below meth c nL D A Q pc lv (.ref (G 6 0) :: st) S k n :=
  j_get C hf (hR.1.k6 ) ⟨by decide, by decide, by decide⟩ (hR.1.g6 (j := 4) (by decide)) d kk
theorem jg_6_5 (C : Cx p l s m args meth c cc nL own D A) (hR : RCF E0 S0 S G X)  {idx : Nat} (hf : FL own idx 6 5) (d : decode cc pc = .ok (.getfield idx, 3)) (kk : (2 ≤ X 18 0 ∧ X 18 0 ≤ 50) → J p l e R s m args below meth c nL D A Q (pc + 3) lv (.int (iN (X 18 0)) :: st) S k n) : J p l e R s m args below meth c nL D A Q pc lv (.ref (G 6 0) :: st) S k n :=
  j_get C hf (hR.1.k6 ) ⟨by decide, by decide, by decide⟩ (hR.1.g6 (j := 5) (by decide)) d (kk (hR.1.w6.2.2.2.2.2.1))
theorem jg_6_6 (C : Cx p l s m args meth c cc nL own D A) (hR : RCF E0 S0 S G X)  {idx : Nat} (hf : FL own idx 6 6) (d : decode cc pc = .ok (.getfield idx, 3)) (kk : (0 ≤ X 29 0 ∧ X 29 0 ≤ 60000) → J p l e R s m args below meth c nL D A Q (pc + 3) lv (.int (iN (X 29 0)) :: st) S k n) : J p l e R s m args below meth c nL D A Q pc lv (.ref (G 6 0) :: st) S k n :=
  j_get C hf (hR.1.k6 ) ⟨by decide, by decide, by decide⟩ (hR.1.g6 (j := 6) (by decide)) d (kk (hR.1.w6.2.2.2.2.2.2))
theorem jg_6_7 (C : Cx p l s m args meth c cc nL own D A) (hR : RCF E0 S0 S G X)  {idx : Nat} (hf : FL own idx 6 7) (d : decode cc pc = .ok (.getfield idx, 3)) (kk : J p l e R s m args below meth c nL D A Q (pc + 3) lv (.long (iL (X 30 0)) :: st) S k n) : J p l e R s m args below meth c nL D A Q pc lv (.ref (G 6 0) :: st) S k n :=
  j_get C hf (hR.1.k6 ) ⟨by decide, by decide, by decide⟩ (hR.1.g6 (j := 7) (by decide)) d kk
end CROWS
