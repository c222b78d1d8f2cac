/-! THE REFERENCE's memory: its numbers by field (its slot) and place. -/
abbrev wM : Type := Nat → Int → Int
def mLen : Nat → Nat
  | 2 => 360
  | 3 => 6
  | 4 => 60
  | 5 => 60
  | 6 => 60
  | 7 => 60
  | 8 => 60
  | 9 => 60
  | 10 => 60
  | 11 => 60
  | 13 => 24
  | 14 => 1440
  | 15 => 1440
  | 16 => 24
  | 19 => 10
  | 20 => 10
  | 22 => 19200
  | 23 => 20
  | 24 => 20
  | 25 => 20
  | 26 => 20
  | 27 => 20
  | _ => 0
def mKd (j : Nat) : Nat := if j = 27 then 11 else 9
theorem mKd_c (j : Nat) : mKd j = 9 ∨ mKd j = 11 := by unfold mKd; split <;> simp
theorem mLen_lt {j : Nat} (h : 0 < mLen j) : j < 31 := by
  rcases Nat.lt_or_ge j 31 with q | q
  · exact q
  · exfalso
    have e : mLen j = 0 := by
      unfold mLen
      split <;> first | omega | rfl
    omega
theorem mLen_le (j : Nat) : mLen j ≤ 19200 := by
  unfold mLen
  split <;> omega
def RM (S : wS) (o : Nat) (B : Nat → Nat) (m : wM) : Prop :=
  sK S o = 7 ∧ (∀ j, 0 < mLen j → sG S (448 + j) o = .ref (B j) ∧ sK S (B j) = mKd j ∧ sN S (B j) = mLen j ∧ ∀ i : Nat, i < mLen j → sE S (mKd j) (B j) i = .int (iN (m j i))) ∧
  (∀ j, j < 30 → mLen j = 0 → sG S (448 + j) o = .int (iN (m j 0))) ∧ sG S 478 o = .long (iL (m 30 0)) ∧ ∀ j j', 0 < mLen j → 0 < mLen j' → B j = B j' → j = j'
/-- what the reference's methods leave as it is -/
def mF (S S' : wS) : Prop := sK S' = sK S ∧ sN S' = sN S ∧ (∀ f, (f < 448 ∨ 512 ≤ f) → sG S' f = sG S f) ∧ ∀ k, k ≠ 9 → k ≠ 11 → sE S' k = sE S k
theorem mF.rf {S : wS} : mF S S := ⟨rfl, rfl, fun _ _ => rfl, fun _ _ _ => rfl⟩
theorem mF.tr {S1 S2 S3 : wS} (h : mF S1 S2) (h' : mF S2 S3) : mF S1 S3 := ⟨h'.1.trans h.1, h'.2.1.trans h.2.1, fun f hf => (h'.2.2.1 f hf).trans (h.2.2.1 f hf), fun k h1 h2 => (h'.2.2.2 k h1 h2).trans (h.2.2.2 k h1 h2)⟩
def RMF (S0 S : wS) (o : Nat) (B : Nat → Nat) (m : wM) : Prop := RM S o B m ∧ mF S0 S
def mup (m : wM) (j : Nat) (i z : Int) : wM := fun j' i' => if j' = j ∧ i' = i then z else m j' i'
theorem RM.puti {S : wS} {o : Nat} {B : Nat → Nat} {m : wM} {j : Nat} {z : Int} (h : RM S o B m) (hj : j < 30 ∧ mLen j = 0) : RM (sPut S (64 * 7 + j) o (.int (iN z))) o B (mup m j 0 z) := by
  obtain ⟨h1, h2, h3, h4, h5⟩ := h
  refine ⟨h1, fun j' hj' => ?_, fun j' hj' hl => ?_, ?_, h5⟩
  · obtain ⟨a1, a2, a3, a4⟩ := h2 j' hj'
    have hne : j' ≠ j := fun e => by rw [e] at hj'; omega
    refine ⟨?_, a2, a3, fun i hi => ?_⟩
    · show (if (448 + j' = 64 * 7 + j ∧ o = o) then _ else sG S (448 + j') o) = _
      rw [if_neg (by omega)]; exact a1
    · show sE S (mKd j') (B j') i = _
      rw [a4 i hi]; simp [mup, hne]
  · show (if (448 + j' = 64 * 7 + j ∧ o = o) then _ else sG S (448 + j') o) = _
    by_cases e : j' = j
    · subst e; rw [if_pos ⟨by omega, rfl⟩]; simp [mup]
    · rw [if_neg (by omega), h3 j' hj' hl]; simp [mup, e]
  · show (if (478 = 64 * 7 + j ∧ o = o) then _ else sG S 478 o) = _
    rw [if_neg (by omega), h4]; simp [mup, show ¬ 30 = j by omega]
theorem RM.putl {S : wS} {o : Nat} {B : Nat → Nat} {m : wM} {z : Int} (h : RM S o B m) : RM (sPut S (64 * 7 + 30) o (.long (iL z))) o B (mup m 30 0 z) := by
  obtain ⟨h1, h2, h3, h4, h5⟩ := h
  refine ⟨h1, fun j' hj' => ?_, fun j' hj' hl => ?_, ?_, h5⟩
  · obtain ⟨a1, a2, a3, a4⟩ := h2 j' hj'
    have hne : j' ≠ 30 := fun e => by rw [e] at hj'; simp [mLen] at hj'
    refine ⟨?_, a2, a3, fun i hi => ?_⟩
    · show (if (448 + j' = 64 * 7 + 30 ∧ o = o) then _ else sG S (448 + j') o) = _
      rw [if_neg (by omega)]; exact a1
    · show sE S (mKd j') (B j') i = _
      rw [a4 i hi]; simp [mup, hne]
  · show (if (448 + j' = 64 * 7 + 30 ∧ o = o) then _ else sG S (448 + j') o) = _
    rw [if_neg (by omega), h3 j' hj' hl]; simp [mup, show ¬ j' = 30 by omega]
  · show (if (478 = 64 * 7 + 30 ∧ o = o) then _ else sG S 478 o) = _
    rw [if_pos ⟨by omega, rfl⟩]; simp [mup]
theorem RM.ast {S : wS} {o : Nat} {B : Nat → Nat} {m : wM} {j : Nat} {i z : Int} (h : RM S o B m) (hj : 0 < mLen j) (hi : 0 ≤ i ∧ i < mLen j) : RM (sPutE S (mKd j) (B j) i.toNat (.int (iN z))) o B (mup m j i z) := by
  obtain ⟨h1, h2, h3, h4, h5⟩ := h
  refine ⟨h1, fun j' hj' => ?_, fun j' hj' hl => ?_, ?_, h5⟩
  · obtain ⟨a1, a2, a3, a4⟩ := h2 j' hj'
    refine ⟨a1, a2, a3, fun i' hi' => ?_⟩
    show (if (mKd j' = mKd j ∧ B j' = B j ∧ i' = i.toNat) then (.int (iN z)) else sE S (mKd j') (B j') i') = _
    by_cases e : j' = j
    · subst e
      by_cases e2 : i' = i.toNat
      · rw [if_pos ⟨rfl, rfl, e2⟩]; simp [mup, show (i' : Int) = i by omega]
      · rw [if_neg (fun q => e2 q.2.2), a4 i' hi']; simp [mup, show ¬ (i' : Int) = i by omega]
    · rw [if_neg (fun q => e (h5 j' j hj' hj q.2.1)), a4 i' hi']; simp [mup, e]
  · show sG S (448 + j') o = _
    rw [h3 j' hj' hl]; simp [mup, show ¬ j' = j by intro e; rw [e] at hl; omega]
  · show sG S 478 o = _
    rw [h4]; simp [mup, show ¬ 30 = j by intro e; rw [← e] at hj; simp [mLen] at hj]
theorem mF.put {S0 S : wS} {j a : Nat} {v : Value} (h : mF S0 S) (hj : j < 64) : mF S0 (sPut S (64 * 7 + j) a v) := by
  obtain ⟨h1, h2, h3, h4⟩ := h
  refine ⟨h1, h2, fun f hf => ?_, h4⟩
  rw [← h3 f hf]
  funext b
  show (if (f = 64 * 7 + j ∧ b = a) then v else sG S f b) = sG S f b
  rw [if_neg (by omega)]
theorem mF.putE {S0 S : wS} {kd a i : Nat} {v : Value} (h : mF S0 S) (hk : kd = 9 ∨ kd = 11) : mF S0 (sPutE S kd a i v) := by
  obtain ⟨h1, h2, h3, h4⟩ := h
  refine ⟨h1, h2, h3, fun k g1 g2 => ?_⟩
  rw [← h4 k g1 g2]
  funext b i'
  show (if (k = kd ∧ b = a ∧ i' = i) then v else sE S k b i') = sE S k b i'
  rw [if_neg (by rintro ⟨e, -⟩; omega)]
/-- a contract of the reference's method: from the numbers m it ends with res and the numbers m' -/
def MC (l : Launch) (y : MethodName) (cc : ByteArray) (nL : Nat) (ret : Option FieldType) (d : Nat) (as : List Value) (m : wM) (res : wR) (m' : wM) : Prop :=
  ∀ (S : wS) (o : Nat) (B : Nat → Nat), RM S o B m → Ct l y cc nL ret d 0 0 (.ref o :: as) S (fun r S' => r = res ∧ RMF S S' o B m')
section MODEL
variable {p : Program} {l : Launch} {e : Env} {R : Room} {s : State} {m : MethodId} {args : Array Value} {below : List Frame} {meth : Method} {c : Code} {nL : Nat} {D : wD} {A : Nat → Prop} {Q : State → Prop}
variable {cc : ByteArray} {own : String} {pc : Nat} {lv : List (Nat × Value)} {st : List Value} {S0 S : wS} {k n : Nat} {o : Nat} {B : Nat → Nat} {M : wM}
theorem j_mgeti (C : Cx p l s m args meth c cc nL own D A) (hM : RMF S0 S o B M) {j idx : Nat} (hf : FL own idx 7 j) (hj : j < 30 ∧ mLen j = 0) (d : decode cc pc = .ok (.getfield idx, 3)) (kk : J p l e R s m args below meth c nL D A Q (pc + 3) lv (.int (iN (M j 0)) :: st) S k n) : J p l e R s m args below meth c nL D A Q pc lv (.ref o :: st) S k n :=
  j_get C hf hM.1.1 ⟨by decide, by decide, Nat.lt_of_lt_of_le hj.1 (by decide)⟩ (hM.1.2.2.1 j hj.1 hj.2) d kk
theorem j_mgeta (C : Cx p l s m args meth c cc nL own D A) (hM : RMF S0 S o B M) {j idx : Nat} (hf : FL own idx 7 j) (hj : 0 < mLen j) (d : decode cc pc = .ok (.getfield idx, 3)) (kk : J p l e R s m args below meth c nL D A Q (pc + 3) lv (.ref (B j) :: st) S k n) : J p l e R s m args below meth c nL D A Q pc lv (.ref o :: st) S k n :=
  j_get C hf hM.1.1 ⟨by decide, by decide, Nat.lt_of_lt_of_le (mLen_lt hj) (by decide)⟩ (hM.1.2.1 j hj).1 d kk
theorem j_mgetl (C : Cx p l s m args meth c cc nL own D A) (hM : RMF S0 S o B M) {idx : Nat} (hf : FL own idx 7 30) (d : decode cc pc = .ok (.getfield idx, 3)) (kk : J p l e R s m args below meth c nL D A Q (pc + 3) lv (.long (iL (M 30 0)) :: st) S k n) : J p l e R s m args below meth c nL D A Q pc lv (.ref o :: st) S k n :=
  j_get C hf hM.1.1 ⟨by decide, by decide, by decide⟩ hM.1.2.2.2.1 d kk
theorem mT (j : Nat) (hj : j < 30 ∧ mLen j = 0) : kT 7 j = .int ∧ ((kC 7).2.1 j).2.2.2 = false := by
  obtain ⟨h1, h2⟩ := hj
  have h : ∀ j, j < 30 → mLen j = 0 → kT 7 j = .int ∧ ((kC 7).2.1 j).2.2.2 = false := by decide
  exact h j h1 h2
theorem j_mputi (C : Cx p l s m args meth c cc nL own D A) (hM : RMF S0 S o B M) {j idx : Nat} {z : Int} (hf : FL own idx 7 j) (hj : j < 30 ∧ mLen j = 0) (d : decode cc pc = .ok (.putfield idx, 3)) (kk : ∀ S', RMF S0 S' o B (mup M j 0 z) → J p l e R s m args below meth c nL D A Q (pc + 3) lv st S' k n) : J p l e R s m args below meth c nL D A Q pc lv (.int (iN z) :: .ref o :: st) S k n :=
  j_put C hf hM.1.1 ⟨by decide, by decide, Nat.lt_of_lt_of_le hj.1 (by decide)⟩ (mT j hj).2 (by rw [(mT j hj).1]; rfl) (by rw [(mT j hj).1]; rfl) d (kk _ ⟨hM.1.puti hj, hM.2.put (by omega)⟩)
theorem j_mputl (C : Cx p l s m args meth c cc nL own D A) (hM : RMF S0 S o B M) {idx : Nat} {z : Int} (hf : FL own idx 7 30) (d : decode cc pc = .ok (.putfield idx, 3)) (kk : ∀ S', RMF S0 S' o B (mup M 30 0 z) → J p l e R s m args below meth c nL D A Q (pc + 3) lv st S' k n) : J p l e R s m args below meth c nL D A Q pc lv (.long (iL z) :: .ref o :: st) S k n :=
  j_put C hf hM.1.1 ⟨by decide, by decide, by decide⟩ (by decide) rfl rfl d (kk _ ⟨hM.1.putl, hM.2.put (by omega)⟩)
theorem mZ {j : Nat} {z : Int} (h : 0 ≤ z ∧ z < (mLen j : Int)) : 0 ≤ z ∧ z < ((mLen j : Nat) : Int) ∧ z < 2147483648 := by
  have := mLen_le j
  omega
theorem j_mald (C : Cx p l s m args meth c cc nL own D A) (hM : RMF S0 S o B M) {j : Nat} {z : Int} (hj : 0 < mLen j) (h9 : mKd j = 9) (hz : 0 ≤ z ∧ z < (mLen j : Int)) (d : decode cc pc = .ok (.iaload, 1)) (kk : J p l e R s m args below meth c nL D A Q (pc + 1) lv (.int (iN (M j z)) :: st) S k n) : J p l e R s m args below meth c nL D A Q pc lv (.int (iN z) :: .ref (B j) :: st) S k n := by
  obtain ⟨a1, a2, a3, a4⟩ := hM.1.2.1 j hj
  refine j_iald C (a2.trans h9) (by rw [a3]; exact mZ hz) (v := .int (iN (M j z))) ?_ d kk
  have h := a4 z.toNat (by omega)
  rw [h9] at h
  rw [h, Int.toNat_of_nonneg hz.1]
theorem j_mzld (C : Cx p l s m args meth c cc nL own D A) (hM : RMF S0 S o B M) {z : Int} (hz : 0 ≤ z ∧ z < 20) (d : decode cc pc = .ok (.baload, 1)) (kk : J p l e R s m args below meth c nL D A Q (pc + 1) lv (.int (iN (M 27 z)) :: st) S k n) : J p l e R s m args below meth c nL D A Q pc lv (.int (iN z) :: .ref (B 27) :: st) S k n := by
  obtain ⟨a1, a2, a3, a4⟩ := hM.1.2.1 27 (by decide)
  refine j_zald C a2 (by rw [a3]; exact mZ (j := 27) hz) (v := .int (iN (M 27 z))) ?_ d kk
  have h : sE S 11 (B 27) z.toNat = _ := a4 z.toNat (by show z.toNat < 20; omega)
  rw [h, Int.toNat_of_nonneg hz.1]
theorem j_mast (C : Cx p l s m args meth c cc nL own D A) (hM : RMF S0 S o B M) {j : Nat} {z x : Int} (hj : 0 < mLen j) (h9 : mKd j = 9) (hz : 0 ≤ z ∧ z < (mLen j : Int)) (d : decode cc pc = .ok (.iastore, 1)) (kk : ∀ S', RMF S0 S' o B (mup M j z x) → J p l e R s m args below meth c nL D A Q (pc + 1) lv st S' k n) : J p l e R s m args below meth c nL D A Q pc lv (.int (iN x) :: .int (iN z) :: .ref (B j) :: st) S k n := by
  obtain ⟨a1, a2, a3, a4⟩ := hM.1.2.1 j hj
  refine j_iast C (a2.trans h9) (by rw [a3]; exact mZ hz) d (kk _ ⟨?_, hM.2.putE (Or.inl rfl)⟩)
  have h := hM.1.ast (z := x) hj hz
  rw [h9] at h
  exact h
theorem j_mzst (C : Cx p l s m args meth c cc nL own D A) (hM : RMF S0 S o B M) {z : Int} {b : Bool} (hz : 0 ≤ z ∧ z < 20) (d : decode cc pc = .ok (.bastore, 1)) (kk : ∀ S', RMF S0 S' o B (mup M 27 z (bN b)) → J p l e R s m args below meth c nL D A Q (pc + 1) lv st S' k n) : J p l e R s m args below meth c nL D A Q pc lv (.int (iN (bN b)) :: .int (iN z) :: .ref (B 27) :: st) S k n := by
  obtain ⟨a1, a2, a3, a4⟩ := hM.1.2.1 27 (by decide)
  exact j_zast C a2 (by rw [a3]; exact mZ (j := 27) hz) d (kk _ ⟨hM.1.ast (j := 27) (i := z) (z := bN b) (by decide) hz, hM.2.putE (Or.inr rfl)⟩)
theorem j_mcall (C : Cx p l s m args meth c cc nL own D A) (hM : RMF S0 S o B M) {y : MethodName} {bc : ByteArray} {nc np d idx : Nat} {rc : Option FieldType} {as rest st0 : List Value} {v : Option Value} {M' : wM} (hm : MC l y bc nc rc d as M (.inl v) M') (hc : Cal y bc nc rc np) (hv : Cond.instanceMethod y ∈ WALL ∧ Cond.selects y.cls y y ∈ WALL) (hy : RX6 = y.cls) (hl : Cond.methodLink own idx y ∈ WALL)
    (hn : as.length = np) (hst : st0 = as.reverse ++ .ref o :: rest) (hw : (rest.map fun v => v.category).sum ≤ 8) (hR : 20 * d + 1 ≤ R.frames ∧ 8 + (nc + 11) + 200 * d ≤ R.locals) (hR2 : k ≤ R.cells ∧ n ≤ R.slots) (dg : decode cc pc = .ok (.invokevirtual idx, 3))
    (kk : ∀ S', RMF S0 S' o B M' → J p l e R s m args below meth c nL D A Q (pc + 3) lv (v.toList ++ rest) S' k n) : J p l e R s m args below meth c nL D A Q pc lv st0 S k n := by
  refine j_callV C (hm S o B hM.1) hc hv hl hM.1.1 ⟨by decide, by decide, hy⟩ hn hst hw hR hR2 dg (fun E S' h => nomatch h.1) (fun v' S' h => ?_)
  obtain ⟨h1, h2⟩ := h
  cases h1
  exact kk S' ⟨h2.1, hM.2.tr h2.2⟩
end MODEL
