/-! BITS of the reference's words. -/
def bitI (a : Int) (p : Nat) : Bool := (iN a).toBitVec.getLsbD p
theorem iN_mask : ∀ p : Nat, p < 32 → (iN (p : Int) &&& 31).toBitVec.smod 32 = BitVec.ofNat 32 p := by decide +kernel
theorem bit_at {a : Int} {p : Nat} (hp : p < 32) : decide (andI (shrI a (p : Int)) 1 = 1) = bitI a p := by
  unfold andI shrI bitI
  rw [iN_asI]
  have e : ((iN a >>> (iN (p : Int) &&& 31)) &&& iN 1).toBitVec = BitVec.setWidth 32 (BitVec.ofBool ((iN a).toBitVec.getLsbD p)) := by
    rw [Int32.toBitVec_and, Int32.toBitVec_shiftRight, iN_mask p hp]
    show BitVec.sshiftRight' (iN a).toBitVec (BitVec.ofNat 32 p) &&& 1#32 = _
    rw [BitVec.and_one_eq_setWidth_ofBool_getLsbD]
    congr 2
    rw [BitVec.sshiftRight_eq', BitVec.getLsbD_sshiftRight]
    have : (BitVec.ofNat 32 p).toNat = p := by rw [BitVec.toNat_ofNat]; omega
    rw [this]
    simp
    omega
  have e2 : ∀ b : Bool, decide ((BitVec.setWidth 32 (BitVec.ofBool b)).toInt = 1) = b := by decide
  rw [← e2 ((iN a).toBitVec.getLsbD p), ← e]
  rfl
theorem bit_and {a m : Int} {i : Nat} : bitI (andI a m) i = (bitI a i && bitI m i) := by
  unfold bitI andI
  rw [iN_asI, Int32.toBitVec_and, BitVec.getLsbD_and]
theorem bit_xor {a m : Int} {i : Nat} : bitI (xorI a m) i = (bitI a i ^^ bitI m i) := by
  unfold bitI xorI
  rw [iN_asI, Int32.toBitVec_xor, BitVec.getLsbD_xor]
theorem bit_one : ∀ p : Nat, p < 32 → ∀ i : Nat, i < 32 → bitI (shlI 1 (p : Int)) i = decide (i = p) := by decide +kernel
theorem bit_clr : ∀ p : Nat, p < 32 → ∀ i : Nat, i < 32 → bitI (xorI (shlI 1 (p : Int)) (-1)) i = !decide (i = p) := by decide +kernel
theorem outP_bit {M : wM} {v s f : Int} (hf : 0 ≤ f) : outP M v s f = bitI (M 22 (32 * (60 * v + s) + f / 32)) (f % 32).toNat := by
  unfold outP
  have h := @bit_at (M 22 (32 * (60 * v + s) + f / 32)) (f % 32).toNat (by omega)
  rw [Int.toNat_of_nonneg (by omega)] at h
  exact h
theorem m22_at {M : wM} {s0 : Int} (h5 : 1 ≤ M 5 s0 ∧ M 5 s0 ≤ 999) (h0 : 0 ≤ s0 ∧ s0 < 60) {v s w : Int} (hv : 0 ≤ v) (hs : 0 ≤ s ∧ s < 60) (hw : 0 ≤ w ∧ w < 32) : ∀ n : Nat, mend22 M s0 n (32 * (60 * v + s) + w) = if v < n ∧ s = s0 ∧ w = (M 5 s0 - 1) / 32 then andI (M 22 (32 * (60 * v + s) + w)) (xorI (shlI 1 ((M 5 s0 - 1) % 32)) (-1)) else M 22 (32 * (60 * v + s) + w)
  | 0 => by
    rw [if_neg (by omega)]
    rfl
  | n + 1 => by
    have ih := m22_at h5 h0 hv hs hw n
    rw [mend22, ih]
    by_cases c : 32 * (60 * v + s) + w = 32 * (60 * (n : Int) + s0) + (M 5 s0 - 1) / 32
    · have e : v = n ∧ s = s0 ∧ w = (M 5 s0 - 1) / 32 := by omega
      rw [if_pos c, if_neg (by omega), if_pos ⟨by omega, e.2.1, e.2.2⟩]
    · rw [if_neg c]
      by_cases c2 : v < (n : Int) ∧ s = s0 ∧ w = (M 5 s0 - 1) / 32
      · rw [if_pos c2, if_pos ⟨by omega, c2.2⟩]
      · rw [if_neg c2, if_neg (by omega)]
theorem tl_at {X : wM} {s0 : Int} (h5 : 1 ≤ X 5 s0 ∧ X 5 s0 ≤ 999) (h0 : 0 ≤ s0 ∧ s0 < 60) {v s f : Int} (hv : 0 ≤ v) (hs : 0 ≤ s ∧ s < 60) (hf : 0 ≤ f ∧ f < 1024) : ∀ n : Nat, tlX X s0 n 33 (61440 * v + 1024 * s + f) = if v < n ∧ X 19 v = X 4 s0 ∧ s = s0 ∧ f = X 5 s0 - 1 then 0 else X 33 (61440 * v + 1024 * s + f)
  | 0 => by
    rw [if_neg (by omega)]
    rfl
  | n + 1 => by
    have ih := tl_at h5 h0 hv hs hf n
    rw [tlX]
    by_cases c : X 19 (n : Int) = X 4 s0
    · rw [if_pos c]
      by_cases c2 : v = n ∧ s = s0 ∧ f = X 5 s0 - 1
      · rw [if_pos ⟨by omega, by rw [c2.1]; exact c, c2.2⟩]
        exact if_pos ⟨rfl, ⟨by omega, by omega⟩, by omega, by omega⟩
      · refine (if_neg (fun x => c2 (by omega))).trans ?_
        rw [ih]
        by_cases c3 : v < (n : Int) ∧ X 19 v = X 4 s0 ∧ s = s0 ∧ f = X 5 s0 - 1
        · rw [if_pos c3, if_pos ⟨by omega, c3.2⟩]
        · rw [if_neg c3, if_neg (fun x => by
            by_cases c4 : v = n
            · exact c2 ⟨c4, x.2.2⟩
            · exact c3 ⟨by omega, x.2⟩)]
    · rw [if_neg c, ih]
      by_cases c3 : v < (n : Int) ∧ X 19 v = X 4 s0 ∧ s = s0 ∧ f = X 5 s0 - 1
      · rw [if_pos c3, if_pos ⟨by omega, c3.2⟩]
      · rw [if_neg c3, if_neg (fun x => by
          by_cases c4 : v = n
          · exact c (by rw [← c4]; exact x.2.1)
          · exact c3 ⟨by omega, x.2⟩)]
theorem tl_hi {X : wM} {s0 i : Int} (h0 : 0 ≤ s0 ∧ s0 < 60) (hi : 614400 ≤ i) : ∀ n : Nat, n ≤ 10 → tlX X s0 n 33 i = X 33 i
  | 0, _ => rfl
  | n + 1, hn => by
    have ih := tl_hi (X := X) h0 hi n (by omega)
    rw [tlX]
    split
    · exact (if_neg (by omega)).trans ih
    · exact ih
theorem t_mend {Y M : wM} (I : Inv M) (Z : I9 M) (R : Rel Y M) {r z : Int} (h : x_mend M r z = 0) : Kept (tfX (mup (mix Y M) 31 (M 14 (60 * r + z)) 0) (M 14 (60 * r + z))) (mup (mendC M r z (M 21 0).toNat) 9 (M 14 (60 * r + z)) (if M 5 (M 14 (60 * r + z)) - 1 < M 9 (M 14 (60 * r + z)) then M 5 (M 14 (60 * r + z)) - 1 else M 9 (M 14 (60 * r + z)))) ∧ mix Y M 31 (M 14 (60 * r + z)) = M 15 (60 * r + z) := by
  obtain ⟨i1, i2, i3, i3e, i4, i4e, i5, i6, i7, i8, i10, i11⟩ := I
  obtain ⟨r1, r0, r2, r3, r4⟩ := R
  unfold x_mend at h
  obtain ⟨h1, h⟩ := ite0 h (by decide)
  obtain ⟨h2, -⟩ := ite0 h (by decide)
  have h1 := Decidable.not_not.mp h1
  have i1' := i1
  obtain ⟨q1, q12, q17, q18, q21, q28, q29⟩ := i1'
  have hl : lentM M (M 13 r) = false := by
    cases c : lentM M (M 13 r)
    · rfl
    · exact absurd (Or.inr c) h2
  have wr := i4 r h1.1.1 (by omega)
  have ws := wr.2.2.2.2 z h1.2.1 (by omega)
  have h60 : ∀ r, 0 ≤ r → r < 24 → 0 ≤ M 16 r ∧ M 16 r ≤ 60 := fun r a b => by have := i4 r a b; omega
  have hr60 := h60 r h1.1.1 (by omega)
  have hval : mix Y M 31 (M 14 (60 * r + z)) = M 15 (60 * r + z) := by
    have := r1 r z h1.1.1 h1.1.2 h1.2.1 (by omega)
    rw [if_pos (by omega)] at this
    exact this
  have hap : ∀ r' k, 0 ≤ r' → r' < M 17 0 → 0 ≤ k → k < M 16 r' → M 14 (60 * r' + k) = M 14 (60 * r + z) → r' = r ∧ k = z := fun r' k a b c d e => apart i1 i4 ⟨a, b⟩ h1.1 ⟨c, d⟩ ⟨h1.2.1, by omega⟩ e
  refine ⟨?_, hval⟩
  generalize hs0 : M 14 (60 * r + z) = s0 at *
  have w2 := i2 s0 ws.1 ws.2.1
  have h52 : 2 ≤ M 5 s0 := by omega
  generalize hM' : mup (mendC M r z (M 21 0).toNat) 9 s0 (if M 5 s0 - 1 < M 9 s0 then M 5 s0 - 1 else M 9 s0) = M'
  have e9 : ∀ i, M' 9 i = if i = s0 then (if M 5 s0 - 1 < M 9 s0 then M 5 s0 - 1 else M 9 s0) else M 9 i := fun i => by
    rw [← hM', mup_at]
    rfl
  have e5 : ∀ i, M' 5 i = if i = s0 then M 5 s0 - 1 else M 5 i := fun i => by
    rw [← hM', mup_oj (by decide)]
    show (if i = M 14 (60 * r + z) then M 5 i - 1 else M 5 i) = _
    rw [hs0]
    by_cases c : i = s0
    · rw [if_pos c, if_pos c, c]
    · rw [if_neg c, if_neg c]
  have e15 : ∀ i, M' 15 i = if i = 60 * r + z then 0 else M 15 i := fun i => by
    rw [← hM', mup_oj (by decide)]
    rfl
  have e22 : ∀ i, M' 22 i = mend22 M s0 (M 21 0).toNat i := fun i => by
    rw [← hM', mup_oj (by decide), ← hs0]
    rfl
  have eo : ∀ j i, j ≠ 5 → j ≠ 9 → j ≠ 15 → j ≠ 22 → M' j i = M j i := fun j i a b c d => by
    rw [← hM', mup_oj b]
    unfold mendC
    rw [if_neg d, if_neg c, if_neg a]
  have hout : ∀ v s f, 0 ≤ v → 0 ≤ s → s < 60 → 0 ≤ f → f < 1024 → outP M' v s f = (outP M v s f && !decide (v < M 21 0 ∧ s = s0 ∧ f = M 5 s0 - 1)) := fun v s f a b c d e => by
    rw [outP_bit d, outP_bit d, e22, m22_at ⟨by omega, w2.2.2.2.1⟩ ⟨ws.1, by omega⟩ a ⟨b, c⟩ ⟨by omega, by omega⟩]
    by_cases c1 : v < ((M 21 0).toNat : Int) ∧ s = s0 ∧ f / 32 = (M 5 s0 - 1) / 32
    · rw [if_pos c1, bit_and]
      congr 1
      have hb := bit_clr ((M 5 s0 - 1) % 32).toNat (by omega) (f % 32).toNat (by omega)
      rw [Int.toNat_of_nonneg (by omega)] at hb
      rw [hb]
      congr 1
      rw [decide_eq_decide]
      omega
    · rw [if_neg c1, decide_eq_false (by omega)]
      simp
  have xo : ∀ j i, j ≠ 5 → j ≠ 9 → j ≠ 31 → j ≠ 33 → tfX (mup (mix Y M) 31 s0 0) s0 j i = mix Y M j i := fun j i a b c d => by
    unfold tfX
    rw [mup_oj b, mup_oj a, tlX_o d, mup_oj c]
  have x31 : ∀ i, tfX (mup (mix Y M) 31 s0 0) s0 31 i = if i = s0 then 0 else Y 31 i := fun i => by
    unfold tfX
    rw [mup_oj (by decide), mup_oj (by decide), tlX_o (by decide), mup_at]
    rfl
  have x33 : ∀ i, tfX (mup (mix Y M) 31 s0 0) s0 33 i = tlX (mup (mix Y M) 31 s0 0) s0 (M 21 0).toNat 33 i := fun i => by
    unfold tfX
    rw [mup_oj (by decide), mup_oj (by decide)]
    rfl
  have hgr : ∀ r', 0 ≤ r' → r' < 24 → r' ≠ r → greatM M' r' = greatM M r' := fun r' a b c => by
    have := h60 r' a b
    unfold greatM
    rw [eo 16 r' (by decide) (by decide) (by decide) (by decide)]
    exact maxI_cong (fun k hk => by rw [e15, if_neg (by omega)])
  refine ⟨OE.of (fun j i hj a0 a15 a22 a23 a25 => ?_), ⟨fun r' k g1 g2 k1 k2 => ?_, fun s s1 s2 s3 => ?_, fun f f1 f2 => ?_, ⟨fun v s f g1 g2 g3 g4 g5 g6 => ?_, fun i g => ?_⟩, fun x g1 g2 => ⟨?_, ?_⟩⟩,
    ⟨?_, fun s s1 s2 => ?_, ?_, ?_, fun r' g1 g2 => ?_, ?_, ?_, ?_, fun v s f g1 g2 g3 g4 g5 g6 g7 => ?_, ?_, ?_, fun x g1 g2 g3 r' g4 g5 g6 => ?_⟩, fun s s1 s2 => ?_⟩
  · by_cases c5 : j = 5
    · subst c5
      unfold tfX
      rw [mup_oj (by decide), mup_at, e5, tlX_o (by decide), mup_oj (by decide)]
      rfl
    · by_cases c9 : j = 9
      · subst c9
        unfold tfX
        rw [mup_at, e9]
        by_cases c : i = s0
        · rw [if_pos c, if_pos c]
          show min (M 9 s0) (M 5 s0 - 1) = _
          split <;> omega
        · rw [if_neg c, if_neg c, mup_oj (by decide), tlX_o (by decide), mup_oj (by decide)]
          rfl
      · rw [xo j i c5 c9 (by omega) (by omega), eo j i c5 c9 a15 a22, mix_lo hj]
  · rw [eo 16 _ (by decide) (by decide) (by decide) (by decide)] at k2 ⊢
    rw [eo 17 0 (by decide) (by decide) (by decide) (by decide)] at g2
    have := h60 r' g1 (by omega)
    rw [eo 14 _ (by decide) (by decide) (by decide) (by decide), x31, e15]
    by_cases c : M 14 (60 * r' + k) = s0
    · obtain ⟨e1, e2⟩ := hap r' k g1 g2 k1 k2 c
      subst e1
      subst e2
      rw [if_pos c, if_pos rfl, ite_self]
    · rw [if_neg c, if_neg (show ¬ (60 * r' + k = 60 * r + z) from fun e => c (by
        have e1 : r' = r := by omega
        have e2 : k = z := by omega
        rw [e1, e2]
        exact hs0))]
      exact r1 r' k g1 g2 k1 k2
  · rw [x31]
    rw [eo 7 _ (by decide) (by decide) (by decide) (by decide)] at s3
    rw [eo 12 0 (by decide) (by decide) (by decide) (by decide)] at s2
    split
    · rfl
    · exact r0 s s1 s2 s3
  · rw [xo 32 _ (by decide) (by decide) (by decide) (by decide)]
    subst hM'
    exact r2 f f1 f2
  · rw [x33, tl_at (X := mup (mix Y M) 31 s0 0) ⟨by show 1 ≤ M 5 s0; omega, by show M 5 s0 ≤ 999; omega⟩ ⟨ws.1, by omega⟩ g1 ⟨g3, g4⟩ ⟨g5, g6⟩, hout v s f g1 g3 g4 g5 g6]
    have ho := r3.1 v s f g1 g2 g3 g4 g5 g6
    have e19 : mup (mix Y M) 31 s0 0 19 v = M 19 v := rfl
    have e4 : mup (mix Y M) 31 s0 0 4 s0 = M 4 s0 := rfl
    have e5' : mup (mix Y M) 31 s0 0 5 s0 = M 5 s0 := rfl
    have e33 : mup (mix Y M) 31 s0 0 33 (61440 * v + 1024 * s + f) = Y 33 (61440 * v + 1024 * s + f) := rfl
    rw [e19, e4, e5', e33, ho]
    by_cases c : v < M 21 0 ∧ s = s0 ∧ f = M 5 s0 - 1
    · rw [decide_eq_true c]
      by_cases c2 : M 19 v = M 4 s0
      · rw [if_pos ⟨by omega, c2, c.2⟩]
        simp [bN]
      · rw [if_neg (fun x => c2 x.2.1)]
        cases c3 : outP M v s f
        · rfl
        · have := (i7 v s f g1 g2 g3 g4 g5 g6 c3).2.2.1
          rw [c.2.1] at this
          exact absurd this.symm c2
    · rw [decide_eq_false c, if_neg (fun x => c ⟨by omega, x.2.2⟩)]
      simp
  · rw [x33, tl_hi ⟨ws.1, by omega⟩ g _ (by omega)]
    exact r3.2 i g
  · rw [xo 34 _ (by decide) (by decide) (by decide) (by decide)]
    subst hM'
    exact (r4 x g1 g2).1
  · rw [xo 35 _ (by decide) (by decide) (by decide) (by decide)]
    subst hM'
    exact (r4 x g1 g2).2
  · subst hM'; exact i1
  · have b5 : 1 ≤ M 5 s → M 5 s ≤ 999 → 1 ≤ M' 5 s ∧ M' 5 s ≤ 999 := fun a b => by
      rw [e5]
      by_cases c : s = s0
      · rw [if_pos c]; omega
      · rw [if_neg c]; exact ⟨a, b⟩
    have b9 : 0 ≤ M 9 s → M 9 s ≤ 999 → 0 ≤ M' 9 s ∧ M' 9 s ≤ 999 := fun a b => by
      rw [e9]
      by_cases c : s = s0
      · rw [if_pos c]
        split <;> omega
      · rw [if_neg c]; exact ⟨a, b⟩
    subst hM'
    obtain ⟨v1, v2, v3, v4, v5, v6, v7, v8, v9, v10, v11, v12, v13⟩ := i2 s s1 s2
    exact ⟨v1, v2, (b5 v3 v4).1, (b5 v3 v4).2, v5, v6, v7, v8, v9, v10, (b9 v11 v12).1, (b9 v11 v12).2, v13⟩
  · subst hM'; exact i3
  · subst hM'; exact i3e
  · have b15 : ∀ k, 0 ≤ k → k + 1 < M 16 r' → 0 ≤ M 15 (60 * r' + k) ∧ M 15 (60 * r' + k) ≤ M 18 0 → 0 ≤ M' 15 (60 * r' + k) ∧ M' 15 (60 * r' + k) ≤ M 18 0 := fun k a b c => by
      rw [e15]
      split
      · omega
      · exact c
    subst hM'
    obtain ⟨v1, v2, v3, v4, v5⟩ := i4 r' g1 g2
    refine ⟨v1, v2, v3, v4, fun k k1 k2 => ?_⟩
    obtain ⟨u1, u2, u3, u4, u5, u6⟩ := v5 k k1 k2
    exact ⟨u1, u2, u3, u4, fun k3 => b15 k k1 k3 (u5 k3), u6⟩
  · subst hM'; exact i4e
  · subst hM'; exact i5
  · subst hM'; exact i6
  · rw [hout v s f g1 g3 g4 g5 g6, Bool.and_eq_true, Bool.not_eq_true', decide_eq_false_iff_not] at g7
    obtain ⟨v1, v2, v3, v4, v5⟩ := i7 v s f g1 g2 g3 g4 g5 g6 g7.1
    have b5 : f < M' 5 s := by
      rw [e5]
      by_cases c : s = s0
      · rw [if_pos c]
        have : ¬ f = M 5 s0 - 1 := fun x => g7.2 ⟨v1, c, x⟩
        rw [c] at v5
        omega
      · rw [if_neg c]; exact v5
    subst hM'
    exact ⟨v1, v2, v3, v4, b5⟩
  · subst hM'; exact i8
  · subst hM'; exact i10
  · have g : x < M 28 0 ∧ M 27 x = 0 ∧ r' < M 17 0 ∧ M 13 r' = M 19 (M 23 x) := by
      subst hM'
      exact ⟨g2, g3, g5, g6⟩
    obtain ⟨g2, g3, g5, g6⟩ := g
    have a1 : r' ≠ r := fun q => by
      rw [q] at g6
      refine lentM_false.mp hl x.toNat (by omega) ?_ ?_
      · rw [Int.toNat_of_nonneg g1]; exact g3
      · rw [Int.toNat_of_nonneg g1]; exact g6.symm
    rw [hgr r' g4 (by omega) a1, eo 16 _ (by decide) (by decide) (by decide) (by decide), eo 24 _ (by decide) (by decide) (by decide) (by decide), eo 25 _ (by decide) (by decide) (by decide) (by decide), eo 18 _ (by decide) (by decide) (by decide) (by decide)]
    exact i11 x g1 g2 g3 r' g4 g5 g6
  · rw [eo 12 0 (by decide) (by decide) (by decide) (by decide)] at s1
    rw [eo 8 _ (by decide) (by decide) (by decide) (by decide), e9, if_neg (by omega)]
    exact Z s s1 s2
