/-! LISTS: the library's ArrayList over the memory. -/
/-- other addresses, the old tags -/
def TE (S : wS) (T T' : Nat → Nat × Int) : Prop := ∀ c, sK S c ≠ 0 → T' c = T c
/-- a list at a, tagged t, of n elements e; E: the empty row's address -/
def AL (E : Nat) (S : wS) (T : Nat → Nat × Int) (a : Nat) (t : Nat × Int) (n : Int) (e : Int → Nat) : Prop :=
  sK S a = 8 ∧ T a = t ∧ (∃ z : Int, sG S 512 a = .int (iN z)) ∧ sG S 514 a = .int (iN n) ∧ (0 ≤ n ∧ n ≤ 66) ∧ ∃ b, sG S 513 a = .ref b ∧ ((n = 0 ∧ b = E) ∨ (sK S b = 12 ∧ T b = (t.1 + 10, t.2) ∧ n ≤ (sN S b : Int) ∧ 10 ≤ sN S b ∧ sN S b ≤ 100 ∧ ∀ k : Nat, (k : Int) < n → sE S 12 b k = .ref (e k)))
/-- what a list's method leaves as it is -/
def lF (S S' : wS) (T : Nat → Nat × Int) (a : Nat) (t : Nat × Int) : Prop := ∀ c, sK S c ≠ 0 → sK S' c = sK S c ∧ sN S' c = sN S c ∧ (∀ f, (c = a ∧ 512 ≤ f ∧ f < 515) ∨ sG S' f c = sG S f c) ∧ ∀ k i, (k = 12 ∧ sK S c = 12 ∧ T c = (t.1 + 10, t.2)) ∨ sE S' k c i = sE S k c i
def LsP (E : Nat) (S : wS) (T : Nat → Nat × Int) (a : Nat) (t : Nat × Int) (n : Int) (e : Int → Nat) (S' : wS) : Prop := ∃ T', TE S T T' ∧ AL E S' T' a t n e ∧ lF S S' T a t
/-- a list's new row q -/
def gF (S S' : wS) (a q : Nat) : Prop := ∀ c, c ≠ q → sK S' c = sK S c ∧ sN S' c = sN S c ∧ (∀ f, (c = a ∧ f = 513) ∨ sG S' f c = sG S f c) ∧ ∀ k i, sE S' k c i = sE S k c i
def gP (S : wS) (a : Nat) (n : Int) (e : Int → Nat) (q : Nat) (S' : wS) : Prop := sK S q = 0 ∧ q ≠ a ∧ sK S' q = 12 ∧ n < (sN S' q : Int) ∧ 10 ≤ sN S' q ∧ sN S' q ≤ 100 ∧ (∀ k : Nat, (k : Int) < n → sE S' 12 q k = .ref (e k)) ∧ sG S' 513 a = .ref q ∧ gF S S' a q
theorem sK_put {S : wS} {f a : Nat} {v : Value} : sK (sPut S f a v) = sK S := rfl
theorem sN_put {S : wS} {f a : Nat} {v : Value} : sN (sPut S f a v) = sN S := rfl
theorem sE_put {S : wS} {f a : Nat} {v : Value} : sE (sPut S f a v) = sE S := rfl
theorem sG_put {S : wS} {f a : Nat} {v : Value} : sG (sPut S f a v) f a = v := by show (if (f = f ∧ a = a) then v else _) = v; rw [if_pos ⟨rfl, rfl⟩]
theorem sG_put' {S : wS} {f a : Nat} {v : Value} {g b : Nat} (h : ¬ (g = f ∧ b = a)) : sG (sPut S f a v) g b = sG S g b := by show (if (g = f ∧ b = a) then v else sG S g b) = _; rw [if_neg h]
theorem sE_putE {S : wS} {k a j : Nat} {v : Value} : sE (sPutE S k a j v) k a j = v := by show (if (k = k ∧ a = a ∧ j = j) then v else _) = v; rw [if_pos ⟨rfl, rfl, rfl⟩]
theorem sE_putE' {S : wS} {k a j : Nat} {v : Value} {g b i : Nat} (h : ¬ (g = k ∧ b = a ∧ i = j)) : sE (sPutE S k a j v) g b i = sE S g b i := by show (if (g = k ∧ b = a ∧ i = j) then v else sE S g b i) = _; rw [if_neg h]
theorem sE_putR {S : wS} {k a : Nat} {f : Nat → Value} {i : Nat} : sE (sPutR S k a f) k a i = f i := by show (if (k = k ∧ a = a) then f i else _) = _; rw [if_pos ⟨rfl, rfl⟩]
theorem sE_putR' {S : wS} {k a : Nat} {f : Nat → Value} {g b i : Nat} (h : ¬ (g = k ∧ b = a)) : sE (sPutR S k a f) g b i = sE S g b i := by show (if (g = k ∧ b = a) then f i else sE S g b i) = _; rw [if_neg h]
theorem sK_putR {S : wS} {k a : Nat} {f : Nat → Value} : sK (sPutR S k a f) = sK S := rfl
theorem sN_putR {S : wS} {k a : Nat} {f : Nat → Value} : sN (sPutR S k a f) = sN S := rfl
theorem sK_newA {S : wS} {k a n : Nat} {f : Nat → Value} : sK (sNewA S k a n f) a = k := by show (if a = a then k else _) = k; rw [if_pos rfl]
theorem sK_newA' {S : wS} {k a n : Nat} {f : Nat → Value} {b : Nat} (h : b ≠ a) : sK (sNewA S k a n f) b = sK S b := by show (if b = a then k else sK S b) = _; rw [if_neg h]
theorem sN_newA {S : wS} {k a n : Nat} {f : Nat → Value} : sN (sNewA S k a n f) a = n := by show (if a = a then n else _) = n; rw [if_pos rfl]
theorem sN_newA' {S : wS} {k a n : Nat} {f : Nat → Value} {b : Nat} (h : b ≠ a) : sN (sNewA S k a n f) b = sN S b := by show (if b = a then n else sN S b) = _; rw [if_neg h]
theorem sE_newA {S : wS} {k a n : Nat} {f : Nat → Value} {i : Nat} : sE (sNewA S k a n f) k a i = f i := by show (if (k = k ∧ a = a) then f i else _) = _; rw [if_pos ⟨rfl, rfl⟩]
theorem sE_newA' {S : wS} {k a n : Nat} {f : Nat → Value} {g b i : Nat} (h : b ≠ a) : sE (sNewA S k a n f) g b i = sE S g b i := by show (if (g = k ∧ b = a) then f i else sE S g b i) = _; rw [if_neg (fun z => h z.2)]
theorem sG_newA {S : wS} {k a n : Nat} {f : Nat → Value} : sG (sNewA S k a n f) = sG S := rfl
theorem sK_new {S : wS} {k a : Nat} {f : Nat → Value} : sK (sNew S k a f) a = k := by show (if a = a then k else _) = k; rw [if_pos rfl]
theorem sK_new' {S : wS} {k a : Nat} {f : Nat → Value} {b : Nat} (h : b ≠ a) : sK (sNew S k a f) b = sK S b := by show (if b = a then k else sK S b) = _; rw [if_neg h]
theorem sG_new {S : wS} {k a : Nat} {f : Nat → Value} {j : Nat} (h : j < 64) : sG (sNew S k a f) (64 * k + j) a = f j := by
  show (if (a = a ∧ 64 * k ≤ 64 * k + j ∧ 64 * k + j < 64 * k + 64) then f (64 * k + j - 64 * k) else _) = _
  rw [if_pos ⟨rfl, by omega, by omega⟩, Nat.add_sub_cancel_left]
theorem sG_new' {S : wS} {k a : Nat} {f : Nat → Value} {g b : Nat} (h : b ≠ a) : sG (sNew S k a f) g b = sG S g b := by show (if (b = a ∧ _) then _ else sG S g b) = _; rw [if_neg (fun z => h z.1)]
theorem lF.rf {S : wS} {T : Nat → Nat × Int} {a : Nat} {t : Nat × Int} : lF S S T a t := fun c _ => ⟨rfl, rfl, fun _ => Or.inr rfl, fun _ _ => Or.inr rfl⟩
theorem lF.tr {S1 S2 S3 : wS} {T T' : Nat → Nat × Int} {a : Nat} {t : Nat × Int} (h : lF S1 S2 T a t) (h' : lF S2 S3 T' a t) (hT : TE S1 T T') : lF S1 S3 T a t := by
  intro c hc
  obtain ⟨a1, a2, a3, a4⟩ := h c hc
  obtain ⟨b1, b2, b3, b4⟩ := h' c (by rw [a1]; exact hc)
  refine ⟨b1.trans a1, b2.trans a2, fun f => ?_, fun k i => ?_⟩
  · rcases b3 f with q | q
    · exact Or.inl q
    · rcases a3 f with q' | q'
      · exact Or.inl q'
      · exact Or.inr (q.trans q')
  · rcases b4 k i with q | q
    · exact Or.inl ⟨q.1, by rw [← a1]; exact q.2.1, by rw [← hT c hc]; exact q.2.2⟩
    · rcases a4 k i with q' | q'
      · exact Or.inl q'
      · exact Or.inr (q.trans q')
theorem AL.mod {E : Nat} {S : wS} {T : Nat → Nat × Int} {a : Nat} {t : Nat × Int} {n : Int} {e : Int → Nat} {z : Int} (h : AL E S T a t n e) : AL E (sPut S (64 * 8 + 0) a (.int (iN z))) T a t n e := by
  obtain ⟨h1, h2, h3, h4, h5, b, h6, h7⟩ := h
  refine ⟨h1, h2, ⟨z, sG_put⟩, ?_, h5, b, ?_, h7⟩
  · rw [sG_put' (by omega)]; exact h4
  · rw [sG_put' (by omega)]; exact h6
theorem lF.mod {S : wS} {T : Nat → Nat × Int} {a : Nat} {t : Nat × Int} {v : Value} : lF S (sPut S (64 * 8 + 0) a v) T a t := by
  intro c _
  refine ⟨rfl, rfl, fun f => ?_, fun _ _ => Or.inr rfl⟩
  by_cases e : f = 64 * 8 + 0 ∧ c = a
  · exact Or.inl ⟨e.2, by omega, by omega⟩
  · exact Or.inr (sG_put' e)
theorem LsP.mod {E : Nat} {S S' : wS} {T : Nat → Nat × Int} {a : Nat} {t : Nat × Int} {n : Int} {e : Int → Nat} {v : Value} (h : LsP E (sPut S (64 * 8 + 0) a v) T a t n e S') : LsP E S T a t n e S' := by
  obtain ⟨T', h1, h2, h3⟩ := h
  exact ⟨T', h1, h2, lF.tr lF.mod h3 (fun c hc => rfl)⟩
/-- the element n is written, the size is one more -/
theorem LsP.set {E : Nat} {S : wS} {T : Nat → Nat × Int} {a b y : Nat} {t : Nat × Int} {n : Int} {e : Int → Nat} (h : AL E S T a t n e) (hb : sG S 513 a = .ref b) (hc : n < (sN S b : Int)) (hk : sK S b = 12) (hE : b ≠ E) (hn : n ≤ 65) :
    LsP E S T a t (n + 1) (fun k => if k = n then y else e k) (sPut (sPutE S 12 b n.toNat (.ref y)) (64 * 8 + 2) a (.int (iN (n + 1)))) := by
  obtain ⟨h1, h2, ⟨z, h3⟩, h4, h5, b', h6, h7⟩ := h
  cases hb.symm.trans h6
  rcases h7 with ⟨-, h7⟩ | ⟨-, g2, g3, g4, g5, g6⟩
  · exact absurd h7 hE
  refine ⟨T, fun _ _ => rfl, ⟨h1, h2, ⟨z, ?_⟩, sG_put, by omega, b, ?_, Or.inr ⟨hk, g2, by show n + 1 ≤ (sN S b : Int); omega, g4, g5, fun k hk2 => ?_⟩⟩, fun c hc2 => ⟨rfl, rfl, fun f => ?_, fun k i => ?_⟩⟩
  · rw [sG_put' (by omega)]; exact h3
  · rw [sG_put' (by omega)]; exact h6
  · show sE (sPutE S 12 b n.toNat (.ref y)) 12 b k = .ref (if (k : Int) = n then y else e k)
    by_cases e9 : (k : Int) = n
    · rw [if_pos e9, show n.toNat = k by omega]; exact sE_putE
    · rw [if_neg e9, sE_putE' (by omega)]; exact g6 k (by omega)
  · by_cases e : f = 64 * 8 + 2 ∧ c = a
    · exact Or.inl ⟨e.2, by omega, by omega⟩
    · right; rw [sG_put' e]; rfl
  · by_cases e : k = 12 ∧ c = b
    · exact Or.inl ⟨e.1, by rw [e.2]; exact hk, by rw [e.2]; exact g2⟩
    · right
      show sE (sPutE S 12 b n.toNat (.ref y)) k c i = _
      rw [sE_putE' (fun q => e ⟨q.1, q.2.1⟩)]
/-- a list with its new row -/
theorem AL.grown {E : Nat} {S S' : wS} {T : Nat → Nat × Int} {a q : Nat} {t : Nat × Int} {n : Int} {e : Int → Nat} (h : AL E S T a t n e) (g : gP S a n e q S') (hE : sK S' E = 0) : ∃ T', TE S T T' ∧ AL E S' T' a t n e ∧ lF S S' T a t ∧ q ≠ E := by
  obtain ⟨h1, h2, ⟨z, h3⟩, h4, h5, b, h6, h7⟩ := h
  obtain ⟨g1, g2, g3, g4, g5, g6, g7, g8, g9⟩ := g
  have hqa : a ≠ q := fun z => g2 z.symm
  obtain ⟨f1, f2, f3, f4⟩ := g9 a hqa
  refine ⟨fun c => if c = q then (t.1 + 10, t.2) else T c, fun c hc => ?_, ⟨f1.trans h1, ?_, ⟨z, ?_⟩, ?_, h5, q, g8, Or.inr ⟨g3, ?_, by omega, g5, g6, g7⟩⟩, fun c hc => ?_, fun z => by rw [z] at g3; omega⟩
  · show (if c = q then _ else T c) = T c
    rw [if_neg (fun z => hc (by rw [z]; exact g1))]
  · show (if a = q then _ else T a) = t
    rw [if_neg hqa]; exact h2
  · rcases f3 512 with z | z
    · omega
    · rw [z]; exact h3
  · rcases f3 514 with z | z
    · omega
    · rw [z]; exact h4
  · show (if q = q then _ else T q) = _
    rw [if_pos rfl]
  · have hcq : c ≠ q := fun z => hc (by rw [z]; exact g1)
    obtain ⟨k1, k2, k3, k4⟩ := g9 c hcq
    refine ⟨k1, k2, fun f => ?_, fun k i => Or.inr (k4 k i)⟩
    rcases k3 f with z | z
    · exact Or.inl ⟨z.1, by omega, by omega⟩
    · exact Or.inr z
theorem LsP.tr {E : Nat} {S S' S'' : wS} {T T' : Nat → Nat × Int} {a : Nat} {t : Nat × Int} {n : Int} {e : Int → Nat} (h1 : TE S T T') (h2 : lF S S' T a t) (h3 : LsP E S' T' a t n e S'') : LsP E S T a t n e S'' := by
  obtain ⟨T'', a1, a2, a3⟩ := h3
  refine ⟨T'', fun c hc => ?_, a2, lF.tr h2 a3 h1⟩
  rw [a1 c (by rw [(h2 c hc).1]; exact hc), h1 c hc]
theorem iN_shr1 {z : Int} (h : 0 ≤ z ∧ z < 1000) : shrI z 1 = z / 2 := by
  unfold shrI
  have h2 : (iN z >>> (iN 1 &&& 31)).toInt = (iN z).toInt >>> 1 := pk_shr (iN z) (iN 1 &&& 31) 1 (by decide)
  rw [h2, iN_T (by unfold rg; omega), Int.shiftRight_eq_div_pow]
  rfl

set_option maxHeartbeats 4000000 in
set_option maxRecDepth 100000 in
theorem c_alSize (l : Launch) (hfl : l.stackTraces = false) {S : wS} {a : Nat} {n : Int} (hk : sK S a = 8) (hn : sG S 514 a = .int (iN n)) : Ct l yJx4a65c_size_8abf5 cJx4a65c_size_8abf5 1 (some FieldType.int) 1 0 0 [.ref a] S (fun r S' => r = .inl (some (.int (iN n))) ∧ S' = S) := by
  refine Ct.of cal_Jx4a65c_size_8abf5 hfl (Nat.le_of_ble_eq_true rfl) ?_
  intro p e s m args below meth c D sz C ME
  refine j_aload_n C dJx4a65c_size_8abf5_0 rfl ?_
  refine j_get C fl_AL_48 hk ⟨by decide, by decide, by decide⟩ hn dJx4a65c_size_8abf5_1 ?_
  refine j_iret C ME ?_ (by omega) (by omega) dJx4a65c_size_8abf5_4
  exact ⟨rfl, rfl⟩

set_option maxHeartbeats 4000000 in
set_option maxRecDepth 100000 in
theorem c_alEmpty (l : Launch) (hfl : l.stackTraces = false) {S : wS} {a : Nat} {n : Int} (hk : sK S a = 8) (hn : sG S 514 a = .int (iN n)) (h0 : rg n) : Ct l yJx4a65c_isEmpty_aae02 cJx4a65c_isEmpty_aae02 1 (some FieldType.boolean) 1 0 0 [.ref a] S (fun r S' => r = .inl (some (.int (iN (bN (decide (n = 0)))))) ∧ S' = S) := by
  refine Ct.of cal_Jx4a65c_isEmpty_aae02 hfl (Nat.le_of_ble_eq_true rfl) ?_
  intro p e s m args below meth c D sz C ME
  refine j_aload_n C dJx4a65c_isEmpty_aae02_0 rfl ?_
  refine j_get C fl_AL_48 hk ⟨by decide, by decide, by decide⟩ hn dJx4a65c_isEmpty_aae02_1 ?_
  refine j_if_ne (tgt := 11) C dJx4a65c_isEmpty_aae02_4 (by decide) (by unfold rg at *; omega) (fun c4 => ?_) (fun c4 => ?_)
  · refine j_iconst C dJx4a65c_isEmpty_aae02_11 ?_
    refine j_zret C ME (by first | exact Or.inl rfl | exact Or.inr rfl | (unfold bN; split <;> simp)) ?_ (by omega) (by omega) dJx4a65c_isEmpty_aae02_12
    exact ⟨rI (by first | exact b1 (by omega) | exact b0 (by omega)), rfl⟩
  · refine j_iconst C dJx4a65c_isEmpty_aae02_7 ?_
    refine j_goto (tgt := 12) C dJx4a65c_isEmpty_aae02_8 (by decide) ?_
    refine j_zret C ME (by first | exact Or.inl rfl | exact Or.inr rfl | (unfold bN; split <;> simp)) ?_ (by omega) (by omega) dJx4a65c_isEmpty_aae02_12
    exact ⟨rI (by first | exact b1 (by omega) | exact b0 (by omega)), rfl⟩

set_option maxHeartbeats 4000000 in
set_option maxRecDepth 100000 in
theorem c_chk3 (l : Launch) (hfl : l.stackTraces = false) {S : wS} {i n : Int} (hi : 0 ≤ i ∧ i < n) (hn : n < 100000) : Ct l yJ3_checkIndex_8e157 cJ3_checkIndex_8e157 3 (some FieldType.int) 1 0 0 [.int (iN i), .int (iN n), .null] S (fun r S' => r = .inl (some (.int (iN i))) ∧ S' = S) := by
  refine Ct.of cal_J3_checkIndex_8e157 hfl (Nat.le_of_ble_eq_true rfl) ?_
  intro p e s m args below meth c D sz C ME
  refine j_iload_n C dJ3_checkIndex_8e157_0 rfl ?_
  refine j_if_lt (tgt := 9) C dJ3_checkIndex_8e157_1 (by decide) (by unfold rg at *; omega) (fun c1 => ?_) (fun c1 => ?_)
  · exact absurd c1 (by omega)
  · refine j_iload_n C dJ3_checkIndex_8e157_4 rfl ?_
    refine j_iload_n C dJ3_checkIndex_8e157_5 rfl ?_
    refine j_icmp_lt (tgt := 16) C dJ3_checkIndex_8e157_6 (by decide) (by unfold rg at *; omega) (by unfold rg at *; omega) (fun c6 => ?_) (fun c6 => ?_)
    · refine j_iload_n C dJ3_checkIndex_8e157_16 rfl ?_
      refine j_iret C ME ?_ (by omega) (by omega) dJ3_checkIndex_8e157_17
      exact ⟨rfl, rfl⟩
    · exact absurd hi.2 c6

set_option maxHeartbeats 4000000 in
set_option maxRecDepth 100000 in
theorem c_chk (l : Launch) (hfl : l.stackTraces = false) {S : wS} {i n : Int} (hi : 0 ≤ i ∧ i < n) (hn : n < 100000) : Ct l yJ15_checkIndex_7cf53 cJ15_checkIndex_7cf53 2 (some FieldType.int) 2 0 0 [.int (iN i), .int (iN n)] S (fun r S' => r = .inl (some (.int (iN i))) ∧ S' = S) := by
  refine Ct.of cal_J15_checkIndex_7cf53 hfl (Nat.le_of_ble_eq_true rfl) ?_
  intro p e s m args below meth c D sz C ME
  refine j_iload_n C dJ15_checkIndex_7cf53_0 rfl ?_
  refine j_iload_n C dJ15_checkIndex_7cf53_1 rfl ?_
  refine j_null C dJ15_checkIndex_7cf53_2 ?_
  refine j_callS C (c_chk3 l hfl hi hn) cal_J3_checkIndex_8e157 st_J3_checkIndex_8e157 ml_Ob_105 rfl rfl (Nat.le_of_ble_eq_true rfl) ⟨by decide, by decide⟩ ⟨(by first | omega | (dsimp only; omega)), (by first | omega | (dsimp only; omega))⟩ dJ15_checkIndex_7cf53_3 (fun E S9 h => nomatch h.1) (fun v9 S9 h => ?_)
  obtain ⟨h, h9⟩ := h
  have h9 := h9.symm
  subst h9
  cases h
  refine j_iret C ME ?_ (by omega) (by omega) dJ15_checkIndex_7cf53_6
  exact ⟨rfl, rfl⟩

set_option maxHeartbeats 4000000 in
set_option maxRecDepth 100000 in
theorem c_alEl (l : Launch) (hfl : l.stackTraces = false) {S : wS} {a b y : Nat} {i : Int} (hk : sK S a = 8) (hb : sG S 513 a = .ref b) (hk2 : sK S b = 12) (hi : 0 ≤ i ∧ i < (sN S b : Int) ∧ i < 2147483648) (hy : sE S 12 b i.toNat = .ref y) : Ct l yJx4a65c_elementData_915e3 cJx4a65c_elementData_915e3 2 (some (FieldType.object "java/lang/Object")) 1 0 0 [.ref a, .int (iN i)] S (fun r S' => r = .inl (some (.ref y)) ∧ S' = S) := by
  refine Ct.of cal_Jx4a65c_elementData_915e3 hfl (Nat.le_of_ble_eq_true rfl) ?_
  intro p e s m args below meth c D sz C ME
  refine j_aload_n C dJx4a65c_elementData_915e3_0 rfl ?_
  refine j_get C fl_AL_9 hk ⟨by decide, by decide, by decide⟩ hb dJx4a65c_elementData_915e3_1 ?_
  refine j_iload_n C dJx4a65c_elementData_915e3_4 rfl ?_
  refine j_aald C hk2 hi hy dJx4a65c_elementData_915e3_5 ?_
  refine j_aret C ME (Or.inl ⟨_, rfl⟩) (Or.inr ⟨_, rfl⟩) ?_ (by omega) (by omega) dJx4a65c_elementData_915e3_6
  exact ⟨rfl, rfl⟩

set_option maxHeartbeats 4000000 in
set_option maxRecDepth 100000 in
theorem c_alGet (l : Launch) (hfl : l.stackTraces = false) {S : wS} {E : Nat} {T : Nat → Nat × Int} {a : Nat} {t : Nat × Int} {n i : Int} {e9 : Int → Nat} (hA : AL E S T a t n e9) (hi : 0 ≤ i ∧ i < n) {F9 : Prop} (hF : F9) : Ct l yJx4a65c_get_915e3 cJx4a65c_get_915e3 2 (some (FieldType.object "java/lang/Object")) 3 0 0 [.ref a, .int (iN i)] S (fun r S' => r = .inl (some (.ref (e9 i))) ∧ S' = S ∧ F9) := by
  refine Ct.of cal_Jx4a65c_get_915e3 hfl (Nat.le_of_ble_eq_true rfl) ?_
  intro p e s m args below meth c D sz C ME
  obtain ⟨h1, -, -, h4, h5, b, h6, h7⟩ := hA
  rcases h7 with ⟨h7, -⟩ | ⟨g1, -, g3, -, -, g6⟩
  · omega
  have g6 := g6 i.toNat (by omega)
  rw [Int.toNat_of_nonneg hi.1] at g6
  refine j_iload_n C dJx4a65c_get_915e3_0 rfl ?_
  refine j_aload_n C dJx4a65c_get_915e3_1 rfl ?_
  refine j_get C fl_AL_48 h1 ⟨by decide, by decide, by decide⟩ h4 dJx4a65c_get_915e3_2 ?_
  refine j_callS C (c_chk l hfl hi (by omega)) cal_J15_checkIndex_7cf53 st_J15_checkIndex_7cf53 ml_AL_118 rfl rfl (Nat.le_of_ble_eq_true rfl) ⟨by decide, by decide⟩ ⟨(by first | omega | (dsimp only; omega)), (by first | omega | (dsimp only; omega))⟩ dJx4a65c_get_915e3_5 (fun E S9 h => nomatch h.1) (fun v9 S9 h => ?_)
  obtain ⟨h, h9⟩ := h
  have h9 := h9.symm
  subst h9
  cases h
  refine j_pop C dJx4a65c_get_915e3_8 rfl ?_
  refine j_aload_n C dJx4a65c_get_915e3_9 rfl ?_
  refine j_iload_n C dJx4a65c_get_915e3_10 rfl ?_
  refine j_callV C (c_alEl l hfl h1 h6 g1 (by omega) g6) cal_Jx4a65c_elementData_915e3 vi_Jx4a65c_elementData_915e3 ml_AL_123 h1 ⟨by decide, by decide, rfl⟩ rfl rfl (Nat.le_of_ble_eq_true rfl) ⟨by decide, by decide⟩ ⟨(by first | omega | (dsimp only; omega)), (by first | omega | (dsimp only; omega))⟩ dJx4a65c_get_915e3_11 (fun E S9 h => nomatch h.1) (fun v9 S9 h => ?_)
  obtain ⟨h, h9⟩ := h
  have h9 := h9.symm
  subst h9
  cases h
  refine j_aret C ME (Or.inl ⟨_, rfl⟩) (Or.inr ⟨_, rfl⟩) ?_ (by omega) (by omega) dJx4a65c_get_915e3_14
  exact ⟨rfl, rfl, hF⟩

set_option maxHeartbeats 4000000 in
set_option maxRecDepth 100000 in
theorem c_acInit (l : Launch) (hfl : l.stackTraces = false) {S : wS} {a : Nat} : Ct l yJxa1e45_init_da8c8 cJxa1e45_init_da8c8 1 none 1 0 0 [.ref a] S (fun r S' => r = .inl none ∧ S' = S) := by
  refine Ct.of cal_Jxa1e45_init_da8c8 hfl (Nat.le_of_ble_eq_true rfl) ?_
  intro p e s m args below meth c D sz C ME
  refine j_aload_n C dJxa1e45_init_da8c8_0 rfl ?_
  refine j_objInit C ml_Ac_1 ⟨by decide, by decide⟩ dJxa1e45_init_da8c8_1 ?_
  refine j_vret C ME ?_ (by omega) (by omega) dJxa1e45_init_da8c8_4
  exact ⟨rfl, rfl⟩

set_option maxHeartbeats 4000000 in
set_option maxRecDepth 100000 in
theorem c_abInit (l : Launch) (hfl : l.stackTraces = false) {S : wS} {a : Nat} (hk : sK S a = 8) : Ct l yJxc12de_init_da8c8 cJxc12de_init_da8c8 1 none 2 0 0 [.ref a] S (fun r S' => r = .inl none ∧ S' = sPut S (64 * 8 + 0) a (.int (iN 0))) := by
  refine Ct.of cal_Jxc12de_init_da8c8 hfl (Nat.le_of_ble_eq_true rfl) ?_
  intro p e s m args below meth c D sz C ME
  refine j_aload_n C dJxc12de_init_da8c8_0 rfl ?_
  refine j_callI C (c_acInit l hfl) cal_Jxa1e45_init_da8c8 in_Jxa1e45_init_da8c8 ml_Ab_1 (by decide) rfl rfl (Nat.le_of_ble_eq_true rfl) ⟨by decide, by decide⟩ ⟨(by first | omega | (dsimp only; omega)), (by first | omega | (dsimp only; omega))⟩ dJxc12de_init_da8c8_1 (fun E S9 h => nomatch h.1) (fun v9 S9 h => ?_)
  obtain ⟨h, h9⟩ := h
  have h9 := h9.symm
  subst h9
  cases h
  refine j_aload_n C dJxc12de_init_da8c8_4 rfl ?_
  refine j_iconst C dJxc12de_init_da8c8_5 ?_
  refine j_put C (kd := 8) (j := 0) (FL_of (ref := "java/util/AbstractList") sl_Ab_7 rfl) hk ⟨by decide, by decide, by decide⟩ (by decide) rfl rfl dJxc12de_init_da8c8_6 ?_
  refine j_vret C ME ?_ (by omega) (by omega) dJxc12de_init_da8c8_9
  exact ⟨rfl, rfl⟩

set_option maxHeartbeats 4000000 in
set_option maxRecDepth 100000 in
theorem c_alInit (l : Launch) (hfl : l.stackTraces = false) {D : wD} {S : wS} {a : Nat} (hk : sK S a = 8) : CtD l D yJx4a65c_init_da8c8 cJx4a65c_init_da8c8 1 none 3 0 0 [.ref a] S (fun r S' => r = .inl none ∧ S' = sPut (sPut S (64 * 8 + 0) a (.int (iN 0))) (64 * 8 + 1) a (.ref D.2.2.1)) := by
  refine CtD.of cal_Jx4a65c_init_da8c8 hfl (Nat.le_of_ble_eq_true rfl) ?_
  intro p e s m args below meth c sz C ME
  refine j_aload_n C dJx4a65c_init_da8c8_0 rfl ?_
  refine j_callI C (c_abInit l hfl hk) cal_Jxc12de_init_da8c8 in_Jxc12de_init_da8c8 ml_AL_1 (by decide) rfl rfl (Nat.le_of_ble_eq_true rfl) ⟨by decide, by decide⟩ ⟨(by first | omega | (dsimp only; omega)), (by first | omega | (dsimp only; omega))⟩ dJx4a65c_init_da8c8_1 (fun E S9 h => nomatch h.1) (fun v9 S9 h => ?_)
  obtain ⟨h, h9⟩ := h
  have h9 := h9.symm
  subst h9
  cases h
  refine j_aload_n C dJx4a65c_init_da8c8_4 rfl ?_
  refine j_getsE C dJx4a65c_init_da8c8_5 ?_
  refine j_put C fl_AL_9 hk ⟨by decide, by decide, by decide⟩ (by decide) rfl rfl dJx4a65c_init_da8c8_8 ?_
  refine j_vret C ME ?_ (by omega) (by omega) dJx4a65c_init_da8c8_11
  exact ⟨rfl, rfl⟩

set_option maxHeartbeats 4000000 in
set_option maxRecDepth 100000 in
theorem c_newLen (l : Launch) (hfl : l.stackTraces = false) {S : wS} {c9 a9 b9 : Int} (h1 : 10 ≤ c9 ∧ c9 ≤ 100) (h2 : 0 ≤ a9 ∧ a9 ≤ 100) (h3 : 0 ≤ b9 ∧ b9 ≤ 100) : Ct l yJ8_newLength_cabcc cJ8_newLength_cabcc 4 (some FieldType.int) 1 0 0 [.int (iN c9), .int (iN a9), .int (iN b9)] S (fun r S' => r = .inl (some (.int (iN (c9 + max a9 b9)))) ∧ S' = S) := by
  refine Ct.of cal_J8_newLength_cabcc hfl (Nat.le_of_ble_eq_true rfl) ?_
  intro p e s m args below meth c D sz C ME
  have hm : 0 ≤ max a9 b9 ∧ max a9 b9 ≤ 100 := by omega
  refine j_iload_n C dJ8_newLength_cabcc_0 rfl ?_
  refine j_iload_n C dJ8_newLength_cabcc_1 rfl ?_
  refine j_iload_n C dJ8_newLength_cabcc_2 rfl ?_
  refine j_mmax C ml_As_194 (by unfold rg at *; omega) (by unfold rg at *; omega) ⟨by decide, (Nat.le_of_ble_eq_true rfl), (by first | omega | (dsimp only; omega)), (by first | omega | (dsimp only; omega))⟩ dJ8_newLength_cabcc_3 ?_
  refine j_iadd C dJ8_newLength_cabcc_6 ?_
  refine j_istore_n C dJ8_newLength_cabcc_7 (by decide) ?_
  refine j_iconst C dJ8_newLength_cabcc_8 ?_
  refine j_iload_n C dJ8_newLength_cabcc_9 rfl ?_
  refine j_icmp_ge (tgt := 21) C dJ8_newLength_cabcc_10 (by decide) (by unfold rg at *; omega) (by unfold rg at *; omega) (fun c10 => ?_) (fun c10 => ?_)
  · exact absurd c10 (by omega)
  · refine j_iload_n C dJ8_newLength_cabcc_13 rfl ?_
    refine j_ldc C kc_As_200 (z := 2147483639) (by decide) dJ8_newLength_cabcc_14 ?_
    refine j_icmp_gt (tgt := 21) C dJ8_newLength_cabcc_16 (by decide) (by unfold rg at *; omega) (by unfold rg at *; omega) (fun c16 => ?_) (fun c16 => ?_)
    · exact absurd c16 (by omega)
    · refine j_iload_n C dJ8_newLength_cabcc_19 rfl ?_
      refine j_iret C ME ?_ (by omega) (by omega) dJ8_newLength_cabcc_20
      exact ⟨rI (by omega), rfl⟩

set_option maxHeartbeats 4000000 in
set_option maxRecDepth 100000 in
theorem c_copy3 (l : Launch) (hfl : l.stackTraces = false) {D : wD} {S : wS} {b : Nat} {z : Int} (hk : sK S b = 12) (hz : (sN S b : Int) ≤ z ∧ z ≤ 150) (hel : ∀ i : Nat, i < sN S b → sE S 12 b i = .null ∨ ∃ y kd : Nat, sE S 12 b i = .ref y ∧ sK S y = kd ∧ 1 ≤ kd ∧ kd ≤ 5) : CtD l D yJ7_copyOf_6403c cJ7_copyOf_6403c 4 (some (FieldType.array (FieldType.object "java/lang/Object"))) 1 1 150 [.ref b, .int (iN z), .ref D.2.2.2] S (fun r S' => ∃ q, r = .inl (some (.ref q)) ∧ sK S q = 0 ∧ S' = (sPutR (sNewA S 12 q z.toNat (fun _ => .null)) 12 q (va_cpy (fun i => sE (sNewA S 12 q z.toNat (fun _ => .null)) 12 b i) (fun i => sE (sNewA S 12 q z.toNat (fun _ => .null)) 12 q i) (0 : Int).toNat (0 : Int).toNat (min (sN S b : Int) z).toNat))) := by
  refine CtD.of cal_J7_copyOf_6403c hfl (Nat.le_of_ble_eq_true rfl) ?_
  intro p e s m args below meth c sz C ME
  refine j_aload_n C dJ7_copyOf_6403c_0 rfl ?_
  refine j_ldcC C cl_Ar_110 dJ7_copyOf_6403c_1 ?_
  refine j_acmp_ne (tgt := 13) C dJ7_copyOf_6403c_3 (by decide) (fun c3 => ?_) (fun c3 => ?_)
  · exact absurd rfl c3
  · refine j_iload_n C dJ7_copyOf_6403c_6 rfl ?_
    refine j_newq C cl_Ar_2 (by omega) ⟨(by dsimp only; omega), (by dsimp only; omega)⟩ dJ7_copyOf_6403c_7 (fun q hq hq2 => ?_)
    have hbq : b ≠ q := fun z => by rw [z] at hk; omega
    have eN : sN (sNewA S 12 q z.toNat (fun _ => .null)) b = sN S b := sN_newA' hbq
    refine j_goto (tgt := 24) C dJ7_copyOf_6403c_10 (by decide) ?_
    refine j_astore_n C dJ7_copyOf_6403c_24 (by decide) ?_
    refine j_aload_n C dJ7_copyOf_6403c_25 rfl ?_
    refine j_iconst C dJ7_copyOf_6403c_26 ?_
    refine j_aload_n C dJ7_copyOf_6403c_27 rfl ?_
    refine j_iconst C dJ7_copyOf_6403c_28 ?_
    refine j_aload_n C dJ7_copyOf_6403c_29 rfl ?_
    refine j_alen C (a := b) (kd := 12) (by rw [sK_newA' hbq]; exact hk) ⟨by decide, by decide⟩ dJ7_copyOf_6403c_30 ?_
    rw [eN]
    refine j_iload_n C dJ7_copyOf_6403c_31 rfl ?_
    refine j_mmin C ml_Ar_304 (by unfold rg; omega) (by unfold rg; omega) ⟨by decide, (Nat.le_of_ble_eq_true rfl), (by first | omega | (dsimp only; omega)), (by first | omega | (dsimp only; omega))⟩ dJ7_copyOf_6403c_32 ?_
    refine j_copyq C ml_Ar_150 (by rw [sK_newA' hbq]; exact hk) sK_newA ⟨by omega, by omega, by omega⟩ (by rw [eN]; omega) (by rw [sN_newA]; omega) ⟨by omega, by omega, by omega⟩ (fun i hi => ?_) ⟨by decide, (Nat.le_of_ble_eq_true rfl)⟩ dJ7_copyOf_6403c_35 ?_
    · rw [sE_newA' hbq, show (0 : Int).toNat + i = i by omega]
      rcases hel i (by omega) with h | ⟨y, kd, h1, h2, h3⟩
      · exact Or.inl h
      · exact Or.inr ⟨y, kd, h1, by rw [sK_newA' (fun z => by rw [z] at h2; omega)]; exact h2, h3⟩
    refine j_aload_n C dJ7_copyOf_6403c_38 rfl ?_
    refine j_aret C ME (Or.inr ⟨_, rfl⟩) (Or.inr ⟨_, rfl⟩) ?_ (by omega) (by omega) dJ7_copyOf_6403c_39
    exact ⟨q, rfl, hq, rfl⟩

set_option maxHeartbeats 4000000 in
set_option maxRecDepth 100000 in
theorem c_copy2 (l : Launch) (hfl : l.stackTraces = false) {D : wD} {S : wS} {b : Nat} {z : Int} (hk : sK S b = 12) (hz : (sN S b : Int) ≤ z ∧ z ≤ 150) (hel : ∀ i : Nat, i < sN S b → sE S 12 b i = .null ∨ ∃ y kd : Nat, sE S 12 b i = .ref y ∧ sK S y = kd ∧ 1 ≤ kd ∧ kd ≤ 5) : CtD l D yJ7_copyOf_1904c cJ7_copyOf_1904c 2 (some (FieldType.array (FieldType.object "java/lang/Object"))) 2 1 150 [.ref b, .int (iN z)] S (fun r S' => ∃ q, r = .inl (some (.ref q)) ∧ sK S q = 0 ∧ S' = (sPutR (sNewA S 12 q z.toNat (fun _ => .null)) 12 q (va_cpy (fun i => sE (sNewA S 12 q z.toNat (fun _ => .null)) 12 b i) (fun i => sE (sNewA S 12 q z.toNat (fun _ => .null)) 12 q i) (0 : Int).toNat (0 : Int).toNat (min (sN S b : Int) z).toNat))) := by
  refine CtD.of cal_J7_copyOf_1904c hfl (Nat.le_of_ble_eq_true rfl) ?_
  intro p e s m args below meth c sz C ME
  refine j_aload_n C dJ7_copyOf_1904c_0 rfl ?_
  refine j_iload_n C dJ7_copyOf_1904c_1 rfl ?_
  refine j_aload_n C dJ7_copyOf_1904c_2 rfl ?_
  refine j_getC C ml_Ar_86 hk ⟨by decide, (Nat.le_of_ble_eq_true rfl)⟩ dJ7_copyOf_1904c_3 ?_
  refine j_callSD C (c_copy3 l hfl hk hz hel) cal_J7_copyOf_6403c st_J7_copyOf_6403c ml_Ar_300 rfl rfl (Nat.le_of_ble_eq_true rfl) ⟨by decide, by decide⟩ ⟨(by first | omega | (dsimp only; omega)), (by first | omega | (dsimp only; omega))⟩ dJ7_copyOf_1904c_6 (fun E S9 h => by obtain ⟨q, h, -⟩ := h; exact nomatch h) (fun v9 S9 h => ?_)
  obtain ⟨q, h, hq, hS9⟩ := h
  cases h
  refine j_aret C ME (Or.inr ⟨_, rfl⟩) (Or.inr ⟨_, rfl⟩) ?_ (by omega) (by omega) dJ7_copyOf_1904c_9
  exact ⟨q, rfl, hq, hS9⟩

set_option maxHeartbeats 4000000 in
set_option maxRecDepth 100000 in
theorem c_grow1 (l : Launch) (hfl : l.stackTraces = false) {D : wD} {S : wS} {T : Nat → Nat × Int} {a : Nat} {t : Nat × Int} {n : Int} {e9 : Int → Nat} (hA : AL D.2.2.1 S T a t n e9) (hfull : ∀ b, sG S 513 a = .ref b → b = D.2.2.1 ∨ (sN S b : Int) = n) (hn : n ≤ 65) (he : ∀ k : Nat, (k : Int) < n → 1 ≤ sK S (e9 k) ∧ sK S (e9 k) ≤ 5) : CtD l D yJx4a65c_grow_92f84 cJx4a65c_grow_92f84 4 (some (FieldType.array (FieldType.object "java/lang/Object"))) 3 1 150 [.ref a, .int (iN (n + 1))] S (fun r S' => ∃ q, r = .inl (some (.ref q)) ∧ gP S a n e9 q S') := by
  refine CtD.of cal_Jx4a65c_grow_92f84 hfl (Nat.le_of_ble_eq_true rfl) ?_
  intro p e s m args below meth c sz C ME
  obtain ⟨h1, -, -, h4, h5, b, h6, h7⟩ := hA
  refine j_ea C (fun hE => ?_)
  rcases h7 with ⟨h7, h8⟩ | ⟨g1, -, g3, g4, g5, g6⟩
  · refine j_aload_n C dJx4a65c_grow_92f84_0 rfl ?_
    refine j_get C fl_AL_9 h1 ⟨by decide, by decide, by decide⟩ h6 dJx4a65c_grow_92f84_1 ?_
    subst h8
    refine j_alenE C dJx4a65c_grow_92f84_4 ?_
    refine j_istore_n C dJx4a65c_grow_92f84_5 (by decide) ?_
    refine j_iload_n C dJx4a65c_grow_92f84_6 rfl ?_
    refine j_if_gt (tgt := 20) C dJx4a65c_grow_92f84_7 (by decide) (by unfold rg; omega) (fun c7 => ?_) (fun c7 => ?_)
    · exact absurd c7 (by omega)
    refine j_aload_n C dJx4a65c_grow_92f84_10 rfl ?_
    refine j_get C fl_AL_9 h1 ⟨by decide, by decide, by decide⟩ h6 dJx4a65c_grow_92f84_11 ?_
    refine j_getsE C dJx4a65c_grow_92f84_14 ?_
    refine j_acmp_eq (tgt := 45) C dJx4a65c_grow_92f84_17 (by decide) (fun c17 => ?_) (fun c17 => ?_)
    rotate_left
    · exact absurd rfl c17
    refine j_aload_n C dJx4a65c_grow_92f84_45 rfl ?_
    refine j_bipush C dJx4a65c_grow_92f84_46 (by decide) ?_
    refine j_iload_n C dJx4a65c_grow_92f84_48 rfl ?_
    refine j_mmax C ml_AL_79 (by unfold rg; omega) (by unfold rg; omega) ⟨by decide, (Nat.le_of_ble_eq_true rfl), (by first | omega | (dsimp only; omega)), (by first | omega | (dsimp only; omega))⟩ dJx4a65c_grow_92f84_49 ?_
    rw [show max (10 : Int) (n + 1) = 10 by omega]
    refine j_newq C cl_AL_7 (by omega) ⟨(by dsimp only; omega), (by dsimp only; omega)⟩ dJx4a65c_grow_92f84_52 (fun q hq hq2 => ?_)
    have haq : a ≠ q := fun z => by rw [z] at h1; omega
    refine j_dup_x1 C dJx4a65c_grow_92f84_55 rfl rfl ?_
    refine j_put C fl_AL_9 (by rw [sK_newA' haq]; exact h1) ⟨by decide, by decide, by decide⟩ (by decide) rfl rfl dJx4a65c_grow_92f84_56 ?_
    refine j_aret C ME (Or.inr ⟨_, rfl⟩) (Or.inr ⟨_, rfl⟩) ?_ (by omega) (by omega) dJx4a65c_grow_92f84_59
    refine ⟨q, rfl, hq, fun z => haq z.symm, by rw [sK_put]; exact sK_newA, ?_, ?_, ?_, fun k hk => absurd hk (by omega), sG_put, fun c9 hc => ⟨by rw [sK_put]; exact sK_newA' hc, by rw [sN_put]; exact sN_newA' hc, fun f => ?_, fun k i => by rw [sE_put]; exact sE_newA' hc⟩⟩
    · rw [sN_put, sN_newA]; omega
    · rw [sN_put, sN_newA]; decide
    · rw [sN_put, sN_newA]; decide
    · by_cases z : f = 64 * 8 + 1 ∧ c9 = a
      · exact Or.inl ⟨z.2, by omega⟩
      · right; rw [sG_put' z]; rfl
  have hcap : (sN S b : Int) = n := by
    rcases hfull b h6 with z | z
    · rw [z] at g1; omega
    · exact z
  refine j_aload_n C dJx4a65c_grow_92f84_0 rfl ?_
  refine j_get C fl_AL_9 h1 ⟨by decide, by decide, by decide⟩ h6 dJx4a65c_grow_92f84_1 ?_
  refine j_alen C g1 ⟨by decide, by decide⟩ dJx4a65c_grow_92f84_4 ?_
  rw [hcap]
  refine j_istore_n C dJx4a65c_grow_92f84_5 (by decide) ?_
  refine j_iload_n C dJx4a65c_grow_92f84_6 rfl ?_
  refine j_if_gt (tgt := 20) C dJx4a65c_grow_92f84_7 (by decide) (by unfold rg; omega) (fun c7 => ?_) (fun c7 => ?_)
  rotate_left
  · exact absurd c7 (by omega)
  refine j_iload_n C dJx4a65c_grow_92f84_20 rfl ?_
  refine j_iload_n C dJx4a65c_grow_92f84_21 rfl ?_
  refine j_iload_n C dJx4a65c_grow_92f84_22 rfl ?_
  refine j_isub C dJx4a65c_grow_92f84_23 ?_
  refine j_iload_n C dJx4a65c_grow_92f84_24 rfl ?_
  refine j_iconst C dJx4a65c_grow_92f84_25 ?_
  refine j_ishr C dJx4a65c_grow_92f84_26 ?_
  rw [iN_shr1 (by omega)]
  refine j_callS C (c_newLen l hfl (by omega) (by omega) (by omega)) cal_J8_newLength_cabcc st_J8_newLength_cabcc ml_AL_73 rfl rfl (Nat.le_of_ble_eq_true rfl) ⟨by decide, by decide⟩ ⟨(by first | omega | (dsimp only; omega)), (by first | omega | (dsimp only; omega))⟩ dJx4a65c_grow_92f84_27 (fun E S9 h => nomatch h.1) (fun v9 S9 h => ?_)
  obtain ⟨h, h9⟩ := h
  have h9 := h9.symm
  subst h9
  cases h
  have hzz : n < n + max (n + 1 - n) (n / 2) ∧ n + max (n + 1 - n) (n / 2) ≤ 100 := by omega
  generalize n + max (n + 1 - n) (n / 2) = z9 at hzz ⊢
  refine j_istore_n C dJx4a65c_grow_92f84_30 (by decide) ?_
  refine j_aload_n C dJx4a65c_grow_92f84_31 rfl ?_
  refine j_aload_n C dJx4a65c_grow_92f84_32 rfl ?_
  refine j_get C fl_AL_9 h1 ⟨by decide, by decide, by decide⟩ h6 dJx4a65c_grow_92f84_33 ?_
  refine j_iload_n C dJx4a65c_grow_92f84_36 rfl ?_
  refine j_callSD C (c_copy2 l hfl g1 (by omega) (fun i hi => ?_)) cal_J7_copyOf_1904c st_J7_copyOf_1904c ml_AL_66 rfl rfl (Nat.le_of_ble_eq_true rfl) ⟨by decide, by decide⟩ ⟨(by first | omega | (dsimp only; omega)), (by first | omega | (dsimp only; omega))⟩ dJx4a65c_grow_92f84_37 (fun E S9 h => by obtain ⟨q, h, -⟩ := h; exact nomatch h) (fun v9 S9 h => ?_)
  · exact Or.inr ⟨e9 i, _, g6 i (by omega), rfl, he i (by omega)⟩
  obtain ⟨q, h, hq, hS9⟩ := h
  cases h
  have haq : a ≠ q := fun z => by rw [z] at h1; omega
  have hbq : b ≠ q := fun z => by rw [z] at g1; omega
  have k1 : ∀ c9, c9 ≠ q → sK S9 c9 = sK S c9 := fun c9 hc => by rw [hS9, sK_putR]; exact sK_newA' hc
  have k2 : ∀ c9, c9 ≠ q → sN S9 c9 = sN S c9 := fun c9 hc => by rw [hS9, sN_putR]; exact sN_newA' hc
  have k3 : sG S9 = sG S := by rw [hS9]; rfl
  have k4 : ∀ k c9 i, c9 ≠ q → sE S9 k c9 i = sE S k c9 i := fun k c9 i hc => by rw [hS9, sE_putR' (fun z => hc z.2)]; exact sE_newA' hc
  have k5 : sK S9 q = 12 := by rw [hS9, sK_putR]; exact sK_newA
  have k6 : sN S9 q = z9.toNat := by rw [hS9, sN_putR]; exact sN_newA
  have k7 : ∀ k : Nat, (k : Int) < n → sE S9 12 q k = .ref (e9 k) := by
    intro k hk
    rw [hS9, sE_putR]
    unfold va_cpy
    rw [if_pos (by omega)]
    show sE (sNewA S 12 q z9.toNat fun x => .null) 12 b ((0 : Int).toNat + (k - (0 : Int).toNat)) = _
    rw [sE_newA' hbq, show (0 : Int).toNat + (k - (0 : Int).toNat) = k by omega]
    exact g6 k hk
  clear hS9
  refine j_dup_x1 C dJx4a65c_grow_92f84_40 rfl rfl ?_
  refine j_put C fl_AL_9 (by rw [k1 a haq]; exact h1) ⟨by decide, by decide, by decide⟩ (by decide) rfl rfl dJx4a65c_grow_92f84_41 ?_
  refine j_aret C ME (Or.inr ⟨_, rfl⟩) (Or.inr ⟨_, rfl⟩) ?_ (by omega) (by omega) dJx4a65c_grow_92f84_44
  refine ⟨q, rfl, hq, fun z => haq z.symm, k5, ?_, ?_, ?_, k7, sG_put, fun c9 hc => ⟨k1 c9 hc, k2 c9 hc, fun f => ?_, fun k i => k4 k c9 i hc⟩⟩
  · rw [sN_put, k6]; omega
  · rw [sN_put, k6]; omega
  · rw [sN_put, k6]; omega
  · by_cases z : f = 64 * 8 + 1 ∧ c9 = a
    · exact Or.inl ⟨z.2, by omega⟩
    · right; rw [sG_put' z, k3]

set_option maxHeartbeats 4000000 in
set_option maxRecDepth 100000 in
theorem c_grow0 (l : Launch) (hfl : l.stackTraces = false) {D : wD} {S : wS} {T : Nat → Nat × Int} {a : Nat} {t : Nat × Int} {n : Int} {e9 : Int → Nat} (hA : AL D.2.2.1 S T a t n e9) (hfull : ∀ b, sG S 513 a = .ref b → b = D.2.2.1 ∨ (sN S b : Int) = n) (hn : n ≤ 65) (he : ∀ k : Nat, (k : Int) < n → 1 ≤ sK S (e9 k) ∧ sK S (e9 k) ≤ 5) : CtD l D yJx4a65c_grow_d5877 cJx4a65c_grow_d5877 1 (some (FieldType.array (FieldType.object "java/lang/Object"))) 4 1 150 [.ref a] S (fun r S' => ∃ q, r = .inl (some (.ref q)) ∧ gP S a n e9 q S') := by
  refine CtD.of cal_Jx4a65c_grow_d5877 hfl (Nat.le_of_ble_eq_true rfl) ?_
  intro p e s m args below meth c sz C ME
  have hA2 := hA
  obtain ⟨h1, -, -, h4, h5, b, h6, h7⟩ := hA2
  refine j_aload_n C dJx4a65c_grow_d5877_0 rfl ?_
  refine j_aload_n C dJx4a65c_grow_d5877_1 rfl ?_
  refine j_get C fl_AL_48 h1 ⟨by decide, by decide, by decide⟩ h4 dJx4a65c_grow_d5877_2 ?_
  refine j_iconst C dJx4a65c_grow_d5877_5 ?_
  refine j_iadd C dJx4a65c_grow_d5877_6 ?_
  refine j_callVD C (c_grow1 l hfl hA hfull hn he) cal_Jx4a65c_grow_92f84 vi_Jx4a65c_grow_92f84 ml_AL_69 h1 ⟨by decide, by decide, rfl⟩ rfl rfl (Nat.le_of_ble_eq_true rfl) ⟨by decide, by decide⟩ ⟨(by first | omega | (dsimp only; omega)), (by first | omega | (dsimp only; omega))⟩ dJx4a65c_grow_d5877_7 (fun E S9 h => by obtain ⟨q, h, -⟩ := h; exact nomatch h) (fun v9 S9 h => ?_)
  obtain ⟨q, h, hq⟩ := h
  cases h
  refine j_aret C ME (Or.inr ⟨_, rfl⟩) (Or.inr ⟨_, rfl⟩) ?_ (by omega) (by omega) dJx4a65c_grow_d5877_10
  exact ⟨q, rfl, hq⟩

set_option maxHeartbeats 4000000 in
set_option maxRecDepth 100000 in
theorem c_alAdd3 (l : Launch) (hfl : l.stackTraces = false) {D : wD} {S : wS} {T : Nat → Nat × Int} {a y : Nat} {t : Nat × Int} {n : Int} {e9 : Int → Nat} (hA : AL D.2.2.1 S T a t n e9) (hn : n ≤ 65) (hy : 1 ≤ sK S y ∧ sK S y ≤ 5) (he : ∀ k : Nat, (k : Int) < n → 1 ≤ sK S (e9 k) ∧ sK S (e9 k) ≤ 5) {b : Nat} (hb : sG S 513 a = .ref b) : CtD l D yJx4a65c_add_72be8 cJx4a65c_add_72be8 4 none 5 1 150 [.ref a, .ref y, .ref b, .int (iN n)] S (fun r S' => r = .inl none ∧ LsP D.2.2.1 S T a t (n + 1) (fun k => if k = n then y else e9 k) S') := by
  refine CtD.of cal_Jx4a65c_add_72be8 hfl (Nat.le_of_ble_eq_true rfl) ?_
  intro p e s m args below meth c sz C ME
  have hA2 := hA
  obtain ⟨h1, -, -, h4, h5, b9, h6, h7⟩ := hA2
  cases hb.symm.trans h6
  refine j_ea C (fun hE => ?_)
  have hfin : ∀ (q : Nat) (S9 : wS), gP S a n e9 q S9 → J p l e { frames := 20 * 5, cells := 1, slots := 150, locals := 200 * 5 } s m args below meth c 4 D (wA S sz) (wQ below D sz S (fun r S' => r = .inl none ∧ LsP D.2.2.1 S T a t (n + 1) (fun k => if k = n then y else e9 k) S') args s 1 150) 11 [(0, .ref a), (1, .ref y), (2, .ref q), (3, .int (iN n))] [] S9 1 150 := by
    intro q S9 hq
    refine j_ea C (fun hE9 => ?_)
    obtain ⟨T', t1, t2, t3, t4⟩ := hA.grown hq hE9
    obtain ⟨q1, q2, q3, q4, q5, q6, q7, q8, q9⟩ := hq
    have hyq : y ≠ q := fun z => by rw [z] at hy; omega
    refine j_aload_n C dJx4a65c_add_72be8_11 rfl ?_
    refine j_iload_n C dJx4a65c_add_72be8_12 rfl ?_
    refine j_aload_n C dJx4a65c_add_72be8_13 rfl ?_
    refine j_aast C q3 (kd := sK S y) ((q9 y hyq).1) hy ⟨h5.1, q4, by omega⟩ dJx4a65c_add_72be8_14 ?_
    refine j_aload_n C dJx4a65c_add_72be8_15 rfl ?_
    refine j_iload_n C dJx4a65c_add_72be8_16 rfl ?_
    refine j_iconst C dJx4a65c_add_72be8_17 ?_
    refine j_iadd C dJx4a65c_add_72be8_18 ?_
    refine j_put C fl_AL_48 (t2.1) ⟨by decide, by decide, by decide⟩ (by decide) rfl rfl dJx4a65c_add_72be8_19 ?_
    refine j_vret C ME ?_ (by omega) (by omega) dJx4a65c_add_72be8_22
    exact ⟨rfl, LsP.tr t1 t3 (LsP.set t2 q8 q4 q3 t4 hn)⟩
  refine j_iload_n C dJx4a65c_add_72be8_0 rfl ?_
  refine j_aload_n C dJx4a65c_add_72be8_1 rfl ?_
  have hlen : ∃ len : Int, (0 ≤ len ∧ len ≤ 100) ∧ (n = len → b = D.2.2.1 ∨ (sN S b : Int) = n) ∧ (¬ n = len → sK S b = 12 ∧ n < (sN S b : Int)) ∧ ∀ (st : List Value), J p l e { frames := 20 * 5, cells := 1, slots := 150, locals := 200 * 5 } s m args below meth c 4 D (wA S sz) (wQ below D sz S (fun r S' => r = .inl none ∧ LsP D.2.2.1 S T a t (n + 1) (fun k => if k = n then y else e9 k) S') args s 1 150) (2 + 1) [(0, .ref a), (1, .ref y), (2, .ref b), (3, .int (iN n))] (.int (iN len) :: st) S 0 0 → J p l e { frames := 20 * 5, cells := 1, slots := 150, locals := 200 * 5 } s m args below meth c 4 D (wA S sz) (wQ below D sz S (fun r S' => r = .inl none ∧ LsP D.2.2.1 S T a t (n + 1) (fun k => if k = n then y else e9 k) S') args s 1 150) 2 [(0, .ref a), (1, .ref y), (2, .ref b), (3, .int (iN n))] (.ref b :: st) S 0 0 := by
    rcases h7 with ⟨h7, h8⟩ | ⟨g1, g2, g3, g4, g5, g6⟩
    · refine ⟨0, by omega, fun _ => Or.inl h8, fun z => absurd h7 z, fun st kk => ?_⟩
      subst h8
      exact j_alenE C dJx4a65c_add_72be8_2 kk
    · exact ⟨(sN S b : Int), by omega, fun z => Or.inr z.symm, fun z => ⟨g1, by omega⟩, fun st kk => j_alen C g1 ⟨by decide, by decide⟩ dJx4a65c_add_72be8_2 kk⟩
  obtain ⟨len, hl1, hl2, hl3, hl4⟩ := hlen
  refine hl4 _ ?_
  refine j_icmp_ne (tgt := 11) C dJx4a65c_add_72be8_3 (by decide) (by unfold rg; omega) (by unfold rg; omega) (fun c3 => ?_) (fun c3 => ?_)
  · obtain ⟨k1, k2⟩ := hl3 c3
    have hbE : b ≠ D.2.2.1 := fun z => by rw [z] at k1; omega
    refine j_aload_n C dJx4a65c_add_72be8_11 rfl ?_
    refine j_iload_n C dJx4a65c_add_72be8_12 rfl ?_
    refine j_aload_n C dJx4a65c_add_72be8_13 rfl ?_
    refine j_aast C k1 (kd := sK S y) rfl hy ⟨h5.1, k2, by omega⟩ dJx4a65c_add_72be8_14 ?_
    refine j_aload_n C dJx4a65c_add_72be8_15 rfl ?_
    refine j_iload_n C dJx4a65c_add_72be8_16 rfl ?_
    refine j_iconst C dJx4a65c_add_72be8_17 ?_
    refine j_iadd C dJx4a65c_add_72be8_18 ?_
    refine j_put C fl_AL_48 h1 ⟨by decide, by decide, by decide⟩ (by decide) rfl rfl dJx4a65c_add_72be8_19 ?_
    refine j_vret C ME ?_ (by omega) (by omega) dJx4a65c_add_72be8_22
    exact ⟨rfl, LsP.set hA hb k2 k1 hbE hn⟩
  · have hful := hl2 c3
    refine j_aload_n C dJx4a65c_add_72be8_6 rfl ?_
    refine j_callVD C (c_grow0 l hfl hA (fun b9 hb9 => ?_) hn he) cal_Jx4a65c_grow_d5877 vi_Jx4a65c_grow_d5877 ml_AL_129 h1 ⟨by decide, by decide, rfl⟩ rfl rfl (Nat.le_of_ble_eq_true rfl) ⟨by decide, by decide⟩ ⟨(by first | omega | (dsimp only; omega)), (by first | omega | (dsimp only; omega))⟩ dJx4a65c_add_72be8_7 (fun E S9 h => by obtain ⟨q, h, -⟩ := h; exact nomatch h) (fun v9 S9 h => ?_)
    · cases h6.symm.trans hb9; exact hful
    obtain ⟨q, h, hq⟩ := h
    cases h
    refine j_astore_n C dJx4a65c_add_72be8_10 (by decide) ?_
    refine J.lvs (lv' := [(0, .ref a), (1, .ref y), (2, .ref q), (3, .int (iN n))]) ?_ (J.widen (by omega) (by omega) (hfin q S9 hq))
    intro q hq; simp only [List.mem_cons, List.not_mem_nil, or_false] at hq; rcases hq with rfl | rfl | rfl | rfl <;> rfl

set_option maxHeartbeats 4000000 in
set_option maxRecDepth 100000 in
theorem c_alAdd (l : Launch) (hfl : l.stackTraces = false) {D : wD} {S : wS} {T : Nat → Nat × Int} {a y : Nat} {t : Nat × Int} {n : Int} {e9 : Int → Nat} (hA : AL D.2.2.1 S T a t n e9) (hn : n ≤ 65) (hy : 1 ≤ sK S y ∧ sK S y ≤ 5) (he : ∀ k : Nat, (k : Int) < n → 1 ≤ sK S (e9 k) ∧ sK S (e9 k) ≤ 5) : CtD l D yJx4a65c_add_9ea2d cJx4a65c_add_9ea2d 2 (some FieldType.boolean) 6 1 150 [.ref a, .ref y] S (fun r S' => r = .inl (some (.int (iN 1))) ∧ LsP D.2.2.1 S T a t (n + 1) (fun k => if k = n then y else e9 k) S') := by
  refine CtD.of cal_Jx4a65c_add_9ea2d hfl (Nat.le_of_ble_eq_true rfl) ?_
  intro p e s m args below meth c sz C ME
  have hA2 := hA
  obtain ⟨h1, -, ⟨z, h3⟩, h4, h5, b, h6, h7⟩ := hA2
  refine j_aload_n C dJx4a65c_add_9ea2d_0 rfl ?_
  refine j_dup C dJx4a65c_add_9ea2d_1 rfl ?_
  refine j_get C fl_AL_63 h1 ⟨by decide, by decide, by decide⟩ h3 dJx4a65c_add_9ea2d_2 ?_
  refine j_iconst C dJx4a65c_add_9ea2d_5 ?_
  refine j_iadd C dJx4a65c_add_9ea2d_6 ?_
  refine j_put C fl_AL_63 h1 ⟨by decide, by decide, by decide⟩ (by decide) rfl rfl dJx4a65c_add_9ea2d_7 ?_
  refine j_aload_n C dJx4a65c_add_9ea2d_10 rfl ?_
  refine j_aload_n C dJx4a65c_add_9ea2d_11 rfl ?_
  refine j_aload_n C dJx4a65c_add_9ea2d_12 rfl ?_
  refine j_get C fl_AL_9 h1 ⟨by decide, by decide, by decide⟩ ((sG_put' (by omega)).trans h6) dJx4a65c_add_9ea2d_13 ?_
  refine j_aload_n C dJx4a65c_add_9ea2d_16 rfl ?_
  refine j_get C fl_AL_48 h1 ⟨by decide, by decide, by decide⟩ ((sG_put' (by omega)).trans h4) dJx4a65c_add_9ea2d_17 ?_
  refine j_callVD C (c_alAdd3 l hfl (b := b) hA.mod hn hy he ((sG_put' (by omega)).trans h6)) cal_Jx4a65c_add_72be8 vi_Jx4a65c_add_72be8 ml_AL_131 h1 ⟨by decide, by decide, rfl⟩ rfl rfl (Nat.le_of_ble_eq_true rfl) ⟨by decide, by decide⟩ ⟨(by first | omega | (dsimp only; omega)), (by first | omega | (dsimp only; omega))⟩ dJx4a65c_add_9ea2d_20 (fun E S9 h => nomatch h.1) (fun v9 S9 h => ?_)
  obtain ⟨h, hL⟩ := h
  cases h
  refine j_iconst C dJx4a65c_add_9ea2d_23 ?_
  refine j_zret C ME (by first | exact Or.inl rfl | exact Or.inr rfl | (unfold bN; split <;> simp)) ?_ (by omega) (by omega) dJx4a65c_add_9ea2d_24
  exact ⟨rfl, hL.mod⟩
