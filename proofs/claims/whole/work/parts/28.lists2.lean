/-! LISTS: a place in the middle, and clear. -/
theorem LsP.ins {E : Nat} {S : wS} {T : Nat → Nat × Int} {a b y : Nat} {t : Nat × Int} {n i : Int} {e : Int → Nat} (h : AL E S T a t n e) (hb : sG S 513 a = .ref b) (hc : n < (sN S b : Int)) (hk : sK S b = 12) (hE : b ≠ E) (hn : n ≤ 65) (hi : 0 ≤ i ∧ i ≤ n) :
    LsP E S T a t (n + 1) (fun k => if k < i then e k else if k = i then y else e (k - 1)) (sPut (sPutE (sPutR S 12 b (va_cpy (fun i => sE S 12 b i) (fun i => sE S 12 b i) i.toNat (i + 1).toNat (n - i).toNat)) 12 b i.toNat (.ref y)) (64 * 8 + 2) a (.int (iN (n + 1)))) := by
  obtain ⟨h1, h2, ⟨z, h3⟩, h4, h5, b', h6, h7⟩ := h
  cases hb.symm.trans h6
  rcases h7 with ⟨-, h7⟩ | ⟨-, g2, g3, g4, g5, g6⟩
  · exact absurd h7 hE
  generalize hS9 : sPutR S 12 b (va_cpy (fun i => sE S 12 b i) (fun i => sE S 12 b i) i.toNat (i + 1).toNat (n - i).toNat) = S9
  have k1 : sK S9 = sK S := by rw [← hS9]; rfl
  have k2 : sN S9 = sN S := by rw [← hS9]; rfl
  have k3 : sG S9 = sG S := by rw [← hS9]; rfl
  have k4 : ∀ k, sE S9 12 b k = va_cpy (fun i => sE S 12 b i) (fun i => sE S 12 b i) i.toNat (i + 1).toNat (n - i).toNat k := fun k => by rw [← hS9, sE_putR]
  have k5 : ∀ k c i, ¬ (k = 12 ∧ c = b) → sE S9 k c i = sE S k c i := fun k c i hc => by rw [← hS9, sE_putR' hc]
  clear hS9
  refine ⟨T, fun _ _ => rfl, ⟨?_, h2, ⟨z, ?_⟩, sG_put, by omega, b, ?_, Or.inr ⟨?_, g2, ?_, ?_, ?_, fun k hk2 => ?_⟩⟩, fun c hc2 => ⟨?_, ?_, fun f => ?_, fun k i9 => ?_⟩⟩
  · show sK S9 a = 8
    rw [k1]; exact h1
  · rw [sG_put' (by omega)]; show sG S9 _ _ = _; rw [k3]; exact h3
  · rw [sG_put' (by omega)]; show sG S9 _ _ = _; rw [k3]; exact h6
  · show sK S9 b = 12
    rw [k1]; exact hk
  · show n + 1 ≤ (sN S9 b : Int)
    rw [k2]; omega
  · show 10 ≤ sN S9 b
    rw [k2]; exact g4
  · show sN S9 b ≤ 100
    rw [k2]; exact g5
  · show sE (sPutE S9 12 b i.toNat (.ref y)) 12 b k = .ref (if (k : Int) < i then e k else if (k : Int) = i then y else e (k - 1))
    by_cases e1 : (k : Int) < i
    · rw [if_pos e1, sE_putE' (by omega), k4]
      unfold va_cpy
      rw [if_neg (by omega)]
      exact g6 k (by omega)
    · rw [if_neg e1]
      by_cases e2 : (k : Int) = i
      · rw [if_pos e2, show i.toNat = k by omega]; exact sE_putE
      · rw [if_neg e2, sE_putE' (by omega), k4]
        unfold va_cpy
        rw [if_pos (by omega)]
        show sE S 12 b (i.toNat + (k - (i + 1).toNat)) = _
        have := g6 (i.toNat + (k - (i + 1).toNat)) (by omega)
        rw [this]
        congr 2
        omega
  · show sK S9 c = _
    rw [k1]
  · show sN S9 c = _
    rw [k2]
  · by_cases e : f = 64 * 8 + 2 ∧ c = a
    · exact Or.inl ⟨e.2, by omega, by omega⟩
    · right; rw [sG_put' e]; show sG S9 _ _ = _; rw [k3]
  · by_cases e : k = 12 ∧ c = b
    · exact Or.inl ⟨e.1, by rw [e.2]; exact hk, by rw [e.2]; exact g2⟩
    · right
      show sE (sPutE S9 12 b i.toNat (.ref y)) k c i9 = _
      rw [sE_putE' (fun q => e ⟨q.1, q.2.1⟩), k5 _ _ _ e]
/-- a list at 0 elements while its row is emptied -/
theorem AL.zero {E : Nat} {S : wS} {T : Nat → Nat × Int} {a : Nat} {t : Nat × Int} {n : Int} {e : Int → Nat} (h : AL E S T a t n e) : AL E (sPut S (64 * 8 + 2) a (.int (iN 0))) T a t 0 e := by
  obtain ⟨h1, h2, ⟨z, h3⟩, h4, h5, b, h6, h7⟩ := h
  refine ⟨h1, h2, ⟨z, ?_⟩, sG_put, by omega, b, ?_, ?_⟩
  · rw [sG_put' (by omega)]; exact h3
  · rw [sG_put' (by omega)]; exact h6
  · rcases h7 with ⟨h7, h8⟩ | ⟨g1, g2, g3, g4, g5, g6⟩
    · exact Or.inl ⟨rfl, h8⟩
    · exact Or.inr ⟨g1, g2, by omega, g4, g5, fun k hk => absurd hk (by omega)⟩
theorem lF.size {S : wS} {T : Nat → Nat × Int} {a : Nat} {t : Nat × Int} {v : Value} : lF S (sPut S (64 * 8 + 2) a v) T a t := by
  intro c _
  refine ⟨rfl, rfl, fun f => ?_, fun _ _ => Or.inr rfl⟩
  by_cases e : f = 64 * 8 + 2 ∧ c = a
  · exact Or.inl ⟨e.2, by omega, by omega⟩
  · exact Or.inr (sG_put' e)
theorem AL.wipe {E : Nat} {S : wS} {T : Nat → Nat × Int} {a b : Nat} {t : Nat × Int} {e : Int → Nat} {i : Nat} {v : Value} (h : AL E S T a t 0 e) : AL E (sPutE S 12 b i v) T a t 0 e := by
  obtain ⟨h1, h2, h3, h4, h5, b', h6, h7⟩ := h
  refine ⟨h1, h2, h3, h4, h5, b', h6, ?_⟩
  rcases h7 with h7 | ⟨g1, g2, g3, g4, g5, g6⟩
  · exact Or.inl h7
  · exact Or.inr ⟨g1, g2, g3, g4, g5, fun k hk => absurd hk (by omega)⟩
theorem lF.wipe {S : wS} {T : Nat → Nat × Int} {a b : Nat} {t : Nat × Int} {i : Nat} {v : Value} (hb : T b = (t.1 + 10, t.2)) (hk : sK S b = 12) : lF S (sPutE S 12 b i v) T a t := by
  intro c _
  refine ⟨rfl, rfl, fun f => Or.inr rfl, fun k i9 => ?_⟩
  by_cases e : k = 12 ∧ c = b
  · exact Or.inl ⟨e.1, by rw [e.2]; exact hk, by rw [e.2]; exact hb⟩
  · exact Or.inr (sE_putE' (fun q => e ⟨q.1, q.2.1⟩))

set_option maxHeartbeats 4000000 in
set_option maxRecDepth 100000 in
theorem c_alRange (l : Launch) (hfl : l.stackTraces = false) {S : wS} {a : Nat} {n i : Int} (hk : sK S a = 8) (hn : sG S 514 a = .int (iN n)) (hi : 0 ≤ i ∧ i ≤ n) (h0 : n ≤ 100) : Ct l yJx4a65c_rangeCheckForAdd_d00df cJx4a65c_rangeCheckForAdd_d00df 2 none 1 0 0 [.ref a, .int (iN i)] S (fun r S' => r = .inl none ∧ S' = S) := by
  refine Ct.of cal_Jx4a65c_rangeCheckForAdd_d00df hfl (Nat.le_of_ble_eq_true rfl) ?_
  intro p e s m args below meth c D sz C ME
  refine j_iload_n C dJx4a65c_rangeCheckForAdd_d00df_0 rfl ?_
  refine j_aload_n C dJx4a65c_rangeCheckForAdd_d00df_1 rfl ?_
  refine j_get C fl_AL_48 hk ⟨by decide, by decide, by decide⟩ hn dJx4a65c_rangeCheckForAdd_d00df_2 ?_
  refine j_icmp_gt (tgt := 12) C dJx4a65c_rangeCheckForAdd_d00df_5 (by decide) (by unfold rg at *; omega) (by unfold rg at *; omega) (fun c5 => ?_) (fun c5 => ?_)
  · exact absurd c5 (by omega)
  · refine j_iload_n C dJx4a65c_rangeCheckForAdd_d00df_8 rfl ?_
    refine j_if_ge (tgt := 25) C dJx4a65c_rangeCheckForAdd_d00df_9 (by decide) (by unfold rg at *; omega) (fun c9 => ?_) (fun c9 => ?_)
    · refine j_vret C ME ?_ (by omega) (by omega) dJx4a65c_rangeCheckForAdd_d00df_25
      exact ⟨rfl, rfl⟩
    · exact absurd hi.1 c9

set_option maxHeartbeats 4000000 in
set_option maxRecDepth 100000 in
theorem c_alIns (l : Launch) (hfl : l.stackTraces = false) {D : wD} {S : wS} {T : Nat → Nat × Int} {a y : Nat} {t : Nat × Int} {n i : Int} {e9 : Int → Nat} (hA : AL D.2.2.1 S T a t n e9) (hn : n ≤ 65) (hi : 0 ≤ i ∧ i ≤ n) (hy : 1 ≤ sK S y ∧ sK S y ≤ 5) (he : ∀ k : Nat, (k : Int) < n → 1 ≤ sK S (e9 k) ∧ sK S (e9 k) ≤ 5) : CtD l D yJx4a65c_add_7a177 cJx4a65c_add_7a177 5 none 6 1 150 [.ref a, .int (iN i), .ref y] S (fun r S' => r = .inl none ∧ LsP D.2.2.1 S T a t (n + 1) (fun k => if k < i then e9 k else if k = i then y else e9 (k - 1)) S') := by
  refine CtD.of cal_Jx4a65c_add_7a177 hfl (Nat.le_of_ble_eq_true rfl) ?_
  intro p e s m args below meth c sz C ME
  have hA2 := hA
  obtain ⟨h1, -, ⟨z, h3⟩, h4, h5, b, h6, h7⟩ := hA2
  refine j_ea C (fun hE => ?_)
  have hfin : ∀ (q : Nat) (S9 : wS) (T' : Nat → Nat × Int), TE S T T' → AL D.2.2.1 S9 T' a t n e9 → lF S S9 T a t → sG S9 513 a = .ref q → sK S9 q = 12 → n < (sN S9 q : Int) → q ≠ D.2.2.1 → J p l e { frames := 20 * 6, cells := 1, slots := 150, locals := 200 * 6 } s m args below meth c 5 D (wA S sz) (wQ below D sz S (fun r S' => r = .inl none ∧ LsP D.2.2.1 S T a t (n + 1) (fun k => if k < i then e9 k else if k = i then y else e9 (k - 1)) S') args s 1 150) 38 [(0, .ref a), (1, .int (iN i)), (2, .ref y), (3, .int (iN n)), (4, .ref q)] [] S9 1 150 := by
    intro q S9 T' t1 t2 t3 q8 q3 q4 q5
    have hel : ∀ k : Nat, (k : Int) < n → sE S9 12 q k = .ref (e9 k) := by
      obtain ⟨-, -, -, -, -, b', f6, f7⟩ := t2
      cases q8.symm.trans f6
      rcases f7 with ⟨-, f7⟩ | ⟨-, -, -, -, -, f7⟩
      · exact absurd f7 q5
      · exact f7
    refine j_aload C dJx4a65c_add_7a177_38 rfl ?_
    refine j_iload_n C dJx4a65c_add_7a177_40 rfl ?_
    refine j_aload C dJx4a65c_add_7a177_41 rfl ?_
    refine j_iload_n C dJx4a65c_add_7a177_43 rfl ?_
    refine j_iconst C dJx4a65c_add_7a177_44 ?_
    refine j_iadd C dJx4a65c_add_7a177_45 ?_
    refine j_iload_n C dJx4a65c_add_7a177_46 rfl ?_
    refine j_iload_n C dJx4a65c_add_7a177_47 rfl ?_
    refine j_isub C dJx4a65c_add_7a177_48 ?_
    refine j_copyq C ml_AL_112 q3 q3 ⟨by omega, by omega, by omega⟩ (by omega) (by omega) ⟨by omega, by omega, by omega⟩ (fun i9 hi9 => ?_) ⟨by decide, (Nat.le_of_ble_eq_true rfl)⟩ dJx4a65c_add_7a177_49 ?_
    · rw [hel (i.toNat + i9) (by omega)]
      have w := he (i.toNat + i9) (by omega)
      exact Or.inr ⟨_, _, rfl, (t3 _ (by omega)).1, w⟩
    refine j_aload C dJx4a65c_add_7a177_52 rfl ?_
    refine j_iload_n C dJx4a65c_add_7a177_54 rfl ?_
    refine j_aload_n C dJx4a65c_add_7a177_55 rfl ?_
    refine j_aast C (by rw [sK_putR]; exact q3) (kd := sK S y) (by rw [sK_putR]; exact (t3 y (by omega)).1) hy ⟨hi.1, by rw [sN_putR]; omega, by omega⟩ dJx4a65c_add_7a177_56 ?_
    refine j_aload_n C dJx4a65c_add_7a177_57 rfl ?_
    refine j_iload_n C dJx4a65c_add_7a177_58 rfl ?_
    refine j_iconst C dJx4a65c_add_7a177_59 ?_
    refine j_iadd C dJx4a65c_add_7a177_60 ?_
    refine j_put C fl_AL_48 (t2.1) ⟨by decide, by decide, by decide⟩ (by decide) rfl rfl dJx4a65c_add_7a177_61 ?_
    refine j_vret C ME ?_ (by omega) (by omega) dJx4a65c_add_7a177_64
    exact ⟨rfl, LsP.tr t1 t3 (LsP.ins t2 q8 q4 q3 q5 hn hi)⟩
  refine j_aload_n C dJx4a65c_add_7a177_0 rfl ?_
  refine j_iload_n C dJx4a65c_add_7a177_1 rfl ?_
  refine j_callV C (c_alRange l hfl h1 h4 hi (by omega)) cal_Jx4a65c_rangeCheckForAdd_d00df vi_Jx4a65c_rangeCheckForAdd_d00df ml_AL_135 h1 ⟨by decide, by decide, rfl⟩ rfl rfl (Nat.le_of_ble_eq_true rfl) ⟨by decide, by decide⟩ ⟨(by first | omega | (dsimp only; omega)), (by first | omega | (dsimp only; omega))⟩ dJx4a65c_add_7a177_2 (fun E S9 h => nomatch h.1) (fun v9 S9 h => ?_)
  obtain ⟨h, h9⟩ := h
  have h9 := h9.symm
  subst h9
  cases h
  refine j_aload_n C dJx4a65c_add_7a177_5 rfl ?_
  refine j_dup C dJx4a65c_add_7a177_6 rfl ?_
  refine j_get C fl_AL_63 h1 ⟨by decide, by decide, by decide⟩ h3 dJx4a65c_add_7a177_7 ?_
  refine j_iconst C dJx4a65c_add_7a177_10 ?_
  refine j_iadd C dJx4a65c_add_7a177_11 ?_
  refine j_put C fl_AL_63 h1 ⟨by decide, by decide, by decide⟩ (by decide) rfl rfl dJx4a65c_add_7a177_12 ?_
  have hAm : AL D.2.2.1 (sPut S (64 * 8 + 0) a (.int (iN (z + 1)))) T a t n e9 := hA.mod
  have hFm : lF S (sPut S (64 * 8 + 0) a (.int (iN (z + 1)))) T a t := lF.mod
  have e4 : sG (sPut S (64 * 8 + 0) a (.int (iN (z + 1)))) 514 a = .int (iN n) := (sG_put' (by omega)).trans h4
  have e6 : sG (sPut S (64 * 8 + 0) a (.int (iN (z + 1)))) 513 a = .ref b := (sG_put' (by omega)).trans h6
  have e1 : sK (sPut S (64 * 8 + 0) a (.int (iN (z + 1)))) = sK S := rfl
  have e2 : sN (sPut S (64 * 8 + 0) a (.int (iN (z + 1)))) = sN S := rfl
  generalize sPut S (64 * 8 + 0) a (.int (iN (z + 1))) = S1 at hAm hFm e4 e6 e1 e2 ⊢
  clear h4 h6 h3
  refine j_aload_n C dJx4a65c_add_7a177_15 rfl ?_
  refine j_get C fl_AL_48 ((congrFun e1 a).trans h1) ⟨by decide, by decide, by decide⟩ e4 dJx4a65c_add_7a177_16 ?_
  refine j_dup C dJx4a65c_add_7a177_19 rfl ?_
  refine j_istore_n C dJx4a65c_add_7a177_20 (by decide) ?_
  refine j_aload_n C dJx4a65c_add_7a177_21 rfl ?_
  refine j_get C fl_AL_9 ((congrFun e1 a).trans h1) ⟨by decide, by decide, by decide⟩ e6 dJx4a65c_add_7a177_22 ?_
  refine j_dup C dJx4a65c_add_7a177_25 rfl ?_
  refine j_astore C dJx4a65c_add_7a177_26 (by decide) ?_
  have hlen : ∃ len : Int, (0 ≤ len ∧ len ≤ 100) ∧ (n = len → b = D.2.2.1 ∨ (sN S1 b : Int) = n) ∧ (¬ n = len → sK S1 b = 12 ∧ n < (sN S1 b : Int)) ∧ ∀ (st : List Value), J p l e { frames := 20 * 6, cells := 1, slots := 150, locals := 200 * 6 } s m args below meth c 5 D (wA S sz) (wQ below D sz S (fun r S' => r = .inl none ∧ LsP D.2.2.1 S T a t (n + 1) (fun k => if k < i then e9 k else if k = i then y else e9 (k - 1)) S') args s 1 150) (28 + 1) [(0, .ref a), (1, .int (iN i)), (2, .ref y), (3, .int (iN n)), (4, .ref b)] (.int (iN len) :: st) S1 0 0 → J p l e { frames := 20 * 6, cells := 1, slots := 150, locals := 200 * 6 } s m args below meth c 5 D (wA S sz) (wQ below D sz S (fun r S' => r = .inl none ∧ LsP D.2.2.1 S T a t (n + 1) (fun k => if k < i then e9 k else if k = i then y else e9 (k - 1)) S') args s 1 150) 28 [(0, .ref a), (1, .int (iN i)), (2, .ref y), (3, .int (iN n)), (4, .ref b)] (.ref b :: st) S1 0 0 := by
    rcases h7 with ⟨h7, h8⟩ | ⟨g1, g2, g3, g4, g5, g6⟩
    · refine ⟨0, by omega, fun _ => Or.inl h8, fun z => absurd h7 z, fun st kk => ?_⟩
      subst h8
      exact j_alenE C dJx4a65c_add_7a177_28 kk
    · exact ⟨(sN S1 b : Int), by rw [e2]; omega, fun z => Or.inr z.symm, fun z => ⟨by rw [e1]; exact g1, by rw [e2] at z ⊢; omega⟩, fun st kk => j_alen C ((congrFun e1 b).trans g1) ⟨by decide, by decide⟩ dJx4a65c_add_7a177_28 kk⟩
  obtain ⟨len, hl1, hl2, hl3, hl4⟩ := hlen
  refine J.lvs (lv' := [(0, .ref a), (1, .int (iN i)), (2, .ref y), (3, .int (iN n)), (4, .ref b)]) ?_ (hl4 _ ?_)
  · intro q hq; simp only [List.mem_cons, List.not_mem_nil, or_false] at hq; rcases hq with rfl | rfl | rfl | rfl | rfl <;> rfl
  refine j_icmp_ne (tgt := 38) C dJx4a65c_add_7a177_29 (by decide) (by unfold rg at *; omega) (by unfold rg at *; omega) (fun c29 => ?_) (fun c29 => ?_)
  · obtain ⟨k1, k2⟩ := hl3 c29
    have hbE : b ≠ D.2.2.1 := fun z => by rw [z, e1] at k1; omega
    exact J.widen (by omega) (by omega) (hfin b S1 T (fun _ _ => rfl) hAm hFm e6 k1 k2 hbE)
  · refine j_aload_n C dJx4a65c_add_7a177_32 rfl ?_
    refine j_callVD C (c_grow0 l hfl hAm (fun b9 hb9 => ?_) hn (fun k hk => by rw [e1]; exact he k hk)) cal_Jx4a65c_grow_d5877 vi_Jx4a65c_grow_d5877 ml_AL_129 ((congrFun e1 a).trans h1) ⟨by decide, by decide, rfl⟩ rfl rfl (Nat.le_of_ble_eq_true rfl) ⟨by decide, by decide⟩ ⟨(by first | omega | (dsimp only; omega)), (by first | omega | (dsimp only; omega))⟩ dJx4a65c_add_7a177_33 (fun E S9 h => by obtain ⟨q, h, -⟩ := h; exact nomatch h) (fun v9 S9 h => ?_)
    · cases e6.symm.trans hb9; exact hl2 c29
    obtain ⟨q, h, hq⟩ := h
    cases h
    refine j_astore C dJx4a65c_add_7a177_36 (by decide) ?_
    refine j_ea C (fun hE9 => ?_)
    obtain ⟨T', t1, t2, t3, t4⟩ := hAm.grown hq hE9
    obtain ⟨q1, q2, q3, q4, q5, q6, q7, q8, q9⟩ := hq
    refine J.lvs (lv' := [(0, .ref a), (1, .int (iN i)), (2, .ref y), (3, .int (iN n)), (4, .ref q)]) ?_ (J.widen (by omega) (by omega) (hfin q S9 T' (fun c hc => t1 c (by rw [e1]; exact hc)) t2 (lF.tr hFm t3 (fun _ _ => rfl)) q8 q3 q4 t4))
    intro q hq; simp only [List.mem_cons, List.not_mem_nil, or_false] at hq; rcases hq with rfl | rfl | rfl | rfl | rfl <;> rfl

set_option maxHeartbeats 4000000 in
set_option maxRecDepth 100000 in
theorem c_alClear (l : Launch) (hfl : l.stackTraces = false) {D : wD} {S : wS} {T : Nat → Nat × Int} {a : Nat} {t : Nat × Int} {n : Int} {e9 : Int → Nat} (hA : AL D.2.2.1 S T a t n e9) : CtD l D yJx4a65c_clear_da8c8 cJx4a65c_clear_da8c8 4 none 1 0 0 [.ref a] S (fun r S' => r = .inl none ∧ LsP D.2.2.1 S T a t 0 e9 S') := by
  refine CtD.of cal_Jx4a65c_clear_da8c8 hfl (Nat.le_of_ble_eq_true rfl) ?_
  intro p e s m args below meth c sz C ME
  have hA2 := hA
  obtain ⟨h1, -, ⟨z, h3⟩, h4, h5, b, h6, h7⟩ := hA2
  refine j_aload_n C dJx4a65c_clear_da8c8_0 rfl ?_
  refine j_dup C dJx4a65c_clear_da8c8_1 rfl ?_
  refine j_get C fl_AL_63 h1 ⟨by decide, by decide, by decide⟩ h3 dJx4a65c_clear_da8c8_2 ?_
  refine j_iconst C dJx4a65c_clear_da8c8_5 ?_
  refine j_iadd C dJx4a65c_clear_da8c8_6 ?_
  refine j_put C fl_AL_63 h1 ⟨by decide, by decide, by decide⟩ (by decide) rfl rfl dJx4a65c_clear_da8c8_7 ?_
  have hAm : AL D.2.2.1 (sPut S (64 * 8 + 0) a (.int (iN (z + 1)))) T a t n e9 := hA.mod
  have hFm : lF S (sPut S (64 * 8 + 0) a (.int (iN (z + 1)))) T a t := lF.mod
  have e4 : sG (sPut S (64 * 8 + 0) a (.int (iN (z + 1)))) 514 a = .int (iN n) := (sG_put' (by omega)).trans h4
  have e6 : sG (sPut S (64 * 8 + 0) a (.int (iN (z + 1)))) 513 a = .ref b := (sG_put' (by omega)).trans h6
  have e1 : sK (sPut S (64 * 8 + 0) a (.int (iN (z + 1)))) = sK S := rfl
  have e2 : sN (sPut S (64 * 8 + 0) a (.int (iN (z + 1)))) = sN S := rfl
  generalize sPut S (64 * 8 + 0) a (.int (iN (z + 1))) = S1 at hAm hFm e4 e6 e1 e2 ⊢
  clear h4 h6 h3
  refine j_aload_n C dJx4a65c_clear_da8c8_10 rfl ?_
  refine j_get C fl_AL_9 ((congrFun e1 a).trans h1) ⟨by decide, by decide, by decide⟩ e6 dJx4a65c_clear_da8c8_11 ?_
  refine j_astore_n C dJx4a65c_clear_da8c8_14 (by decide) ?_
  refine j_aload_n C dJx4a65c_clear_da8c8_15 rfl ?_
  refine j_get C fl_AL_48 ((congrFun e1 a).trans h1) ⟨by decide, by decide, by decide⟩ e4 dJx4a65c_clear_da8c8_16 ?_
  refine j_istore_n C dJx4a65c_clear_da8c8_19 (by decide) ?_
  refine j_aload_n C dJx4a65c_clear_da8c8_20 rfl ?_
  refine j_iconst C dJx4a65c_clear_da8c8_21 ?_
  refine j_dup_x1 C dJx4a65c_clear_da8c8_22 rfl rfl ?_
  refine j_put C fl_AL_48 ((congrFun e1 a).trans h1) ⟨by decide, by decide, by decide⟩ (by decide) rfl rfl dJx4a65c_clear_da8c8_23 ?_
  refine j_istore_n C dJx4a65c_clear_da8c8_26 (by decide) ?_
  have key : ∀ (fuel i : Nat) (S9 : wS), n - i < fuel → (i : Int) ≤ n → AL D.2.2.1 S9 T a t 0 e9 → lF S S9 T a t → sK S9 = sK S → sN S9 = sN S → J p l e { frames := 20 * 1, cells := 0, slots := 0, locals := 200 * 1 } s m args below meth c 4 D (wA S sz) (wQ below D sz S (fun r S' => r = .inl none ∧ LsP D.2.2.1 S T a t 0 e9 S') args s 0 0) 27 [(0, .ref a), (1, .ref b), (2, .int (iN n)), (3, .int (iN (i : Int)))] [] S9 0 0 := by
    intro fuel
    induction fuel with
    | zero => intro i S9 g1 g2; omega
    | succ fuel ih =>
      intro i S9 k1 k2 k3 k4 k5 k6
      refine j_iload_n C dJx4a65c_clear_da8c8_27 rfl ?_
      refine j_iload_n C dJx4a65c_clear_da8c8_28 rfl ?_
      refine j_icmp_ge (tgt := 42) C dJx4a65c_clear_da8c8_29 (by decide) (by unfold rg at *; omega) (by unfold rg at *; omega) (fun c29 => ?_) (fun c29 => ?_)
      · refine j_vret C ME ?_ (by omega) (by omega) dJx4a65c_clear_da8c8_42
        exact ⟨rfl, T, fun _ _ => rfl, k3, k4⟩
      · rcases h7 with ⟨h7, -⟩ | ⟨g1, g2, g3, g4, g5, g6⟩
        · omega
        refine j_aload_n C dJx4a65c_clear_da8c8_32 rfl ?_
        refine j_iload_n C dJx4a65c_clear_da8c8_33 rfl ?_
        refine j_null C dJx4a65c_clear_da8c8_34 ?_
        refine j_aastN C (by rw [k5]; exact g1) ⟨by omega, by rw [k6]; omega, by omega⟩ dJx4a65c_clear_da8c8_35 ?_
        refine j_iinc C dJx4a65c_clear_da8c8_36 rfl (by decide) ?_
        refine j_goto (tgt := 27) C dJx4a65c_clear_da8c8_39 (by decide) ?_
        refine J.lvs (lv' := [(0, .ref a), (1, .ref b), (2, .int (iN n)), (3, .int (iN ((i + 1 : Nat) : Int)))]) ?_ (ih (i + 1) _ (by omega) (by omega) k3.wipe (lF.tr k4 (lF.wipe g2 (by rw [k5]; exact g1)) (fun _ _ => rfl)) k5 k6)
        intro q hq; simp only [List.mem_cons, List.not_mem_nil, or_false] at hq; rcases hq with rfl | rfl | rfl | rfl <;> rfl
  refine J.lvs (lv' := [(0, .ref a), (1, .ref b), (2, .int (iN n)), (3, .int (iN ((0 : Nat) : Int)))]) ?_ (key (n.toNat + 1) 0 _ (by omega) (by omega) hAm.zero (lF.tr hFm lF.size (fun _ _ => rfl)) e1 e2)
  intro q hq; simp only [List.mem_cons, List.not_mem_nil, or_false] at hq; rcases hq with rfl | rfl | rfl | rfl <;> rfl
