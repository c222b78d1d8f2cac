/-! THE REFERENCE: put, found, join. -/
def x_put (M : wM) (r z : Int) : Int := if ¬ ((0 ≤ r ∧ r < M 17 0) ∧ 0 ≤ z ∧ z < M 12 0) then 1 else if ¬ M 4 z = M 13 r then 2 else if ¬ M 7 z = -1 ∨ (0 < M 16 r ∧ plM M z < plM M (lastM M r)) ∨ lentM M (M 4 z) = true then 3 else 0
def v_put (M : wM) (r z : Int) : Int := M 16 r + 1
def n_put (M : wM) (r z : Int) : wM := if x_put M r z = 0 then addsM (mup M 0 0 (x_put M r z)) r z 0 else (mup M 0 0 (x_put M r z))
theorem J.eqI {p : Program} {l : Launch} {e : Env} {R : Room} {s : State} {m : MethodId} {args : Array Value} {below : List Frame} {meth : Method} {c : Code} {nL : Nat} {D : wD} {A : Nat → Prop} {Q : State → Prop} {pc : Nat} {lv : List (Nat × Value)} {st : List Value} {S : wS} {k n : Nat} {a b : Int} (h : a = b) (kk : J p l e R s m args below meth c nL D A Q pc lv (.int (iN b) :: st) S k n) : J p l e R s m args below meth c nL D A Q pc lv (.int (iN a) :: st) S k n := by rw [h]; exact kk
/-- reel r with the first k shots of reel q -/
def joinC (M : wM) (r q : Int) (k : Nat) : wM := fun j i =>
  if j = 16 then (if i = r then M 16 r + k else if i = q then 0 else M 16 i)
  else if j = 14 then (if 60 * r + M 16 r ≤ i ∧ i < 60 * r + M 16 r + k then M 14 (60 * q + (i - 60 * r - M 16 r)) else M 14 i)
  else if j = 15 then (if k = 0 then M 15 i else if i = 60 * r + M 16 r - 1 then 0 else if 60 * r + M 16 r ≤ i ∧ i + 1 < 60 * r + M 16 r + k then M 15 (60 * q + (i - 60 * r - M 16 r)) else M 15 i)
  else if j = 7 then (if anyI (fun k' => decide (M 14 (60 * q + k') = i)) k then r else M 7 i)
  else M j i
theorem jC16 {M : wM} {r q : Int} {k : Nat} (i : Int) : joinC M r q k 16 i = (if i = r then M 16 r + k else if i = q then 0 else M 16 i) := rfl
theorem jC14 {M : wM} {r q : Int} {k : Nat} (i : Int) : joinC M r q k 14 i = (if 60 * r + M 16 r ≤ i ∧ i < 60 * r + M 16 r + k then M 14 (60 * q + (i - 60 * r - M 16 r)) else M 14 i) := rfl
theorem jC15 {M : wM} {r q : Int} {k : Nat} (i : Int) : joinC M r q k 15 i = (if k = 0 then M 15 i else if i = 60 * r + M 16 r - 1 then 0 else if 60 * r + M 16 r ≤ i ∧ i + 1 < 60 * r + M 16 r + k then M 15 (60 * q + (i - 60 * r - M 16 r)) else M 15 i) := rfl
theorem jC7 {M : wM} {r q : Int} {k : Nat} (i : Int) : joinC M r q k 7 i = (if anyI (fun k' => decide (M 14 (60 * q + k') = i)) k then r else M 7 i) := rfl
theorem jCne {M : wM} {r q : Int} {k j : Nat} (i : Int) (h1 : ¬ j = 16) (h2 : ¬ j = 14) (h3 : ¬ j = 15) (h4 : ¬ j = 7) : joinC M r q k j i = M j i := by
  show (if j = 16 then _ else if j = 14 then _ else if j = 15 then _ else if j = 7 then _ else M j i) = _
  rw [if_neg h1, if_neg h2, if_neg h3, if_neg h4]
theorem aM16 {M : wM} {r s w : Int} (i : Int) : addsM M r s w 16 i = (if i = r then M 16 r + 1 else M 16 i) := by simp [addsM, mup]
theorem aM14 {M : wM} {r s w : Int} (i : Int) : addsM M r s w 14 i = (if i = 60 * r + M 16 r then s else M 14 i) := by simp [addsM, mup]
theorem aM15 {M : wM} {r s w : Int} (i : Int) : addsM M r s w 15 i = (if i = 60 * r + M 16 r - 1 then (if M 16 r ≤ 0 then M 15 (60 * r + M 16 r - 1) else w) else M 15 i) := by simp [addsM, mup]
theorem aM7 {M : wM} {r s w : Int} (i : Int) : addsM M r s w 7 i = (if i = s then r else M 7 i) := by simp [addsM, mup]
theorem aMne {M : wM} {r s w : Int} {j : Nat} (i : Int) (h1 : ¬ j = 16) (h2 : ¬ j = 14) (h3 : ¬ j = 15) (h4 : ¬ j = 7) : addsM M r s w j i = M j i := by simp [addsM, mup, h1, h2, h3, h4]
theorem jC14q {M : wM} {r q i : Int} {k : Nat} (h : ¬ r = q) (h1 : 0 ≤ M 16 r) (h2 : M 16 r + k ≤ 60) (hi : 0 ≤ i ∧ i < 60) : joinC M r q k 14 (60 * q + i) = M 14 (60 * q + i) := by
  rw [jC14, if_neg (by omega)]
theorem jC15q {M : wM} {r q i : Int} {k : Nat} (h : ¬ r = q) (h1 : 1 ≤ M 16 r) (h2 : M 16 r + k ≤ 60) (hi : 0 ≤ i ∧ i < 60) : joinC M r q k 15 (60 * q + i) = M 15 (60 * q + i) := by
  rw [jC15]
  by_cases e : k = 0
  · rw [if_pos e]
  · rw [if_neg e, if_neg (by omega), if_neg (by omega)]
theorem joinC_0 {M : wM} {r q : Int} (h : ¬ r = q) : joinC M r q 0 = mup M 16 q 0 := by
  funext j i
  by_cases h1 : j = 16
  · subst h1
    rw [jC16]
    simp only [mup, true_and]
    by_cases e : i = r
    · rw [if_pos e, if_neg (by omega), e]; simp
    · rw [if_neg e]
  · by_cases h2 : j = 14
    · subst h2; rw [jC14, if_neg (by omega)]; simp [mup]
    · by_cases h3 : j = 15
      · subst h3; rw [jC15, if_pos rfl]; simp [mup]
      · by_cases h4 : j = 7
        · subst h4; rw [jC7]; simp [mup, anyI]
        · rw [jCne i h1 h2 h3 h4]; simp [mup, h1]
theorem joinC_S {M : wM} {r q : Int} {k : Nat} (h : ¬ r = q) (hm : 1 ≤ M 16 r) : joinC M r q (k + 1) = addsM (joinC M r q k) r (M 14 (60 * q + k)) (if k = 0 then 0 else M 15 (60 * q + k - 1)) := by
  have e16 : joinC M r q k 16 r = M 16 r + k := by rw [jC16, if_pos rfl]
  funext j i
  by_cases h1 : j = 16
  · subst h1
    rw [aM16, jC16, e16, jC16]
    by_cases e : i = r
    · rw [if_pos e, if_pos e]; omega
    · rw [if_neg e, if_neg e, if_neg e]
  · by_cases h2 : j = 14
    · subst h2
      rw [aM14, jC14, e16, jC14]
      by_cases e : i = 60 * r + (M 16 r + k)
      · rw [if_pos (by omega), if_pos e]; congr 1; omega
      · rw [if_neg (c := i = _) e]
        by_cases e2 : 60 * r + M 16 r ≤ i ∧ i < 60 * r + M 16 r + k
        · rw [if_pos (by omega), if_pos e2]
        · rw [if_neg (by omega), if_neg e2]
    · by_cases h3 : j = 15
      · subst h3
        rw [aM15, e16, if_neg (c := M 16 r + (k : Int) ≤ 0) (by omega), jC15, jC15 i, if_neg (by omega)]
        by_cases e : i = 60 * r + (M 16 r + k) - 1
        · rw [if_pos (c := i = 60 * r + (M 16 r + (k : Int)) - 1) e]
          by_cases e2 : k = 0
          · rw [if_pos (by omega), if_pos e2]
          · rw [if_neg (by omega), if_pos (by omega), if_neg e2]; congr 1; omega
        · rw [if_neg (c := i = 60 * r + (M 16 r + (k : Int)) - 1) e]
          by_cases e2 : k = 0
          · rw [if_neg (by omega), if_neg (by omega), if_pos e2]
          · rw [if_neg (c := k = 0) e2]
            by_cases e3 : i = 60 * r + M 16 r - 1
            · rw [if_pos e3, if_pos e3]
            · rw [if_neg e3, if_neg e3]
              by_cases e4 : 60 * r + M 16 r ≤ i ∧ i + 1 < 60 * r + M 16 r + k
              · rw [if_pos (by omega), if_pos e4]
              · rw [if_neg (by omega), if_neg e4]
      · by_cases h4 : j = 7
        · subst h4
          rw [aM7, jC7, jC7, anyI]
          by_cases e : i = M 14 (60 * q + k)
          · rw [if_pos (c := i = _) e, if_pos (by simp [e])]
          · rw [if_neg (c := i = _) e, show decide (M 14 (60 * q + k) = i) = false by simp; exact fun z => e z.symm, Bool.or_false]
        · rw [aMne i h1 h2 h3 h4, jCne i h1 h2 h3 h4, jCne i h1 h2 h3 h4]
/-- two reels of one film have no more shots than there are -/
theorem reelM_two {M : wM} (i4 : I4 M) {r q : Int} (hr : 0 ≤ r ∧ r < 24) (hq : 0 ≤ q ∧ q < 24) (h : ¬ r = q) (h12 : 0 ≤ M 12 0) : M 16 r + M 16 q ≤ M 12 0 := by
  have w4 := i4 r hr.1 hr.2
  have w5 := i4 q hq.1 hq.2
  have := pig (M 12 0).toNat ((M 16 r).toNat + (M 16 q).toNat) (fun k => if k < (M 16 r).toNat then (M 14 (60 * r + k)).toNat else (M 14 (60 * q + (k - (M 16 r).toNat : Nat))).toNat) (fun k hk => by
    by_cases e : k < (M 16 r).toNat
    · rw [if_pos e]
      have := w4.2.2.2.2 k (by omega) (by omega)
      omega
    · rw [if_neg e]
      have := w5.2.2.2.2 (k - (M 16 r).toNat : Nat) (by omega) (by omega)
      omega) (fun k k' hk hk' => by
    by_cases e : k < (M 16 r).toNat <;> by_cases e' : k' < (M 16 r).toNat
    · rw [if_pos e, if_pos e']
      have w := w4.2.2.2.2 k (by omega) (by omega)
      have w' := w4.2.2.2.2 k' (by omega) (by omega)
      intro g
      have := w.2.2.2.2.2 k' (by omega) (by omega) (by omega)
      omega
    · rw [if_pos e, if_neg e']
      have w := w4.2.2.2.2 k (by omega) (by omega)
      have w' := w5.2.2.2.2 (k' - (M 16 r).toNat : Nat) (by omega) (by omega)
      intro g
      have e9 : M 14 (60 * r + k) = M 14 (60 * q + (k' - (M 16 r).toNat : Nat)) := by omega
      have := w.2.2.1
      rw [e9, w'.2.2.1] at this
      omega
    · rw [if_neg e, if_pos e']
      have w := w4.2.2.2.2 k' (by omega) (by omega)
      have w' := w5.2.2.2.2 (k - (M 16 r).toNat : Nat) (by omega) (by omega)
      intro g
      have e9 : M 14 (60 * r + k') = M 14 (60 * q + (k - (M 16 r).toNat : Nat)) := by omega
      have := w.2.2.1
      rw [e9, w'.2.2.1] at this
      omega
    · rw [if_neg e, if_neg e']
      have w := w5.2.2.2.2 (k - (M 16 r).toNat : Nat) (by omega) (by omega)
      have w' := w5.2.2.2.2 (k' - (M 16 r).toNat : Nat) (by omega) (by omega)
      intro g
      have := w.2.2.2.2.2 (k' - (M 16 r).toNat : Nat) (by omega) (by omega) (by omega)
      omega)
  omega
def x_found (M : wM) (f z a b : Int) : Int := if ¬ ((0 ≤ f ∧ f < M 1 0) ∧ 0 ≤ z ∧ z ≤ M 3 f) then 1 else if ¬ ((1 ≤ a ∧ a ≤ 999) ∧ 0 ≤ b ∧ b ≤ 9) then 2 else if lentM M f = true then 3 else if M 12 0 = 60 ∨ M 17 0 = 24 then 4 else 0
def v_found (M : wM) (f z a b : Int) : Int := M 17 0
def n_found (M : wM) (f z a b : Int) : wM := if x_found M f z a b = 0 then addsM (mup (mup (makesM (mup M 0 0 (x_found M f z a b)) f z a b) 13 (M 17 0) f) 17 0 (M 17 0 + 1)) (M 17 0) (M 12 0) 0 else (mup M 0 0 (x_found M f z a b))
def x_join (M : wM) (r q : Int) : Int := if ¬ ((0 ≤ r ∧ r < M 17 0) ∧ 0 ≤ q ∧ q < M 17 0) then 1 else if ¬ (¬ r = q ∧ M 13 r = M 13 q) then 2 else if M 16 r = 0 ∨ M 16 q = 0 ∨ plM M (M 14 (60 * q)) < plM M (lastM M r) ∨ lentM M (M 13 r) = true then 3 else 0
def v_join (M : wM) (r q : Int) : Int := M 16 r + M 16 q
def n_join (M : wM) (r q : Int) : wM := if x_join M r q = 0 then joinC (mup M 0 0 (x_join M r q)) r q (M 16 q).toNat else (mup M 0 0 (x_join M r q))
set_option maxHeartbeats 4000000 in
set_option maxRecDepth 100000 in
theorem m_put (l : Launch) (hfl : l.stackTraces = false) {M : wM} {r z : Int} (h_r : rg r)  (h_z : rg z) (I : Inv M) : MC l yX6_put cX6_put 6 (some FieldType.int) 4 [.int (iN r), .int (iN z)] M (.inl (some (.int (iN (if x_put M r z = 0 then v_put M r z else 0))))) (n_put M r z) := by
  intro S0 o B hM0
  refine Ct.of cal_X6_put hfl (Nat.le_of_ble_eq_true rfl) ?_
  intro p e s m args below meth c D sz C ME
  have hM : RMF S0 S0 o B M := ⟨hM0, mF.rf⟩
  have I9 := I
  obtain ⟨i1, i2, i3, i3e, i4, i4e, i5, i6, i7, i8, i10, i11⟩ := I9
  obtain ⟨a1, a2, a3, a4, a5, a6, a7⟩ := id i1
  have key : ∀ (x : Int) (S : wS), x = x_put M r z → RMF S0 S o B M → J p l e { frames := 20 * 4, cells := 0, slots := 0, locals := 200 * 4 } s m args below meth c 6 D (wA S0 sz) (wQ below D sz S0 (fun r9 S9 => r9 = .inl (some (.int (iN (if x_put M r z = 0 then v_put M r z else 0)))) ∧ RMF S0 S9 o B (n_put M r z)) args s 0 0) 137 [(0, .ref o), (1, .int (iN (r))), (2, .int (iN (z)))] [.int (iN x), .ref o] S 0 0 := by
    intro x S hx hM
    subst hx
    refine j_mcall C hM (c_goesOn l hfl (by unfold x_put; (repeat' split) <;> (unfold rg; omega))) cal_X6_goesOn vi_X6_goesOn rfl ml_Mo_103 rfl rfl (Nat.le_of_ble_eq_true rfl) ⟨by decide, by decide⟩ ⟨by omega, by omega⟩ dX6_put_137 (fun S hM => ?_)
    refine j_ifne_b (tgt := 145) C dX6_put_140 (by decide) (fun c140 => ?_) (fun c140 => ?_)
    · try simp only [decide_eq_true_eq, decide_eq_false_iff_not] at c140
      try simp only [decide_eq_true_eq, decide_eq_false_iff_not] at c140
      have ok : ((0 ≤ r ∧ r < M 17 0) ∧ 0 ≤ z ∧ z < M 12 0) ∧ M 7 z = -1 := by
        clear I i1 i2 i3 i3e i4 i4e i5 i6 i7 i8 i10 i11; (try clear key); (try clear key2); (try clear ih); (try clear w5); (try clear w11); (try clear w2); (try clear w3); (try clear w4); (try clear w6); (try clear w7); (try clear w8); (try clear w9); (try clear p4); (try clear o4); unfold x_put at c140
        (repeat' split at c140) <;> first | rfl | omega | (simp_all; done) | (simp_all; omega)
      have w4 := i4 r (by omega) (by omega)
      have wl := reelM_lt i1 i4 (r := r) (s := z) (by omega) (by omega) (by omega)
      refine j_aload_n C dX6_put_145 rfl ?_
      refine j_iload_n C dX6_put_146 rfl ?_
      refine j_iload_n C dX6_put_147 rfl ?_
      refine j_iconst C dX6_put_148 ?_
      refine j_mcall C hM (c_adds l hfl (M := mup M 0 0 (x_put M r z)) (by omega) (by omega) (show 0 ≤ M 16 r ∧ M 16 r < 60 by omega)) cal_X6_adds vi_X6_adds rfl ml_Mo_134 rfl rfl (Nat.le_of_ble_eq_true rfl) ⟨by decide, by decide⟩ ⟨by omega, by omega⟩ dX6_put_149 (fun S hM => ?_)
      refine j_aload_n C dX6_put_152 rfl ?_
      refine j_mgeta C hM fl_Mo_49 (by decide) dX6_put_153 ?_
      refine j_iload_n C dX6_put_156 rfl ?_
      refine j_mald C hM (by decide) rfl (by simp only [mLen]; omega) dX6_put_157 ?_
      refine j_iret C ME ?_ (by omega) (by omega) dX6_put_158
      refine ⟨rI ?_, ?_⟩
      · first
        | (rw [if_neg c140]; done)
        | (rw [if_pos c140]; unfold v_put; simp [addsM, mup])
      · unfold n_put
        first
        | (rw [if_neg c140]; exact hM)
        | (rw [if_pos c140]; exact hM)
    · try simp only [decide_eq_true_eq, decide_eq_false_iff_not] at c140
      try simp only [decide_eq_true_eq, decide_eq_false_iff_not] at c140
      refine j_iconst C dX6_put_143 ?_
      refine j_iret C ME ?_ (by omega) (by omega) dX6_put_144
      refine ⟨rI ?_, ?_⟩
      · first
        | (rw [if_neg c140]; done)
        | (rw [if_pos c140]; unfold v_put; simp [addsM, mup])
      · unfold n_put
        first
        | (rw [if_neg c140]; exact hM)
        | (rw [if_pos c140]; exact hM)
  refine j_aload_n C dX6_put_0 rfl ?_
  refine j_iload_n C dX6_put_1 rfl ?_
  refine j_mcall C hM (c_isReel l hfl (by unfold rg at *; omega) (by omega)) cal_X6_isReel vi_X6_isReel rfl ml_Mo_118 rfl rfl (Nat.le_of_ble_eq_true rfl) ⟨by decide, by decide⟩ ⟨by omega, by omega⟩ dX6_put_2 (fun S hM => ?_)
  refine j_ifeq_b (tgt := 20) C dX6_put_5 (by decide) (fun c5 => ?_) (fun c5 => ?_)
  · try simp only [decide_eq_true_eq, decide_eq_false_iff_not] at c5
    refine j_iconst C dX6_put_20 ?_
    refine j_istore_n C dX6_put_21 (by decide) ?_
    refine j_iload_n C dX6_put_22 rfl ?_
    refine j_if_eq (tgt := 45) C dX6_put_23 (by decide) (by unfold rg at *; omega) (fun c23 => ?_) (fun c23 => ?_)
    · refine j_iconst C dX6_put_45 ?_
      refine j_istore C dX6_put_46 (by decide) ?_
      refine j_iload C dX6_put_48 rfl ?_
      refine j_if_eq (tgt := 106) C dX6_put_50 (by decide) (by unfold rg at *; omega) (fun c50 => ?_) (fun c50 => ?_)
      · refine j_iconst C dX6_put_106 ?_
        refine j_istore C dX6_put_107 (by decide) ?_
        refine j_aload_n C dX6_put_109 rfl ?_
        refine j_iload_n C dX6_put_110 rfl ?_
        refine j_if_ne (tgt := 118) C dX6_put_111 (by decide) (by unfold rg at *; omega) (fun c111 => ?_) (fun c111 => ?_)
        · exact absurd c111 (by decide)
        · refine j_iconst C dX6_put_114 ?_
          refine j_goto (tgt := 137) C dX6_put_115 (by decide) ?_
          refine J.lvs (lv' := [(0, .ref o), (1, .int (iN (r))), (2, .int (iN (z)))]) ?_ ?_
          · intro q hq; simp only [List.mem_cons, List.not_mem_nil, or_false] at hq; rcases hq with rfl | rfl | rfl <;> rfl
          · refine key _ _ (by clear I i1 i2 i3 i3e i4 i4e i5 i6 i7 i8 i10 i11; (try clear key); (try clear key2); (try clear ih); (try clear w5); (try clear w11); (try clear w2); (try clear w3); (try clear w4); (try clear w6); (try clear w7); (try clear w8); (try clear w9); (try clear p4); (try clear o4); (try simp only [decide_eq_true_eq, decide_eq_false_iff_not] at *); unfold x_put; (repeat' split) <;> first | rfl | omega | (simp_all; done) | (simp_all; omega)) hM
      · exact absurd c50 (by decide)
    · exact absurd c23 (by decide)
  · try simp only [decide_eq_true_eq, decide_eq_false_iff_not] at c5
    refine j_aload_n C dX6_put_8 rfl ?_
    refine j_iload_n C dX6_put_9 rfl ?_
    refine j_mcall C hM (c_isShot l hfl (by unfold rg at *; omega) (by omega)) cal_X6_isShot vi_X6_isShot rfl ml_Mo_121 rfl rfl (Nat.le_of_ble_eq_true rfl) ⟨by decide, by decide⟩ ⟨by omega, by omega⟩ dX6_put_10 (fun S hM => ?_)
    refine j_ifeq_b (tgt := 20) C dX6_put_13 (by decide) (fun c13 => ?_) (fun c13 => ?_)
    · try simp only [decide_eq_true_eq, decide_eq_false_iff_not] at c13
      refine j_iconst C dX6_put_20 ?_
      refine j_istore_n C dX6_put_21 (by decide) ?_
      refine j_iload_n C dX6_put_22 rfl ?_
      refine j_if_eq (tgt := 45) C dX6_put_23 (by decide) (by unfold rg at *; omega) (fun c23 => ?_) (fun c23 => ?_)
      · refine j_iconst C dX6_put_45 ?_
        refine j_istore C dX6_put_46 (by decide) ?_
        refine j_iload C dX6_put_48 rfl ?_
        refine j_if_eq (tgt := 106) C dX6_put_50 (by decide) (by unfold rg at *; omega) (fun c50 => ?_) (fun c50 => ?_)
        · refine j_iconst C dX6_put_106 ?_
          refine j_istore C dX6_put_107 (by decide) ?_
          refine j_aload_n C dX6_put_109 rfl ?_
          refine j_iload_n C dX6_put_110 rfl ?_
          refine j_if_ne (tgt := 118) C dX6_put_111 (by decide) (by unfold rg at *; omega) (fun c111 => ?_) (fun c111 => ?_)
          · exact absurd c111 (by decide)
          · refine j_iconst C dX6_put_114 ?_
            refine j_goto (tgt := 137) C dX6_put_115 (by decide) ?_
            refine J.lvs (lv' := [(0, .ref o), (1, .int (iN (r))), (2, .int (iN (z)))]) ?_ ?_
            · intro q hq; simp only [List.mem_cons, List.not_mem_nil, or_false] at hq; rcases hq with rfl | rfl | rfl <;> rfl
            · refine key _ _ (by clear I i1 i2 i3 i3e i4 i4e i5 i6 i7 i8 i10 i11; (try clear key); (try clear key2); (try clear ih); (try clear w5); (try clear w11); (try clear w2); (try clear w3); (try clear w4); (try clear w6); (try clear w7); (try clear w8); (try clear w9); (try clear p4); (try clear o4); (try simp only [decide_eq_true_eq, decide_eq_false_iff_not] at *); unfold x_put; (repeat' split) <;> first | rfl | omega | (simp_all; done) | (simp_all; omega)) hM
        · exact absurd c50 (by decide)
      · exact absurd c23 (by decide)
    · try simp only [decide_eq_true_eq, decide_eq_false_iff_not] at c13
      refine j_iconst C dX6_put_16 ?_
      refine j_goto (tgt := 21) C dX6_put_17 (by decide) ?_
      refine j_istore_n C dX6_put_21 (by decide) ?_
      refine j_iload_n C dX6_put_22 rfl ?_
      refine j_if_eq (tgt := 45) C dX6_put_23 (by decide) (by unfold rg at *; omega) (fun c23 => ?_) (fun c23 => ?_)
      · exact absurd c23 (by decide)
      · have w2 := i2 z (by omega) (by omega)
        have w4 := i4 r (by omega) (by omega)
        obtain ⟨p1, p2, p3, p4⟩ := plM_spec i1 i3 i2 i3e (s := z) (by omega) (by omega)
        have w3 := i3 (M 4 z) (by omega) (by omega)
        refine j_aload_n C dX6_put_26 rfl ?_
        refine j_mgeta C hM fl_Mo_16 (by decide) dX6_put_27 ?_
        refine j_iload_n C dX6_put_30 rfl ?_
        refine j_mald C hM (by decide) rfl (by simp only [mLen]; omega) dX6_put_31 ?_
        refine j_aload_n C dX6_put_32 rfl ?_
        refine j_mgeta C hM fl_Mo_40 (by decide) dX6_put_33 ?_
        refine j_iload_n C dX6_put_36 rfl ?_
        refine j_mald C hM (by decide) rfl (by simp only [mLen]; omega) dX6_put_37 ?_
        refine j_icmp_ne (tgt := 45) C dX6_put_38 (by decide) (by unfold rg at *; omega) (by unfold rg at *; omega) (fun c38 => ?_) (fun c38 => ?_)
        · refine j_iconst C dX6_put_45 ?_
          refine j_istore C dX6_put_46 (by decide) ?_
          refine j_iload C dX6_put_48 rfl ?_
          refine j_if_eq (tgt := 106) C dX6_put_50 (by decide) (by unfold rg at *; omega) (fun c50 => ?_) (fun c50 => ?_)
          · refine j_iconst C dX6_put_106 ?_
            refine j_istore C dX6_put_107 (by decide) ?_
            refine j_aload_n C dX6_put_109 rfl ?_
            refine j_iload_n C dX6_put_110 rfl ?_
            refine j_if_ne (tgt := 118) C dX6_put_111 (by decide) (by unfold rg at *; omega) (fun c111 => ?_) (fun c111 => ?_)
            · refine j_iload C dX6_put_118 rfl ?_
              refine j_if_ne (tgt := 127) C dX6_put_120 (by decide) (by unfold rg at *; omega) (fun c120 => ?_) (fun c120 => ?_)
              · exact absurd c120 (by decide)
              · refine j_iconst C dX6_put_123 ?_
                refine j_goto (tgt := 137) C dX6_put_124 (by decide) ?_
                refine J.lvs (lv' := [(0, .ref o), (1, .int (iN (r))), (2, .int (iN (z)))]) ?_ ?_
                · intro q hq; simp only [List.mem_cons, List.not_mem_nil, or_false] at hq; rcases hq with rfl | rfl | rfl <;> rfl
                · refine key _ _ (by clear I i1 i2 i3 i3e i4 i4e i5 i6 i7 i8 i10 i11; (try clear key); (try clear key2); (try clear ih); (try clear w5); (try clear w11); (try clear w2); (try clear w3); (try clear w4); (try clear w6); (try clear w7); (try clear w8); (try clear w9); (try clear p4); (try clear o4); (try simp only [decide_eq_true_eq, decide_eq_false_iff_not] at *); unfold x_put; (repeat' split) <;> first | rfl | omega | (simp_all; done) | (simp_all; omega)) hM
            · exact absurd c111 (by decide)
          · exact absurd c50 (by decide)
        · refine j_iconst C dX6_put_41 ?_
          refine j_goto (tgt := 46) C dX6_put_42 (by decide) ?_
          refine j_istore C dX6_put_46 (by decide) ?_
          refine j_iload C dX6_put_48 rfl ?_
          refine j_if_eq (tgt := 106) C dX6_put_50 (by decide) (by unfold rg at *; omega) (fun c50 => ?_) (fun c50 => ?_)
          · exact absurd c50 (by decide)
          · refine j_aload_n C dX6_put_53 rfl ?_
            refine j_mgeta C hM fl_Mo_25 (by decide) dX6_put_54 ?_
            refine j_iload_n C dX6_put_57 rfl ?_
            refine j_mald C hM (by decide) rfl (by simp only [mLen]; omega) dX6_put_58 ?_
            refine j_iconst C dX6_put_59 ?_
            refine j_icmp_ne (tgt := 102) C dX6_put_60 (by decide) (by unfold rg at *; omega) (by unfold rg at *; omega) (fun c60 => ?_) (fun c60 => ?_)
            · refine j_iconst C dX6_put_102 ?_
              refine j_goto (tgt := 107) C dX6_put_103 (by decide) ?_
              refine j_istore C dX6_put_107 (by decide) ?_
              refine j_aload_n C dX6_put_109 rfl ?_
              refine j_iload_n C dX6_put_110 rfl ?_
              refine j_if_ne (tgt := 118) C dX6_put_111 (by decide) (by unfold rg at *; omega) (fun c111 => ?_) (fun c111 => ?_)
              · refine j_iload C dX6_put_118 rfl ?_
                refine j_if_ne (tgt := 127) C dX6_put_120 (by decide) (by unfold rg at *; omega) (fun c120 => ?_) (fun c120 => ?_)
                · refine j_iload C dX6_put_127 rfl ?_
                  refine j_if_eq (tgt := 136) C dX6_put_129 (by decide) (by unfold rg at *; omega) (fun c129 => ?_) (fun c129 => ?_)
                  · exact absurd c129 (by decide)
                  · refine j_iconst C dX6_put_132 ?_
                    refine j_goto (tgt := 137) C dX6_put_133 (by decide) ?_
                    refine J.lvs (lv' := [(0, .ref o), (1, .int (iN (r))), (2, .int (iN (z)))]) ?_ ?_
                    · intro q hq; simp only [List.mem_cons, List.not_mem_nil, or_false] at hq; rcases hq with rfl | rfl | rfl <;> rfl
                    · refine key _ _ (by clear I i1 i2 i3 i3e i4 i4e i5 i6 i7 i8 i10 i11; (try clear key); (try clear key2); (try clear ih); (try clear w5); (try clear w11); (try clear w2); (try clear w3); (try clear w4); (try clear w6); (try clear w7); (try clear w8); (try clear w9); (try clear p4); (try clear o4); (try simp only [decide_eq_true_eq, decide_eq_false_iff_not] at *); unfold x_put; (repeat' split) <;> first | rfl | omega | (simp_all; done) | (simp_all; omega)) hM
                · exact absurd c120 (by decide)
              · exact absurd c111 (by decide)
            · refine j_aload_n C dX6_put_63 rfl ?_
              refine j_mgeta C hM fl_Mo_49 (by decide) dX6_put_64 ?_
              refine j_iload_n C dX6_put_67 rfl ?_
              refine j_mald C hM (by decide) rfl (by simp only [mLen]; omega) dX6_put_68 ?_
              refine j_if_le (tgt := 89) C dX6_put_69 (by decide) (by unfold rg at *; omega) (fun c69 => ?_) (fun c69 => ?_)
              · refine j_aload_n C dX6_put_89 rfl ?_
                refine j_aload_n C dX6_put_90 rfl ?_
                refine j_mgeta C hM fl_Mo_16 (by decide) dX6_put_91 ?_
                refine j_iload_n C dX6_put_94 rfl ?_
                refine j_mald C hM (by decide) rfl (by simp only [mLen]; omega) dX6_put_95 ?_
                refine j_mcall C hM (c_isLent l hfl (by unfold rg at *; omega) i1 i6 i8) cal_X6_isLent vi_X6_isLent rfl ml_Mo_131 rfl rfl (Nat.le_of_ble_eq_true rfl) ⟨by decide, by decide⟩ ⟨by omega, by omega⟩ dX6_put_96 (fun S hM => ?_)
                refine j_ifeq_b (tgt := 106) C dX6_put_99 (by decide) (fun c99 => ?_) (fun c99 => ?_)
                · try simp only [decide_eq_true_eq, decide_eq_false_iff_not] at c99
                  refine j_iconst C dX6_put_106 ?_
                  refine j_istore C dX6_put_107 (by decide) ?_
                  refine j_aload_n C dX6_put_109 rfl ?_
                  refine j_iload_n C dX6_put_110 rfl ?_
                  refine j_if_ne (tgt := 118) C dX6_put_111 (by decide) (by unfold rg at *; omega) (fun c111 => ?_) (fun c111 => ?_)
                  · refine j_iload C dX6_put_118 rfl ?_
                    refine j_if_ne (tgt := 127) C dX6_put_120 (by decide) (by unfold rg at *; omega) (fun c120 => ?_) (fun c120 => ?_)
                    · refine j_iload C dX6_put_127 rfl ?_
                      refine j_if_eq (tgt := 136) C dX6_put_129 (by decide) (by unfold rg at *; omega) (fun c129 => ?_) (fun c129 => ?_)
                      · refine j_iconst C dX6_put_136 ?_
                        refine J.lvs (lv' := [(0, .ref o), (1, .int (iN (r))), (2, .int (iN (z)))]) ?_ ?_
                        · intro q hq; simp only [List.mem_cons, List.not_mem_nil, or_false] at hq; rcases hq with rfl | rfl | rfl <;> rfl
                        · refine key _ _ (by clear I i1 i2 i3 i3e i4 i4e i5 i6 i7 i8 i10 i11; (try clear key); (try clear key2); (try clear ih); (try clear w5); (try clear w11); (try clear w2); (try clear w3); (try clear w4); (try clear w6); (try clear w7); (try clear w8); (try clear w9); (try clear p4); (try clear o4); (try simp only [decide_eq_true_eq, decide_eq_false_iff_not] at *); unfold x_put; (repeat' split) <;> first | rfl | omega | (simp_all; done) | (simp_all; omega)) hM
                      · exact absurd c129 (by decide)
                    · exact absurd c120 (by decide)
                  · exact absurd c111 (by decide)
                · try simp only [decide_eq_true_eq, decide_eq_false_iff_not] at c99
                  refine j_iconst C dX6_put_102 ?_
                  refine j_goto (tgt := 107) C dX6_put_103 (by decide) ?_
                  refine j_istore C dX6_put_107 (by decide) ?_
                  refine j_aload_n C dX6_put_109 rfl ?_
                  refine j_iload_n C dX6_put_110 rfl ?_
                  refine j_if_ne (tgt := 118) C dX6_put_111 (by decide) (by unfold rg at *; omega) (fun c111 => ?_) (fun c111 => ?_)
                  · refine j_iload C dX6_put_118 rfl ?_
                    refine j_if_ne (tgt := 127) C dX6_put_120 (by decide) (by unfold rg at *; omega) (fun c120 => ?_) (fun c120 => ?_)
                    · refine j_iload C dX6_put_127 rfl ?_
                      refine j_if_eq (tgt := 136) C dX6_put_129 (by decide) (by unfold rg at *; omega) (fun c129 => ?_) (fun c129 => ?_)
                      · exact absurd c129 (by decide)
                      · refine j_iconst C dX6_put_132 ?_
                        refine j_goto (tgt := 137) C dX6_put_133 (by decide) ?_
                        refine J.lvs (lv' := [(0, .ref o), (1, .int (iN (r))), (2, .int (iN (z)))]) ?_ ?_
                        · intro q hq; simp only [List.mem_cons, List.not_mem_nil, or_false] at hq; rcases hq with rfl | rfl | rfl <;> rfl
                        · refine key _ _ (by clear I i1 i2 i3 i3e i4 i4e i5 i6 i7 i8 i10 i11; (try clear key); (try clear key2); (try clear ih); (try clear w5); (try clear w11); (try clear w2); (try clear w3); (try clear w4); (try clear w6); (try clear w7); (try clear w8); (try clear w9); (try clear p4); (try clear o4); (try simp only [decide_eq_true_eq, decide_eq_false_iff_not] at *); unfold x_put; (repeat' split) <;> first | rfl | omega | (simp_all; done) | (simp_all; omega)) hM
                    · exact absurd c120 (by decide)
                  · exact absurd c111 (by decide)
              · have w5 := w4.2.2.2.2 (M 16 r - 1) (by omega) (by omega)
                rw [show 60 * r + (M 16 r - 1) = 60 * r + M 16 r - 1 by omega] at w5
                have w60 := i2 (M 14 (60 * r + M 16 r - 1)) (by omega) (by omega)
                obtain ⟨o1, o2, o3, o4⟩ := plM_spec i1 i3 i2 i3e (s := lastM M r) w5.1 w5.2.1
                have w7 := i3 (M 4 (lastM M r)) (by unfold lastM; omega) (by unfold lastM; omega)
                refine j_aload_n C dX6_put_72 rfl ?_
                refine j_iload_n C dX6_put_73 rfl ?_
                refine j_mcall C hM (c_placeOf l hfl (by omega) i1 i2 i3 i3e) cal_X6_placeOf vi_X6_placeOf rfl ml_Mo_124 rfl rfl (Nat.le_of_ble_eq_true rfl) ⟨by decide, by decide⟩ ⟨by omega, by omega⟩ dX6_put_74 (fun S hM => ?_)
                refine j_aload_n C dX6_put_77 rfl ?_
                refine j_aload_n C dX6_put_78 rfl ?_
                refine j_iload_n C dX6_put_79 rfl ?_
                refine j_mcall C hM (c_lastOf l hfl (by omega) (by omega)) cal_X6_lastOf vi_X6_lastOf rfl ml_Mo_128 rfl rfl (Nat.le_of_ble_eq_true rfl) ⟨by decide, by decide⟩ ⟨by omega, by omega⟩ dX6_put_80 (fun S hM => ?_)
                refine j_mcall C hM (c_placeOf l hfl (z := lastM M r) ⟨w5.1, w5.2.1⟩ i1 i2 i3 i3e) cal_X6_placeOf vi_X6_placeOf rfl ml_Mo_124 rfl rfl (Nat.le_of_ble_eq_true rfl) ⟨by decide, by decide⟩ ⟨by omega, by omega⟩ dX6_put_83 (fun S hM => ?_)
                refine j_icmp_lt (tgt := 102) C dX6_put_86 (by decide) (by unfold rg at *; omega) (by unfold rg at *; omega) (fun c86 => ?_) (fun c86 => ?_)
                · refine j_iconst C dX6_put_102 ?_
                  refine j_goto (tgt := 107) C dX6_put_103 (by decide) ?_
                  refine j_istore C dX6_put_107 (by decide) ?_
                  refine j_aload_n C dX6_put_109 rfl ?_
                  refine j_iload_n C dX6_put_110 rfl ?_
                  refine j_if_ne (tgt := 118) C dX6_put_111 (by decide) (by unfold rg at *; omega) (fun c111 => ?_) (fun c111 => ?_)
                  · refine j_iload C dX6_put_118 rfl ?_
                    refine j_if_ne (tgt := 127) C dX6_put_120 (by decide) (by unfold rg at *; omega) (fun c120 => ?_) (fun c120 => ?_)
                    · refine j_iload C dX6_put_127 rfl ?_
                      refine j_if_eq (tgt := 136) C dX6_put_129 (by decide) (by unfold rg at *; omega) (fun c129 => ?_) (fun c129 => ?_)
                      · exact absurd c129 (by decide)
                      · refine j_iconst C dX6_put_132 ?_
                        refine j_goto (tgt := 137) C dX6_put_133 (by decide) ?_
                        refine J.lvs (lv' := [(0, .ref o), (1, .int (iN (r))), (2, .int (iN (z)))]) ?_ ?_
                        · intro q hq; simp only [List.mem_cons, List.not_mem_nil, or_false] at hq; rcases hq with rfl | rfl | rfl <;> rfl
                        · refine key _ _ (by clear I i1 i2 i3 i3e i4 i4e i5 i6 i7 i8 i10 i11; (try clear key); (try clear key2); (try clear ih); (try clear w5); (try clear w11); (try clear w2); (try clear w3); (try clear w4); (try clear w6); (try clear w7); (try clear w8); (try clear w9); (try clear p4); (try clear o4); (try simp only [decide_eq_true_eq, decide_eq_false_iff_not] at *); unfold x_put; (repeat' split) <;> first | rfl | omega | (simp_all; done) | (simp_all; omega)) hM
                    · exact absurd c120 (by decide)
                  · exact absurd c111 (by decide)
                · refine j_aload_n C dX6_put_89 rfl ?_
                  refine j_aload_n C dX6_put_90 rfl ?_
                  refine j_mgeta C hM fl_Mo_16 (by decide) dX6_put_91 ?_
                  refine j_iload_n C dX6_put_94 rfl ?_
                  refine j_mald C hM (by decide) rfl (by simp only [mLen]; omega) dX6_put_95 ?_
                  refine j_mcall C hM (c_isLent l hfl (by unfold rg at *; omega) i1 i6 i8) cal_X6_isLent vi_X6_isLent rfl ml_Mo_131 rfl rfl (Nat.le_of_ble_eq_true rfl) ⟨by decide, by decide⟩ ⟨by omega, by omega⟩ dX6_put_96 (fun S hM => ?_)
                  refine j_ifeq_b (tgt := 106) C dX6_put_99 (by decide) (fun c99 => ?_) (fun c99 => ?_)
                  · try simp only [decide_eq_true_eq, decide_eq_false_iff_not] at c99
                    refine j_iconst C dX6_put_106 ?_
                    refine j_istore C dX6_put_107 (by decide) ?_
                    refine j_aload_n C dX6_put_109 rfl ?_
                    refine j_iload_n C dX6_put_110 rfl ?_
                    refine j_if_ne (tgt := 118) C dX6_put_111 (by decide) (by unfold rg at *; omega) (fun c111 => ?_) (fun c111 => ?_)
                    · refine j_iload C dX6_put_118 rfl ?_
                      refine j_if_ne (tgt := 127) C dX6_put_120 (by decide) (by unfold rg at *; omega) (fun c120 => ?_) (fun c120 => ?_)
                      · refine j_iload C dX6_put_127 rfl ?_
                        refine j_if_eq (tgt := 136) C dX6_put_129 (by decide) (by unfold rg at *; omega) (fun c129 => ?_) (fun c129 => ?_)
                        · refine j_iconst C dX6_put_136 ?_
                          refine J.lvs (lv' := [(0, .ref o), (1, .int (iN (r))), (2, .int (iN (z)))]) ?_ ?_
                          · intro q hq; simp only [List.mem_cons, List.not_mem_nil, or_false] at hq; rcases hq with rfl | rfl | rfl <;> rfl
                          · refine key _ _ (by clear I i1 i2 i3 i3e i4 i4e i5 i6 i7 i8 i10 i11; (try clear key); (try clear key2); (try clear ih); (try clear w5); (try clear w11); (try clear w2); (try clear w3); (try clear w4); (try clear w6); (try clear w7); (try clear w8); (try clear w9); (try clear p4); (try clear o4); (try simp only [decide_eq_true_eq, decide_eq_false_iff_not] at *); unfold x_put; (repeat' split) <;> first | rfl | omega | (simp_all; done) | (simp_all; omega)) hM
                        · exact absurd c129 (by decide)
                      · exact absurd c120 (by decide)
                    · exact absurd c111 (by decide)
                  · try simp only [decide_eq_true_eq, decide_eq_false_iff_not] at c99
                    refine j_iconst C dX6_put_102 ?_
                    refine j_goto (tgt := 107) C dX6_put_103 (by decide) ?_
                    refine j_istore C dX6_put_107 (by decide) ?_
                    refine j_aload_n C dX6_put_109 rfl ?_
                    refine j_iload_n C dX6_put_110 rfl ?_
                    refine j_if_ne (tgt := 118) C dX6_put_111 (by decide) (by unfold rg at *; omega) (fun c111 => ?_) (fun c111 => ?_)
                    · refine j_iload C dX6_put_118 rfl ?_
                      refine j_if_ne (tgt := 127) C dX6_put_120 (by decide) (by unfold rg at *; omega) (fun c120 => ?_) (fun c120 => ?_)
                      · refine j_iload C dX6_put_127 rfl ?_
                        refine j_if_eq (tgt := 136) C dX6_put_129 (by decide) (by unfold rg at *; omega) (fun c129 => ?_) (fun c129 => ?_)
                        · exact absurd c129 (by decide)
                        · refine j_iconst C dX6_put_132 ?_
                          refine j_goto (tgt := 137) C dX6_put_133 (by decide) ?_
                          refine J.lvs (lv' := [(0, .ref o), (1, .int (iN (r))), (2, .int (iN (z)))]) ?_ ?_
                          · intro q hq; simp only [List.mem_cons, List.not_mem_nil, or_false] at hq; rcases hq with rfl | rfl | rfl <;> rfl
                          · refine key _ _ (by clear I i1 i2 i3 i3e i4 i4e i5 i6 i7 i8 i10 i11; (try clear key); (try clear key2); (try clear ih); (try clear w5); (try clear w11); (try clear w2); (try clear w3); (try clear w4); (try clear w6); (try clear w7); (try clear w8); (try clear w9); (try clear p4); (try clear o4); (try simp only [decide_eq_true_eq, decide_eq_false_iff_not] at *); unfold x_put; (repeat' split) <;> first | rfl | omega | (simp_all; done) | (simp_all; omega)) hM
                      · exact absurd c120 (by decide)
                    · exact absurd c111 (by decide)

set_option maxHeartbeats 4000000 in
set_option maxRecDepth 100000 in
theorem m_found (l : Launch) (hfl : l.stackTraces = false) {M : wM} {f z a b : Int} (h_f : rg f)  (h_z : rg z)  (h_a : rg a)  (h_b : rg b) (I : Inv M) : MC l yX6_found cX6_found 8 (some FieldType.int) 4 [.int (iN f), .int (iN z), .int (iN a), .int (iN b)] M (.inl (some (.int (iN (if x_found M f z a b = 0 then v_found M f z a b else 0))))) (n_found M f z a b) := by
  intro S0 o B hM0
  refine Ct.of cal_X6_found hfl (Nat.le_of_ble_eq_true rfl) ?_
  intro p e s m args below meth c D sz C ME
  have hM : RMF S0 S0 o B M := ⟨hM0, mF.rf⟩
  have I9 := I
  obtain ⟨i1, i2, i3, i3e, i4, i4e, i5, i6, i7, i8, i10, i11⟩ := I9
  obtain ⟨a1, a2, a3, a4, a5, a6, a7⟩ := id i1
  have key : ∀ (x : Int) (S : wS), x = x_found M f z a b → RMF S0 S o B M → J p l e { frames := 20 * 4, cells := 0, slots := 0, locals := 200 * 4 } s m args below meth c 8 D (wA S0 sz) (wQ below D sz S0 (fun r9 S9 => r9 = .inl (some (.int (iN (if x_found M f z a b = 0 then v_found M f z a b else 0)))) ∧ RMF S0 S9 o B (n_found M f z a b)) args s 0 0) 91 [(0, .ref o), (1, .int (iN (f))), (2, .int (iN (z))), (3, .int (iN (a))), (4, .int (iN (b)))] [.int (iN x), .ref o] S 0 0 := by
    intro x S hx hM
    subst hx
    refine j_mcall C hM (c_goesOn l hfl (by unfold x_found; (repeat' split) <;> (unfold rg; omega))) cal_X6_goesOn vi_X6_goesOn rfl ml_Mo_103 rfl rfl (Nat.le_of_ble_eq_true rfl) ⟨by decide, by decide⟩ ⟨by omega, by omega⟩ dX6_found_91 (fun S hM => ?_)
    refine j_ifne_b (tgt := 99) C dX6_found_94 (by decide) (fun c94 => ?_) (fun c94 => ?_)
    · try simp only [decide_eq_true_eq, decide_eq_false_iff_not] at c94
      try simp only [decide_eq_true_eq, decide_eq_false_iff_not] at c94
      have ok : ((0 ≤ f ∧ f < M 1 0) ∧ 0 ≤ z ∧ z ≤ M 3 f) ∧ M 12 0 < 60 ∧ M 17 0 < 24 := by
        clear I i1 i2 i3 i3e i4 i4e i5 i6 i7 i8 i10 i11; (try clear key); (try clear key2); (try clear ih); (try clear w5); (try clear w11); (try clear w2); (try clear w3); (try clear w4); (try clear w6); (try clear w7); (try clear w8); (try clear w9); (try clear p4); (try clear o4); unfold x_found at c94
        (repeat' split at c94) <;> first | rfl | omega | (simp_all; done) | (simp_all; omega)
      have w3 := i3 f (by omega) (by omega)
      have w4 := i4 (M 17 0) (by omega) (by omega)
      refine j_aload_n C dX6_found_99 rfl ?_
      refine j_iload_n C dX6_found_100 rfl ?_
      refine j_iload_n C dX6_found_101 rfl ?_
      refine j_iload_n C dX6_found_102 rfl ?_
      refine j_iload C dX6_found_103 rfl ?_
      refine j_mcall C hM (c_makes l hfl (M := (mup M 0 0 (x_found M f z a b))) (by omega) (show 0 ≤ z ∧ z ≤ M 3 f by omega) (show 0 ≤ M 3 f ∧ M 3 f < 60 by omega) (show 0 ≤ M 12 0 ∧ M 12 0 < 60 by omega)) cal_X6_makes vi_X6_makes rfl ml_Mo_114 rfl rfl (Nat.le_of_ble_eq_true rfl) ⟨by decide, by decide⟩ ⟨by omega, by omega⟩ dX6_found_105 (fun S hM => ?_)
      refine j_istore C dX6_found_108 (by decide) ?_
      refine j_aload_n C dX6_found_110 rfl ?_
      refine j_mgeta C hM fl_Mo_40 (by decide) dX6_found_111 ?_
      refine j_aload_n C dX6_found_114 rfl ?_
      refine j_mgeti C hM fl_Mo_94 ⟨by decide, rfl⟩ dX6_found_115 ?_
      refine j_iload_n C dX6_found_118 rfl ?_
      refine j_mast C hM (by decide) rfl (show 0 ≤ M 17 0 ∧ M 17 0 < ((24 : Nat) : Int) by omega) dX6_found_119 (fun S hM => ?_)
      refine j_aload_n C dX6_found_120 rfl ?_
      refine j_dup C dX6_found_121 rfl ?_
      refine j_mgeti C hM fl_Mo_94 ⟨by decide, rfl⟩ dX6_found_122 ?_
      refine j_iconst C dX6_found_125 ?_
      refine j_iadd C dX6_found_126 ?_
      refine j_mputi C hM fl_Mo_94 ⟨by decide, rfl⟩ dX6_found_127 (fun S hM => ?_)
      refine j_aload_n C dX6_found_130 rfl ?_
      refine j_aload_n C dX6_found_131 rfl ?_
      refine j_mgeti C hM fl_Mo_94 ⟨by decide, rfl⟩ dX6_found_132 ?_
      refine j_iconst C dX6_found_135 ?_
      refine j_isub C dX6_found_136 ?_
      refine J.eqI (b := M 17 0) (show M 17 0 + 1 - 1 = M 17 0 by omega) ?_
      refine j_iload C dX6_found_137 rfl ?_
      refine j_iconst C dX6_found_139 ?_
      refine j_mcall C hM (c_adds l hfl (M := (mup (mup (makesM (mup M 0 0 (x_found M f z a b)) f z a b) 13 (M 17 0) f) 17 0 (M 17 0 + 1))) (r := M 17 0) (s9 := M 12 0) (by omega) (by omega) (show 0 ≤ M 16 (M 17 0) ∧ M 16 (M 17 0) < 60 by omega)) cal_X6_adds vi_X6_adds rfl ml_Mo_134 rfl rfl (Nat.le_of_ble_eq_true rfl) ⟨by decide, by decide⟩ ⟨by omega, by omega⟩ dX6_found_140 (fun S hM => ?_)
      refine j_aload_n C dX6_found_143 rfl ?_
      refine j_mgeti C hM fl_Mo_94 ⟨by decide, rfl⟩ dX6_found_144 ?_
      refine j_iconst C dX6_found_147 ?_
      refine j_isub C dX6_found_148 ?_
      refine j_iret C ME ?_ (by omega) (by omega) dX6_found_149
      refine ⟨rI ?_, ?_⟩
      · first
        | (rw [if_neg c94]; done)
        | (rw [if_pos c94]; unfold v_found; show M 17 0 + 1 - 1 = M 17 0; omega)
      · unfold n_found
        first
        | (rw [if_neg c94]; exact hM)
        | (rw [if_pos c94]; exact hM)
    · try simp only [decide_eq_true_eq, decide_eq_false_iff_not] at c94
      try simp only [decide_eq_true_eq, decide_eq_false_iff_not] at c94
      refine j_iconst C dX6_found_97 ?_
      refine j_iret C ME ?_ (by omega) (by omega) dX6_found_98
      refine ⟨rI ?_, ?_⟩
      · first
        | (rw [if_neg c94]; done)
        | (rw [if_pos c94]; unfold v_found; show M 17 0 + 1 - 1 = M 17 0; omega)
      · unfold n_found
        first
        | (rw [if_neg c94]; exact hM)
        | (rw [if_pos c94]; exact hM)
  refine j_aload_n C dX6_found_0 rfl ?_
  refine j_iload_n C dX6_found_1 rfl ?_
  refine j_mcall C hM (c_isFilm l hfl (by unfold rg at *; omega) (by omega)) cal_X6_isFilm vi_X6_isFilm rfl ml_Mo_107 rfl rfl (Nat.le_of_ble_eq_true rfl) ⟨by decide, by decide⟩ ⟨by omega, by omega⟩ dX6_found_2 (fun S hM => ?_)
  refine j_ifeq_b (tgt := 26) C dX6_found_5 (by decide) (fun c5 => ?_) (fun c5 => ?_)
  · try simp only [decide_eq_true_eq, decide_eq_false_iff_not] at c5
    refine j_iconst C dX6_found_26 ?_
    refine j_istore C dX6_found_27 (by decide) ?_
    refine j_iload_n C dX6_found_29 rfl ?_
    refine j_iload C dX6_found_30 rfl ?_
    refine j_callS C (c_areFine l hfl (by assumption) (by assumption)) cal_X6_areFine st_X6_areFine ml_Mo_110 rfl rfl (Nat.le_of_ble_eq_true rfl) ⟨by decide, by decide⟩ ⟨by omega, by omega⟩ dX6_found_32 (fun E S9 h => nomatch h.1) (fun v9 S9 h => ?_)
    obtain ⟨h, rfl⟩ := h
    cases h
    refine j_istore C dX6_found_35 (by decide) ?_
    refine j_aload_n C dX6_found_37 rfl ?_
    refine j_iload C dX6_found_38 rfl ?_
    refine j_if_ne (tgt := 47) C dX6_found_40 (by decide) (by unfold rg at *; omega) (fun c40 => ?_) (fun c40 => ?_)
    · exact absurd c40 (by decide)
    · refine j_iconst C dX6_found_43 ?_
      refine j_goto (tgt := 91) C dX6_found_44 (by decide) ?_
      refine J.lvs (lv' := [(0, .ref o), (1, .int (iN (f))), (2, .int (iN (z))), (3, .int (iN (a))), (4, .int (iN (b)))]) ?_ ?_
      · intro q hq; simp only [List.mem_cons, List.not_mem_nil, or_false] at hq; rcases hq with rfl | rfl | rfl | rfl | rfl <;> rfl
      · refine key _ _ (by clear I i1 i2 i3 i3e i4 i4e i5 i6 i7 i8 i10 i11; (try clear key); (try clear key2); (try clear ih); (try clear w5); (try clear w11); (try clear w2); (try clear w3); (try clear w4); (try clear w6); (try clear w7); (try clear w8); (try clear w9); (try clear p4); (try clear o4); (try simp only [decide_eq_true_eq, decide_eq_false_iff_not] at *); unfold x_found; (repeat' split) <;> first | rfl | omega | (simp_all; done) | (simp_all; omega)) hM
  · try simp only [decide_eq_true_eq, decide_eq_false_iff_not] at c5
    have w3 := i3 f (by omega) (by omega)
    refine j_iload_n C dX6_found_8 rfl ?_
    refine j_iconst C dX6_found_9 ?_
    refine j_aload_n C dX6_found_10 rfl ?_
    refine j_mgeta C hM fl_Mo_13 (by decide) dX6_found_11 ?_
    refine j_iload_n C dX6_found_14 rfl ?_
    refine j_mald C hM (by decide) rfl (by simp only [mLen]; omega) dX6_found_15 ?_
    refine j_callS C (c_in l hfl (by unfold rg at *; omega) (by unfold rg; omega) (by unfold rg; omega)) cal_X6_in st_X6_in ml_Mo_87 rfl rfl (Nat.le_of_ble_eq_true rfl) ⟨by decide, by decide⟩ ⟨by omega, by omega⟩ dX6_found_16 (fun E S9 h => nomatch h.1) (fun v9 S9 h => ?_)
    obtain ⟨h, rfl⟩ := h
    cases h
    refine j_ifeq_b (tgt := 26) C dX6_found_19 (by decide) (fun c19 => ?_) (fun c19 => ?_)
    · try simp only [decide_eq_true_eq, decide_eq_false_iff_not] at c19
      refine j_iconst C dX6_found_26 ?_
      refine j_istore C dX6_found_27 (by decide) ?_
      refine j_iload_n C dX6_found_29 rfl ?_
      refine j_iload C dX6_found_30 rfl ?_
      refine j_callS C (c_areFine l hfl (by assumption) (by assumption)) cal_X6_areFine st_X6_areFine ml_Mo_110 rfl rfl (Nat.le_of_ble_eq_true rfl) ⟨by decide, by decide⟩ ⟨by omega, by omega⟩ dX6_found_32 (fun E S9 h => nomatch h.1) (fun v9 S9 h => ?_)
      obtain ⟨h, rfl⟩ := h
      cases h
      refine j_istore C dX6_found_35 (by decide) ?_
      refine j_aload_n C dX6_found_37 rfl ?_
      refine j_iload C dX6_found_38 rfl ?_
      refine j_if_ne (tgt := 47) C dX6_found_40 (by decide) (by unfold rg at *; omega) (fun c40 => ?_) (fun c40 => ?_)
      · exact absurd c40 (by decide)
      · refine j_iconst C dX6_found_43 ?_
        refine j_goto (tgt := 91) C dX6_found_44 (by decide) ?_
        refine J.lvs (lv' := [(0, .ref o), (1, .int (iN (f))), (2, .int (iN (z))), (3, .int (iN (a))), (4, .int (iN (b)))]) ?_ ?_
        · intro q hq; simp only [List.mem_cons, List.not_mem_nil, or_false] at hq; rcases hq with rfl | rfl | rfl | rfl | rfl <;> rfl
        · refine key _ _ (by clear I i1 i2 i3 i3e i4 i4e i5 i6 i7 i8 i10 i11; (try clear key); (try clear key2); (try clear ih); (try clear w5); (try clear w11); (try clear w2); (try clear w3); (try clear w4); (try clear w6); (try clear w7); (try clear w8); (try clear w9); (try clear p4); (try clear o4); (try simp only [decide_eq_true_eq, decide_eq_false_iff_not] at *); unfold x_found; (repeat' split) <;> first | rfl | omega | (simp_all; done) | (simp_all; omega)) hM
    · try simp only [decide_eq_true_eq, decide_eq_false_iff_not] at c19
      refine j_iconst C dX6_found_22 ?_
      refine j_goto (tgt := 27) C dX6_found_23 (by decide) ?_
      refine j_istore C dX6_found_27 (by decide) ?_
      refine j_iload_n C dX6_found_29 rfl ?_
      refine j_iload C dX6_found_30 rfl ?_
      refine j_callS C (c_areFine l hfl (by assumption) (by assumption)) cal_X6_areFine st_X6_areFine ml_Mo_110 rfl rfl (Nat.le_of_ble_eq_true rfl) ⟨by decide, by decide⟩ ⟨by omega, by omega⟩ dX6_found_32 (fun E S9 h => nomatch h.1) (fun v9 S9 h => ?_)
      obtain ⟨h, rfl⟩ := h
      cases h
      refine j_istore C dX6_found_35 (by decide) ?_
      refine j_aload_n C dX6_found_37 rfl ?_
      refine j_iload C dX6_found_38 rfl ?_
      refine j_if_ne (tgt := 47) C dX6_found_40 (by decide) (by unfold rg at *; omega) (fun c40 => ?_) (fun c40 => ?_)
      · refine j_iload C dX6_found_47 rfl ?_
        refine j_ifne_b (tgt := 56) C dX6_found_49 (by decide) (fun c49 => ?_) (fun c49 => ?_)
        · try simp only [decide_eq_true_eq, decide_eq_false_iff_not] at c49
          refine j_aload_n C dX6_found_56 rfl ?_
          refine j_iload_n C dX6_found_57 rfl ?_
          refine j_mcall C hM (c_isLent l hfl (by unfold rg at *; omega) i1 i6 i8) cal_X6_isLent vi_X6_isLent rfl ml_Mo_131 rfl rfl (Nat.le_of_ble_eq_true rfl) ⟨by decide, by decide⟩ ⟨by omega, by omega⟩ dX6_found_58 (fun S hM => ?_)
          refine j_ifeq_b (tgt := 68) C dX6_found_61 (by decide) (fun c61 => ?_) (fun c61 => ?_)
          · try simp only [decide_eq_true_eq, decide_eq_false_iff_not] at c61
            refine j_aload_n C dX6_found_68 rfl ?_
            refine j_mgeti C hM fl_Mo_91 ⟨by decide, rfl⟩ dX6_found_69 ?_
            refine j_bipush C dX6_found_72 (by decide) ?_
            refine j_icmp_eq (tgt := 86) C dX6_found_74 (by decide) (by unfold rg at *; omega) (by unfold rg at *; omega) (fun c74 => ?_) (fun c74 => ?_)
            · refine j_iconst C dX6_found_86 ?_
              refine j_goto (tgt := 91) C dX6_found_87 (by decide) ?_
              refine J.lvs (lv' := [(0, .ref o), (1, .int (iN (f))), (2, .int (iN (z))), (3, .int (iN (a))), (4, .int (iN (b)))]) ?_ ?_
              · intro q hq; simp only [List.mem_cons, List.not_mem_nil, or_false] at hq; rcases hq with rfl | rfl | rfl | rfl | rfl <;> rfl
              · refine key _ _ (by clear I i1 i2 i3 i3e i4 i4e i5 i6 i7 i8 i10 i11; (try clear key); (try clear key2); (try clear ih); (try clear w5); (try clear w11); (try clear w2); (try clear w3); (try clear w4); (try clear w6); (try clear w7); (try clear w8); (try clear w9); (try clear p4); (try clear o4); (try simp only [decide_eq_true_eq, decide_eq_false_iff_not] at *); unfold x_found; (repeat' split) <;> first | rfl | omega | (simp_all; done) | (simp_all; omega)) hM
            · refine j_aload_n C dX6_found_77 rfl ?_
              refine j_mgeti C hM fl_Mo_94 ⟨by decide, rfl⟩ dX6_found_78 ?_
              refine j_bipush C dX6_found_81 (by decide) ?_
              refine j_icmp_ne (tgt := 90) C dX6_found_83 (by decide) (by unfold rg at *; omega) (by unfold rg at *; omega) (fun c83 => ?_) (fun c83 => ?_)
              · refine j_iconst C dX6_found_90 ?_
                refine J.lvs (lv' := [(0, .ref o), (1, .int (iN (f))), (2, .int (iN (z))), (3, .int (iN (a))), (4, .int (iN (b)))]) ?_ ?_
                · intro q hq; simp only [List.mem_cons, List.not_mem_nil, or_false] at hq; rcases hq with rfl | rfl | rfl | rfl | rfl <;> rfl
                · refine key _ _ (by clear I i1 i2 i3 i3e i4 i4e i5 i6 i7 i8 i10 i11; (try clear key); (try clear key2); (try clear ih); (try clear w5); (try clear w11); (try clear w2); (try clear w3); (try clear w4); (try clear w6); (try clear w7); (try clear w8); (try clear w9); (try clear p4); (try clear o4); (try simp only [decide_eq_true_eq, decide_eq_false_iff_not] at *); unfold x_found; (repeat' split) <;> first | rfl | omega | (simp_all; done) | (simp_all; omega)) hM
              · refine j_iconst C dX6_found_86 ?_
                refine j_goto (tgt := 91) C dX6_found_87 (by decide) ?_
                refine J.lvs (lv' := [(0, .ref o), (1, .int (iN (f))), (2, .int (iN (z))), (3, .int (iN (a))), (4, .int (iN (b)))]) ?_ ?_
                · intro q hq; simp only [List.mem_cons, List.not_mem_nil, or_false] at hq; rcases hq with rfl | rfl | rfl | rfl | rfl <;> rfl
                · refine key _ _ (by clear I i1 i2 i3 i3e i4 i4e i5 i6 i7 i8 i10 i11; (try clear key); (try clear key2); (try clear ih); (try clear w5); (try clear w11); (try clear w2); (try clear w3); (try clear w4); (try clear w6); (try clear w7); (try clear w8); (try clear w9); (try clear p4); (try clear o4); (try simp only [decide_eq_true_eq, decide_eq_false_iff_not] at *); unfold x_found; (repeat' split) <;> first | rfl | omega | (simp_all; done) | (simp_all; omega)) hM
          · try simp only [decide_eq_true_eq, decide_eq_false_iff_not] at c61
            refine j_iconst C dX6_found_64 ?_
            refine j_goto (tgt := 91) C dX6_found_65 (by decide) ?_
            refine J.lvs (lv' := [(0, .ref o), (1, .int (iN (f))), (2, .int (iN (z))), (3, .int (iN (a))), (4, .int (iN (b)))]) ?_ ?_
            · intro q hq; simp only [List.mem_cons, List.not_mem_nil, or_false] at hq; rcases hq with rfl | rfl | rfl | rfl | rfl <;> rfl
            · refine key _ _ (by clear I i1 i2 i3 i3e i4 i4e i5 i6 i7 i8 i10 i11; (try clear key); (try clear key2); (try clear ih); (try clear w5); (try clear w11); (try clear w2); (try clear w3); (try clear w4); (try clear w6); (try clear w7); (try clear w8); (try clear w9); (try clear p4); (try clear o4); (try simp only [decide_eq_true_eq, decide_eq_false_iff_not] at *); unfold x_found; (repeat' split) <;> first | rfl | omega | (simp_all; done) | (simp_all; omega)) hM
        · try simp only [decide_eq_true_eq, decide_eq_false_iff_not] at c49
          refine j_iconst C dX6_found_52 ?_
          refine j_goto (tgt := 91) C dX6_found_53 (by decide) ?_
          refine J.lvs (lv' := [(0, .ref o), (1, .int (iN (f))), (2, .int (iN (z))), (3, .int (iN (a))), (4, .int (iN (b)))]) ?_ ?_
          · intro q hq; simp only [List.mem_cons, List.not_mem_nil, or_false] at hq; rcases hq with rfl | rfl | rfl | rfl | rfl <;> rfl
          · refine key _ _ (by clear I i1 i2 i3 i3e i4 i4e i5 i6 i7 i8 i10 i11; (try clear key); (try clear key2); (try clear ih); (try clear w5); (try clear w11); (try clear w2); (try clear w3); (try clear w4); (try clear w6); (try clear w7); (try clear w8); (try clear w9); (try clear p4); (try clear o4); (try simp only [decide_eq_true_eq, decide_eq_false_iff_not] at *); unfold x_found; (repeat' split) <;> first | rfl | omega | (simp_all; done) | (simp_all; omega)) hM
      · exact absurd c40 (by decide)

set_option maxHeartbeats 4000000 in
set_option maxRecDepth 100000 in
theorem m_join (l : Launch) (hfl : l.stackTraces = false) {M : wM} {r q : Int} (h_r : rg r)  (h_q : rg q) (I : Inv M) : MC l yX6_join cX6_join 9 (some FieldType.int) 4 [.int (iN r), .int (iN q)] M (.inl (some (.int (iN (if x_join M r q = 0 then v_join M r q else 0))))) (n_join M r q) := by
  intro S0 o B hM0
  refine Ct.of cal_X6_join hfl (Nat.le_of_ble_eq_true rfl) ?_
  intro p e s m args below meth c D sz C ME
  have hM : RMF S0 S0 o B M := ⟨hM0, mF.rf⟩
  have I9 := I
  obtain ⟨i1, i2, i3, i3e, i4, i4e, i5, i6, i7, i8, i10, i11⟩ := I9
  obtain ⟨a1, a2, a3, a4, a5, a6, a7⟩ := id i1
  have key : ∀ (x : Int) (S : wS), x = x_join M r q → RMF S0 S o B M → J p l e { frames := 20 * 4, cells := 0, slots := 0, locals := 200 * 4 } s m args below meth c 9 D (wA S0 sz) (wQ below D sz S0 (fun r9 S9 => r9 = .inl (some (.int (iN (if x_join M r q = 0 then v_join M r q else 0)))) ∧ RMF S0 S9 o B (n_join M r q)) args s 0 0) 166 [(0, .ref o), (1, .int (iN (r))), (2, .int (iN (q)))] [.int (iN x), .ref o] S 0 0 := by
    intro x S hx hM
    subst hx
    refine j_mcall C hM (c_goesOn l hfl (by unfold x_join; (repeat' split) <;> (unfold rg; omega))) cal_X6_goesOn vi_X6_goesOn rfl ml_Mo_103 rfl rfl (Nat.le_of_ble_eq_true rfl) ⟨by decide, by decide⟩ ⟨by omega, by omega⟩ dX6_join_166 (fun S hM => ?_)
    refine j_ifne_b (tgt := 174) C dX6_join_169 (by decide) (fun c169 => ?_) (fun c169 => ?_)
    · try simp only [decide_eq_true_eq, decide_eq_false_iff_not] at c169
      try simp only [decide_eq_true_eq, decide_eq_false_iff_not] at c169
      have ok : ((0 ≤ r ∧ r < M 17 0) ∧ 0 ≤ q ∧ q < M 17 0) ∧ ¬ r = q ∧ ¬ M 16 r = 0 ∧ ¬ M 16 q = 0 := by
        clear I i1 i2 i3 i3e i4 i4e i5 i6 i7 i8 i10 i11; (try clear key); (try clear key2); (try clear ih); (try clear w5); (try clear w11); (try clear w2); (try clear w3); (try clear w4); (try clear w6); (try clear w7); (try clear w8); (try clear w9); (try clear p4); (try clear o4); unfold x_join at c169
        (repeat' split at c169) <;> first | rfl | omega | (simp_all; done) | (simp_all; omega)
      have w4 := i4 r (by omega) (by omega)
      have w5 := i4 q (by omega) (by omega)
      have w6 := reelM_two i4 (r := r) (q := q) (by omega) (by omega) (by omega) (by omega)
      refine j_aload_n C dX6_join_174 rfl ?_
      refine j_mgeta C hM fl_Mo_49 (by decide) dX6_join_175 ?_
      refine j_iload_n C dX6_join_178 rfl ?_
      refine j_mald C hM (by decide) rfl (by simp only [mLen]; omega) dX6_join_179 ?_
      refine j_istore C dX6_join_180 (by decide) ?_
      refine j_aload_n C dX6_join_182 rfl ?_
      refine j_mgeta C hM fl_Mo_49 (by decide) dX6_join_183 ?_
      refine j_iload_n C dX6_join_186 rfl ?_
      refine j_iconst C dX6_join_187 ?_
      refine j_mast C hM (by decide) rfl (by simp only [mLen]; omega) dX6_join_188 (fun S hM => ?_)
      refine j_iconst C dX6_join_189 ?_
      refine j_istore C dX6_join_190 (by decide) ?_
      have key2 : ∀ (fuel : Nat) (i : Nat) (S : wS), M 16 q - i < fuel → (i : Int) ≤ M 16 q → RMF S0 S o B (joinC (mup M 0 0 (x_join M r q)) r q i) → J p l e { frames := 20 * 4, cells := 0, slots := 0, locals := 200 * 4 } s m args below meth c 9 D (wA S0 sz) (wQ below D sz S0 (fun r9 S9 => r9 = .inl (some (.int (iN (if x_join M r q = 0 then v_join M r q else 0)))) ∧ RMF S0 S9 o B (n_join M r q)) args s 0 0) 192 [(0, .ref o), (1, .int (iN (r))), (2, .int (iN (q))), (7, .int (iN (M 16 q))), (8, .int (iN (i)))] [] S 0 0 := by
        intro fuel
        induction fuel with
        | zero => intro i S h1 h2 hM; omega
        | succ fuel ih =>
          intro i S h1 h2 hM
          have e16 : (joinC (mup M 0 0 (x_join M r q)) r q i) 16 r = M 16 r + i := by show (if r = r then M 16 r + (i : Int) else _) = _; rw [if_pos rfl]
          have f16 : (60 * r + (joinC (mup M 0 0 (x_join M r q)) r q i) 16 r : Int) = 60 * r + M 16 r + i := by rw [e16]; omega
          have w7 := fun (h : (i : Int) < M 16 q) => w5.2.2.2.2 i (by omega) h
          have e14 : (i : Int) < 60 → M 16 r + i ≤ 60 → (joinC (mup M 0 0 (x_join M r q)) r q i) 14 (60 * q + i) = M 14 (60 * q + i) := fun a b => jC14q (M := (mup M 0 0 (x_join M r q))) ok.2.1 (show 0 ≤ M 16 r by omega) b (by omega)
          have e15 : 0 < i → (i : Int) < 60 → M 16 r + i ≤ 60 → (joinC (mup M 0 0 (x_join M r q)) r q i) 15 (60 * q + i - 1) = M 15 (60 * q + i - 1) := fun a b c => by
            rw [show 60 * q + (i : Int) - 1 = 60 * q + (i - 1) by omega]
            exact jC15q (M := (mup M 0 0 (x_join M r q))) ok.2.1 (show 1 ≤ M 16 r by omega) c (by omega)
          refine j_iload C dX6_join_192 rfl ?_
          refine j_iload C dX6_join_194 rfl ?_
          refine j_icmp_ge (tgt := 245) C dX6_join_196 (by decide) (by unfold rg at *; omega) (by unfold rg at *; omega) (fun c196 => ?_) (fun c196 => ?_)
          · have ei : i = (M 16 q).toNat := by omega
            subst ei
            refine j_aload_n C dX6_join_245 rfl ?_
            refine j_mgeta C hM fl_Mo_49 (by decide) dX6_join_246 ?_
            refine j_iload_n C dX6_join_249 rfl ?_
            refine j_mald C hM (by decide) rfl (by simp only [mLen]; omega) dX6_join_250 ?_
            refine j_iret C ME ?_ (by omega) (by omega) dX6_join_251
            refine ⟨rI ?_, ?_⟩
            · first
              | (rw [if_neg c169]; done)
              | (rw [if_pos c169]; unfold v_join; show (if r = r then M 16 r + ((M 16 q).toNat : Int) else _) = _; rw [if_pos rfl]; omega)
            · unfold n_join
              first
              | (rw [if_neg c169]; exact hM)
              | (rw [if_pos c169]; exact hM)
          · have w7 := w7 (by omega)
            refine j_aload_n C dX6_join_199 rfl ?_
            refine j_iload_n C dX6_join_200 rfl ?_
            refine j_aload_n C dX6_join_201 rfl ?_
            refine j_mgeta C hM fl_Mo_43 (by decide) dX6_join_202 ?_
            refine j_bipush C dX6_join_205 (by decide) ?_
            refine j_iload_n C dX6_join_207 rfl ?_
            refine j_imul C dX6_join_208 ?_
            refine j_iload C dX6_join_209 rfl ?_
            refine j_iadd C dX6_join_211 ?_
            refine j_mald C hM (by decide) rfl (by simp only [mLen]; omega) dX6_join_212 ?_
            refine j_iload C dX6_join_213 rfl ?_
            refine j_if_ne (tgt := 222) C dX6_join_215 (by decide) (by unfold rg at *; omega) (fun c215 => ?_) (fun c215 => ?_)
            · refine j_aload_n C dX6_join_222 rfl ?_
              refine j_mgeta C hM fl_Mo_46 (by decide) dX6_join_223 ?_
              refine j_bipush C dX6_join_226 (by decide) ?_
              refine j_iload_n C dX6_join_228 rfl ?_
              refine j_imul C dX6_join_229 ?_
              refine j_iload C dX6_join_230 rfl ?_
              refine j_iadd C dX6_join_232 ?_
              refine j_iconst C dX6_join_233 ?_
              refine j_isub C dX6_join_234 ?_
              refine j_mald C hM (by decide) rfl (by simp only [mLen]; omega) dX6_join_235 ?_
              refine j_mcall C hM (c_adds l hfl (M := (joinC (mup M 0 0 (x_join M r q)) r q i)) (r := r) (by omega) (by rw [e14 (by omega) (by omega)]; omega) (by rw [e16]; omega)) cal_X6_adds vi_X6_adds rfl ml_Mo_134 rfl rfl (Nat.le_of_ble_eq_true rfl) ⟨by decide, by decide⟩ ⟨by omega, by omega⟩ dX6_join_236 (fun S hM => ?_)
              refine j_iinc C dX6_join_239 rfl (by decide) ?_
              refine j_goto (tgt := 192) C dX6_join_242 (by decide) ?_
              have ihk := ih (i + 1) S (by omega) (by omega)
              first
                | (have ihk := ihk (by rw [joinC_S (M := mup M 0 0 (x_join M r q)) ok.2.1 (show 1 ≤ M 16 r by omega), if_pos (by omega)]; rw [e14 (by omega) (by omega)] at hM; exact hM)
                   refine J.lvs (lv' := [(0, .ref o), (1, .int (iN (r))), (2, .int (iN (q))), (7, .int (iN (M 16 q))), (8, .int (iN (((i + 1 : Nat) : Int))))]) ?_ ?_
                   · intro q hq; simp only [List.mem_cons, List.not_mem_nil, or_false] at hq; rcases hq with rfl | rfl | rfl | rfl | rfl <;> rfl
                   · refine ihk)
                | (have ihk := ihk (by rw [joinC_S (M := mup M 0 0 (x_join M r q)) ok.2.1 (show 1 ≤ M 16 r by omega), if_neg (by omega)]; rw [e14 (by omega) (by omega), e15 (by omega) (by omega) (by omega)] at hM; exact hM)
                   refine J.lvs (lv' := [(0, .ref o), (1, .int (iN (r))), (2, .int (iN (q))), (7, .int (iN (M 16 q))), (8, .int (iN (((i + 1 : Nat) : Int))))]) ?_ ?_
                   · intro q hq; simp only [List.mem_cons, List.not_mem_nil, or_false] at hq; rcases hq with rfl | rfl | rfl | rfl | rfl <;> rfl
                   · refine ihk)
            · refine j_iconst C dX6_join_218 ?_
              refine j_goto (tgt := 236) C dX6_join_219 (by decide) ?_
              refine j_mcall C hM (c_adds l hfl (M := (joinC (mup M 0 0 (x_join M r q)) r q i)) (r := r) (by omega) (by rw [e14 (by omega) (by omega)]; omega) (by rw [e16]; omega)) cal_X6_adds vi_X6_adds rfl ml_Mo_134 rfl rfl (Nat.le_of_ble_eq_true rfl) ⟨by decide, by decide⟩ ⟨by omega, by omega⟩ dX6_join_236 (fun S hM => ?_)
              refine j_iinc C dX6_join_239 rfl (by decide) ?_
              refine j_goto (tgt := 192) C dX6_join_242 (by decide) ?_
              have ihk := ih (i + 1) S (by omega) (by omega)
              first
                | (have ihk := ihk (by rw [joinC_S (M := mup M 0 0 (x_join M r q)) ok.2.1 (show 1 ≤ M 16 r by omega), if_pos (by omega)]; rw [e14 (by omega) (by omega)] at hM; exact hM)
                   refine J.lvs (lv' := [(0, .ref o), (1, .int (iN (r))), (2, .int (iN (q))), (7, .int (iN (M 16 q))), (8, .int (iN (((i + 1 : Nat) : Int))))]) ?_ ?_
                   · intro q hq; simp only [List.mem_cons, List.not_mem_nil, or_false] at hq; rcases hq with rfl | rfl | rfl | rfl | rfl <;> rfl
                   · refine ihk)
                | (have ihk := ihk (by rw [joinC_S (M := mup M 0 0 (x_join M r q)) ok.2.1 (show 1 ≤ M 16 r by omega), if_neg (by omega)]; rw [e14 (by omega) (by omega), e15 (by omega) (by omega) (by omega)] at hM; exact hM)
                   refine J.lvs (lv' := [(0, .ref o), (1, .int (iN (r))), (2, .int (iN (q))), (7, .int (iN (M 16 q))), (8, .int (iN (((i + 1 : Nat) : Int))))]) ?_ ?_
                   · intro q hq; simp only [List.mem_cons, List.not_mem_nil, or_false] at hq; rcases hq with rfl | rfl | rfl | rfl | rfl <;> rfl
                   · refine ihk)
      refine J.lvs (lv' := [(0, .ref o), (1, .int (iN (r))), (2, .int (iN (q))), (7, .int (iN (M 16 q))), (8, .int (iN (((0 : Nat) : Int))))]) ?_ ?_
      · intro q hq; simp only [List.mem_cons, List.not_mem_nil, or_false] at hq; rcases hq with rfl | rfl | rfl | rfl | rfl <;> rfl
      · exact key2 ((M 16 q).toNat + 1) 0 S (by omega) (by omega) (by rw [joinC_0 ok.2.1]; exact hM)
    · try simp only [decide_eq_true_eq, decide_eq_false_iff_not] at c169
      try simp only [decide_eq_true_eq, decide_eq_false_iff_not] at c169
      refine j_iconst C dX6_join_172 ?_
      refine j_iret C ME ?_ (by omega) (by omega) dX6_join_173
      refine ⟨rI ?_, ?_⟩
      · first
        | (rw [if_neg c169]; done)
        | (rw [if_pos c169]; unfold v_join; show (if r = r then M 16 r + ((M 16 q).toNat : Int) else _) = _; rw [if_pos rfl]; omega)
      · unfold n_join
        first
        | (rw [if_neg c169]; exact hM)
        | (rw [if_pos c169]; exact hM)
  refine j_aload_n C dX6_join_0 rfl ?_
  refine j_iload_n C dX6_join_1 rfl ?_
  refine j_mcall C hM (c_isReel l hfl (by unfold rg at *; omega) (by omega)) cal_X6_isReel vi_X6_isReel rfl ml_Mo_118 rfl rfl (Nat.le_of_ble_eq_true rfl) ⟨by decide, by decide⟩ ⟨by omega, by omega⟩ dX6_join_2 (fun S hM => ?_)
  refine j_ifeq_b (tgt := 20) C dX6_join_5 (by decide) (fun c5 => ?_) (fun c5 => ?_)
  · try simp only [decide_eq_true_eq, decide_eq_false_iff_not] at c5
    refine j_iconst C dX6_join_20 ?_
    refine j_istore_n C dX6_join_21 (by decide) ?_
    refine j_iload_n C dX6_join_22 rfl ?_
    refine j_if_eq (tgt := 50) C dX6_join_23 (by decide) (by unfold rg at *; omega) (fun c23 => ?_) (fun c23 => ?_)
    · refine j_iconst C dX6_join_50 ?_
      refine j_istore C dX6_join_51 (by decide) ?_
      refine j_iload C dX6_join_53 rfl ?_
      refine j_if_eq (tgt := 80) C dX6_join_55 (by decide) (by unfold rg at *; omega) (fun c55 => ?_) (fun c55 => ?_)
      · refine j_iconst C dX6_join_80 ?_
        refine j_istore C dX6_join_81 (by decide) ?_
        refine j_iload C dX6_join_83 rfl ?_
        refine j_if_eq (tgt := 135) C dX6_join_85 (by decide) (by unfold rg at *; omega) (fun c85 => ?_) (fun c85 => ?_)
        · refine j_iconst C dX6_join_135 ?_
          refine j_istore C dX6_join_136 (by decide) ?_
          refine j_aload_n C dX6_join_138 rfl ?_
          refine j_iload_n C dX6_join_139 rfl ?_
          refine j_if_ne (tgt := 147) C dX6_join_140 (by decide) (by unfold rg at *; omega) (fun c140 => ?_) (fun c140 => ?_)
          · exact absurd c140 (by decide)
          · refine j_iconst C dX6_join_143 ?_
            refine j_goto (tgt := 166) C dX6_join_144 (by decide) ?_
            refine J.lvs (lv' := [(0, .ref o), (1, .int (iN (r))), (2, .int (iN (q)))]) ?_ ?_
            · intro q hq; simp only [List.mem_cons, List.not_mem_nil, or_false] at hq; rcases hq with rfl | rfl | rfl <;> rfl
            · refine key _ _ (by clear I i1 i2 i3 i3e i4 i4e i5 i6 i7 i8 i10 i11; (try clear key); (try clear key2); (try clear ih); (try clear w5); (try clear w11); (try clear w2); (try clear w3); (try clear w4); (try clear w6); (try clear w7); (try clear w8); (try clear w9); (try clear p4); (try clear o4); (try simp only [decide_eq_true_eq, decide_eq_false_iff_not] at *); unfold x_join; (repeat' split) <;> first | rfl | omega | (simp_all; done) | (simp_all; omega)) hM
        · exact absurd c85 (by decide)
      · exact absurd c55 (by decide)
    · exact absurd c23 (by decide)
  · try simp only [decide_eq_true_eq, decide_eq_false_iff_not] at c5
    refine j_aload_n C dX6_join_8 rfl ?_
    refine j_iload_n C dX6_join_9 rfl ?_
    refine j_mcall C hM (c_isReel l hfl (by unfold rg at *; omega) (by omega)) cal_X6_isReel vi_X6_isReel rfl ml_Mo_118 rfl rfl (Nat.le_of_ble_eq_true rfl) ⟨by decide, by decide⟩ ⟨by omega, by omega⟩ dX6_join_10 (fun S hM => ?_)
    refine j_ifeq_b (tgt := 20) C dX6_join_13 (by decide) (fun c13 => ?_) (fun c13 => ?_)
    · try simp only [decide_eq_true_eq, decide_eq_false_iff_not] at c13
      refine j_iconst C dX6_join_20 ?_
      refine j_istore_n C dX6_join_21 (by decide) ?_
      refine j_iload_n C dX6_join_22 rfl ?_
      refine j_if_eq (tgt := 50) C dX6_join_23 (by decide) (by unfold rg at *; omega) (fun c23 => ?_) (fun c23 => ?_)
      · refine j_iconst C dX6_join_50 ?_
        refine j_istore C dX6_join_51 (by decide) ?_
        refine j_iload C dX6_join_53 rfl ?_
        refine j_if_eq (tgt := 80) C dX6_join_55 (by decide) (by unfold rg at *; omega) (fun c55 => ?_) (fun c55 => ?_)
        · refine j_iconst C dX6_join_80 ?_
          refine j_istore C dX6_join_81 (by decide) ?_
          refine j_iload C dX6_join_83 rfl ?_
          refine j_if_eq (tgt := 135) C dX6_join_85 (by decide) (by unfold rg at *; omega) (fun c85 => ?_) (fun c85 => ?_)
          · refine j_iconst C dX6_join_135 ?_
            refine j_istore C dX6_join_136 (by decide) ?_
            refine j_aload_n C dX6_join_138 rfl ?_
            refine j_iload_n C dX6_join_139 rfl ?_
            refine j_if_ne (tgt := 147) C dX6_join_140 (by decide) (by unfold rg at *; omega) (fun c140 => ?_) (fun c140 => ?_)
            · exact absurd c140 (by decide)
            · refine j_iconst C dX6_join_143 ?_
              refine j_goto (tgt := 166) C dX6_join_144 (by decide) ?_
              refine J.lvs (lv' := [(0, .ref o), (1, .int (iN (r))), (2, .int (iN (q)))]) ?_ ?_
              · intro q hq; simp only [List.mem_cons, List.not_mem_nil, or_false] at hq; rcases hq with rfl | rfl | rfl <;> rfl
              · refine key _ _ (by clear I i1 i2 i3 i3e i4 i4e i5 i6 i7 i8 i10 i11; (try clear key); (try clear key2); (try clear ih); (try clear w5); (try clear w11); (try clear w2); (try clear w3); (try clear w4); (try clear w6); (try clear w7); (try clear w8); (try clear w9); (try clear p4); (try clear o4); (try simp only [decide_eq_true_eq, decide_eq_false_iff_not] at *); unfold x_join; (repeat' split) <;> first | rfl | omega | (simp_all; done) | (simp_all; omega)) hM
          · exact absurd c85 (by decide)
        · exact absurd c55 (by decide)
      · exact absurd c23 (by decide)
    · try simp only [decide_eq_true_eq, decide_eq_false_iff_not] at c13
      refine j_iconst C dX6_join_16 ?_
      refine j_goto (tgt := 21) C dX6_join_17 (by decide) ?_
      refine j_istore_n C dX6_join_21 (by decide) ?_
      refine j_iload_n C dX6_join_22 rfl ?_
      refine j_if_eq (tgt := 50) C dX6_join_23 (by decide) (by unfold rg at *; omega) (fun c23 => ?_) (fun c23 => ?_)
      · exact absurd c23 (by decide)
      · have w4 := i4 r (by omega) (by omega)
        have w5 := i4 q (by omega) (by omega)
        refine j_iload_n C dX6_join_26 rfl ?_
        refine j_iload_n C dX6_join_27 rfl ?_
        refine j_icmp_eq (tgt := 50) C dX6_join_28 (by decide) (by unfold rg at *; omega) (by unfold rg at *; omega) (fun c28 => ?_) (fun c28 => ?_)
        · refine j_iconst C dX6_join_50 ?_
          refine j_istore C dX6_join_51 (by decide) ?_
          refine j_iload C dX6_join_53 rfl ?_
          refine j_if_eq (tgt := 80) C dX6_join_55 (by decide) (by unfold rg at *; omega) (fun c55 => ?_) (fun c55 => ?_)
          · refine j_iconst C dX6_join_80 ?_
            refine j_istore C dX6_join_81 (by decide) ?_
            refine j_iload C dX6_join_83 rfl ?_
            refine j_if_eq (tgt := 135) C dX6_join_85 (by decide) (by unfold rg at *; omega) (fun c85 => ?_) (fun c85 => ?_)
            · refine j_iconst C dX6_join_135 ?_
              refine j_istore C dX6_join_136 (by decide) ?_
              refine j_aload_n C dX6_join_138 rfl ?_
              refine j_iload_n C dX6_join_139 rfl ?_
              refine j_if_ne (tgt := 147) C dX6_join_140 (by decide) (by unfold rg at *; omega) (fun c140 => ?_) (fun c140 => ?_)
              · refine j_iload C dX6_join_147 rfl ?_
                refine j_if_ne (tgt := 156) C dX6_join_149 (by decide) (by unfold rg at *; omega) (fun c149 => ?_) (fun c149 => ?_)
                · exact absurd c149 (by decide)
                · refine j_iconst C dX6_join_152 ?_
                  refine j_goto (tgt := 166) C dX6_join_153 (by decide) ?_
                  refine J.lvs (lv' := [(0, .ref o), (1, .int (iN (r))), (2, .int (iN (q)))]) ?_ ?_
                  · intro q hq; simp only [List.mem_cons, List.not_mem_nil, or_false] at hq; rcases hq with rfl | rfl | rfl <;> rfl
                  · refine key _ _ (by clear I i1 i2 i3 i3e i4 i4e i5 i6 i7 i8 i10 i11; (try clear key); (try clear key2); (try clear ih); (try clear w5); (try clear w11); (try clear w2); (try clear w3); (try clear w4); (try clear w6); (try clear w7); (try clear w8); (try clear w9); (try clear p4); (try clear o4); (try simp only [decide_eq_true_eq, decide_eq_false_iff_not] at *); unfold x_join; (repeat' split) <;> first | rfl | omega | (simp_all; done) | (simp_all; omega)) hM
              · exact absurd c140 (by decide)
            · exact absurd c85 (by decide)
          · exact absurd c55 (by decide)
        · refine j_aload_n C dX6_join_31 rfl ?_
          refine j_mgeta C hM fl_Mo_40 (by decide) dX6_join_32 ?_
          refine j_iload_n C dX6_join_35 rfl ?_
          refine j_mald C hM (by decide) rfl (by simp only [mLen]; omega) dX6_join_36 ?_
          refine j_aload_n C dX6_join_37 rfl ?_
          refine j_mgeta C hM fl_Mo_40 (by decide) dX6_join_38 ?_
          refine j_iload_n C dX6_join_41 rfl ?_
          refine j_mald C hM (by decide) rfl (by simp only [mLen]; omega) dX6_join_42 ?_
          refine j_icmp_ne (tgt := 50) C dX6_join_43 (by decide) (by unfold rg at *; omega) (by unfold rg at *; omega) (fun c43 => ?_) (fun c43 => ?_)
          · refine j_iconst C dX6_join_50 ?_
            refine j_istore C dX6_join_51 (by decide) ?_
            refine j_iload C dX6_join_53 rfl ?_
            refine j_if_eq (tgt := 80) C dX6_join_55 (by decide) (by unfold rg at *; omega) (fun c55 => ?_) (fun c55 => ?_)
            · refine j_iconst C dX6_join_80 ?_
              refine j_istore C dX6_join_81 (by decide) ?_
              refine j_iload C dX6_join_83 rfl ?_
              refine j_if_eq (tgt := 135) C dX6_join_85 (by decide) (by unfold rg at *; omega) (fun c85 => ?_) (fun c85 => ?_)
              · refine j_iconst C dX6_join_135 ?_
                refine j_istore C dX6_join_136 (by decide) ?_
                refine j_aload_n C dX6_join_138 rfl ?_
                refine j_iload_n C dX6_join_139 rfl ?_
                refine j_if_ne (tgt := 147) C dX6_join_140 (by decide) (by unfold rg at *; omega) (fun c140 => ?_) (fun c140 => ?_)
                · refine j_iload C dX6_join_147 rfl ?_
                  refine j_if_ne (tgt := 156) C dX6_join_149 (by decide) (by unfold rg at *; omega) (fun c149 => ?_) (fun c149 => ?_)
                  · exact absurd c149 (by decide)
                  · refine j_iconst C dX6_join_152 ?_
                    refine j_goto (tgt := 166) C dX6_join_153 (by decide) ?_
                    refine J.lvs (lv' := [(0, .ref o), (1, .int (iN (r))), (2, .int (iN (q)))]) ?_ ?_
                    · intro q hq; simp only [List.mem_cons, List.not_mem_nil, or_false] at hq; rcases hq with rfl | rfl | rfl <;> rfl
                    · refine key _ _ (by clear I i1 i2 i3 i3e i4 i4e i5 i6 i7 i8 i10 i11; (try clear key); (try clear key2); (try clear ih); (try clear w5); (try clear w11); (try clear w2); (try clear w3); (try clear w4); (try clear w6); (try clear w7); (try clear w8); (try clear w9); (try clear p4); (try clear o4); (try simp only [decide_eq_true_eq, decide_eq_false_iff_not] at *); unfold x_join; (repeat' split) <;> first | rfl | omega | (simp_all; done) | (simp_all; omega)) hM
                · exact absurd c140 (by decide)
              · exact absurd c85 (by decide)
            · exact absurd c55 (by decide)
          · refine j_iconst C dX6_join_46 ?_
            refine j_goto (tgt := 51) C dX6_join_47 (by decide) ?_
            refine j_istore C dX6_join_51 (by decide) ?_
            refine j_iload C dX6_join_53 rfl ?_
            refine j_if_eq (tgt := 80) C dX6_join_55 (by decide) (by unfold rg at *; omega) (fun c55 => ?_) (fun c55 => ?_)
            · exact absurd c55 (by decide)
            · refine j_aload_n C dX6_join_58 rfl ?_
              refine j_mgeta C hM fl_Mo_49 (by decide) dX6_join_59 ?_
              refine j_iload_n C dX6_join_62 rfl ?_
              refine j_mald C hM (by decide) rfl (by simp only [mLen]; omega) dX6_join_63 ?_
              refine j_if_eq (tgt := 76) C dX6_join_64 (by decide) (by unfold rg at *; omega) (fun c64 => ?_) (fun c64 => ?_)
              · refine j_iconst C dX6_join_76 ?_
                refine j_goto (tgt := 81) C dX6_join_77 (by decide) ?_
                refine j_istore C dX6_join_81 (by decide) ?_
                refine j_iload C dX6_join_83 rfl ?_
                refine j_if_eq (tgt := 135) C dX6_join_85 (by decide) (by unfold rg at *; omega) (fun c85 => ?_) (fun c85 => ?_)
                · exact absurd c85 (by decide)
                · refine j_iload C dX6_join_88 rfl ?_
                  refine j_if_ne (tgt := 131) C dX6_join_90 (by decide) (by unfold rg at *; omega) (fun c90 => ?_) (fun c90 => ?_)
                  · refine j_iconst C dX6_join_131 ?_
                    refine j_goto (tgt := 136) C dX6_join_132 (by decide) ?_
                    refine j_istore C dX6_join_136 (by decide) ?_
                    refine j_aload_n C dX6_join_138 rfl ?_
                    refine j_iload_n C dX6_join_139 rfl ?_
                    refine j_if_ne (tgt := 147) C dX6_join_140 (by decide) (by unfold rg at *; omega) (fun c140 => ?_) (fun c140 => ?_)
                    · refine j_iload C dX6_join_147 rfl ?_
                      refine j_if_ne (tgt := 156) C dX6_join_149 (by decide) (by unfold rg at *; omega) (fun c149 => ?_) (fun c149 => ?_)
                      · refine j_iload C dX6_join_156 rfl ?_
                        refine j_if_eq (tgt := 165) C dX6_join_158 (by decide) (by unfold rg at *; omega) (fun c158 => ?_) (fun c158 => ?_)
                        · exact absurd c158 (by decide)
                        · refine j_iconst C dX6_join_161 ?_
                          refine j_goto (tgt := 166) C dX6_join_162 (by decide) ?_
                          refine J.lvs (lv' := [(0, .ref o), (1, .int (iN (r))), (2, .int (iN (q)))]) ?_ ?_
                          · intro q hq; simp only [List.mem_cons, List.not_mem_nil, or_false] at hq; rcases hq with rfl | rfl | rfl <;> rfl
                          · refine key _ _ (by clear I i1 i2 i3 i3e i4 i4e i5 i6 i7 i8 i10 i11; (try clear key); (try clear key2); (try clear ih); (try clear w5); (try clear w11); (try clear w2); (try clear w3); (try clear w4); (try clear w6); (try clear w7); (try clear w8); (try clear w9); (try clear p4); (try clear o4); (try simp only [decide_eq_true_eq, decide_eq_false_iff_not] at *); unfold x_join; (repeat' split) <;> first | rfl | omega | (simp_all; done) | (simp_all; omega)) hM
                      · exact absurd c149 (by decide)
                    · exact absurd c140 (by decide)
                  · exact absurd c90 (by decide)
              · refine j_aload_n C dX6_join_67 rfl ?_
                refine j_mgeta C hM fl_Mo_49 (by decide) dX6_join_68 ?_
                refine j_iload_n C dX6_join_71 rfl ?_
                refine j_mald C hM (by decide) rfl (by simp only [mLen]; omega) dX6_join_72 ?_
                refine j_if_ne (tgt := 80) C dX6_join_73 (by decide) (by unfold rg at *; omega) (fun c73 => ?_) (fun c73 => ?_)
                · refine j_iconst C dX6_join_80 ?_
                  refine j_istore C dX6_join_81 (by decide) ?_
                  refine j_iload C dX6_join_83 rfl ?_
                  refine j_if_eq (tgt := 135) C dX6_join_85 (by decide) (by unfold rg at *; omega) (fun c85 => ?_) (fun c85 => ?_)
                  · exact absurd c85 (by decide)
                  · refine j_iload C dX6_join_88 rfl ?_
                    refine j_if_ne (tgt := 131) C dX6_join_90 (by decide) (by unfold rg at *; omega) (fun c90 => ?_) (fun c90 => ?_)
                    · exact absurd c90 (by decide)
                    · have w6 := w4.2.2.2.2 (M 16 r - 1) (by omega) (by omega)
                      rw [show 60 * r + (M 16 r - 1) = 60 * r + M 16 r - 1 by omega] at w6
                      have w7 := w5.2.2.2.2 0 (by omega) (by omega)
                      rw [show 60 * q + 0 = 60 * q by omega] at w7
                      have w60 := i2 (M 14 (60 * r + M 16 r - 1)) (by omega) (by omega)
                      have w70 := i2 (M 14 (60 * q)) (by omega) (by omega)
                      obtain ⟨o1, o2, o3, o4⟩ := plM_spec i1 i3 i2 i3e (s := lastM M r) w6.1 w6.2.1
                      obtain ⟨p1, p2, p3, p4⟩ := plM_spec i1 i3 i2 i3e (s := M 14 (60 * q)) w7.1 w7.2.1
                      have w8 := i3 (M 4 (lastM M r)) (by unfold lastM; omega) (by unfold lastM; omega)
                      have w9 := i3 (M 4 (M 14 (60 * q))) (by omega) (by omega)
                      refine j_aload_n C dX6_join_93 rfl ?_
                      refine j_aload_n C dX6_join_94 rfl ?_
                      refine j_iload_n C dX6_join_95 rfl ?_
                      refine j_mcall C hM (c_lastOf l hfl (by omega) (by omega)) cal_X6_lastOf vi_X6_lastOf rfl ml_Mo_128 rfl rfl (Nat.le_of_ble_eq_true rfl) ⟨by decide, by decide⟩ ⟨by omega, by omega⟩ dX6_join_96 (fun S hM => ?_)
                      refine j_mcall C hM (c_placeOf l hfl (z := lastM M r) ⟨w6.1, w6.2.1⟩ i1 i2 i3 i3e) cal_X6_placeOf vi_X6_placeOf rfl ml_Mo_124 rfl rfl (Nat.le_of_ble_eq_true rfl) ⟨by decide, by decide⟩ ⟨by omega, by omega⟩ dX6_join_99 (fun S hM => ?_)
                      refine j_aload_n C dX6_join_102 rfl ?_
                      refine j_aload_n C dX6_join_103 rfl ?_
                      refine j_mgeta C hM fl_Mo_43 (by decide) dX6_join_104 ?_
                      refine j_bipush C dX6_join_107 (by decide) ?_
                      refine j_iload_n C dX6_join_109 rfl ?_
                      refine j_imul C dX6_join_110 ?_
                      refine j_mald C hM (by decide) rfl (by simp only [mLen]; omega) dX6_join_111 ?_
                      refine j_mcall C hM (c_placeOf l hfl (z := M 14 (60 * q)) ⟨w7.1, w7.2.1⟩ i1 i2 i3 i3e) cal_X6_placeOf vi_X6_placeOf rfl ml_Mo_124 rfl rfl (Nat.le_of_ble_eq_true rfl) ⟨by decide, by decide⟩ ⟨by omega, by omega⟩ dX6_join_112 (fun S hM => ?_)
                      refine j_icmp_gt (tgt := 131) C dX6_join_115 (by decide) (by unfold rg at *; omega) (by unfold rg at *; omega) (fun c115 => ?_) (fun c115 => ?_)
                      · refine j_iconst C dX6_join_131 ?_
                        refine j_goto (tgt := 136) C dX6_join_132 (by decide) ?_
                        refine j_istore C dX6_join_136 (by decide) ?_
                        refine j_aload_n C dX6_join_138 rfl ?_
                        refine j_iload_n C dX6_join_139 rfl ?_
                        refine j_if_ne (tgt := 147) C dX6_join_140 (by decide) (by unfold rg at *; omega) (fun c140 => ?_) (fun c140 => ?_)
                        · refine j_iload C dX6_join_147 rfl ?_
                          refine j_if_ne (tgt := 156) C dX6_join_149 (by decide) (by unfold rg at *; omega) (fun c149 => ?_) (fun c149 => ?_)
                          · refine j_iload C dX6_join_156 rfl ?_
                            refine j_if_eq (tgt := 165) C dX6_join_158 (by decide) (by unfold rg at *; omega) (fun c158 => ?_) (fun c158 => ?_)
                            · exact absurd c158 (by decide)
                            · refine j_iconst C dX6_join_161 ?_
                              refine j_goto (tgt := 166) C dX6_join_162 (by decide) ?_
                              refine J.lvs (lv' := [(0, .ref o), (1, .int (iN (r))), (2, .int (iN (q)))]) ?_ ?_
                              · intro q hq; simp only [List.mem_cons, List.not_mem_nil, or_false] at hq; rcases hq with rfl | rfl | rfl <;> rfl
                              · refine key _ _ (by clear I i1 i2 i3 i3e i4 i4e i5 i6 i7 i8 i10 i11; (try clear key); (try clear key2); (try clear ih); (try clear w5); (try clear w11); (try clear w2); (try clear w3); (try clear w4); (try clear w6); (try clear w7); (try clear w8); (try clear w9); (try clear p4); (try clear o4); (try simp only [decide_eq_true_eq, decide_eq_false_iff_not] at *); unfold x_join; (repeat' split) <;> first | rfl | omega | (simp_all; done) | (simp_all; omega)) hM
                          · exact absurd c149 (by decide)
                        · exact absurd c140 (by decide)
                      · refine j_aload_n C dX6_join_118 rfl ?_
                        refine j_aload_n C dX6_join_119 rfl ?_
                        refine j_mgeta C hM fl_Mo_40 (by decide) dX6_join_120 ?_
                        refine j_iload_n C dX6_join_123 rfl ?_
                        refine j_mald C hM (by decide) rfl (by simp only [mLen]; omega) dX6_join_124 ?_
                        refine j_mcall C hM (c_isLent l hfl (by unfold rg at *; omega) i1 i6 i8) cal_X6_isLent vi_X6_isLent rfl ml_Mo_131 rfl rfl (Nat.le_of_ble_eq_true rfl) ⟨by decide, by decide⟩ ⟨by omega, by omega⟩ dX6_join_125 (fun S hM => ?_)
                        refine j_ifeq_b (tgt := 135) C dX6_join_128 (by decide) (fun c128 => ?_) (fun c128 => ?_)
                        · try simp only [decide_eq_true_eq, decide_eq_false_iff_not] at c128
                          refine j_iconst C dX6_join_135 ?_
                          refine j_istore C dX6_join_136 (by decide) ?_
                          refine j_aload_n C dX6_join_138 rfl ?_
                          refine j_iload_n C dX6_join_139 rfl ?_
                          refine j_if_ne (tgt := 147) C dX6_join_140 (by decide) (by unfold rg at *; omega) (fun c140 => ?_) (fun c140 => ?_)
                          · refine j_iload C dX6_join_147 rfl ?_
                            refine j_if_ne (tgt := 156) C dX6_join_149 (by decide) (by unfold rg at *; omega) (fun c149 => ?_) (fun c149 => ?_)
                            · refine j_iload C dX6_join_156 rfl ?_
                              refine j_if_eq (tgt := 165) C dX6_join_158 (by decide) (by unfold rg at *; omega) (fun c158 => ?_) (fun c158 => ?_)
                              · refine j_iconst C dX6_join_165 ?_
                                refine J.lvs (lv' := [(0, .ref o), (1, .int (iN (r))), (2, .int (iN (q)))]) ?_ ?_
                                · intro q hq; simp only [List.mem_cons, List.not_mem_nil, or_false] at hq; rcases hq with rfl | rfl | rfl <;> rfl
                                · refine key _ _ (by clear I i1 i2 i3 i3e i4 i4e i5 i6 i7 i8 i10 i11; (try clear key); (try clear key2); (try clear ih); (try clear w5); (try clear w11); (try clear w2); (try clear w3); (try clear w4); (try clear w6); (try clear w7); (try clear w8); (try clear w9); (try clear p4); (try clear o4); (try simp only [decide_eq_true_eq, decide_eq_false_iff_not] at *); unfold x_join; (repeat' split) <;> first | rfl | omega | (simp_all; done) | (simp_all; omega)) hM
                              · exact absurd c158 (by decide)
                            · exact absurd c149 (by decide)
                          · exact absurd c140 (by decide)
                        · try simp only [decide_eq_true_eq, decide_eq_false_iff_not] at c128
                          refine j_iconst C dX6_join_131 ?_
                          refine j_goto (tgt := 136) C dX6_join_132 (by decide) ?_
                          refine j_istore C dX6_join_136 (by decide) ?_
                          refine j_aload_n C dX6_join_138 rfl ?_
                          refine j_iload_n C dX6_join_139 rfl ?_
                          refine j_if_ne (tgt := 147) C dX6_join_140 (by decide) (by unfold rg at *; omega) (fun c140 => ?_) (fun c140 => ?_)
                          · refine j_iload C dX6_join_147 rfl ?_
                            refine j_if_ne (tgt := 156) C dX6_join_149 (by decide) (by unfold rg at *; omega) (fun c149 => ?_) (fun c149 => ?_)
                            · refine j_iload C dX6_join_156 rfl ?_
                              refine j_if_eq (tgt := 165) C dX6_join_158 (by decide) (by unfold rg at *; omega) (fun c158 => ?_) (fun c158 => ?_)
                              · exact absurd c158 (by decide)
                              · refine j_iconst C dX6_join_161 ?_
                                refine j_goto (tgt := 166) C dX6_join_162 (by decide) ?_
                                refine J.lvs (lv' := [(0, .ref o), (1, .int (iN (r))), (2, .int (iN (q)))]) ?_ ?_
                                · intro q hq; simp only [List.mem_cons, List.not_mem_nil, or_false] at hq; rcases hq with rfl | rfl | rfl <;> rfl
                                · refine key _ _ (by clear I i1 i2 i3 i3e i4 i4e i5 i6 i7 i8 i10 i11; (try clear key); (try clear key2); (try clear ih); (try clear w5); (try clear w11); (try clear w2); (try clear w3); (try clear w4); (try clear w6); (try clear w7); (try clear w8); (try clear w9); (try clear p4); (try clear o4); (try simp only [decide_eq_true_eq, decide_eq_false_iff_not] at *); unfold x_join; (repeat' split) <;> first | rfl | omega | (simp_all; done) | (simp_all; omega)) hM
                            · exact absurd c149 (by decide)
                          · exact absurd c140 (by decide)
                · refine j_iconst C dX6_join_76 ?_
                  refine j_goto (tgt := 81) C dX6_join_77 (by decide) ?_
                  refine j_istore C dX6_join_81 (by decide) ?_
                  refine j_iload C dX6_join_83 rfl ?_
                  refine j_if_eq (tgt := 135) C dX6_join_85 (by decide) (by unfold rg at *; omega) (fun c85 => ?_) (fun c85 => ?_)
                  · exact absurd c85 (by decide)
                  · refine j_iload C dX6_join_88 rfl ?_
                    refine j_if_ne (tgt := 131) C dX6_join_90 (by decide) (by unfold rg at *; omega) (fun c90 => ?_) (fun c90 => ?_)
                    · refine j_iconst C dX6_join_131 ?_
                      refine j_goto (tgt := 136) C dX6_join_132 (by decide) ?_
                      refine j_istore C dX6_join_136 (by decide) ?_
                      refine j_aload_n C dX6_join_138 rfl ?_
                      refine j_iload_n C dX6_join_139 rfl ?_
                      refine j_if_ne (tgt := 147) C dX6_join_140 (by decide) (by unfold rg at *; omega) (fun c140 => ?_) (fun c140 => ?_)
                      · refine j_iload C dX6_join_147 rfl ?_
                        refine j_if_ne (tgt := 156) C dX6_join_149 (by decide) (by unfold rg at *; omega) (fun c149 => ?_) (fun c149 => ?_)
                        · refine j_iload C dX6_join_156 rfl ?_
                          refine j_if_eq (tgt := 165) C dX6_join_158 (by decide) (by unfold rg at *; omega) (fun c158 => ?_) (fun c158 => ?_)
                          · exact absurd c158 (by decide)
                          · refine j_iconst C dX6_join_161 ?_
                            refine j_goto (tgt := 166) C dX6_join_162 (by decide) ?_
                            refine J.lvs (lv' := [(0, .ref o), (1, .int (iN (r))), (2, .int (iN (q)))]) ?_ ?_
                            · intro q hq; simp only [List.mem_cons, List.not_mem_nil, or_false] at hq; rcases hq with rfl | rfl | rfl <;> rfl
                            · refine key _ _ (by clear I i1 i2 i3 i3e i4 i4e i5 i6 i7 i8 i10 i11; (try clear key); (try clear key2); (try clear ih); (try clear w5); (try clear w11); (try clear w2); (try clear w3); (try clear w4); (try clear w6); (try clear w7); (try clear w8); (try clear w9); (try clear p4); (try clear o4); (try simp only [decide_eq_true_eq, decide_eq_false_iff_not] at *); unfold x_join; (repeat' split) <;> first | rfl | omega | (simp_all; done) | (simp_all; omega)) hM
                        · exact absurd c149 (by decide)
                      · exact absurd c140 (by decide)
                    · exact absurd c90 (by decide)

