/-! THE REFERENCE: what holds of its numbers between calls, in one. -/
def I7 (M : wM) : Prop := ∀ v s f, 0 ≤ v → v < 10 → 0 ≤ s → s < 60 → 0 ≤ f → f < 1024 → outP M v s f = true → v < M 21 0 ∧ s < M 12 0 ∧ M 4 s = M 19 v ∧ M 7 s ≠ -1 ∧ f < M 5 s
def I10 (M : wM) : Prop := ∀ q q', 0 ≤ q → q < M 28 0 → 0 ≤ q' → q' < M 28 0 → M 27 q = 0 → M 27 q' = 0 → M 19 (M 23 q) = M 19 (M 23 q') → q = q'
def I11 (M : wM) : Prop := ∀ q, 0 ≤ q → q < M 28 0 → M 27 q = 0 → ∀ r, 0 ≤ r → r < M 17 0 → M 13 r = M 19 (M 23 q) → M 16 r < 2 ∨ greatM M r + M 24 q * (1 + M 25 q) ≤ M 18 0
def Inv (M : wM) : Prop := I1 M ∧ I2 M ∧ I3 M ∧ I3e M ∧ I4 M ∧ I4e M ∧ I5 M ∧ I6 M ∧ I7 M ∧ I8 M ∧ I10 M ∧ I11 M
def fineP (a b : Int) : Prop := (1 ≤ a ∧ a ≤ 999) ∧ 0 ≤ b ∧ b ≤ 9
theorem pig : ∀ (m n : Nat) (g : Nat → Nat), (∀ i, i < n → g i < m) → (∀ i j, i < n → j < n → g i = g j → i = j) → n ≤ m
  | 0, 0, _, _, _ => Nat.le_refl _
  | 0, n + 1, g, h, _ => absurd (h 0 (by omega)) (by omega)
  | m + 1, 0, _, _, _ => by omega
  | m + 1, n + 1, g, h, hi => by
    have := pig m n (fun i => if g i = m then g n else g i) (fun i hi2 => by
      have h1 := h i (by omega)
      have h2 := h n (by omega)
      by_cases e : g i = m
      · rw [if_pos e]
        rcases Nat.lt_or_ge (g n) m with q | q
        · exact q
        · have := hi i n (by omega) (by omega) (by omega)
          omega
      · rw [if_neg e]; omega) (fun i j h1 h2 e => by
      by_cases e1 : g i = m <;> by_cases e2 : g j = m
      · exact hi i j (by omega) (by omega) (by omega)
      · rw [if_pos e1, if_neg e2] at e
        have := hi n j (by omega) (by omega) e
        omega
      · rw [if_neg e1, if_pos e2] at e
        have := hi i n (by omega) (by omega) e
        omega
      · rw [if_neg e1, if_neg e2] at e
        exact hi i j (by omega) (by omega) e)
    omega
/-- a reel has not all shots, if one is missing from it -/
theorem reelM_lt {M : wM} (i1 : I1 M) (i4 : I4 M) {r s : Int} (hr : 0 ≤ r ∧ r < 24) (hs : 0 ≤ s ∧ s < M 12 0) (h : M 7 s ≠ r) : M 16 r < M 12 0 := by
  have w4 := i4 r hr.1 hr.2
  have := pig (M 12 0).toNat ((M 16 r).toNat + 1) (fun k => if k = (M 16 r).toNat then s.toNat else (M 14 (60 * r + k)).toNat) (fun k hk => by
    by_cases e : k = (M 16 r).toNat
    · rw [if_pos e]; omega
    · rw [if_neg e]
      have := w4.2.2.2.2 k (by omega) (by omega)
      omega) (fun k k' hk hk' => by
    by_cases e : k = (M 16 r).toNat <;> by_cases e' : k' = (M 16 r).toNat
    · intro _; omega
    · rw [if_pos e, if_neg e']
      have := w4.2.2.2.2 k' (by omega) (by omega)
      intro q
      exact absurd (show s = M 14 (60 * r + k') by omega) (fun z => h (by rw [z]; exact this.2.2.1))
    · rw [if_neg e, if_pos e']
      have := w4.2.2.2.2 k (by omega) (by omega)
      intro q
      exact absurd (show s = M 14 (60 * r + k) by omega) (fun z => h (by rw [z]; exact this.2.2.1))
    · rw [if_neg e, if_neg e']
      have w := w4.2.2.2.2 k (by omega) (by omega)
      have w' := w4.2.2.2.2 k' (by omega) (by omega)
      intro q
      have := w.2.2.2.2.2 k' (by omega) (by omega) (by omega)
      omega)
  omega
theorem swS_in {M : wM} {f z : Int} : ∀ k : Nat, (swS M f z k).1 = -1 ∨ ∃ i : Nat, i < k ∧ (swS M f z k).1 = M 2 (60 * f + i)
  | 0 => Or.inl rfl
  | k + 1 => by
    rcases swS_in (M := M) (f := f) (z := z) k with h | ⟨i, h1, h2⟩
    · rw [swS]
      split
      · exact Or.inl h
      · split
        · exact Or.inr ⟨k, by omega, rfl⟩
        · exact Or.inl h
    · rw [swS]
      split
      · exact Or.inr ⟨i, by omega, h2⟩
      · split
        · exact Or.inr ⟨k, by omega, rfl⟩
        · exact Or.inr ⟨i, by omega, h2⟩
theorem swM_rg {M : wM} {f z : Int} (hf : 0 ≤ f ∧ f < 6) (i1 : I1 M) (i3 : I3 M) : -1 ≤ swM M f z ∧ swM M f z < 60 := by
  unfold swM
  split
  · omega
  · obtain ⟨-, a2, -⟩ := i1
    have w3 := i3 f hf.1 hf.2
    rcases swS_in (M := M) (f := f) (z := z) (M 3 f).toNat with h | ⟨i, h1, h2⟩
    · omega
    · have := w3.2.2.2 i (by omega) (by omega)
      omega
theorem maxI_ge {g : Nat → Int} : ∀ {n k : Nat}, k < n → g k ≤ maxI g n
  | 0, k, h => by omega
  | n + 1, k, h => by
    rw [maxI]
    by_cases e : k = n
    · subst e; split <;> omega
    · have := maxI_ge (g := g) (n := n) (k := k) (by omega)
      split <;> omega
theorem I4_wear {M : wM} {r w : Int} (hr : 0 ≤ r ∧ r < 24) (hw : 0 ≤ w) (i1 : I1 M) (i4 : I4 M) (h : bearP M r w = true) : I4 (wearM M r w) := by
  intro q q0 q1
  have w4 := i4 q q0 q1
  refine ⟨w4.1, w4.2.1, w4.2.2.1, w4.2.2.2.1, fun k k0 k1 => ?_⟩
  have w5 := w4.2.2.2.2 k k0 k1
  refine ⟨w5.1, w5.2.1, w5.2.2.1, w5.2.2.2.1, fun k2 => ?_, w5.2.2.2.2.2⟩
  have k1 : k < M 16 q := k1
  have k2 : k + 1 < M 16 q := k2
  have w6 := w5.2.2.2.2.1 k2
  have e : wearM M r w 15 (60 * q + k) = if 60 * r ≤ 60 * q + k ∧ 60 * q + k < 60 * r + (M 16 r - 1) then M 15 (60 * q + k) + w else M 15 (60 * q + k) := rfl
  have e18 : wearM M r w 18 0 = M 18 0 := rfl
  rw [e, e18]
  by_cases c : 60 * r ≤ 60 * q + k ∧ 60 * q + k < 60 * r + (M 16 r - 1)
  · rw [if_pos c]
    have h1 : q = r := by
      have := (i4 r hr.1 hr.2)
      obtain ⟨-, a2, -⟩ := i1
      omega
    subst h1
    unfold bearP at h
    simp only [decide_eq_true_eq] at h
    have := maxI_ge (g := fun i : Nat => M 15 (60 * q + i)) (n := (M 16 q - 1).toNat) (k := k.toNat) (by omega)
    simp only [Int.toNat_of_nonneg k0] at this
    unfold greatM at h
    omega
  · rw [if_neg c]; exact w6
def x_addFilm (M : wM) : Int := if M 1 0 = 6 then 1 else 0
def v_addFilm (M : wM) : Int := M 1 0
def n_addFilm (M : wM) : wM := if x_addFilm M = 0 then mup (mup M 0 0 (x_addFilm M)) 1 0 (M 1 0 + 1) else (mup M 0 0 (x_addFilm M))
def x_addShot (M : wM) (f a b : Int) : Int := if ¬ (0 ≤ f ∧ f < M 1 0) then 1 else if ¬ ((1 ≤ a ∧ a ≤ 999) ∧ 0 ≤ b ∧ b ≤ 9) then 2 else if M 12 0 = 60 then 3 else 0
def v_addShot (M : wM) (f a b : Int) : Int := M 12 0
def n_addShot (M : wM) (f a b : Int) : wM := if x_addShot M f a b = 0 then makesM (mup M 0 0 (x_addShot M f a b)) f (M 3 f) a b else (mup M 0 0 (x_addShot M f a b))
def x_addReel (M : wM) (f : Int) : Int := if ¬ (0 ≤ f ∧ f < M 1 0) then 1 else if M 17 0 = 24 then 2 else 0
def v_addReel (M : wM) (f : Int) : Int := M 17 0
def n_addReel (M : wM) (f : Int) : wM := if x_addReel M f = 0 then mup (mup (mup M 0 0 (x_addReel M f)) 13 (M 17 0) f) 17 0 (M 17 0 + 1) else (mup M 0 0 (x_addReel M f))
def x_shots (M : wM) (f : Int) : Int := if ¬ (0 ≤ f ∧ f < M 1 0) then 1 else 0
def v_shots (M : wM) (f : Int) : Int := M 3 f
def n_shots (M : wM) (f : Int) : wM := if x_shots M f = 0 then (mup M 0 0 (x_shots M f)) else (mup M 0 0 (x_shots M f))
def x_lengthOf (M : wM) (z : Int) : Int := if ¬ (0 ≤ z ∧ z < M 12 0) then 1 else 0
def v_lengthOf (M : wM) (z : Int) : Int := M 5 z
def n_lengthOf (M : wM) (z : Int) : wM := if x_lengthOf M z = 0 then (mup M 0 0 (x_lengthOf M z)) else (mup M 0 0 (x_lengthOf M z))
def x_reelOf (M : wM) (z : Int) : Int := if ¬ (0 ≤ z ∧ z < M 12 0) then 1 else 0
def v_reelOf (M : wM) (z : Int) : Int := M 7 z
def n_reelOf (M : wM) (z : Int) : wM := if x_reelOf M z = 0 then (mup M 0 0 (x_reelOf M z)) else (mup M 0 0 (x_reelOf M z))
def x_scanned (M : wM) (z : Int) : Int := if ¬ (0 ≤ z ∧ z < M 12 0) then 1 else 0
def v_scanned (M : wM) (z : Int) : Int := M 8 z
def n_scanned (M : wM) (z : Int) : wM := if x_scanned M z = 0 then (mup M 0 0 (x_scanned M z)) else (mup M 0 0 (x_scanned M z))
def x_missed (M : wM) (z : Int) : Int := if ¬ (0 ≤ z ∧ z < M 12 0) then 1 else 0
def v_missed (M : wM) (z : Int) : Int := M 9 z
def n_missed (M : wM) (z : Int) : wM := if x_missed M z = 0 then (mup M 0 0 (x_missed M z)) else (mup M 0 0 (x_missed M z))
def x_shotOf (M : wM) (f z : Int) : Int := if ¬ ((0 ≤ f ∧ f < M 1 0) ∧ 0 ≤ z ∧ z ≤ M 3 f - 1) then 1 else 0
def v_shotOf (M : wM) (f z : Int) : Int := M 2 (60 * f + z)
def n_shotOf (M : wM) (f z : Int) : wM := if x_shotOf M f z = 0 then (mup M 0 0 (x_shotOf M f z)) else (mup M 0 0 (x_shotOf M f z))
def x_gradeOf (M : wM) (z : Int) : Int := if ¬ (0 ≤ z ∧ z < M 12 0) then 1 else 0
def v_gradeOf (M : wM) (z : Int) : Int := gradeM M z
def n_gradeOf (M : wM) (z : Int) : wM := if x_gradeOf M z = 0 then (mup M 0 0 (x_gradeOf M z)) else (mup M 0 0 (x_gradeOf M z))
def x_gradeFrom (M : wM) (z : Int) : Int := if ¬ (0 ≤ z ∧ z < M 12 0) then 1 else 0
def v_gradeFrom (M : wM) (z : Int) : Int := if M 10 z = -1 then M 11 z else z
def n_gradeFrom (M : wM) (z : Int) : wM := if x_gradeFrom M z = 0 then (mup M 0 0 (x_gradeFrom M z)) else (mup M 0 0 (x_gradeFrom M z))
def x_wear (M : wM) (r z : Int) : Int := if ¬ ((0 ≤ r ∧ r < M 17 0) ∧ 0 ≤ z ∧ z ≤ M 16 r - 2) then 1 else 0
def v_wear (M : wM) (r z : Int) : Int := M 15 (60 * r + z)
def n_wear (M : wM) (r z : Int) : wM := if x_wear M r z = 0 then (mup M 0 0 (x_wear M r z)) else (mup M 0 0 (x_wear M r z))
def x_frameOf (M : wM) (z : Int) : Int := if ¬ (0 ≤ z ∧ z < M 12 0) then 1 else if M 7 z = -1 then 2 else 0
def v_frameOf (M : wM) (z : Int) : Int := aheadM M (M 4 z) (plM M z).toNat
def n_frameOf (M : wM) (z : Int) : wM := if x_frameOf M z = 0 then (mup M 0 0 (x_frameOf M z)) else (mup M 0 0 (x_frameOf M z))
def x_shotAt (M : wM) (f z : Int) : Int := if ¬ (0 ≤ f ∧ f < M 1 0) then 1 else if swM M f z = -1 then 2 else 0
def v_shotAt (M : wM) (f z : Int) : Int := swM M f z
def n_shotAt (M : wM) (f z : Int) : wM := if x_shotAt M f z = 0 then (mup M 0 0 (x_shotAt M f z)) else (mup M 0 0 (x_shotAt M f z))
def x_run (M : wM) (r : Int) : Int := if ¬ (0 ≤ r ∧ r < M 17 0) then 1 else if bearP M r 1 = false ∨ lentM M (M 13 r) = true then 2 else 0
def v_run (M : wM) (r : Int) : Int := greatM (wearM M r 1) r
def n_run (M : wM) (r : Int) : wM := if x_run M r = 0 then wearM (mup M 0 0 (x_run M r)) r 1 else (mup M 0 0 (x_run M r))
def x_giveBack (M : wM) (z : Int) : Int := if ¬ (0 ≤ z ∧ z < M 28 0) then 1 else if ¬ M 27 z = 0 then 2 else 0
def v_giveBack (M : wM) (z : Int) : Int := if M 26 z < M 29 0 then M 29 0 - M 26 z else 0
def n_giveBack (M : wM) (z : Int) : wM := if x_giveBack M z = 0 then mup (mup M 0 0 (x_giveBack M z)) 27 z 1 else (mup M 0 0 (x_giveBack M z))
set_option maxHeartbeats 4000000 in
set_option maxRecDepth 100000 in
theorem m_addFilm (l : Launch) (hfl : l.stackTraces = false) {M : wM}  (I : Inv M) : MC l yX6_addFilm cX6_addFilm 1 (some FieldType.int) 4 [] M (.inl (some (.int (iN (if x_addFilm M = 0 then v_addFilm M else 0))))) (n_addFilm M) := by
  intro S0 o B hM0
  refine Ct.of cal_X6_addFilm hfl (Nat.le_of_ble_eq_true rfl) ?_
  intro p e s m args below meth c D sz C ME
  have hM : RMF S0 S0 o B M := ⟨hM0, mF.rf⟩
  have I9 := I
  obtain ⟨i1, i2, i3, i3e, i4, i4e, i5, i6, i7, i8, i10, i11⟩ := I9
  obtain ⟨a1, a2, a3, a4, a5, a6, a7⟩ := id i1
  have key : ∀ (x : Int) (S : wS), x = x_addFilm M → RMF S0 S o B M → J p l e { frames := 20 * 4, cells := 0, slots := 0, locals := 200 * 4 } s m args below meth c 1 D (wA S0 sz) (wQ below D sz S0 (fun r9 S9 => r9 = .inl (some (.int (iN (if x_addFilm M = 0 then v_addFilm M else 0)))) ∧ RMF S0 S9 o B (n_addFilm M)) args s 0 0) 15 [(0, .ref o)] [.int (iN x), .ref o] S 0 0 := by
    intro x S hx hM
    subst hx
    refine j_mcall C hM (c_goesOn l hfl (by unfold x_addFilm; (repeat' split) <;> (unfold rg; omega))) cal_X6_goesOn vi_X6_goesOn rfl ml_Mo_103 rfl rfl (Nat.le_of_ble_eq_true rfl) ⟨by decide, by decide⟩ ⟨by omega, by omega⟩ dX6_addFilm_15 (fun S hM => ?_)
    refine j_ifne_b (tgt := 23) C dX6_addFilm_18 (by decide) (fun c18 => ?_) (fun c18 => ?_)
    · try simp only [decide_eq_true_eq, decide_eq_false_iff_not] at c18
      try simp only [decide_eq_true_eq, decide_eq_false_iff_not] at c18
      have ok : M 1 0 < 6 := by
        clear I i1 i2 i3 i3e i4 i4e i5 i6 i7 i8 i10 i11; (try clear key); (try clear key2); (try clear ih); (try clear w5); (try clear w11); (try clear w2); (try clear w3); (try clear w4); (try clear w6); (try clear w7); (try clear w8); (try clear w9); (try clear p4); (try clear o4); unfold x_addFilm at c18
        (repeat' split at c18) <;> first | rfl | omega | (simp_all; done) | (simp_all; omega)
      
      refine j_aload_n C dX6_addFilm_23 rfl ?_
      refine j_dup C dX6_addFilm_24 rfl ?_
      refine j_mgeti C hM fl_Mo_84 ⟨by decide, rfl⟩ dX6_addFilm_25 ?_
      refine j_iconst C dX6_addFilm_28 ?_
      refine j_iadd C dX6_addFilm_29 ?_
      refine j_mputi C hM fl_Mo_84 ⟨by decide, rfl⟩ dX6_addFilm_30 (fun S hM => ?_)
      refine j_aload_n C dX6_addFilm_33 rfl ?_
      refine j_mgeti C hM fl_Mo_84 ⟨by decide, rfl⟩ dX6_addFilm_34 ?_
      refine j_iconst C dX6_addFilm_37 ?_
      refine j_isub C dX6_addFilm_38 ?_
      refine j_iret C ME ?_ (by omega) (by omega) dX6_addFilm_39
      refine ⟨rI ?_, ?_⟩
      · first
        | (rw [if_neg c18]; done)
        | (rw [if_pos c18]; unfold v_addFilm; show M 1 0 + 1 - 1 = M 1 0; omega)
      · unfold n_addFilm
        first
        | (rw [if_neg c18]; exact hM)
        | (rw [if_pos c18]; exact hM)
    · try simp only [decide_eq_true_eq, decide_eq_false_iff_not] at c18
      try simp only [decide_eq_true_eq, decide_eq_false_iff_not] at c18
      refine j_iconst C dX6_addFilm_21 ?_
      refine j_iret C ME ?_ (by omega) (by omega) dX6_addFilm_22
      refine ⟨rI ?_, ?_⟩
      · first
        | (rw [if_neg c18]; done)
        | (rw [if_pos c18]; unfold v_addFilm; show M 1 0 + 1 - 1 = M 1 0; omega)
      · unfold n_addFilm
        first
        | (rw [if_neg c18]; exact hM)
        | (rw [if_pos c18]; exact hM)
  refine j_aload_n C dX6_addFilm_0 rfl ?_
  refine j_aload_n C dX6_addFilm_1 rfl ?_
  refine j_mgeti C hM fl_Mo_84 ⟨by decide, rfl⟩ dX6_addFilm_2 ?_
  refine j_bipush C dX6_addFilm_5 (by decide) ?_
  refine j_icmp_ne (tgt := 14) C dX6_addFilm_7 (by decide) (by unfold rg at *; omega) (by unfold rg at *; omega) (fun c7 => ?_) (fun c7 => ?_)
  · refine j_iconst C dX6_addFilm_14 ?_
    refine J.lvs (lv' := [(0, .ref o)]) ?_ ?_
    · intro q hq; simp only [List.mem_cons, List.not_mem_nil, or_false] at hq; rcases hq with rfl <;> rfl
    · refine key _ _ (by clear I i1 i2 i3 i3e i4 i4e i5 i6 i7 i8 i10 i11; (try clear key); (try clear key2); (try clear ih); (try clear w5); (try clear w11); (try clear w2); (try clear w3); (try clear w4); (try clear w6); (try clear w7); (try clear w8); (try clear w9); (try clear p4); (try clear o4); (try simp only [decide_eq_true_eq, decide_eq_false_iff_not] at *); unfold x_addFilm; (repeat' split) <;> first | rfl | omega | (simp_all; done) | (simp_all; omega)) hM
  · refine j_iconst C dX6_addFilm_10 ?_
    refine j_goto (tgt := 15) C dX6_addFilm_11 (by decide) ?_
    refine J.lvs (lv' := [(0, .ref o)]) ?_ ?_
    · intro q hq; simp only [List.mem_cons, List.not_mem_nil, or_false] at hq; rcases hq with rfl <;> rfl
    · refine key _ _ (by clear I i1 i2 i3 i3e i4 i4e i5 i6 i7 i8 i10 i11; (try clear key); (try clear key2); (try clear ih); (try clear w5); (try clear w11); (try clear w2); (try clear w3); (try clear w4); (try clear w6); (try clear w7); (try clear w8); (try clear w9); (try clear p4); (try clear o4); (try simp only [decide_eq_true_eq, decide_eq_false_iff_not] at *); unfold x_addFilm; (repeat' split) <;> first | rfl | omega | (simp_all; done) | (simp_all; omega)) hM

set_option maxHeartbeats 4000000 in
set_option maxRecDepth 100000 in
theorem m_addShot (l : Launch) (hfl : l.stackTraces = false) {M : wM} {f a b : Int} (h_f : rg f)  (h_a : rg a)  (h_b : rg b) (I : Inv M) : MC l yX6_addShot cX6_addShot 5 (some FieldType.int) 4 [.int (iN f), .int (iN a), .int (iN b)] M (.inl (some (.int (iN (if x_addShot M f a b = 0 then v_addShot M f a b else 0))))) (n_addShot M f a b) := by
  intro S0 o B hM0
  refine Ct.of cal_X6_addShot hfl (Nat.le_of_ble_eq_true rfl) ?_
  intro p e s m args below meth c D sz C ME
  have hM : RMF S0 S0 o B M := ⟨hM0, mF.rf⟩
  have I9 := I
  obtain ⟨i1, i2, i3, i3e, i4, i4e, i5, i6, i7, i8, i10, i11⟩ := I9
  obtain ⟨a1, a2, a3, a4, a5, a6, a7⟩ := id i1
  have key : ∀ (x : Int) (S : wS), x = x_addShot M f a b → RMF S0 S o B M → J p l e { frames := 20 * 4, cells := 0, slots := 0, locals := 200 * 4 } s m args below meth c 5 D (wA S0 sz) (wQ below D sz S0 (fun r9 S9 => r9 = .inl (some (.int (iN (if x_addShot M f a b = 0 then v_addShot M f a b else 0)))) ∧ RMF S0 S9 o B (n_addShot M f a b)) args s 0 0) 43 [(0, .ref o), (1, .int (iN (f))), (2, .int (iN (a))), (3, .int (iN (b)))] [.int (iN x), .ref o] S 0 0 := by
    intro x S hx hM
    subst hx
    refine j_mcall C hM (c_goesOn l hfl (by unfold x_addShot; (repeat' split) <;> (unfold rg; omega))) cal_X6_goesOn vi_X6_goesOn rfl ml_Mo_103 rfl rfl (Nat.le_of_ble_eq_true rfl) ⟨by decide, by decide⟩ ⟨by omega, by omega⟩ dX6_addShot_43 (fun S hM => ?_)
    refine j_ifne_b (tgt := 51) C dX6_addShot_46 (by decide) (fun c46 => ?_) (fun c46 => ?_)
    · try simp only [decide_eq_true_eq, decide_eq_false_iff_not] at c46
      try simp only [decide_eq_true_eq, decide_eq_false_iff_not] at c46
      have ok : (0 ≤ f ∧ f < M 1 0) ∧ M 12 0 < 60 := by
        clear I i1 i2 i3 i3e i4 i4e i5 i6 i7 i8 i10 i11; (try clear key); (try clear key2); (try clear ih); (try clear w5); (try clear w11); (try clear w2); (try clear w3); (try clear w4); (try clear w6); (try clear w7); (try clear w8); (try clear w9); (try clear p4); (try clear o4); unfold x_addShot at c46
        (repeat' split at c46) <;> first | rfl | omega | (simp_all; done) | (simp_all; omega)
      have w3 := i3 f (by omega) (by omega)
      refine j_aload_n C dX6_addShot_51 rfl ?_
      refine j_iload_n C dX6_addShot_52 rfl ?_
      refine j_aload_n C dX6_addShot_53 rfl ?_
      refine j_mgeta C hM fl_Mo_13 (by decide) dX6_addShot_54 ?_
      refine j_iload_n C dX6_addShot_57 rfl ?_
      refine j_mald C hM (by decide) rfl (by simp only [mLen]; omega) dX6_addShot_58 ?_
      refine j_iload_n C dX6_addShot_59 rfl ?_
      refine j_iload_n C dX6_addShot_60 rfl ?_
      refine j_mcall C hM (c_makes l hfl (M := mup M 0 0 (x_addShot M f a b)) (by omega) (show 0 ≤ M 3 f ∧ M 3 f ≤ M 3 f by omega) (show 0 ≤ M 3 f ∧ M 3 f < 60 by omega) (show 0 ≤ M 12 0 ∧ M 12 0 < 60 by omega)) cal_X6_makes vi_X6_makes rfl ml_Mo_114 rfl rfl (Nat.le_of_ble_eq_true rfl) ⟨by decide, by decide⟩ ⟨by omega, by omega⟩ dX6_addShot_61 (fun S hM => ?_)
      refine j_iret C ME ?_ (by omega) (by omega) dX6_addShot_64
      refine ⟨rI ?_, ?_⟩
      · first
        | (rw [if_neg c46]; done)
        | (rw [if_pos c46]; unfold v_addShot; rfl)
      · unfold n_addShot
        first
        | (rw [if_neg c46]; exact hM)
        | (rw [if_pos c46]; exact hM)
    · try simp only [decide_eq_true_eq, decide_eq_false_iff_not] at c46
      try simp only [decide_eq_true_eq, decide_eq_false_iff_not] at c46
      refine j_iconst C dX6_addShot_49 ?_
      refine j_iret C ME ?_ (by omega) (by omega) dX6_addShot_50
      refine ⟨rI ?_, ?_⟩
      · first
        | (rw [if_neg c46]; done)
        | (rw [if_pos c46]; unfold v_addShot; rfl)
      · unfold n_addShot
        first
        | (rw [if_neg c46]; exact hM)
        | (rw [if_pos c46]; exact hM)
  refine j_aload_n C dX6_addShot_0 rfl ?_
  refine j_iload_n C dX6_addShot_1 rfl ?_
  refine j_mcall C hM (c_isFilm l hfl (by unfold rg at *; omega) (by omega)) cal_X6_isFilm vi_X6_isFilm rfl ml_Mo_107 rfl rfl (Nat.le_of_ble_eq_true rfl) ⟨by decide, by decide⟩ ⟨by omega, by omega⟩ dX6_addShot_2 (fun S hM => ?_)
  refine j_istore C dX6_addShot_5 (by decide) ?_
  refine j_aload_n C dX6_addShot_7 rfl ?_
  refine j_iload C dX6_addShot_8 rfl ?_
  refine j_ifne_b (tgt := 17) C dX6_addShot_10 (by decide) (fun c10 => ?_) (fun c10 => ?_)
  · try simp only [decide_eq_true_eq, decide_eq_false_iff_not] at c10
    refine j_iload_n C dX6_addShot_17 rfl ?_
    refine j_iload_n C dX6_addShot_18 rfl ?_
    refine j_callS C (c_areFine l hfl (by assumption) (by assumption)) cal_X6_areFine st_X6_areFine ml_Mo_110 rfl rfl (Nat.le_of_ble_eq_true rfl) ⟨by decide, by decide⟩ ⟨by omega, by omega⟩ dX6_addShot_19 (fun E S9 h => nomatch h.1) (fun v9 S9 h => ?_)
    obtain ⟨h, rfl⟩ := h
    cases h
    refine j_ifne_b (tgt := 29) C dX6_addShot_22 (by decide) (fun c22 => ?_) (fun c22 => ?_)
    · try simp only [decide_eq_true_eq, decide_eq_false_iff_not] at c22
      refine j_aload_n C dX6_addShot_29 rfl ?_
      refine j_mgeti C hM fl_Mo_91 ⟨by decide, rfl⟩ dX6_addShot_30 ?_
      refine j_bipush C dX6_addShot_33 (by decide) ?_
      refine j_icmp_ne (tgt := 42) C dX6_addShot_35 (by decide) (by unfold rg at *; omega) (by unfold rg at *; omega) (fun c35 => ?_) (fun c35 => ?_)
      · refine j_iconst C dX6_addShot_42 ?_
        refine J.lvs (lv' := [(0, .ref o), (1, .int (iN (f))), (2, .int (iN (a))), (3, .int (iN (b)))]) ?_ ?_
        · intro q hq; simp only [List.mem_cons, List.not_mem_nil, or_false] at hq; rcases hq with rfl | rfl | rfl | rfl <;> rfl
        · refine key _ _ (by clear I i1 i2 i3 i3e i4 i4e i5 i6 i7 i8 i10 i11; (try clear key); (try clear key2); (try clear ih); (try clear w5); (try clear w11); (try clear w2); (try clear w3); (try clear w4); (try clear w6); (try clear w7); (try clear w8); (try clear w9); (try clear p4); (try clear o4); (try simp only [decide_eq_true_eq, decide_eq_false_iff_not] at *); unfold x_addShot; (repeat' split) <;> first | rfl | omega | (simp_all; done) | (simp_all; omega)) hM
      · refine j_iconst C dX6_addShot_38 ?_
        refine j_goto (tgt := 43) C dX6_addShot_39 (by decide) ?_
        refine J.lvs (lv' := [(0, .ref o), (1, .int (iN (f))), (2, .int (iN (a))), (3, .int (iN (b)))]) ?_ ?_
        · intro q hq; simp only [List.mem_cons, List.not_mem_nil, or_false] at hq; rcases hq with rfl | rfl | rfl | rfl <;> rfl
        · refine key _ _ (by clear I i1 i2 i3 i3e i4 i4e i5 i6 i7 i8 i10 i11; (try clear key); (try clear key2); (try clear ih); (try clear w5); (try clear w11); (try clear w2); (try clear w3); (try clear w4); (try clear w6); (try clear w7); (try clear w8); (try clear w9); (try clear p4); (try clear o4); (try simp only [decide_eq_true_eq, decide_eq_false_iff_not] at *); unfold x_addShot; (repeat' split) <;> first | rfl | omega | (simp_all; done) | (simp_all; omega)) hM
    · try simp only [decide_eq_true_eq, decide_eq_false_iff_not] at c22
      refine j_iconst C dX6_addShot_25 ?_
      refine j_goto (tgt := 43) C dX6_addShot_26 (by decide) ?_
      refine J.lvs (lv' := [(0, .ref o), (1, .int (iN (f))), (2, .int (iN (a))), (3, .int (iN (b)))]) ?_ ?_
      · intro q hq; simp only [List.mem_cons, List.not_mem_nil, or_false] at hq; rcases hq with rfl | rfl | rfl | rfl <;> rfl
      · refine key _ _ (by clear I i1 i2 i3 i3e i4 i4e i5 i6 i7 i8 i10 i11; (try clear key); (try clear key2); (try clear ih); (try clear w5); (try clear w11); (try clear w2); (try clear w3); (try clear w4); (try clear w6); (try clear w7); (try clear w8); (try clear w9); (try clear p4); (try clear o4); (try simp only [decide_eq_true_eq, decide_eq_false_iff_not] at *); unfold x_addShot; (repeat' split) <;> first | rfl | omega | (simp_all; done) | (simp_all; omega)) hM
  · try simp only [decide_eq_true_eq, decide_eq_false_iff_not] at c10
    refine j_iconst C dX6_addShot_13 ?_
    refine j_goto (tgt := 43) C dX6_addShot_14 (by decide) ?_
    refine J.lvs (lv' := [(0, .ref o), (1, .int (iN (f))), (2, .int (iN (a))), (3, .int (iN (b)))]) ?_ ?_
    · intro q hq; simp only [List.mem_cons, List.not_mem_nil, or_false] at hq; rcases hq with rfl | rfl | rfl | rfl <;> rfl
    · refine key _ _ (by clear I i1 i2 i3 i3e i4 i4e i5 i6 i7 i8 i10 i11; (try clear key); (try clear key2); (try clear ih); (try clear w5); (try clear w11); (try clear w2); (try clear w3); (try clear w4); (try clear w6); (try clear w7); (try clear w8); (try clear w9); (try clear p4); (try clear o4); (try simp only [decide_eq_true_eq, decide_eq_false_iff_not] at *); unfold x_addShot; (repeat' split) <;> first | rfl | omega | (simp_all; done) | (simp_all; omega)) hM

set_option maxHeartbeats 4000000 in
set_option maxRecDepth 100000 in
theorem m_addReel (l : Launch) (hfl : l.stackTraces = false) {M : wM} {f : Int} (h_f : rg f) (I : Inv M) : MC l yX6_addReel cX6_addReel 2 (some FieldType.int) 4 [.int (iN f)] M (.inl (some (.int (iN (if x_addReel M f = 0 then v_addReel M f else 0))))) (n_addReel M f) := by
  intro S0 o B hM0
  refine Ct.of cal_X6_addReel hfl (Nat.le_of_ble_eq_true rfl) ?_
  intro p e s m args below meth c D sz C ME
  have hM : RMF S0 S0 o B M := ⟨hM0, mF.rf⟩
  have I9 := I
  obtain ⟨i1, i2, i3, i3e, i4, i4e, i5, i6, i7, i8, i10, i11⟩ := I9
  obtain ⟨a1, a2, a3, a4, a5, a6, a7⟩ := id i1
  have key : ∀ (x : Int) (S : wS), x = x_addReel M f → RMF S0 S o B M → J p l e { frames := 20 * 4, cells := 0, slots := 0, locals := 200 * 4 } s m args below meth c 2 D (wA S0 sz) (wQ below D sz S0 (fun r9 S9 => r9 = .inl (some (.int (iN (if x_addReel M f = 0 then v_addReel M f else 0)))) ∧ RMF S0 S9 o B (n_addReel M f)) args s 0 0) 27 [(0, .ref o), (1, .int (iN (f)))] [.int (iN x), .ref o] S 0 0 := by
    intro x S hx hM
    subst hx
    refine j_mcall C hM (c_goesOn l hfl (by unfold x_addReel; (repeat' split) <;> (unfold rg; omega))) cal_X6_goesOn vi_X6_goesOn rfl ml_Mo_103 rfl rfl (Nat.le_of_ble_eq_true rfl) ⟨by decide, by decide⟩ ⟨by omega, by omega⟩ dX6_addReel_27 (fun S hM => ?_)
    refine j_ifne_b (tgt := 35) C dX6_addReel_30 (by decide) (fun c30 => ?_) (fun c30 => ?_)
    · try simp only [decide_eq_true_eq, decide_eq_false_iff_not] at c30
      try simp only [decide_eq_true_eq, decide_eq_false_iff_not] at c30
      have ok : (0 ≤ f ∧ f < M 1 0) ∧ M 17 0 < 24 := by
        clear I i1 i2 i3 i3e i4 i4e i5 i6 i7 i8 i10 i11; (try clear key); (try clear key2); (try clear ih); (try clear w5); (try clear w11); (try clear w2); (try clear w3); (try clear w4); (try clear w6); (try clear w7); (try clear w8); (try clear w9); (try clear p4); (try clear o4); unfold x_addReel at c30
        (repeat' split at c30) <;> first | rfl | omega | (simp_all; done) | (simp_all; omega)
      
      refine j_aload_n C dX6_addReel_35 rfl ?_
      refine j_mgeta C hM fl_Mo_40 (by decide) dX6_addReel_36 ?_
      refine j_aload_n C dX6_addReel_39 rfl ?_
      refine j_mgeti C hM fl_Mo_94 ⟨by decide, rfl⟩ dX6_addReel_40 ?_
      refine j_iload_n C dX6_addReel_43 rfl ?_
      refine j_mast C hM (by decide) rfl (by simp [mup, mLen] <;> omega) dX6_addReel_44 (fun S hM => ?_)
      refine j_aload_n C dX6_addReel_45 rfl ?_
      refine j_dup C dX6_addReel_46 rfl ?_
      refine j_mgeti C hM fl_Mo_94 ⟨by decide, rfl⟩ dX6_addReel_47 ?_
      refine j_iconst C dX6_addReel_50 ?_
      refine j_iadd C dX6_addReel_51 ?_
      refine j_mputi C hM fl_Mo_94 ⟨by decide, rfl⟩ dX6_addReel_52 (fun S hM => ?_)
      refine j_aload_n C dX6_addReel_55 rfl ?_
      refine j_mgeti C hM fl_Mo_94 ⟨by decide, rfl⟩ dX6_addReel_56 ?_
      refine j_iconst C dX6_addReel_59 ?_
      refine j_isub C dX6_addReel_60 ?_
      refine j_iret C ME ?_ (by omega) (by omega) dX6_addReel_61
      refine ⟨rI ?_, ?_⟩
      · first
        | (rw [if_neg c30]; done)
        | (rw [if_pos c30]; unfold v_addReel; show M 17 0 + 1 - 1 = M 17 0; omega)
      · unfold n_addReel
        first
        | (rw [if_neg c30]; exact hM)
        | (rw [if_pos c30]; exact hM)
    · try simp only [decide_eq_true_eq, decide_eq_false_iff_not] at c30
      try simp only [decide_eq_true_eq, decide_eq_false_iff_not] at c30
      refine j_iconst C dX6_addReel_33 ?_
      refine j_iret C ME ?_ (by omega) (by omega) dX6_addReel_34
      refine ⟨rI ?_, ?_⟩
      · first
        | (rw [if_neg c30]; done)
        | (rw [if_pos c30]; unfold v_addReel; show M 17 0 + 1 - 1 = M 17 0; omega)
      · unfold n_addReel
        first
        | (rw [if_neg c30]; exact hM)
        | (rw [if_pos c30]; exact hM)
  refine j_aload_n C dX6_addReel_0 rfl ?_
  refine j_aload_n C dX6_addReel_1 rfl ?_
  refine j_iload_n C dX6_addReel_2 rfl ?_
  refine j_mcall C hM (c_isFilm l hfl (by unfold rg at *; omega) (by omega)) cal_X6_isFilm vi_X6_isFilm rfl ml_Mo_107 rfl rfl (Nat.le_of_ble_eq_true rfl) ⟨by decide, by decide⟩ ⟨by omega, by omega⟩ dX6_addReel_3 (fun S hM => ?_)
  refine j_ifne_b (tgt := 13) C dX6_addReel_6 (by decide) (fun c6 => ?_) (fun c6 => ?_)
  · try simp only [decide_eq_true_eq, decide_eq_false_iff_not] at c6
    refine j_aload_n C dX6_addReel_13 rfl ?_
    refine j_mgeti C hM fl_Mo_94 ⟨by decide, rfl⟩ dX6_addReel_14 ?_
    refine j_bipush C dX6_addReel_17 (by decide) ?_
    refine j_icmp_ne (tgt := 26) C dX6_addReel_19 (by decide) (by unfold rg at *; omega) (by unfold rg at *; omega) (fun c19 => ?_) (fun c19 => ?_)
    · refine j_iconst C dX6_addReel_26 ?_
      refine J.lvs (lv' := [(0, .ref o), (1, .int (iN (f)))]) ?_ ?_
      · intro q hq; simp only [List.mem_cons, List.not_mem_nil, or_false] at hq; rcases hq with rfl | rfl <;> rfl
      · refine key _ _ (by clear I i1 i2 i3 i3e i4 i4e i5 i6 i7 i8 i10 i11; (try clear key); (try clear key2); (try clear ih); (try clear w5); (try clear w11); (try clear w2); (try clear w3); (try clear w4); (try clear w6); (try clear w7); (try clear w8); (try clear w9); (try clear p4); (try clear o4); (try simp only [decide_eq_true_eq, decide_eq_false_iff_not] at *); unfold x_addReel; (repeat' split) <;> first | rfl | omega | (simp_all; done) | (simp_all; omega)) hM
    · refine j_iconst C dX6_addReel_22 ?_
      refine j_goto (tgt := 27) C dX6_addReel_23 (by decide) ?_
      refine J.lvs (lv' := [(0, .ref o), (1, .int (iN (f)))]) ?_ ?_
      · intro q hq; simp only [List.mem_cons, List.not_mem_nil, or_false] at hq; rcases hq with rfl | rfl <;> rfl
      · refine key _ _ (by clear I i1 i2 i3 i3e i4 i4e i5 i6 i7 i8 i10 i11; (try clear key); (try clear key2); (try clear ih); (try clear w5); (try clear w11); (try clear w2); (try clear w3); (try clear w4); (try clear w6); (try clear w7); (try clear w8); (try clear w9); (try clear p4); (try clear o4); (try simp only [decide_eq_true_eq, decide_eq_false_iff_not] at *); unfold x_addReel; (repeat' split) <;> first | rfl | omega | (simp_all; done) | (simp_all; omega)) hM
  · try simp only [decide_eq_true_eq, decide_eq_false_iff_not] at c6
    refine j_iconst C dX6_addReel_9 ?_
    refine j_goto (tgt := 27) C dX6_addReel_10 (by decide) ?_
    refine J.lvs (lv' := [(0, .ref o), (1, .int (iN (f)))]) ?_ ?_
    · intro q hq; simp only [List.mem_cons, List.not_mem_nil, or_false] at hq; rcases hq with rfl | rfl <;> rfl
    · refine key _ _ (by clear I i1 i2 i3 i3e i4 i4e i5 i6 i7 i8 i10 i11; (try clear key); (try clear key2); (try clear ih); (try clear w5); (try clear w11); (try clear w2); (try clear w3); (try clear w4); (try clear w6); (try clear w7); (try clear w8); (try clear w9); (try clear p4); (try clear o4); (try simp only [decide_eq_true_eq, decide_eq_false_iff_not] at *); unfold x_addReel; (repeat' split) <;> first | rfl | omega | (simp_all; done) | (simp_all; omega)) hM

set_option maxHeartbeats 4000000 in
set_option maxRecDepth 100000 in
theorem m_shots (l : Launch) (hfl : l.stackTraces = false) {M : wM} {f : Int} (h_f : rg f) (I : Inv M) : MC l yX6_shots cX6_shots 2 (some FieldType.int) 4 [.int (iN f)] M (.inl (some (.int (iN (if x_shots M f = 0 then v_shots M f else 0))))) (n_shots M f) := by
  intro S0 o B hM0
  refine Ct.of cal_X6_shots hfl (Nat.le_of_ble_eq_true rfl) ?_
  intro p e s m args below meth c D sz C ME
  have hM : RMF S0 S0 o B M := ⟨hM0, mF.rf⟩
  have I9 := I
  obtain ⟨i1, i2, i3, i3e, i4, i4e, i5, i6, i7, i8, i10, i11⟩ := I9
  obtain ⟨a1, a2, a3, a4, a5, a6, a7⟩ := id i1
  have key : ∀ (x : Int) (S : wS), x = x_shots M f → RMF S0 S o B M → J p l e { frames := 20 * 4, cells := 0, slots := 0, locals := 200 * 4 } s m args below meth c 2 D (wA S0 sz) (wQ below D sz S0 (fun r9 S9 => r9 = .inl (some (.int (iN (if x_shots M f = 0 then v_shots M f else 0)))) ∧ RMF S0 S9 o B (n_shots M f)) args s 0 0) 14 [(0, .ref o), (1, .int (iN (f)))] [.int (iN x), .ref o] S 0 0 := by
    intro x S hx hM
    subst hx
    refine j_mcall C hM (c_goesOn l hfl (by unfold x_shots; (repeat' split) <;> (unfold rg; omega))) cal_X6_goesOn vi_X6_goesOn rfl ml_Mo_103 rfl rfl (Nat.le_of_ble_eq_true rfl) ⟨by decide, by decide⟩ ⟨by omega, by omega⟩ dX6_shots_14 (fun S hM => ?_)
    refine j_ifeq_b (tgt := 29) C dX6_shots_17 (by decide) (fun c17 => ?_) (fun c17 => ?_)
    · try simp only [decide_eq_true_eq, decide_eq_false_iff_not] at c17
      try simp only [decide_eq_true_eq, decide_eq_false_iff_not] at c17
      refine j_iconst C dX6_shots_29 ?_
      refine j_iret C ME ?_ (by omega) (by omega) dX6_shots_30
      refine ⟨rI ?_, ?_⟩
      · first
        | (rw [if_neg c17]; done)
        | (rw [if_pos c17]; unfold v_shots; rfl)
      · unfold n_shots
        first
        | (rw [if_neg c17]; exact hM)
        | (rw [if_pos c17]; exact hM)
    · try simp only [decide_eq_true_eq, decide_eq_false_iff_not] at c17
      try simp only [decide_eq_true_eq, decide_eq_false_iff_not] at c17
      have ok : 0 ≤ f ∧ f < M 1 0 := by
        clear I i1 i2 i3 i3e i4 i4e i5 i6 i7 i8 i10 i11; (try clear key); (try clear key2); (try clear ih); (try clear w5); (try clear w11); (try clear w2); (try clear w3); (try clear w4); (try clear w6); (try clear w7); (try clear w8); (try clear w9); (try clear p4); (try clear o4); unfold x_shots at c17
        (repeat' split at c17) <;> first | rfl | omega | (simp_all; done) | (simp_all; omega)
      
      refine j_aload_n C dX6_shots_20 rfl ?_
      refine j_mgeta C hM fl_Mo_13 (by decide) dX6_shots_21 ?_
      refine j_iload_n C dX6_shots_24 rfl ?_
      refine j_mald C hM (by decide) rfl (by simp only [mLen]; omega) dX6_shots_25 ?_
      refine j_goto (tgt := 30) C dX6_shots_26 (by decide) ?_
      refine j_iret C ME ?_ (by omega) (by omega) dX6_shots_30
      refine ⟨rI ?_, ?_⟩
      · first
        | (rw [if_neg c17]; done)
        | (rw [if_pos c17]; unfold v_shots; rfl)
      · unfold n_shots
        first
        | (rw [if_neg c17]; exact hM)
        | (rw [if_pos c17]; exact hM)
  refine j_aload_n C dX6_shots_0 rfl ?_
  refine j_aload_n C dX6_shots_1 rfl ?_
  refine j_iload_n C dX6_shots_2 rfl ?_
  refine j_mcall C hM (c_isFilm l hfl (by unfold rg at *; omega) (by omega)) cal_X6_isFilm vi_X6_isFilm rfl ml_Mo_107 rfl rfl (Nat.le_of_ble_eq_true rfl) ⟨by decide, by decide⟩ ⟨by omega, by omega⟩ dX6_shots_3 (fun S hM => ?_)
  refine j_ifeq_b (tgt := 13) C dX6_shots_6 (by decide) (fun c6 => ?_) (fun c6 => ?_)
  · try simp only [decide_eq_true_eq, decide_eq_false_iff_not] at c6
    refine j_iconst C dX6_shots_13 ?_
    refine J.lvs (lv' := [(0, .ref o), (1, .int (iN (f)))]) ?_ ?_
    · intro q hq; simp only [List.mem_cons, List.not_mem_nil, or_false] at hq; rcases hq with rfl | rfl <;> rfl
    · refine key _ _ (by clear I i1 i2 i3 i3e i4 i4e i5 i6 i7 i8 i10 i11; (try clear key); (try clear key2); (try clear ih); (try clear w5); (try clear w11); (try clear w2); (try clear w3); (try clear w4); (try clear w6); (try clear w7); (try clear w8); (try clear w9); (try clear p4); (try clear o4); (try simp only [decide_eq_true_eq, decide_eq_false_iff_not] at *); unfold x_shots; (repeat' split) <;> first | rfl | omega | (simp_all; done) | (simp_all; omega)) hM
  · try simp only [decide_eq_true_eq, decide_eq_false_iff_not] at c6
    refine j_iconst C dX6_shots_9 ?_
    refine j_goto (tgt := 14) C dX6_shots_10 (by decide) ?_
    refine J.lvs (lv' := [(0, .ref o), (1, .int (iN (f)))]) ?_ ?_
    · intro q hq; simp only [List.mem_cons, List.not_mem_nil, or_false] at hq; rcases hq with rfl | rfl <;> rfl
    · refine key _ _ (by clear I i1 i2 i3 i3e i4 i4e i5 i6 i7 i8 i10 i11; (try clear key); (try clear key2); (try clear ih); (try clear w5); (try clear w11); (try clear w2); (try clear w3); (try clear w4); (try clear w6); (try clear w7); (try clear w8); (try clear w9); (try clear p4); (try clear o4); (try simp only [decide_eq_true_eq, decide_eq_false_iff_not] at *); unfold x_shots; (repeat' split) <;> first | rfl | omega | (simp_all; done) | (simp_all; omega)) hM

set_option maxHeartbeats 4000000 in
set_option maxRecDepth 100000 in
theorem m_lengthOf (l : Launch) (hfl : l.stackTraces = false) {M : wM} {z : Int} (h_z : rg z) (I : Inv M) : MC l yX6_lengthOf cX6_lengthOf 2 (some FieldType.int) 4 [.int (iN z)] M (.inl (some (.int (iN (if x_lengthOf M z = 0 then v_lengthOf M z else 0))))) (n_lengthOf M z) := by
  intro S0 o B hM0
  refine Ct.of cal_X6_lengthOf hfl (Nat.le_of_ble_eq_true rfl) ?_
  intro p e s m args below meth c D sz C ME
  have hM : RMF S0 S0 o B M := ⟨hM0, mF.rf⟩
  have I9 := I
  obtain ⟨i1, i2, i3, i3e, i4, i4e, i5, i6, i7, i8, i10, i11⟩ := I9
  obtain ⟨a1, a2, a3, a4, a5, a6, a7⟩ := id i1
  have key : ∀ (x : Int) (S : wS), x = x_lengthOf M z → RMF S0 S o B M → J p l e { frames := 20 * 4, cells := 0, slots := 0, locals := 200 * 4 } s m args below meth c 2 D (wA S0 sz) (wQ below D sz S0 (fun r9 S9 => r9 = .inl (some (.int (iN (if x_lengthOf M z = 0 then v_lengthOf M z else 0)))) ∧ RMF S0 S9 o B (n_lengthOf M z)) args s 0 0) 14 [(0, .ref o), (1, .int (iN (z)))] [.int (iN x), .ref o] S 0 0 := by
    intro x S hx hM
    subst hx
    refine j_mcall C hM (c_goesOn l hfl (by unfold x_lengthOf; (repeat' split) <;> (unfold rg; omega))) cal_X6_goesOn vi_X6_goesOn rfl ml_Mo_103 rfl rfl (Nat.le_of_ble_eq_true rfl) ⟨by decide, by decide⟩ ⟨by omega, by omega⟩ dX6_lengthOf_14 (fun S hM => ?_)
    refine j_ifeq_b (tgt := 29) C dX6_lengthOf_17 (by decide) (fun c17 => ?_) (fun c17 => ?_)
    · try simp only [decide_eq_true_eq, decide_eq_false_iff_not] at c17
      try simp only [decide_eq_true_eq, decide_eq_false_iff_not] at c17
      refine j_iconst C dX6_lengthOf_29 ?_
      refine j_iret C ME ?_ (by omega) (by omega) dX6_lengthOf_30
      refine ⟨rI ?_, ?_⟩
      · first
        | (rw [if_neg c17]; done)
        | (rw [if_pos c17]; unfold v_lengthOf; rfl)
      · unfold n_lengthOf
        first
        | (rw [if_neg c17]; exact hM)
        | (rw [if_pos c17]; exact hM)
    · try simp only [decide_eq_true_eq, decide_eq_false_iff_not] at c17
      try simp only [decide_eq_true_eq, decide_eq_false_iff_not] at c17
      have ok : 0 ≤ z ∧ z < M 12 0 := by
        clear I i1 i2 i3 i3e i4 i4e i5 i6 i7 i8 i10 i11; (try clear key); (try clear key2); (try clear ih); (try clear w5); (try clear w11); (try clear w2); (try clear w3); (try clear w4); (try clear w6); (try clear w7); (try clear w8); (try clear w9); (try clear p4); (try clear o4); unfold x_lengthOf at c17
        (repeat' split at c17) <;> first | rfl | omega | (simp_all; done) | (simp_all; omega)
      
      refine j_aload_n C dX6_lengthOf_20 rfl ?_
      refine j_mgeta C hM fl_Mo_19 (by decide) dX6_lengthOf_21 ?_
      refine j_iload_n C dX6_lengthOf_24 rfl ?_
      refine j_mald C hM (by decide) rfl (by simp only [mLen]; omega) dX6_lengthOf_25 ?_
      refine j_goto (tgt := 30) C dX6_lengthOf_26 (by decide) ?_
      refine j_iret C ME ?_ (by omega) (by omega) dX6_lengthOf_30
      refine ⟨rI ?_, ?_⟩
      · first
        | (rw [if_neg c17]; done)
        | (rw [if_pos c17]; unfold v_lengthOf; rfl)
      · unfold n_lengthOf
        first
        | (rw [if_neg c17]; exact hM)
        | (rw [if_pos c17]; exact hM)
  refine j_aload_n C dX6_lengthOf_0 rfl ?_
  refine j_aload_n C dX6_lengthOf_1 rfl ?_
  refine j_iload_n C dX6_lengthOf_2 rfl ?_
  refine j_mcall C hM (c_isShot l hfl (by unfold rg at *; omega) (by omega)) cal_X6_isShot vi_X6_isShot rfl ml_Mo_121 rfl rfl (Nat.le_of_ble_eq_true rfl) ⟨by decide, by decide⟩ ⟨by omega, by omega⟩ dX6_lengthOf_3 (fun S hM => ?_)
  refine j_ifeq_b (tgt := 13) C dX6_lengthOf_6 (by decide) (fun c6 => ?_) (fun c6 => ?_)
  · try simp only [decide_eq_true_eq, decide_eq_false_iff_not] at c6
    refine j_iconst C dX6_lengthOf_13 ?_
    refine J.lvs (lv' := [(0, .ref o), (1, .int (iN (z)))]) ?_ ?_
    · intro q hq; simp only [List.mem_cons, List.not_mem_nil, or_false] at hq; rcases hq with rfl | rfl <;> rfl
    · refine key _ _ (by clear I i1 i2 i3 i3e i4 i4e i5 i6 i7 i8 i10 i11; (try clear key); (try clear key2); (try clear ih); (try clear w5); (try clear w11); (try clear w2); (try clear w3); (try clear w4); (try clear w6); (try clear w7); (try clear w8); (try clear w9); (try clear p4); (try clear o4); (try simp only [decide_eq_true_eq, decide_eq_false_iff_not] at *); unfold x_lengthOf; (repeat' split) <;> first | rfl | omega | (simp_all; done) | (simp_all; omega)) hM
  · try simp only [decide_eq_true_eq, decide_eq_false_iff_not] at c6
    refine j_iconst C dX6_lengthOf_9 ?_
    refine j_goto (tgt := 14) C dX6_lengthOf_10 (by decide) ?_
    refine J.lvs (lv' := [(0, .ref o), (1, .int (iN (z)))]) ?_ ?_
    · intro q hq; simp only [List.mem_cons, List.not_mem_nil, or_false] at hq; rcases hq with rfl | rfl <;> rfl
    · refine key _ _ (by clear I i1 i2 i3 i3e i4 i4e i5 i6 i7 i8 i10 i11; (try clear key); (try clear key2); (try clear ih); (try clear w5); (try clear w11); (try clear w2); (try clear w3); (try clear w4); (try clear w6); (try clear w7); (try clear w8); (try clear w9); (try clear p4); (try clear o4); (try simp only [decide_eq_true_eq, decide_eq_false_iff_not] at *); unfold x_lengthOf; (repeat' split) <;> first | rfl | omega | (simp_all; done) | (simp_all; omega)) hM

set_option maxHeartbeats 4000000 in
set_option maxRecDepth 100000 in
theorem m_reelOf (l : Launch) (hfl : l.stackTraces = false) {M : wM} {z : Int} (h_z : rg z) (I : Inv M) : MC l yX6_reelOf cX6_reelOf 2 (some FieldType.int) 4 [.int (iN z)] M (.inl (some (.int (iN (if x_reelOf M z = 0 then v_reelOf M z else 0))))) (n_reelOf M z) := by
  intro S0 o B hM0
  refine Ct.of cal_X6_reelOf hfl (Nat.le_of_ble_eq_true rfl) ?_
  intro p e s m args below meth c D sz C ME
  have hM : RMF S0 S0 o B M := ⟨hM0, mF.rf⟩
  have I9 := I
  obtain ⟨i1, i2, i3, i3e, i4, i4e, i5, i6, i7, i8, i10, i11⟩ := I9
  obtain ⟨a1, a2, a3, a4, a5, a6, a7⟩ := id i1
  have key : ∀ (x : Int) (S : wS), x = x_reelOf M z → RMF S0 S o B M → J p l e { frames := 20 * 4, cells := 0, slots := 0, locals := 200 * 4 } s m args below meth c 2 D (wA S0 sz) (wQ below D sz S0 (fun r9 S9 => r9 = .inl (some (.int (iN (if x_reelOf M z = 0 then v_reelOf M z else 0)))) ∧ RMF S0 S9 o B (n_reelOf M z)) args s 0 0) 14 [(0, .ref o), (1, .int (iN (z)))] [.int (iN x), .ref o] S 0 0 := by
    intro x S hx hM
    subst hx
    refine j_mcall C hM (c_goesOn l hfl (by unfold x_reelOf; (repeat' split) <;> (unfold rg; omega))) cal_X6_goesOn vi_X6_goesOn rfl ml_Mo_103 rfl rfl (Nat.le_of_ble_eq_true rfl) ⟨by decide, by decide⟩ ⟨by omega, by omega⟩ dX6_reelOf_14 (fun S hM => ?_)
    refine j_ifeq_b (tgt := 29) C dX6_reelOf_17 (by decide) (fun c17 => ?_) (fun c17 => ?_)
    · try simp only [decide_eq_true_eq, decide_eq_false_iff_not] at c17
      try simp only [decide_eq_true_eq, decide_eq_false_iff_not] at c17
      refine j_iconst C dX6_reelOf_29 ?_
      refine j_iret C ME ?_ (by omega) (by omega) dX6_reelOf_30
      refine ⟨rI ?_, ?_⟩
      · first
        | (rw [if_neg c17]; done)
        | (rw [if_pos c17]; unfold v_reelOf; rfl)
      · unfold n_reelOf
        first
        | (rw [if_neg c17]; exact hM)
        | (rw [if_pos c17]; exact hM)
    · try simp only [decide_eq_true_eq, decide_eq_false_iff_not] at c17
      try simp only [decide_eq_true_eq, decide_eq_false_iff_not] at c17
      have ok : 0 ≤ z ∧ z < M 12 0 := by
        clear I i1 i2 i3 i3e i4 i4e i5 i6 i7 i8 i10 i11; (try clear key); (try clear key2); (try clear ih); (try clear w5); (try clear w11); (try clear w2); (try clear w3); (try clear w4); (try clear w6); (try clear w7); (try clear w8); (try clear w9); (try clear p4); (try clear o4); unfold x_reelOf at c17
        (repeat' split at c17) <;> first | rfl | omega | (simp_all; done) | (simp_all; omega)
      
      refine j_aload_n C dX6_reelOf_20 rfl ?_
      refine j_mgeta C hM fl_Mo_25 (by decide) dX6_reelOf_21 ?_
      refine j_iload_n C dX6_reelOf_24 rfl ?_
      refine j_mald C hM (by decide) rfl (by simp only [mLen]; omega) dX6_reelOf_25 ?_
      refine j_goto (tgt := 30) C dX6_reelOf_26 (by decide) ?_
      refine j_iret C ME ?_ (by omega) (by omega) dX6_reelOf_30
      refine ⟨rI ?_, ?_⟩
      · first
        | (rw [if_neg c17]; done)
        | (rw [if_pos c17]; unfold v_reelOf; rfl)
      · unfold n_reelOf
        first
        | (rw [if_neg c17]; exact hM)
        | (rw [if_pos c17]; exact hM)
  refine j_aload_n C dX6_reelOf_0 rfl ?_
  refine j_aload_n C dX6_reelOf_1 rfl ?_
  refine j_iload_n C dX6_reelOf_2 rfl ?_
  refine j_mcall C hM (c_isShot l hfl (by unfold rg at *; omega) (by omega)) cal_X6_isShot vi_X6_isShot rfl ml_Mo_121 rfl rfl (Nat.le_of_ble_eq_true rfl) ⟨by decide, by decide⟩ ⟨by omega, by omega⟩ dX6_reelOf_3 (fun S hM => ?_)
  refine j_ifeq_b (tgt := 13) C dX6_reelOf_6 (by decide) (fun c6 => ?_) (fun c6 => ?_)
  · try simp only [decide_eq_true_eq, decide_eq_false_iff_not] at c6
    refine j_iconst C dX6_reelOf_13 ?_
    refine J.lvs (lv' := [(0, .ref o), (1, .int (iN (z)))]) ?_ ?_
    · intro q hq; simp only [List.mem_cons, List.not_mem_nil, or_false] at hq; rcases hq with rfl | rfl <;> rfl
    · refine key _ _ (by clear I i1 i2 i3 i3e i4 i4e i5 i6 i7 i8 i10 i11; (try clear key); (try clear key2); (try clear ih); (try clear w5); (try clear w11); (try clear w2); (try clear w3); (try clear w4); (try clear w6); (try clear w7); (try clear w8); (try clear w9); (try clear p4); (try clear o4); (try simp only [decide_eq_true_eq, decide_eq_false_iff_not] at *); unfold x_reelOf; (repeat' split) <;> first | rfl | omega | (simp_all; done) | (simp_all; omega)) hM
  · try simp only [decide_eq_true_eq, decide_eq_false_iff_not] at c6
    refine j_iconst C dX6_reelOf_9 ?_
    refine j_goto (tgt := 14) C dX6_reelOf_10 (by decide) ?_
    refine J.lvs (lv' := [(0, .ref o), (1, .int (iN (z)))]) ?_ ?_
    · intro q hq; simp only [List.mem_cons, List.not_mem_nil, or_false] at hq; rcases hq with rfl | rfl <;> rfl
    · refine key _ _ (by clear I i1 i2 i3 i3e i4 i4e i5 i6 i7 i8 i10 i11; (try clear key); (try clear key2); (try clear ih); (try clear w5); (try clear w11); (try clear w2); (try clear w3); (try clear w4); (try clear w6); (try clear w7); (try clear w8); (try clear w9); (try clear p4); (try clear o4); (try simp only [decide_eq_true_eq, decide_eq_false_iff_not] at *); unfold x_reelOf; (repeat' split) <;> first | rfl | omega | (simp_all; done) | (simp_all; omega)) hM

set_option maxHeartbeats 4000000 in
set_option maxRecDepth 100000 in
theorem m_scanned (l : Launch) (hfl : l.stackTraces = false) {M : wM} {z : Int} (h_z : rg z) (I : Inv M) : MC l yX6_scanned cX6_scanned 2 (some FieldType.int) 4 [.int (iN z)] M (.inl (some (.int (iN (if x_scanned M z = 0 then v_scanned M z else 0))))) (n_scanned M z) := by
  intro S0 o B hM0
  refine Ct.of cal_X6_scanned hfl (Nat.le_of_ble_eq_true rfl) ?_
  intro p e s m args below meth c D sz C ME
  have hM : RMF S0 S0 o B M := ⟨hM0, mF.rf⟩
  have I9 := I
  obtain ⟨i1, i2, i3, i3e, i4, i4e, i5, i6, i7, i8, i10, i11⟩ := I9
  obtain ⟨a1, a2, a3, a4, a5, a6, a7⟩ := id i1
  have key : ∀ (x : Int) (S : wS), x = x_scanned M z → RMF S0 S o B M → J p l e { frames := 20 * 4, cells := 0, slots := 0, locals := 200 * 4 } s m args below meth c 2 D (wA S0 sz) (wQ below D sz S0 (fun r9 S9 => r9 = .inl (some (.int (iN (if x_scanned M z = 0 then v_scanned M z else 0)))) ∧ RMF S0 S9 o B (n_scanned M z)) args s 0 0) 14 [(0, .ref o), (1, .int (iN (z)))] [.int (iN x), .ref o] S 0 0 := by
    intro x S hx hM
    subst hx
    refine j_mcall C hM (c_goesOn l hfl (by unfold x_scanned; (repeat' split) <;> (unfold rg; omega))) cal_X6_goesOn vi_X6_goesOn rfl ml_Mo_103 rfl rfl (Nat.le_of_ble_eq_true rfl) ⟨by decide, by decide⟩ ⟨by omega, by omega⟩ dX6_scanned_14 (fun S hM => ?_)
    refine j_ifeq_b (tgt := 29) C dX6_scanned_17 (by decide) (fun c17 => ?_) (fun c17 => ?_)
    · try simp only [decide_eq_true_eq, decide_eq_false_iff_not] at c17
      try simp only [decide_eq_true_eq, decide_eq_false_iff_not] at c17
      refine j_iconst C dX6_scanned_29 ?_
      refine j_iret C ME ?_ (by omega) (by omega) dX6_scanned_30
      refine ⟨rI ?_, ?_⟩
      · first
        | (rw [if_neg c17]; done)
        | (rw [if_pos c17]; unfold v_scanned; rfl)
      · unfold n_scanned
        first
        | (rw [if_neg c17]; exact hM)
        | (rw [if_pos c17]; exact hM)
    · try simp only [decide_eq_true_eq, decide_eq_false_iff_not] at c17
      try simp only [decide_eq_true_eq, decide_eq_false_iff_not] at c17
      have ok : 0 ≤ z ∧ z < M 12 0 := by
        clear I i1 i2 i3 i3e i4 i4e i5 i6 i7 i8 i10 i11; (try clear key); (try clear key2); (try clear ih); (try clear w5); (try clear w11); (try clear w2); (try clear w3); (try clear w4); (try clear w6); (try clear w7); (try clear w8); (try clear w9); (try clear p4); (try clear o4); unfold x_scanned at c17
        (repeat' split at c17) <;> first | rfl | omega | (simp_all; done) | (simp_all; omega)
      
      refine j_aload_n C dX6_scanned_20 rfl ?_
      refine j_mgeta C hM fl_Mo_28 (by decide) dX6_scanned_21 ?_
      refine j_iload_n C dX6_scanned_24 rfl ?_
      refine j_mald C hM (by decide) rfl (by simp only [mLen]; omega) dX6_scanned_25 ?_
      refine j_goto (tgt := 30) C dX6_scanned_26 (by decide) ?_
      refine j_iret C ME ?_ (by omega) (by omega) dX6_scanned_30
      refine ⟨rI ?_, ?_⟩
      · first
        | (rw [if_neg c17]; done)
        | (rw [if_pos c17]; unfold v_scanned; rfl)
      · unfold n_scanned
        first
        | (rw [if_neg c17]; exact hM)
        | (rw [if_pos c17]; exact hM)
  refine j_aload_n C dX6_scanned_0 rfl ?_
  refine j_aload_n C dX6_scanned_1 rfl ?_
  refine j_iload_n C dX6_scanned_2 rfl ?_
  refine j_mcall C hM (c_isShot l hfl (by unfold rg at *; omega) (by omega)) cal_X6_isShot vi_X6_isShot rfl ml_Mo_121 rfl rfl (Nat.le_of_ble_eq_true rfl) ⟨by decide, by decide⟩ ⟨by omega, by omega⟩ dX6_scanned_3 (fun S hM => ?_)
  refine j_ifeq_b (tgt := 13) C dX6_scanned_6 (by decide) (fun c6 => ?_) (fun c6 => ?_)
  · try simp only [decide_eq_true_eq, decide_eq_false_iff_not] at c6
    refine j_iconst C dX6_scanned_13 ?_
    refine J.lvs (lv' := [(0, .ref o), (1, .int (iN (z)))]) ?_ ?_
    · intro q hq; simp only [List.mem_cons, List.not_mem_nil, or_false] at hq; rcases hq with rfl | rfl <;> rfl
    · refine key _ _ (by clear I i1 i2 i3 i3e i4 i4e i5 i6 i7 i8 i10 i11; (try clear key); (try clear key2); (try clear ih); (try clear w5); (try clear w11); (try clear w2); (try clear w3); (try clear w4); (try clear w6); (try clear w7); (try clear w8); (try clear w9); (try clear p4); (try clear o4); (try simp only [decide_eq_true_eq, decide_eq_false_iff_not] at *); unfold x_scanned; (repeat' split) <;> first | rfl | omega | (simp_all; done) | (simp_all; omega)) hM
  · try simp only [decide_eq_true_eq, decide_eq_false_iff_not] at c6
    refine j_iconst C dX6_scanned_9 ?_
    refine j_goto (tgt := 14) C dX6_scanned_10 (by decide) ?_
    refine J.lvs (lv' := [(0, .ref o), (1, .int (iN (z)))]) ?_ ?_
    · intro q hq; simp only [List.mem_cons, List.not_mem_nil, or_false] at hq; rcases hq with rfl | rfl <;> rfl
    · refine key _ _ (by clear I i1 i2 i3 i3e i4 i4e i5 i6 i7 i8 i10 i11; (try clear key); (try clear key2); (try clear ih); (try clear w5); (try clear w11); (try clear w2); (try clear w3); (try clear w4); (try clear w6); (try clear w7); (try clear w8); (try clear w9); (try clear p4); (try clear o4); (try simp only [decide_eq_true_eq, decide_eq_false_iff_not] at *); unfold x_scanned; (repeat' split) <;> first | rfl | omega | (simp_all; done) | (simp_all; omega)) hM

set_option maxHeartbeats 4000000 in
set_option maxRecDepth 100000 in
theorem m_missed (l : Launch) (hfl : l.stackTraces = false) {M : wM} {z : Int} (h_z : rg z) (I : Inv M) : MC l yX6_missed cX6_missed 2 (some FieldType.int) 4 [.int (iN z)] M (.inl (some (.int (iN (if x_missed M z = 0 then v_missed M z else 0))))) (n_missed M z) := by
  intro S0 o B hM0
  refine Ct.of cal_X6_missed hfl (Nat.le_of_ble_eq_true rfl) ?_
  intro p e s m args below meth c D sz C ME
  have hM : RMF S0 S0 o B M := ⟨hM0, mF.rf⟩
  have I9 := I
  obtain ⟨i1, i2, i3, i3e, i4, i4e, i5, i6, i7, i8, i10, i11⟩ := I9
  obtain ⟨a1, a2, a3, a4, a5, a6, a7⟩ := id i1
  have key : ∀ (x : Int) (S : wS), x = x_missed M z → RMF S0 S o B M → J p l e { frames := 20 * 4, cells := 0, slots := 0, locals := 200 * 4 } s m args below meth c 2 D (wA S0 sz) (wQ below D sz S0 (fun r9 S9 => r9 = .inl (some (.int (iN (if x_missed M z = 0 then v_missed M z else 0)))) ∧ RMF S0 S9 o B (n_missed M z)) args s 0 0) 14 [(0, .ref o), (1, .int (iN (z)))] [.int (iN x), .ref o] S 0 0 := by
    intro x S hx hM
    subst hx
    refine j_mcall C hM (c_goesOn l hfl (by unfold x_missed; (repeat' split) <;> (unfold rg; omega))) cal_X6_goesOn vi_X6_goesOn rfl ml_Mo_103 rfl rfl (Nat.le_of_ble_eq_true rfl) ⟨by decide, by decide⟩ ⟨by omega, by omega⟩ dX6_missed_14 (fun S hM => ?_)
    refine j_ifeq_b (tgt := 29) C dX6_missed_17 (by decide) (fun c17 => ?_) (fun c17 => ?_)
    · try simp only [decide_eq_true_eq, decide_eq_false_iff_not] at c17
      try simp only [decide_eq_true_eq, decide_eq_false_iff_not] at c17
      refine j_iconst C dX6_missed_29 ?_
      refine j_iret C ME ?_ (by omega) (by omega) dX6_missed_30
      refine ⟨rI ?_, ?_⟩
      · first
        | (rw [if_neg c17]; done)
        | (rw [if_pos c17]; unfold v_missed; rfl)
      · unfold n_missed
        first
        | (rw [if_neg c17]; exact hM)
        | (rw [if_pos c17]; exact hM)
    · try simp only [decide_eq_true_eq, decide_eq_false_iff_not] at c17
      try simp only [decide_eq_true_eq, decide_eq_false_iff_not] at c17
      have ok : 0 ≤ z ∧ z < M 12 0 := by
        clear I i1 i2 i3 i3e i4 i4e i5 i6 i7 i8 i10 i11; (try clear key); (try clear key2); (try clear ih); (try clear w5); (try clear w11); (try clear w2); (try clear w3); (try clear w4); (try clear w6); (try clear w7); (try clear w8); (try clear w9); (try clear p4); (try clear o4); unfold x_missed at c17
        (repeat' split at c17) <;> first | rfl | omega | (simp_all; done) | (simp_all; omega)
      
      refine j_aload_n C dX6_missed_20 rfl ?_
      refine j_mgeta C hM fl_Mo_31 (by decide) dX6_missed_21 ?_
      refine j_iload_n C dX6_missed_24 rfl ?_
      refine j_mald C hM (by decide) rfl (by simp only [mLen]; omega) dX6_missed_25 ?_
      refine j_goto (tgt := 30) C dX6_missed_26 (by decide) ?_
      refine j_iret C ME ?_ (by omega) (by omega) dX6_missed_30
      refine ⟨rI ?_, ?_⟩
      · first
        | (rw [if_neg c17]; done)
        | (rw [if_pos c17]; unfold v_missed; rfl)
      · unfold n_missed
        first
        | (rw [if_neg c17]; exact hM)
        | (rw [if_pos c17]; exact hM)
  refine j_aload_n C dX6_missed_0 rfl ?_
  refine j_aload_n C dX6_missed_1 rfl ?_
  refine j_iload_n C dX6_missed_2 rfl ?_
  refine j_mcall C hM (c_isShot l hfl (by unfold rg at *; omega) (by omega)) cal_X6_isShot vi_X6_isShot rfl ml_Mo_121 rfl rfl (Nat.le_of_ble_eq_true rfl) ⟨by decide, by decide⟩ ⟨by omega, by omega⟩ dX6_missed_3 (fun S hM => ?_)
  refine j_ifeq_b (tgt := 13) C dX6_missed_6 (by decide) (fun c6 => ?_) (fun c6 => ?_)
  · try simp only [decide_eq_true_eq, decide_eq_false_iff_not] at c6
    refine j_iconst C dX6_missed_13 ?_
    refine J.lvs (lv' := [(0, .ref o), (1, .int (iN (z)))]) ?_ ?_
    · intro q hq; simp only [List.mem_cons, List.not_mem_nil, or_false] at hq; rcases hq with rfl | rfl <;> rfl
    · refine key _ _ (by clear I i1 i2 i3 i3e i4 i4e i5 i6 i7 i8 i10 i11; (try clear key); (try clear key2); (try clear ih); (try clear w5); (try clear w11); (try clear w2); (try clear w3); (try clear w4); (try clear w6); (try clear w7); (try clear w8); (try clear w9); (try clear p4); (try clear o4); (try simp only [decide_eq_true_eq, decide_eq_false_iff_not] at *); unfold x_missed; (repeat' split) <;> first | rfl | omega | (simp_all; done) | (simp_all; omega)) hM
  · try simp only [decide_eq_true_eq, decide_eq_false_iff_not] at c6
    refine j_iconst C dX6_missed_9 ?_
    refine j_goto (tgt := 14) C dX6_missed_10 (by decide) ?_
    refine J.lvs (lv' := [(0, .ref o), (1, .int (iN (z)))]) ?_ ?_
    · intro q hq; simp only [List.mem_cons, List.not_mem_nil, or_false] at hq; rcases hq with rfl | rfl <;> rfl
    · refine key _ _ (by clear I i1 i2 i3 i3e i4 i4e i5 i6 i7 i8 i10 i11; (try clear key); (try clear key2); (try clear ih); (try clear w5); (try clear w11); (try clear w2); (try clear w3); (try clear w4); (try clear w6); (try clear w7); (try clear w8); (try clear w9); (try clear p4); (try clear o4); (try simp only [decide_eq_true_eq, decide_eq_false_iff_not] at *); unfold x_missed; (repeat' split) <;> first | rfl | omega | (simp_all; done) | (simp_all; omega)) hM

set_option maxHeartbeats 4000000 in
set_option maxRecDepth 100000 in
theorem m_shotOf (l : Launch) (hfl : l.stackTraces = false) {M : wM} {f z : Int} (h_f : rg f)  (h_z : rg z) (I : Inv M) : MC l yX6_shotOf cX6_shotOf 4 (some FieldType.int) 4 [.int (iN f), .int (iN z)] M (.inl (some (.int (iN (if x_shotOf M f z = 0 then v_shotOf M f z else 0))))) (n_shotOf M f z) := by
  intro S0 o B hM0
  refine Ct.of cal_X6_shotOf hfl (Nat.le_of_ble_eq_true rfl) ?_
  intro p e s m args below meth c D sz C ME
  have hM : RMF S0 S0 o B M := ⟨hM0, mF.rf⟩
  have I9 := I
  obtain ⟨i1, i2, i3, i3e, i4, i4e, i5, i6, i7, i8, i10, i11⟩ := I9
  obtain ⟨a1, a2, a3, a4, a5, a6, a7⟩ := id i1
  have key : ∀ (x : Int) (S : wS), x = x_shotOf M f z → RMF S0 S o B M → J p l e { frames := 20 * 4, cells := 0, slots := 0, locals := 200 * 4 } s m args below meth c 4 D (wA S0 sz) (wQ below D sz S0 (fun r9 S9 => r9 = .inl (some (.int (iN (if x_shotOf M f z = 0 then v_shotOf M f z else 0)))) ∧ RMF S0 S9 o B (n_shotOf M f z)) args s 0 0) 40 [(0, .ref o), (1, .int (iN (f))), (2, .int (iN (z)))] [.int (iN x), .ref o] S 0 0 := by
    intro x S hx hM
    subst hx
    refine j_mcall C hM (c_goesOn l hfl (by unfold x_shotOf; (repeat' split) <;> (unfold rg; omega))) cal_X6_goesOn vi_X6_goesOn rfl ml_Mo_103 rfl rfl (Nat.le_of_ble_eq_true rfl) ⟨by decide, by decide⟩ ⟨by omega, by omega⟩ dX6_shotOf_40 (fun S hM => ?_)
    refine j_ifeq_b (tgt := 60) C dX6_shotOf_43 (by decide) (fun c43 => ?_) (fun c43 => ?_)
    · try simp only [decide_eq_true_eq, decide_eq_false_iff_not] at c43
      try simp only [decide_eq_true_eq, decide_eq_false_iff_not] at c43
      refine j_iconst C dX6_shotOf_60 ?_
      refine j_iret C ME ?_ (by omega) (by omega) dX6_shotOf_61
      refine ⟨rI ?_, ?_⟩
      · first
        | (rw [if_neg c43]; done)
        | (rw [if_pos c43]; unfold v_shotOf; rfl)
      · unfold n_shotOf
        first
        | (rw [if_neg c43]; exact hM)
        | (rw [if_pos c43]; exact hM)
    · try simp only [decide_eq_true_eq, decide_eq_false_iff_not] at c43
      try simp only [decide_eq_true_eq, decide_eq_false_iff_not] at c43
      have ok : (0 ≤ f ∧ f < M 1 0) ∧ 0 ≤ z ∧ z < M 3 f := by
        clear I i1 i2 i3 i3e i4 i4e i5 i6 i7 i8 i10 i11; (try clear key); (try clear key2); (try clear ih); (try clear w5); (try clear w11); (try clear w2); (try clear w3); (try clear w4); (try clear w6); (try clear w7); (try clear w8); (try clear w9); (try clear p4); (try clear o4); unfold x_shotOf at c43
        (repeat' split at c43) <;> first | rfl | omega | (simp_all; done) | (simp_all; omega)
      have w3 := i3 f (by omega) (by omega)
      refine j_aload_n C dX6_shotOf_46 rfl ?_
      refine j_mgeta C hM fl_Mo_7 (by decide) dX6_shotOf_47 ?_
      refine j_bipush C dX6_shotOf_50 (by decide) ?_
      refine j_iload_n C dX6_shotOf_52 rfl ?_
      refine j_imul C dX6_shotOf_53 ?_
      refine j_iload_n C dX6_shotOf_54 rfl ?_
      refine j_iadd C dX6_shotOf_55 ?_
      refine j_mald C hM (by decide) rfl (by simp only [mLen]; omega) dX6_shotOf_56 ?_
      refine j_goto (tgt := 61) C dX6_shotOf_57 (by decide) ?_
      refine j_iret C ME ?_ (by omega) (by omega) dX6_shotOf_61
      refine ⟨rI ?_, ?_⟩
      · first
        | (rw [if_neg c43]; done)
        | (rw [if_pos c43]; unfold v_shotOf; rfl)
      · unfold n_shotOf
        first
        | (rw [if_neg c43]; exact hM)
        | (rw [if_pos c43]; exact hM)
  refine j_aload_n C dX6_shotOf_0 rfl ?_
  refine j_iload_n C dX6_shotOf_1 rfl ?_
  refine j_mcall C hM (c_isFilm l hfl (by unfold rg at *; omega) (by omega)) cal_X6_isFilm vi_X6_isFilm rfl ml_Mo_107 rfl rfl (Nat.le_of_ble_eq_true rfl) ⟨by decide, by decide⟩ ⟨by omega, by omega⟩ dX6_shotOf_2 (fun S hM => ?_)
  refine j_ifeq_b (tgt := 28) C dX6_shotOf_5 (by decide) (fun c5 => ?_) (fun c5 => ?_)
  · try simp only [decide_eq_true_eq, decide_eq_false_iff_not] at c5
    refine j_iconst C dX6_shotOf_28 ?_
    refine j_istore_n C dX6_shotOf_29 (by decide) ?_
    refine j_aload_n C dX6_shotOf_30 rfl ?_
    refine j_iload_n C dX6_shotOf_31 rfl ?_
    refine j_if_eq (tgt := 39) C dX6_shotOf_32 (by decide) (by unfold rg at *; omega) (fun c32 => ?_) (fun c32 => ?_)
    · refine j_iconst C dX6_shotOf_39 ?_
      refine J.lvs (lv' := [(0, .ref o), (1, .int (iN (f))), (2, .int (iN (z)))]) ?_ ?_
      · intro q hq; simp only [List.mem_cons, List.not_mem_nil, or_false] at hq; rcases hq with rfl | rfl | rfl <;> rfl
      · refine key _ _ (by clear I i1 i2 i3 i3e i4 i4e i5 i6 i7 i8 i10 i11; (try clear key); (try clear key2); (try clear ih); (try clear w5); (try clear w11); (try clear w2); (try clear w3); (try clear w4); (try clear w6); (try clear w7); (try clear w8); (try clear w9); (try clear p4); (try clear o4); (try simp only [decide_eq_true_eq, decide_eq_false_iff_not] at *); unfold x_shotOf; (repeat' split) <;> first | rfl | omega | (simp_all; done) | (simp_all; omega)) hM
    · exact absurd c32 (by decide)
  · try simp only [decide_eq_true_eq, decide_eq_false_iff_not] at c5
    have w3 := i3 f (by omega) (by omega)
    refine j_iload_n C dX6_shotOf_8 rfl ?_
    refine j_iconst C dX6_shotOf_9 ?_
    refine j_aload_n C dX6_shotOf_10 rfl ?_
    refine j_mgeta C hM fl_Mo_13 (by decide) dX6_shotOf_11 ?_
    refine j_iload_n C dX6_shotOf_14 rfl ?_
    refine j_mald C hM (by decide) rfl (by simp only [mLen]; omega) dX6_shotOf_15 ?_
    refine j_iconst C dX6_shotOf_16 ?_
    refine j_isub C dX6_shotOf_17 ?_
    refine j_callS C (c_in l hfl (by unfold rg at *; omega) (by unfold rg; omega) (by unfold rg; omega)) cal_X6_in st_X6_in ml_Mo_87 rfl rfl (Nat.le_of_ble_eq_true rfl) ⟨by decide, by decide⟩ ⟨by omega, by omega⟩ dX6_shotOf_18 (fun E S9 h => nomatch h.1) (fun v9 S9 h => ?_)
    obtain ⟨h, rfl⟩ := h
    cases h
    refine j_ifeq_b (tgt := 28) C dX6_shotOf_21 (by decide) (fun c21 => ?_) (fun c21 => ?_)
    · try simp only [decide_eq_true_eq, decide_eq_false_iff_not] at c21
      refine j_iconst C dX6_shotOf_28 ?_
      refine j_istore_n C dX6_shotOf_29 (by decide) ?_
      refine j_aload_n C dX6_shotOf_30 rfl ?_
      refine j_iload_n C dX6_shotOf_31 rfl ?_
      refine j_if_eq (tgt := 39) C dX6_shotOf_32 (by decide) (by unfold rg at *; omega) (fun c32 => ?_) (fun c32 => ?_)
      · refine j_iconst C dX6_shotOf_39 ?_
        refine J.lvs (lv' := [(0, .ref o), (1, .int (iN (f))), (2, .int (iN (z)))]) ?_ ?_
        · intro q hq; simp only [List.mem_cons, List.not_mem_nil, or_false] at hq; rcases hq with rfl | rfl | rfl <;> rfl
        · refine key _ _ (by clear I i1 i2 i3 i3e i4 i4e i5 i6 i7 i8 i10 i11; (try clear key); (try clear key2); (try clear ih); (try clear w5); (try clear w11); (try clear w2); (try clear w3); (try clear w4); (try clear w6); (try clear w7); (try clear w8); (try clear w9); (try clear p4); (try clear o4); (try simp only [decide_eq_true_eq, decide_eq_false_iff_not] at *); unfold x_shotOf; (repeat' split) <;> first | rfl | omega | (simp_all; done) | (simp_all; omega)) hM
      · exact absurd c32 (by decide)
    · try simp only [decide_eq_true_eq, decide_eq_false_iff_not] at c21
      refine j_iconst C dX6_shotOf_24 ?_
      refine j_goto (tgt := 29) C dX6_shotOf_25 (by decide) ?_
      refine j_istore_n C dX6_shotOf_29 (by decide) ?_
      refine j_aload_n C dX6_shotOf_30 rfl ?_
      refine j_iload_n C dX6_shotOf_31 rfl ?_
      refine j_if_eq (tgt := 39) C dX6_shotOf_32 (by decide) (by unfold rg at *; omega) (fun c32 => ?_) (fun c32 => ?_)
      · exact absurd c32 (by decide)
      · refine j_iconst C dX6_shotOf_35 ?_
        refine j_goto (tgt := 40) C dX6_shotOf_36 (by decide) ?_
        refine J.lvs (lv' := [(0, .ref o), (1, .int (iN (f))), (2, .int (iN (z)))]) ?_ ?_
        · intro q hq; simp only [List.mem_cons, List.not_mem_nil, or_false] at hq; rcases hq with rfl | rfl | rfl <;> rfl
        · refine key _ _ (by clear I i1 i2 i3 i3e i4 i4e i5 i6 i7 i8 i10 i11; (try clear key); (try clear key2); (try clear ih); (try clear w5); (try clear w11); (try clear w2); (try clear w3); (try clear w4); (try clear w6); (try clear w7); (try clear w8); (try clear w9); (try clear p4); (try clear o4); (try simp only [decide_eq_true_eq, decide_eq_false_iff_not] at *); unfold x_shotOf; (repeat' split) <;> first | rfl | omega | (simp_all; done) | (simp_all; omega)) hM

set_option maxHeartbeats 4000000 in
set_option maxRecDepth 100000 in
theorem m_gradeOf (l : Launch) (hfl : l.stackTraces = false) {M : wM} {z : Int} (h_z : rg z) (I : Inv M) : MC l yX6_gradeOf cX6_gradeOf 2 (some FieldType.int) 4 [.int (iN z)] M (.inl (some (.int (iN (if x_gradeOf M z = 0 then v_gradeOf M z else 0))))) (n_gradeOf M z) := by
  intro S0 o B hM0
  refine Ct.of cal_X6_gradeOf hfl (Nat.le_of_ble_eq_true rfl) ?_
  intro p e s m args below meth c D sz C ME
  have hM : RMF S0 S0 o B M := ⟨hM0, mF.rf⟩
  have I9 := I
  obtain ⟨i1, i2, i3, i3e, i4, i4e, i5, i6, i7, i8, i10, i11⟩ := I9
  obtain ⟨a1, a2, a3, a4, a5, a6, a7⟩ := id i1
  have key : ∀ (x : Int) (S : wS), x = x_gradeOf M z → RMF S0 S o B M → J p l e { frames := 20 * 4, cells := 0, slots := 0, locals := 200 * 4 } s m args below meth c 2 D (wA S0 sz) (wQ below D sz S0 (fun r9 S9 => r9 = .inl (some (.int (iN (if x_gradeOf M z = 0 then v_gradeOf M z else 0)))) ∧ RMF S0 S9 o B (n_gradeOf M z)) args s 0 0) 14 [(0, .ref o), (1, .int (iN (z)))] [.int (iN x), .ref o] S 0 0 := by
    intro x S hx hM
    subst hx
    refine j_mcall C hM (c_goesOn l hfl (by unfold x_gradeOf; (repeat' split) <;> (unfold rg; omega))) cal_X6_goesOn vi_X6_goesOn rfl ml_Mo_103 rfl rfl (Nat.le_of_ble_eq_true rfl) ⟨by decide, by decide⟩ ⟨by omega, by omega⟩ dX6_gradeOf_14 (fun S hM => ?_)
    refine j_ifeq_b (tgt := 28) C dX6_gradeOf_17 (by decide) (fun c17 => ?_) (fun c17 => ?_)
    · try simp only [decide_eq_true_eq, decide_eq_false_iff_not] at c17
      try simp only [decide_eq_true_eq, decide_eq_false_iff_not] at c17
      refine j_iconst C dX6_gradeOf_28 ?_
      refine j_iret C ME ?_ (by omega) (by omega) dX6_gradeOf_29
      refine ⟨rI ?_, ?_⟩
      · first
        | (rw [if_neg c17]; done)
        | (rw [if_pos c17]; unfold v_gradeOf; rfl)
      · unfold n_gradeOf
        first
        | (rw [if_neg c17]; exact hM)
        | (rw [if_pos c17]; exact hM)
    · try simp only [decide_eq_true_eq, decide_eq_false_iff_not] at c17
      try simp only [decide_eq_true_eq, decide_eq_false_iff_not] at c17
      have ok : 0 ≤ z ∧ z < M 12 0 := by
        clear I i1 i2 i3 i3e i4 i4e i5 i6 i7 i8 i10 i11; (try clear key); (try clear key2); (try clear ih); (try clear w5); (try clear w11); (try clear w2); (try clear w3); (try clear w4); (try clear w6); (try clear w7); (try clear w8); (try clear w9); (try clear p4); (try clear o4); unfold x_gradeOf at c17
        (repeat' split at c17) <;> first | rfl | omega | (simp_all; done) | (simp_all; omega)
      
      refine j_aload_n C dX6_gradeOf_20 rfl ?_
      refine j_iload_n C dX6_gradeOf_21 rfl ?_
      refine j_mcall C hM (c_gradeNow l hfl (M := mup M 0 0 (x_gradeOf M z)) ok i1 i2) cal_X6_gradeNow vi_X6_gradeNow rfl ml_Mo_172 rfl rfl (Nat.le_of_ble_eq_true rfl) ⟨by decide, by decide⟩ ⟨by omega, by omega⟩ dX6_gradeOf_22 (fun S hM => ?_)
      refine j_goto (tgt := 29) C dX6_gradeOf_25 (by decide) ?_
      refine j_iret C ME ?_ (by omega) (by omega) dX6_gradeOf_29
      refine ⟨rI ?_, ?_⟩
      · first
        | (rw [if_neg c17]; done)
        | (rw [if_pos c17]; unfold v_gradeOf; rfl)
      · unfold n_gradeOf
        first
        | (rw [if_neg c17]; exact hM)
        | (rw [if_pos c17]; exact hM)
  refine j_aload_n C dX6_gradeOf_0 rfl ?_
  refine j_aload_n C dX6_gradeOf_1 rfl ?_
  refine j_iload_n C dX6_gradeOf_2 rfl ?_
  refine j_mcall C hM (c_isShot l hfl (by unfold rg at *; omega) (by omega)) cal_X6_isShot vi_X6_isShot rfl ml_Mo_121 rfl rfl (Nat.le_of_ble_eq_true rfl) ⟨by decide, by decide⟩ ⟨by omega, by omega⟩ dX6_gradeOf_3 (fun S hM => ?_)
  refine j_ifeq_b (tgt := 13) C dX6_gradeOf_6 (by decide) (fun c6 => ?_) (fun c6 => ?_)
  · try simp only [decide_eq_true_eq, decide_eq_false_iff_not] at c6
    refine j_iconst C dX6_gradeOf_13 ?_
    refine J.lvs (lv' := [(0, .ref o), (1, .int (iN (z)))]) ?_ ?_
    · intro q hq; simp only [List.mem_cons, List.not_mem_nil, or_false] at hq; rcases hq with rfl | rfl <;> rfl
    · refine key _ _ (by clear I i1 i2 i3 i3e i4 i4e i5 i6 i7 i8 i10 i11; (try clear key); (try clear key2); (try clear ih); (try clear w5); (try clear w11); (try clear w2); (try clear w3); (try clear w4); (try clear w6); (try clear w7); (try clear w8); (try clear w9); (try clear p4); (try clear o4); (try simp only [decide_eq_true_eq, decide_eq_false_iff_not] at *); unfold x_gradeOf; (repeat' split) <;> first | rfl | omega | (simp_all; done) | (simp_all; omega)) hM
  · try simp only [decide_eq_true_eq, decide_eq_false_iff_not] at c6
    refine j_iconst C dX6_gradeOf_9 ?_
    refine j_goto (tgt := 14) C dX6_gradeOf_10 (by decide) ?_
    refine J.lvs (lv' := [(0, .ref o), (1, .int (iN (z)))]) ?_ ?_
    · intro q hq; simp only [List.mem_cons, List.not_mem_nil, or_false] at hq; rcases hq with rfl | rfl <;> rfl
    · refine key _ _ (by clear I i1 i2 i3 i3e i4 i4e i5 i6 i7 i8 i10 i11; (try clear key); (try clear key2); (try clear ih); (try clear w5); (try clear w11); (try clear w2); (try clear w3); (try clear w4); (try clear w6); (try clear w7); (try clear w8); (try clear w9); (try clear p4); (try clear o4); (try simp only [decide_eq_true_eq, decide_eq_false_iff_not] at *); unfold x_gradeOf; (repeat' split) <;> first | rfl | omega | (simp_all; done) | (simp_all; omega)) hM

set_option maxHeartbeats 4000000 in
set_option maxRecDepth 100000 in
theorem m_gradeFrom (l : Launch) (hfl : l.stackTraces = false) {M : wM} {z : Int} (h_z : rg z) (I : Inv M) : MC l yX6_gradeFrom cX6_gradeFrom 2 (some FieldType.int) 4 [.int (iN z)] M (.inl (some (.int (iN (if x_gradeFrom M z = 0 then v_gradeFrom M z else 0))))) (n_gradeFrom M z) := by
  intro S0 o B hM0
  refine Ct.of cal_X6_gradeFrom hfl (Nat.le_of_ble_eq_true rfl) ?_
  intro p e s m args below meth c D sz C ME
  have hM : RMF S0 S0 o B M := ⟨hM0, mF.rf⟩
  have I9 := I
  obtain ⟨i1, i2, i3, i3e, i4, i4e, i5, i6, i7, i8, i10, i11⟩ := I9
  obtain ⟨a1, a2, a3, a4, a5, a6, a7⟩ := id i1
  have key : ∀ (x : Int) (S : wS), x = x_gradeFrom M z → RMF S0 S o B M → J p l e { frames := 20 * 4, cells := 0, slots := 0, locals := 200 * 4 } s m args below meth c 2 D (wA S0 sz) (wQ below D sz S0 (fun r9 S9 => r9 = .inl (some (.int (iN (if x_gradeFrom M z = 0 then v_gradeFrom M z else 0)))) ∧ RMF S0 S9 o B (n_gradeFrom M z)) args s 0 0) 14 [(0, .ref o), (1, .int (iN (z)))] [.int (iN x), .ref o] S 0 0 := by
    intro x S hx hM
    subst hx
    refine j_mcall C hM (c_goesOn l hfl (by unfold x_gradeFrom; (repeat' split) <;> (unfold rg; omega))) cal_X6_goesOn vi_X6_goesOn rfl ml_Mo_103 rfl rfl (Nat.le_of_ble_eq_true rfl) ⟨by decide, by decide⟩ ⟨by omega, by omega⟩ dX6_gradeFrom_14 (fun S hM => ?_)
    refine j_ifeq_b (tgt := 43) C dX6_gradeFrom_17 (by decide) (fun c17 => ?_) (fun c17 => ?_)
    · try simp only [decide_eq_true_eq, decide_eq_false_iff_not] at c17
      try simp only [decide_eq_true_eq, decide_eq_false_iff_not] at c17
      refine j_iconst C dX6_gradeFrom_43 ?_
      refine j_iret C ME ?_ (by omega) (by omega) dX6_gradeFrom_44
      refine ⟨rI ?_, ?_⟩
      · first
        | (rw [if_neg c17]; done)
        | (rw [if_pos c17]; unfold v_gradeFrom; simp_all [mup])
      · unfold n_gradeFrom
        first
        | (rw [if_neg c17]; exact hM)
        | (rw [if_pos c17]; exact hM)
    · try simp only [decide_eq_true_eq, decide_eq_false_iff_not] at c17
      try simp only [decide_eq_true_eq, decide_eq_false_iff_not] at c17
      have ok : 0 ≤ z ∧ z < M 12 0 := by
        clear I i1 i2 i3 i3e i4 i4e i5 i6 i7 i8 i10 i11; (try clear key); (try clear key2); (try clear ih); (try clear w5); (try clear w11); (try clear w2); (try clear w3); (try clear w4); (try clear w6); (try clear w7); (try clear w8); (try clear w9); (try clear p4); (try clear o4); unfold x_gradeFrom at c17
        (repeat' split at c17) <;> first | rfl | omega | (simp_all; done) | (simp_all; omega)
      have w2 := i2 z (by omega) (by omega)
      have e10 : mup M 0 0 (x_gradeFrom M z) 10 z = M 10 z := rfl
      refine j_aload_n C dX6_gradeFrom_20 rfl ?_
      refine j_mgeta C hM fl_Mo_34 (by decide) dX6_gradeFrom_21 ?_
      refine j_iload_n C dX6_gradeFrom_24 rfl ?_
      refine j_mald C hM (by decide) rfl (by simp only [mLen]; omega) dX6_gradeFrom_25 ?_
      refine j_iconst C dX6_gradeFrom_26 ?_
      refine j_icmp_eq (tgt := 34) C dX6_gradeFrom_27 (by decide) (by unfold rg at *; omega) (by unfold rg at *; omega) (fun c27 => ?_) (fun c27 => ?_)
      · refine j_aload_n C dX6_gradeFrom_34 rfl ?_
        refine j_mgeta C hM fl_Mo_37 (by decide) dX6_gradeFrom_35 ?_
        refine j_iload_n C dX6_gradeFrom_38 rfl ?_
        refine j_mald C hM (by decide) rfl (by simp only [mLen]; omega) dX6_gradeFrom_39 ?_
        refine j_goto (tgt := 44) C dX6_gradeFrom_40 (by decide) ?_
        refine j_iret C ME ?_ (by omega) (by omega) dX6_gradeFrom_44
        refine ⟨rI ?_, ?_⟩
        · first
          | (rw [if_neg c17]; done)
          | (rw [if_pos c17]; unfold v_gradeFrom; simp_all [mup])
        · unfold n_gradeFrom
          first
          | (rw [if_neg c17]; exact hM)
          | (rw [if_pos c17]; exact hM)
      · refine j_iload_n C dX6_gradeFrom_30 rfl ?_
        refine j_goto (tgt := 44) C dX6_gradeFrom_31 (by decide) ?_
        refine j_iret C ME ?_ (by omega) (by omega) dX6_gradeFrom_44
        refine ⟨rI ?_, ?_⟩
        · first
          | (rw [if_neg c17]; done)
          | (rw [if_pos c17]; unfold v_gradeFrom; simp_all [mup])
        · unfold n_gradeFrom
          first
          | (rw [if_neg c17]; exact hM)
          | (rw [if_pos c17]; exact hM)
  refine j_aload_n C dX6_gradeFrom_0 rfl ?_
  refine j_aload_n C dX6_gradeFrom_1 rfl ?_
  refine j_iload_n C dX6_gradeFrom_2 rfl ?_
  refine j_mcall C hM (c_isShot l hfl (by unfold rg at *; omega) (by omega)) cal_X6_isShot vi_X6_isShot rfl ml_Mo_121 rfl rfl (Nat.le_of_ble_eq_true rfl) ⟨by decide, by decide⟩ ⟨by omega, by omega⟩ dX6_gradeFrom_3 (fun S hM => ?_)
  refine j_ifeq_b (tgt := 13) C dX6_gradeFrom_6 (by decide) (fun c6 => ?_) (fun c6 => ?_)
  · try simp only [decide_eq_true_eq, decide_eq_false_iff_not] at c6
    refine j_iconst C dX6_gradeFrom_13 ?_
    refine J.lvs (lv' := [(0, .ref o), (1, .int (iN (z)))]) ?_ ?_
    · intro q hq; simp only [List.mem_cons, List.not_mem_nil, or_false] at hq; rcases hq with rfl | rfl <;> rfl
    · refine key _ _ (by clear I i1 i2 i3 i3e i4 i4e i5 i6 i7 i8 i10 i11; (try clear key); (try clear key2); (try clear ih); (try clear w5); (try clear w11); (try clear w2); (try clear w3); (try clear w4); (try clear w6); (try clear w7); (try clear w8); (try clear w9); (try clear p4); (try clear o4); (try simp only [decide_eq_true_eq, decide_eq_false_iff_not] at *); unfold x_gradeFrom; (repeat' split) <;> first | rfl | omega | (simp_all; done) | (simp_all; omega)) hM
  · try simp only [decide_eq_true_eq, decide_eq_false_iff_not] at c6
    refine j_iconst C dX6_gradeFrom_9 ?_
    refine j_goto (tgt := 14) C dX6_gradeFrom_10 (by decide) ?_
    refine J.lvs (lv' := [(0, .ref o), (1, .int (iN (z)))]) ?_ ?_
    · intro q hq; simp only [List.mem_cons, List.not_mem_nil, or_false] at hq; rcases hq with rfl | rfl <;> rfl
    · refine key _ _ (by clear I i1 i2 i3 i3e i4 i4e i5 i6 i7 i8 i10 i11; (try clear key); (try clear key2); (try clear ih); (try clear w5); (try clear w11); (try clear w2); (try clear w3); (try clear w4); (try clear w6); (try clear w7); (try clear w8); (try clear w9); (try clear p4); (try clear o4); (try simp only [decide_eq_true_eq, decide_eq_false_iff_not] at *); unfold x_gradeFrom; (repeat' split) <;> first | rfl | omega | (simp_all; done) | (simp_all; omega)) hM

set_option maxHeartbeats 4000000 in
set_option maxRecDepth 100000 in
theorem m_wear (l : Launch) (hfl : l.stackTraces = false) {M : wM} {r z : Int} (h_r : rg r)  (h_z : rg z) (I : Inv M) : MC l yX6_wear cX6_wear 3 (some FieldType.int) 4 [.int (iN r), .int (iN z)] M (.inl (some (.int (iN (if x_wear M r z = 0 then v_wear M r z else 0))))) (n_wear M r z) := by
  intro S0 o B hM0
  refine Ct.of cal_X6_wear hfl (Nat.le_of_ble_eq_true rfl) ?_
  intro p e s m args below meth c D sz C ME
  have hM : RMF S0 S0 o B M := ⟨hM0, mF.rf⟩
  have I9 := I
  obtain ⟨i1, i2, i3, i3e, i4, i4e, i5, i6, i7, i8, i10, i11⟩ := I9
  obtain ⟨a1, a2, a3, a4, a5, a6, a7⟩ := id i1
  have key : ∀ (x : Int) (S : wS), x = x_wear M r z → RMF S0 S o B M → J p l e { frames := 20 * 4, cells := 0, slots := 0, locals := 200 * 4 } s m args below meth c 3 D (wA S0 sz) (wQ below D sz S0 (fun r9 S9 => r9 = .inl (some (.int (iN (if x_wear M r z = 0 then v_wear M r z else 0)))) ∧ RMF S0 S9 o B (n_wear M r z)) args s 0 0) 15 [(0, .ref o), (1, .int (iN (r))), (2, .int (iN (z)))] [.int (iN x), .ref o] S 0 0 := by
    intro x S hx hM
    subst hx
    refine j_mcall C hM (c_goesOn l hfl (by unfold x_wear; (repeat' split) <;> (unfold rg; omega))) cal_X6_goesOn vi_X6_goesOn rfl ml_Mo_103 rfl rfl (Nat.le_of_ble_eq_true rfl) ⟨by decide, by decide⟩ ⟨by omega, by omega⟩ dX6_wear_15 (fun S hM => ?_)
    refine j_ifeq_b (tgt := 35) C dX6_wear_18 (by decide) (fun c18 => ?_) (fun c18 => ?_)
    · try simp only [splP, decide_eq_true_eq, decide_eq_false_iff_not] at c18
      try simp only [decide_eq_true_eq, decide_eq_false_iff_not] at c18
      refine j_iconst C dX6_wear_35 ?_
      refine j_iret C ME ?_ (by omega) (by omega) dX6_wear_36
      refine ⟨rI ?_, ?_⟩
      · first
        | (rw [if_neg c18]; done)
        | (rw [if_pos c18]; unfold v_wear; rfl)
      · unfold n_wear
        first
        | (rw [if_neg c18]; exact hM)
        | (rw [if_pos c18]; exact hM)
    · try simp only [splP, decide_eq_true_eq, decide_eq_false_iff_not] at c18
      try simp only [decide_eq_true_eq, decide_eq_false_iff_not] at c18
      have ok : (0 ≤ r ∧ r < M 17 0) ∧ 0 ≤ z ∧ z ≤ M 16 r - 2 := by
        clear I i1 i2 i3 i3e i4 i4e i5 i6 i7 i8 i10 i11; (try clear key); (try clear key2); (try clear ih); (try clear w5); (try clear w11); (try clear w2); (try clear w3); (try clear w4); (try clear w6); (try clear w7); (try clear w8); (try clear w9); (try clear p4); (try clear o4); unfold x_wear at c18
        (repeat' split at c18) <;> first | rfl | omega | (simp_all; done) | (simp_all; omega)
      have w4 := i4 r (by omega) (by omega)
      refine j_aload_n C dX6_wear_21 rfl ?_
      refine j_mgeta C hM fl_Mo_46 (by decide) dX6_wear_22 ?_
      refine j_bipush C dX6_wear_25 (by decide) ?_
      refine j_iload_n C dX6_wear_27 rfl ?_
      refine j_imul C dX6_wear_28 ?_
      refine j_iload_n C dX6_wear_29 rfl ?_
      refine j_iadd C dX6_wear_30 ?_
      refine j_mald C hM (by decide) rfl (by simp only [mLen]; omega) dX6_wear_31 ?_
      refine j_goto (tgt := 36) C dX6_wear_32 (by decide) ?_
      refine j_iret C ME ?_ (by omega) (by omega) dX6_wear_36
      refine ⟨rI ?_, ?_⟩
      · first
        | (rw [if_neg c18]; done)
        | (rw [if_pos c18]; unfold v_wear; rfl)
      · unfold n_wear
        first
        | (rw [if_neg c18]; exact hM)
        | (rw [if_pos c18]; exact hM)
  refine j_aload_n C dX6_wear_0 rfl ?_
  refine j_aload_n C dX6_wear_1 rfl ?_
  refine j_iload_n C dX6_wear_2 rfl ?_
  refine j_iload_n C dX6_wear_3 rfl ?_
  refine j_mcall C hM (c_isSplice l hfl (by unfold rg at *; omega) (by unfold rg at *; omega) i1 i4) cal_X6_isSplice vi_X6_isSplice rfl ml_Mo_166 rfl rfl (Nat.le_of_ble_eq_true rfl) ⟨by decide, by decide⟩ ⟨by omega, by omega⟩ dX6_wear_4 (fun S hM => ?_)
  refine j_ifeq_b (tgt := 14) C dX6_wear_7 (by decide) (fun c7 => ?_) (fun c7 => ?_)
  · try simp only [splP, decide_eq_true_eq, decide_eq_false_iff_not] at c7
    refine j_iconst C dX6_wear_14 ?_
    refine J.lvs (lv' := [(0, .ref o), (1, .int (iN (r))), (2, .int (iN (z)))]) ?_ ?_
    · intro q hq; simp only [List.mem_cons, List.not_mem_nil, or_false] at hq; rcases hq with rfl | rfl | rfl <;> rfl
    · refine key _ _ (by clear I i1 i2 i3 i3e i4 i4e i5 i6 i7 i8 i10 i11; (try clear key); (try clear key2); (try clear ih); (try clear w5); (try clear w11); (try clear w2); (try clear w3); (try clear w4); (try clear w6); (try clear w7); (try clear w8); (try clear w9); (try clear p4); (try clear o4); (try simp only [decide_eq_true_eq, decide_eq_false_iff_not] at *); unfold x_wear; (repeat' split) <;> first | rfl | omega | (simp_all; done) | (simp_all; omega)) hM
  · try simp only [splP, decide_eq_true_eq, decide_eq_false_iff_not] at c7
    refine j_iconst C dX6_wear_10 ?_
    refine j_goto (tgt := 15) C dX6_wear_11 (by decide) ?_
    refine J.lvs (lv' := [(0, .ref o), (1, .int (iN (r))), (2, .int (iN (z)))]) ?_ ?_
    · intro q hq; simp only [List.mem_cons, List.not_mem_nil, or_false] at hq; rcases hq with rfl | rfl | rfl <;> rfl
    · refine key _ _ (by clear I i1 i2 i3 i3e i4 i4e i5 i6 i7 i8 i10 i11; (try clear key); (try clear key2); (try clear ih); (try clear w5); (try clear w11); (try clear w2); (try clear w3); (try clear w4); (try clear w6); (try clear w7); (try clear w8); (try clear w9); (try clear p4); (try clear o4); (try simp only [decide_eq_true_eq, decide_eq_false_iff_not] at *); unfold x_wear; (repeat' split) <;> first | rfl | omega | (simp_all; done) | (simp_all; omega)) hM

set_option maxHeartbeats 4000000 in
set_option maxRecDepth 100000 in
theorem m_frameOf (l : Launch) (hfl : l.stackTraces = false) {M : wM} {z : Int} (h_z : rg z) (I : Inv M) : MC l yX6_frameOf cX6_frameOf 3 (some FieldType.int) 4 [.int (iN z)] M (.inl (some (.int (iN (if x_frameOf M z = 0 then v_frameOf M z else 0))))) (n_frameOf M z) := by
  intro S0 o B hM0
  refine Ct.of cal_X6_frameOf hfl (Nat.le_of_ble_eq_true rfl) ?_
  intro p e s m args below meth c D sz C ME
  have hM : RMF S0 S0 o B M := ⟨hM0, mF.rf⟩
  have I9 := I
  obtain ⟨i1, i2, i3, i3e, i4, i4e, i5, i6, i7, i8, i10, i11⟩ := I9
  obtain ⟨a1, a2, a3, a4, a5, a6, a7⟩ := id i1
  have key : ∀ (x : Int) (S : wS), x = x_frameOf M z → RMF S0 S o B M → J p l e { frames := 20 * 4, cells := 0, slots := 0, locals := 200 * 4 } s m args below meth c 3 D (wA S0 sz) (wQ below D sz S0 (fun r9 S9 => r9 = .inl (some (.int (iN (if x_frameOf M z = 0 then v_frameOf M z else 0)))) ∧ RMF S0 S9 o B (n_frameOf M z)) args s 0 0) 30 [(0, .ref o), (1, .int (iN (z)))] [.int (iN x), .ref o] S 0 0 := by
    intro x S hx hM
    subst hx
    refine j_mcall C hM (c_goesOn l hfl (by unfold x_frameOf; (repeat' split) <;> (unfold rg; omega))) cal_X6_goesOn vi_X6_goesOn rfl ml_Mo_103 rfl rfl (Nat.le_of_ble_eq_true rfl) ⟨by decide, by decide⟩ ⟨by omega, by omega⟩ dX6_frameOf_30 (fun S hM => ?_)
    refine j_ifeq_b (tgt := 54) C dX6_frameOf_33 (by decide) (fun c33 => ?_) (fun c33 => ?_)
    · try simp only [decide_eq_true_eq, decide_eq_false_iff_not] at c33
      try simp only [decide_eq_true_eq, decide_eq_false_iff_not] at c33
      refine j_iconst C dX6_frameOf_54 ?_
      refine j_iret C ME ?_ (by omega) (by omega) dX6_frameOf_55
      refine ⟨rI ?_, ?_⟩
      · first
        | (rw [if_neg c33]; done)
        | (rw [if_pos c33]; unfold v_frameOf; rfl)
      · unfold n_frameOf
        first
        | (rw [if_neg c33]; exact hM)
        | (rw [if_pos c33]; exact hM)
    · try simp only [decide_eq_true_eq, decide_eq_false_iff_not] at c33
      try simp only [decide_eq_true_eq, decide_eq_false_iff_not] at c33
      have ok : 0 ≤ z ∧ z < M 12 0 := by
        clear I i1 i2 i3 i3e i4 i4e i5 i6 i7 i8 i10 i11; (try clear key); (try clear key2); (try clear ih); (try clear w5); (try clear w11); (try clear w2); (try clear w3); (try clear w4); (try clear w6); (try clear w7); (try clear w8); (try clear w9); (try clear p4); (try clear o4); unfold x_frameOf at c33
        (repeat' split at c33) <;> first | rfl | omega | (simp_all; done) | (simp_all; omega)
      have w2 := i2 z (by omega) (by omega)
      obtain ⟨p1, p2, p3, p4⟩ := plM_spec i1 i3 i2 i3e ok.1 ok.2
      refine j_aload_n C dX6_frameOf_36 rfl ?_
      refine j_aload_n C dX6_frameOf_37 rfl ?_
      refine j_mgeta C hM fl_Mo_16 (by decide) dX6_frameOf_38 ?_
      refine j_iload_n C dX6_frameOf_41 rfl ?_
      refine j_mald C hM (by decide) rfl (by simp only [mLen]; omega) dX6_frameOf_42 ?_
      refine j_aload_n C dX6_frameOf_43 rfl ?_
      refine j_iload_n C dX6_frameOf_44 rfl ?_
      refine j_mcall C hM (c_placeOf l hfl (M := mup M 0 0 (x_frameOf M z)) ok i1 i2 i3 i3e) cal_X6_placeOf vi_X6_placeOf rfl ml_Mo_124 rfl rfl (Nat.le_of_ble_eq_true rfl) ⟨by decide, by decide⟩ ⟨by omega, by omega⟩ dX6_frameOf_45 (fun S hM => ?_)
      refine j_mcall C hM (c_framesAhead l hfl (M := mup M 0 0 (x_frameOf M z)) (f := M 4 z) (z := plM M z) (by omega) ⟨p1, Int.le_of_lt p2⟩ i1 i2 i3) cal_X6_framesAhead vi_X6_framesAhead rfl ml_Mo_138 rfl rfl (Nat.le_of_ble_eq_true rfl) ⟨by decide, by decide⟩ ⟨by omega, by omega⟩ dX6_frameOf_48 (fun S hM => ?_)
      refine j_goto (tgt := 55) C dX6_frameOf_51 (by decide) ?_
      refine j_iret C ME ?_ (by omega) (by omega) dX6_frameOf_55
      refine ⟨rI ?_, ?_⟩
      · first
        | (rw [if_neg c33]; done)
        | (rw [if_pos c33]; unfold v_frameOf; rfl)
      · unfold n_frameOf
        first
        | (rw [if_neg c33]; exact hM)
        | (rw [if_pos c33]; exact hM)
  refine j_aload_n C dX6_frameOf_0 rfl ?_
  refine j_iload_n C dX6_frameOf_1 rfl ?_
  refine j_mcall C hM (c_isShot l hfl (by unfold rg at *; omega) (by omega)) cal_X6_isShot vi_X6_isShot rfl ml_Mo_121 rfl rfl (Nat.le_of_ble_eq_true rfl) ⟨by decide, by decide⟩ ⟨by omega, by omega⟩ dX6_frameOf_2 (fun S hM => ?_)
  refine j_istore_n C dX6_frameOf_5 (by decide) ?_
  refine j_aload_n C dX6_frameOf_6 rfl ?_
  refine j_iload_n C dX6_frameOf_7 rfl ?_
  refine j_ifne_b (tgt := 15) C dX6_frameOf_8 (by decide) (fun c8 => ?_) (fun c8 => ?_)
  · try simp only [decide_eq_true_eq, decide_eq_false_iff_not] at c8
    have w2 := i2 z (by omega) (by omega)
    refine j_aload_n C dX6_frameOf_15 rfl ?_
    refine j_mgeta C hM fl_Mo_25 (by decide) dX6_frameOf_16 ?_
    refine j_iload_n C dX6_frameOf_19 rfl ?_
    refine j_mald C hM (by decide) rfl (by simp only [mLen]; omega) dX6_frameOf_20 ?_
    refine j_iconst C dX6_frameOf_21 ?_
    refine j_icmp_ne (tgt := 29) C dX6_frameOf_22 (by decide) (by unfold rg at *; omega) (by unfold rg at *; omega) (fun c22 => ?_) (fun c22 => ?_)
    · refine j_iconst C dX6_frameOf_29 ?_
      refine J.lvs (lv' := [(0, .ref o), (1, .int (iN (z)))]) ?_ ?_
      · intro q hq; simp only [List.mem_cons, List.not_mem_nil, or_false] at hq; rcases hq with rfl | rfl <;> rfl
      · refine key _ _ (by clear I i1 i2 i3 i3e i4 i4e i5 i6 i7 i8 i10 i11; (try clear key); (try clear key2); (try clear ih); (try clear w5); (try clear w11); (try clear w2); (try clear w3); (try clear w4); (try clear w6); (try clear w7); (try clear w8); (try clear w9); (try clear p4); (try clear o4); (try simp only [decide_eq_true_eq, decide_eq_false_iff_not] at *); unfold x_frameOf; (repeat' split) <;> first | rfl | omega | (simp_all; done) | (simp_all; omega)) hM
    · refine j_iconst C dX6_frameOf_25 ?_
      refine j_goto (tgt := 30) C dX6_frameOf_26 (by decide) ?_
      refine J.lvs (lv' := [(0, .ref o), (1, .int (iN (z)))]) ?_ ?_
      · intro q hq; simp only [List.mem_cons, List.not_mem_nil, or_false] at hq; rcases hq with rfl | rfl <;> rfl
      · refine key _ _ (by clear I i1 i2 i3 i3e i4 i4e i5 i6 i7 i8 i10 i11; (try clear key); (try clear key2); (try clear ih); (try clear w5); (try clear w11); (try clear w2); (try clear w3); (try clear w4); (try clear w6); (try clear w7); (try clear w8); (try clear w9); (try clear p4); (try clear o4); (try simp only [decide_eq_true_eq, decide_eq_false_iff_not] at *); unfold x_frameOf; (repeat' split) <;> first | rfl | omega | (simp_all; done) | (simp_all; omega)) hM
  · try simp only [decide_eq_true_eq, decide_eq_false_iff_not] at c8
    refine j_iconst C dX6_frameOf_11 ?_
    refine j_goto (tgt := 30) C dX6_frameOf_12 (by decide) ?_
    refine J.lvs (lv' := [(0, .ref o), (1, .int (iN (z)))]) ?_ ?_
    · intro q hq; simp only [List.mem_cons, List.not_mem_nil, or_false] at hq; rcases hq with rfl | rfl <;> rfl
    · refine key _ _ (by clear I i1 i2 i3 i3e i4 i4e i5 i6 i7 i8 i10 i11; (try clear key); (try clear key2); (try clear ih); (try clear w5); (try clear w11); (try clear w2); (try clear w3); (try clear w4); (try clear w6); (try clear w7); (try clear w8); (try clear w9); (try clear p4); (try clear o4); (try simp only [decide_eq_true_eq, decide_eq_false_iff_not] at *); unfold x_frameOf; (repeat' split) <;> first | rfl | omega | (simp_all; done) | (simp_all; omega)) hM

set_option maxHeartbeats 4000000 in
set_option maxRecDepth 100000 in
theorem m_shotAt (l : Launch) (hfl : l.stackTraces = false) {M : wM} {f z : Int} (h_f : rg f)  (h_z : rg z) (I : Inv M) : MC l yX6_shotAt cX6_shotAt 5 (some FieldType.int) 4 [.int (iN f), .int (iN z)] M (.inl (some (.int (iN (if x_shotAt M f z = 0 then v_shotAt M f z else 0))))) (n_shotAt M f z) := by
  intro S0 o B hM0
  refine Ct.of cal_X6_shotAt hfl (Nat.le_of_ble_eq_true rfl) ?_
  intro p e s m args below meth c D sz C ME
  have hM : RMF S0 S0 o B M := ⟨hM0, mF.rf⟩
  have I9 := I
  obtain ⟨i1, i2, i3, i3e, i4, i4e, i5, i6, i7, i8, i10, i11⟩ := I9
  obtain ⟨a1, a2, a3, a4, a5, a6, a7⟩ := id i1
  have w9 := fun (q : 0 ≤ f ∧ f < 6) => swM_rg (z := z) q i1 i3
  have key : ∀ (x : Int) (y : Int) (S : wS), x = x_shotAt M f z → (x = 0 → y = swM M f z) → RMF S0 S o B M → J p l e { frames := 20 * 4, cells := 0, slots := 0, locals := 200 * 4 } s m args below meth c 5 D (wA S0 sz) (wQ below D sz S0 (fun r9 S9 => r9 = .inl (some (.int (iN (if x_shotAt M f z = 0 then v_shotAt M f z else 0)))) ∧ RMF S0 S9 o B (n_shotAt M f z)) args s 0 0) 42 [(0, .ref o), (1, .int (iN (f))), (2, .int (iN (z))), (4, .int (iN (y)))] [.int (iN x), .ref o] S 0 0 := by
    intro x y S hx hy hM
    subst hx
    refine j_mcall C hM (c_goesOn l hfl (by unfold x_shotAt; (repeat' split) <;> (unfold rg; omega))) cal_X6_goesOn vi_X6_goesOn rfl ml_Mo_103 rfl rfl (Nat.le_of_ble_eq_true rfl) ⟨by decide, by decide⟩ ⟨by omega, by omega⟩ dX6_shotAt_42 (fun S hM => ?_)
    refine j_ifeq_b (tgt := 53) C dX6_shotAt_45 (by decide) (fun c45 => ?_) (fun c45 => ?_)
    · try simp only [decide_eq_true_eq, decide_eq_false_iff_not] at c45
      try simp only [decide_eq_true_eq, decide_eq_false_iff_not] at c45
      refine j_iconst C dX6_shotAt_53 ?_
      refine j_iret C ME ?_ (by omega) (by omega) dX6_shotAt_54
      refine ⟨rI ?_, ?_⟩
      · first
        | (rw [if_neg c45]; done)
        | (rw [if_pos c45]; unfold v_shotAt; rfl)
      · unfold n_shotAt
        first
        | (rw [if_neg c45]; exact hM)
        | (rw [if_pos c45]; exact hM)
    · try simp only [decide_eq_true_eq, decide_eq_false_iff_not] at c45
      try simp only [decide_eq_true_eq, decide_eq_false_iff_not] at c45
      have hy := hy c45
      subst hy
      refine j_iload C dX6_shotAt_48 rfl ?_
      refine j_goto (tgt := 54) C dX6_shotAt_50 (by decide) ?_
      refine j_iret C ME ?_ (by omega) (by omega) dX6_shotAt_54
      refine ⟨rI ?_, ?_⟩
      · first
        | (rw [if_neg c45]; done)
        | (rw [if_pos c45]; unfold v_shotAt; rfl)
      · unfold n_shotAt
        first
        | (rw [if_neg c45]; exact hM)
        | (rw [if_pos c45]; exact hM)
  refine j_aload_n C dX6_shotAt_0 rfl ?_
  refine j_iload_n C dX6_shotAt_1 rfl ?_
  refine j_mcall C hM (c_isFilm l hfl (by unfold rg at *; omega) (by omega)) cal_X6_isFilm vi_X6_isFilm rfl ml_Mo_107 rfl rfl (Nat.le_of_ble_eq_true rfl) ⟨by decide, by decide⟩ ⟨by omega, by omega⟩ dX6_shotAt_2 (fun S hM => ?_)
  refine j_istore_n C dX6_shotAt_5 (by decide) ?_
  refine j_iload_n C dX6_shotAt_6 rfl ?_
  refine j_ifeq_b (tgt := 19) C dX6_shotAt_7 (by decide) (fun c7 => ?_) (fun c7 => ?_)
  · try simp only [decide_eq_true_eq, decide_eq_false_iff_not] at c7
    refine j_iconst C dX6_shotAt_19 ?_
    refine j_istore C dX6_shotAt_20 (by decide) ?_
    refine j_aload_n C dX6_shotAt_22 rfl ?_
    refine j_iload_n C dX6_shotAt_23 rfl ?_
    refine j_ifne_b (tgt := 31) C dX6_shotAt_24 (by decide) (fun c24 => ?_) (fun c24 => ?_)
    · try simp only [decide_eq_true_eq, decide_eq_false_iff_not] at c24
      have w9 := w9 (by omega)
      refine j_iload C dX6_shotAt_31 rfl ?_
      refine j_iconst C dX6_shotAt_33 ?_
      refine j_icmp_ne (tgt := 41) C dX6_shotAt_34 (by decide) (by unfold rg at *; omega) (by unfold rg at *; omega) (fun c34 => ?_) (fun c34 => ?_)
      · refine j_iconst C dX6_shotAt_41 ?_
        first
          | (refine J.lvs (lv' := [(0, .ref o), (1, .int (iN (f))), (2, .int (iN (z))), (4, .int (iN (-1)))]) ?_ ?_
             · intro q hq; simp only [List.mem_cons, List.not_mem_nil, or_false] at hq; rcases hq with rfl | rfl | rfl | rfl <;> rfl
             · refine key _ _ _ (by clear I i1 i2 i3 i3e i4 i4e i5 i6 i7 i8 i10 i11; (try clear key); (try clear key2); (try clear ih); (try clear w5); (try clear w11); (try clear w2); (try clear w3); (try clear w4); (try clear w6); (try clear w7); (try clear w8); (try clear w9); (try clear p4); (try clear o4); (try simp only [decide_eq_true_eq, decide_eq_false_iff_not] at *); unfold x_shotAt; (repeat' split) <;> first | rfl | omega | (simp_all; done) | (simp_all; omega)) (by intros; first | rfl | omega) hM)
          | (refine J.lvs (lv' := [(0, .ref o), (1, .int (iN (f))), (2, .int (iN (z))), (4, .int (iN (swM M f z)))]) ?_ ?_
             · intro q hq; simp only [List.mem_cons, List.not_mem_nil, or_false] at hq; rcases hq with rfl | rfl | rfl | rfl <;> rfl
             · refine key _ _ _ (by clear I i1 i2 i3 i3e i4 i4e i5 i6 i7 i8 i10 i11; (try clear key); (try clear key2); (try clear ih); (try clear w5); (try clear w11); (try clear w2); (try clear w3); (try clear w4); (try clear w6); (try clear w7); (try clear w8); (try clear w9); (try clear p4); (try clear o4); (try simp only [decide_eq_true_eq, decide_eq_false_iff_not] at *); unfold x_shotAt; (repeat' split) <;> first | rfl | omega | (simp_all; done) | (simp_all; omega)) (by intros; first | rfl | omega) hM)
      · refine j_iconst C dX6_shotAt_37 ?_
        refine j_goto (tgt := 42) C dX6_shotAt_38 (by decide) ?_
        first
          | (refine J.lvs (lv' := [(0, .ref o), (1, .int (iN (f))), (2, .int (iN (z))), (4, .int (iN (-1)))]) ?_ ?_
             · intro q hq; simp only [List.mem_cons, List.not_mem_nil, or_false] at hq; rcases hq with rfl | rfl | rfl | rfl <;> rfl
             · refine key _ _ _ (by clear I i1 i2 i3 i3e i4 i4e i5 i6 i7 i8 i10 i11; (try clear key); (try clear key2); (try clear ih); (try clear w5); (try clear w11); (try clear w2); (try clear w3); (try clear w4); (try clear w6); (try clear w7); (try clear w8); (try clear w9); (try clear p4); (try clear o4); (try simp only [decide_eq_true_eq, decide_eq_false_iff_not] at *); unfold x_shotAt; (repeat' split) <;> first | rfl | omega | (simp_all; done) | (simp_all; omega)) (by intros; first | rfl | omega) hM)
          | (refine J.lvs (lv' := [(0, .ref o), (1, .int (iN (f))), (2, .int (iN (z))), (4, .int (iN (swM M f z)))]) ?_ ?_
             · intro q hq; simp only [List.mem_cons, List.not_mem_nil, or_false] at hq; rcases hq with rfl | rfl | rfl | rfl <;> rfl
             · refine key _ _ _ (by clear I i1 i2 i3 i3e i4 i4e i5 i6 i7 i8 i10 i11; (try clear key); (try clear key2); (try clear ih); (try clear w5); (try clear w11); (try clear w2); (try clear w3); (try clear w4); (try clear w6); (try clear w7); (try clear w8); (try clear w9); (try clear p4); (try clear o4); (try simp only [decide_eq_true_eq, decide_eq_false_iff_not] at *); unfold x_shotAt; (repeat' split) <;> first | rfl | omega | (simp_all; done) | (simp_all; omega)) (by intros; first | rfl | omega) hM)
    · try simp only [decide_eq_true_eq, decide_eq_false_iff_not] at c24
      refine j_iconst C dX6_shotAt_27 ?_
      refine j_goto (tgt := 42) C dX6_shotAt_28 (by decide) ?_
      first
        | (refine J.lvs (lv' := [(0, .ref o), (1, .int (iN (f))), (2, .int (iN (z))), (4, .int (iN (-1)))]) ?_ ?_
           · intro q hq; simp only [List.mem_cons, List.not_mem_nil, or_false] at hq; rcases hq with rfl | rfl | rfl | rfl <;> rfl
           · refine key _ _ _ (by clear I i1 i2 i3 i3e i4 i4e i5 i6 i7 i8 i10 i11; (try clear key); (try clear key2); (try clear ih); (try clear w5); (try clear w11); (try clear w2); (try clear w3); (try clear w4); (try clear w6); (try clear w7); (try clear w8); (try clear w9); (try clear p4); (try clear o4); (try simp only [decide_eq_true_eq, decide_eq_false_iff_not] at *); unfold x_shotAt; (repeat' split) <;> first | rfl | omega | (simp_all; done) | (simp_all; omega)) (by intros; first | rfl | omega) hM)
        | (refine J.lvs (lv' := [(0, .ref o), (1, .int (iN (f))), (2, .int (iN (z))), (4, .int (iN (swM M f z)))]) ?_ ?_
           · intro q hq; simp only [List.mem_cons, List.not_mem_nil, or_false] at hq; rcases hq with rfl | rfl | rfl | rfl <;> rfl
           · refine key _ _ _ (by clear I i1 i2 i3 i3e i4 i4e i5 i6 i7 i8 i10 i11; (try clear key); (try clear key2); (try clear ih); (try clear w5); (try clear w11); (try clear w2); (try clear w3); (try clear w4); (try clear w6); (try clear w7); (try clear w8); (try clear w9); (try clear p4); (try clear o4); (try simp only [decide_eq_true_eq, decide_eq_false_iff_not] at *); unfold x_shotAt; (repeat' split) <;> first | rfl | omega | (simp_all; done) | (simp_all; omega)) (by intros; first | rfl | omega) hM)
  · try simp only [decide_eq_true_eq, decide_eq_false_iff_not] at c7
    refine j_aload_n C dX6_shotAt_10 rfl ?_
    refine j_iload_n C dX6_shotAt_11 rfl ?_
    refine j_iload_n C dX6_shotAt_12 rfl ?_
    refine j_mcall C hM (c_shotWith l hfl (by omega) (by unfold rg at *; omega) i1 i2 i3) cal_X6_shotWith vi_X6_shotWith rfl ml_Mo_142 rfl rfl (Nat.le_of_ble_eq_true rfl) ⟨by decide, by decide⟩ ⟨by omega, by omega⟩ dX6_shotAt_13 (fun S hM => ?_)
    refine j_goto (tgt := 20) C dX6_shotAt_16 (by decide) ?_
    refine j_istore C dX6_shotAt_20 (by decide) ?_
    refine j_aload_n C dX6_shotAt_22 rfl ?_
    refine j_iload_n C dX6_shotAt_23 rfl ?_
    refine j_ifne_b (tgt := 31) C dX6_shotAt_24 (by decide) (fun c24 => ?_) (fun c24 => ?_)
    · try simp only [decide_eq_true_eq, decide_eq_false_iff_not] at c24
      have w9 := w9 (by omega)
      refine j_iload C dX6_shotAt_31 rfl ?_
      refine j_iconst C dX6_shotAt_33 ?_
      refine j_icmp_ne (tgt := 41) C dX6_shotAt_34 (by decide) (by unfold rg at *; omega) (by unfold rg at *; omega) (fun c34 => ?_) (fun c34 => ?_)
      · refine j_iconst C dX6_shotAt_41 ?_
        first
          | (refine J.lvs (lv' := [(0, .ref o), (1, .int (iN (f))), (2, .int (iN (z))), (4, .int (iN (-1)))]) ?_ ?_
             · intro q hq; simp only [List.mem_cons, List.not_mem_nil, or_false] at hq; rcases hq with rfl | rfl | rfl | rfl <;> rfl
             · refine key _ _ _ (by clear I i1 i2 i3 i3e i4 i4e i5 i6 i7 i8 i10 i11; (try clear key); (try clear key2); (try clear ih); (try clear w5); (try clear w11); (try clear w2); (try clear w3); (try clear w4); (try clear w6); (try clear w7); (try clear w8); (try clear w9); (try clear p4); (try clear o4); (try simp only [decide_eq_true_eq, decide_eq_false_iff_not] at *); unfold x_shotAt; (repeat' split) <;> first | rfl | omega | (simp_all; done) | (simp_all; omega)) (by intros; first | rfl | omega) hM)
          | (refine J.lvs (lv' := [(0, .ref o), (1, .int (iN (f))), (2, .int (iN (z))), (4, .int (iN (swM M f z)))]) ?_ ?_
             · intro q hq; simp only [List.mem_cons, List.not_mem_nil, or_false] at hq; rcases hq with rfl | rfl | rfl | rfl <;> rfl
             · refine key _ _ _ (by clear I i1 i2 i3 i3e i4 i4e i5 i6 i7 i8 i10 i11; (try clear key); (try clear key2); (try clear ih); (try clear w5); (try clear w11); (try clear w2); (try clear w3); (try clear w4); (try clear w6); (try clear w7); (try clear w8); (try clear w9); (try clear p4); (try clear o4); (try simp only [decide_eq_true_eq, decide_eq_false_iff_not] at *); unfold x_shotAt; (repeat' split) <;> first | rfl | omega | (simp_all; done) | (simp_all; omega)) (by intros; first | rfl | omega) hM)
      · refine j_iconst C dX6_shotAt_37 ?_
        refine j_goto (tgt := 42) C dX6_shotAt_38 (by decide) ?_
        first
          | (refine J.lvs (lv' := [(0, .ref o), (1, .int (iN (f))), (2, .int (iN (z))), (4, .int (iN (-1)))]) ?_ ?_
             · intro q hq; simp only [List.mem_cons, List.not_mem_nil, or_false] at hq; rcases hq with rfl | rfl | rfl | rfl <;> rfl
             · refine key _ _ _ (by clear I i1 i2 i3 i3e i4 i4e i5 i6 i7 i8 i10 i11; (try clear key); (try clear key2); (try clear ih); (try clear w5); (try clear w11); (try clear w2); (try clear w3); (try clear w4); (try clear w6); (try clear w7); (try clear w8); (try clear w9); (try clear p4); (try clear o4); (try simp only [decide_eq_true_eq, decide_eq_false_iff_not] at *); unfold x_shotAt; (repeat' split) <;> first | rfl | omega | (simp_all; done) | (simp_all; omega)) (by intros; first | rfl | omega) hM)
          | (refine J.lvs (lv' := [(0, .ref o), (1, .int (iN (f))), (2, .int (iN (z))), (4, .int (iN (swM M f z)))]) ?_ ?_
             · intro q hq; simp only [List.mem_cons, List.not_mem_nil, or_false] at hq; rcases hq with rfl | rfl | rfl | rfl <;> rfl
             · refine key _ _ _ (by clear I i1 i2 i3 i3e i4 i4e i5 i6 i7 i8 i10 i11; (try clear key); (try clear key2); (try clear ih); (try clear w5); (try clear w11); (try clear w2); (try clear w3); (try clear w4); (try clear w6); (try clear w7); (try clear w8); (try clear w9); (try clear p4); (try clear o4); (try simp only [decide_eq_true_eq, decide_eq_false_iff_not] at *); unfold x_shotAt; (repeat' split) <;> first | rfl | omega | (simp_all; done) | (simp_all; omega)) (by intros; first | rfl | omega) hM)
    · try simp only [decide_eq_true_eq, decide_eq_false_iff_not] at c24
      refine j_iconst C dX6_shotAt_27 ?_
      refine j_goto (tgt := 42) C dX6_shotAt_28 (by decide) ?_
      first
        | (refine J.lvs (lv' := [(0, .ref o), (1, .int (iN (f))), (2, .int (iN (z))), (4, .int (iN (-1)))]) ?_ ?_
           · intro q hq; simp only [List.mem_cons, List.not_mem_nil, or_false] at hq; rcases hq with rfl | rfl | rfl | rfl <;> rfl
           · refine key _ _ _ (by clear I i1 i2 i3 i3e i4 i4e i5 i6 i7 i8 i10 i11; (try clear key); (try clear key2); (try clear ih); (try clear w5); (try clear w11); (try clear w2); (try clear w3); (try clear w4); (try clear w6); (try clear w7); (try clear w8); (try clear w9); (try clear p4); (try clear o4); (try simp only [decide_eq_true_eq, decide_eq_false_iff_not] at *); unfold x_shotAt; (repeat' split) <;> first | rfl | omega | (simp_all; done) | (simp_all; omega)) (by intros; first | rfl | omega) hM)
        | (refine J.lvs (lv' := [(0, .ref o), (1, .int (iN (f))), (2, .int (iN (z))), (4, .int (iN (swM M f z)))]) ?_ ?_
           · intro q hq; simp only [List.mem_cons, List.not_mem_nil, or_false] at hq; rcases hq with rfl | rfl | rfl | rfl <;> rfl
           · refine key _ _ _ (by clear I i1 i2 i3 i3e i4 i4e i5 i6 i7 i8 i10 i11; (try clear key); (try clear key2); (try clear ih); (try clear w5); (try clear w11); (try clear w2); (try clear w3); (try clear w4); (try clear w6); (try clear w7); (try clear w8); (try clear w9); (try clear p4); (try clear o4); (try simp only [decide_eq_true_eq, decide_eq_false_iff_not] at *); unfold x_shotAt; (repeat' split) <;> first | rfl | omega | (simp_all; done) | (simp_all; omega)) (by intros; first | rfl | omega) hM)

set_option maxHeartbeats 4000000 in
set_option maxRecDepth 100000 in
theorem m_run (l : Launch) (hfl : l.stackTraces = false) {M : wM} {r : Int} (h_r : rg r) (I : Inv M) : MC l yX6_run cX6_run 3 (some FieldType.int) 4 [.int (iN r)] M (.inl (some (.int (iN (if x_run M r = 0 then v_run M r else 0))))) (n_run M r) := by
  intro S0 o B hM0
  refine Ct.of cal_X6_run hfl (Nat.le_of_ble_eq_true rfl) ?_
  intro p e s m args below meth c D sz C ME
  have hM : RMF S0 S0 o B M := ⟨hM0, mF.rf⟩
  have I9 := I
  obtain ⟨i1, i2, i3, i3e, i4, i4e, i5, i6, i7, i8, i10, i11⟩ := I9
  obtain ⟨a1, a2, a3, a4, a5, a6, a7⟩ := id i1
  have key : ∀ (x : Int) (S : wS), x = x_run M r → RMF S0 S o B M → J p l e { frames := 20 * 4, cells := 0, slots := 0, locals := 200 * 4 } s m args below meth c 3 D (wA S0 sz) (wQ below D sz S0 (fun r9 S9 => r9 = .inl (some (.int (iN (if x_run M r = 0 then v_run M r else 0)))) ∧ RMF S0 S9 o B (n_run M r)) args s 0 0) 42 [(0, .ref o), (1, .int (iN (r)))] [.int (iN x), .ref o] S 0 0 := by
    intro x S hx hM
    subst hx
    refine j_mcall C hM (c_goesOn l hfl (by unfold x_run; (repeat' split) <;> (unfold rg; omega))) cal_X6_goesOn vi_X6_goesOn rfl ml_Mo_103 rfl rfl (Nat.le_of_ble_eq_true rfl) ⟨by decide, by decide⟩ ⟨by omega, by omega⟩ dX6_run_42 (fun S hM => ?_)
    refine j_ifne_b (tgt := 50) C dX6_run_45 (by decide) (fun c45 => ?_) (fun c45 => ?_)
    · try simp only [decide_eq_true_eq, decide_eq_false_iff_not] at c45
      try simp only [decide_eq_true_eq, decide_eq_false_iff_not] at c45
      have ok : (0 ≤ r ∧ r < M 17 0) ∧ bearP M r 1 = true := by
        clear I i1 i2 i3 i3e i4 i4e i5 i6 i7 i8 i10 i11; (try clear key); (try clear key2); (try clear ih); (try clear w5); (try clear w11); (try clear w2); (try clear w3); (try clear w4); (try clear w6); (try clear w7); (try clear w8); (try clear w9); (try clear p4); (try clear o4); unfold x_run at c45
        (repeat' split at c45) <;> first | rfl | omega | (simp_all; done) | (simp_all; omega)
      
      refine j_aload_n C dX6_run_50 rfl ?_
      refine j_iload_n C dX6_run_51 rfl ?_
      refine j_iconst C dX6_run_52 ?_
      refine j_mcall C hM (c_wears l hfl (M := mup M 0 0 (x_run M r)) (by omega) (wearH_of (M := M) (by omega) i1 i2 i4)) cal_X6_wears vi_X6_wears rfl ml_Mo_162 rfl rfl (Nat.le_of_ble_eq_true rfl) ⟨by decide, by decide⟩ ⟨by omega, by omega⟩ dX6_run_53 (fun S hM => ?_)
      refine j_aload_n C dX6_run_56 rfl ?_
      refine j_iload_n C dX6_run_57 rfl ?_
      refine j_mcall C hM (c_greatest l hfl (by omega) (M := wearM (mup M 0 0 (x_run M r)) r 1) i1 (I4_wear (M := mup M 0 0 (x_run M r)) (by omega) (by omega) i1 i4 ok.2)) cal_X6_greatest vi_X6_greatest rfl ml_Mo_145 rfl rfl (Nat.le_of_ble_eq_true rfl) ⟨by decide, by decide⟩ ⟨by omega, by omega⟩ dX6_run_58 (fun S hM => ?_)
      refine j_iret C ME ?_ (by omega) (by omega) dX6_run_61
      refine ⟨rI ?_, ?_⟩
      · first
        | (rw [if_neg c45]; done)
        | (rw [if_pos c45]; unfold v_run; rfl)
      · unfold n_run
        first
        | (rw [if_neg c45]; exact hM)
        | (rw [if_pos c45]; exact hM)
    · try simp only [decide_eq_true_eq, decide_eq_false_iff_not] at c45
      try simp only [decide_eq_true_eq, decide_eq_false_iff_not] at c45
      refine j_iconst C dX6_run_48 ?_
      refine j_iret C ME ?_ (by omega) (by omega) dX6_run_49
      refine ⟨rI ?_, ?_⟩
      · first
        | (rw [if_neg c45]; done)
        | (rw [if_pos c45]; unfold v_run; rfl)
      · unfold n_run
        first
        | (rw [if_neg c45]; exact hM)
        | (rw [if_pos c45]; exact hM)
  refine j_aload_n C dX6_run_0 rfl ?_
  refine j_iload_n C dX6_run_1 rfl ?_
  refine j_mcall C hM (c_isReel l hfl (by unfold rg at *; omega) (by omega)) cal_X6_isReel vi_X6_isReel rfl ml_Mo_118 rfl rfl (Nat.le_of_ble_eq_true rfl) ⟨by decide, by decide⟩ ⟨by omega, by omega⟩ dX6_run_2 (fun S hM => ?_)
  refine j_istore_n C dX6_run_5 (by decide) ?_
  refine j_aload_n C dX6_run_6 rfl ?_
  refine j_iload_n C dX6_run_7 rfl ?_
  refine j_ifne_b (tgt := 15) C dX6_run_8 (by decide) (fun c8 => ?_) (fun c8 => ?_)
  · try simp only [decide_eq_true_eq, decide_eq_false_iff_not] at c8
    have w4 := i4 r (by omega) (by omega)
    refine j_aload_n C dX6_run_15 rfl ?_
    refine j_iload_n C dX6_run_16 rfl ?_
    refine j_iconst C dX6_run_17 ?_
    refine j_mcall C hM (c_bears l hfl (by omega) (by omega) i1 i4) cal_X6_bears vi_X6_bears rfl ml_Mo_159 rfl rfl (Nat.le_of_ble_eq_true rfl) ⟨by decide, by decide⟩ ⟨by omega, by omega⟩ dX6_run_18 (fun S hM => ?_)
    refine j_ifeq_b (tgt := 37) C dX6_run_21 (by decide) (fun c21 => ?_) (fun c21 => ?_)
    · try simp only [decide_eq_true_eq, decide_eq_false_iff_not] at c21
      refine j_iconst C dX6_run_37 ?_
      refine j_goto (tgt := 42) C dX6_run_38 (by decide) ?_
      refine J.lvs (lv' := [(0, .ref o), (1, .int (iN (r)))]) ?_ ?_
      · intro q hq; simp only [List.mem_cons, List.not_mem_nil, or_false] at hq; rcases hq with rfl | rfl <;> rfl
      · refine key _ _ (by clear I i1 i2 i3 i3e i4 i4e i5 i6 i7 i8 i10 i11; (try clear key); (try clear key2); (try clear ih); (try clear w5); (try clear w11); (try clear w2); (try clear w3); (try clear w4); (try clear w6); (try clear w7); (try clear w8); (try clear w9); (try clear p4); (try clear o4); (try simp only [decide_eq_true_eq, decide_eq_false_iff_not] at *); unfold x_run; (repeat' split) <;> first | rfl | omega | (simp_all; done) | (simp_all; omega)) hM
    · try simp only [decide_eq_true_eq, decide_eq_false_iff_not] at c21
      refine j_aload_n C dX6_run_24 rfl ?_
      refine j_aload_n C dX6_run_25 rfl ?_
      refine j_mgeta C hM fl_Mo_40 (by decide) dX6_run_26 ?_
      refine j_iload_n C dX6_run_29 rfl ?_
      refine j_mald C hM (by decide) rfl (by simp only [mLen]; omega) dX6_run_30 ?_
      refine j_mcall C hM (c_isLent l hfl (by unfold rg at *; omega) i1 i6 i8) cal_X6_isLent vi_X6_isLent rfl ml_Mo_131 rfl rfl (Nat.le_of_ble_eq_true rfl) ⟨by decide, by decide⟩ ⟨by omega, by omega⟩ dX6_run_31 (fun S hM => ?_)
      refine j_ifeq_b (tgt := 41) C dX6_run_34 (by decide) (fun c34 => ?_) (fun c34 => ?_)
      · try simp only [decide_eq_true_eq, decide_eq_false_iff_not] at c34
        refine j_iconst C dX6_run_41 ?_
        refine J.lvs (lv' := [(0, .ref o), (1, .int (iN (r)))]) ?_ ?_
        · intro q hq; simp only [List.mem_cons, List.not_mem_nil, or_false] at hq; rcases hq with rfl | rfl <;> rfl
        · refine key _ _ (by clear I i1 i2 i3 i3e i4 i4e i5 i6 i7 i8 i10 i11; (try clear key); (try clear key2); (try clear ih); (try clear w5); (try clear w11); (try clear w2); (try clear w3); (try clear w4); (try clear w6); (try clear w7); (try clear w8); (try clear w9); (try clear p4); (try clear o4); (try simp only [decide_eq_true_eq, decide_eq_false_iff_not] at *); unfold x_run; (repeat' split) <;> first | rfl | omega | (simp_all; done) | (simp_all; omega)) hM
      · try simp only [decide_eq_true_eq, decide_eq_false_iff_not] at c34
        refine j_iconst C dX6_run_37 ?_
        refine j_goto (tgt := 42) C dX6_run_38 (by decide) ?_
        refine J.lvs (lv' := [(0, .ref o), (1, .int (iN (r)))]) ?_ ?_
        · intro q hq; simp only [List.mem_cons, List.not_mem_nil, or_false] at hq; rcases hq with rfl | rfl <;> rfl
        · refine key _ _ (by clear I i1 i2 i3 i3e i4 i4e i5 i6 i7 i8 i10 i11; (try clear key); (try clear key2); (try clear ih); (try clear w5); (try clear w11); (try clear w2); (try clear w3); (try clear w4); (try clear w6); (try clear w7); (try clear w8); (try clear w9); (try clear p4); (try clear o4); (try simp only [decide_eq_true_eq, decide_eq_false_iff_not] at *); unfold x_run; (repeat' split) <;> first | rfl | omega | (simp_all; done) | (simp_all; omega)) hM
  · try simp only [decide_eq_true_eq, decide_eq_false_iff_not] at c8
    refine j_iconst C dX6_run_11 ?_
    refine j_goto (tgt := 42) C dX6_run_12 (by decide) ?_
    refine J.lvs (lv' := [(0, .ref o), (1, .int (iN (r)))]) ?_ ?_
    · intro q hq; simp only [List.mem_cons, List.not_mem_nil, or_false] at hq; rcases hq with rfl | rfl <;> rfl
    · refine key _ _ (by clear I i1 i2 i3 i3e i4 i4e i5 i6 i7 i8 i10 i11; (try clear key); (try clear key2); (try clear ih); (try clear w5); (try clear w11); (try clear w2); (try clear w3); (try clear w4); (try clear w6); (try clear w7); (try clear w8); (try clear w9); (try clear p4); (try clear o4); (try simp only [decide_eq_true_eq, decide_eq_false_iff_not] at *); unfold x_run; (repeat' split) <;> first | rfl | omega | (simp_all; done) | (simp_all; omega)) hM

set_option maxHeartbeats 4000000 in
set_option maxRecDepth 100000 in
theorem m_giveBack (l : Launch) (hfl : l.stackTraces = false) {M : wM} {z : Int} (h_z : rg z) (I : Inv M) : MC l yX6_giveBack cX6_giveBack 3 (some FieldType.int) 4 [.int (iN z)] M (.inl (some (.int (iN (if x_giveBack M z = 0 then v_giveBack M z else 0))))) (n_giveBack M z) := by
  intro S0 o B hM0
  refine Ct.of cal_X6_giveBack hfl (Nat.le_of_ble_eq_true rfl) ?_
  intro p e s m args below meth c D sz C ME
  have hM : RMF S0 S0 o B M := ⟨hM0, mF.rf⟩
  have I9 := I
  obtain ⟨i1, i2, i3, i3e, i4, i4e, i5, i6, i7, i8, i10, i11⟩ := I9
  obtain ⟨a1, a2, a3, a4, a5, a6, a7⟩ := id i1
  have key : ∀ (x : Int) (S : wS), x = x_giveBack M z → RMF S0 S o B M → J p l e { frames := 20 * 4, cells := 0, slots := 0, locals := 200 * 4 } s m args below meth c 3 D (wA S0 sz) (wQ below D sz S0 (fun r9 S9 => r9 = .inl (some (.int (iN (if x_giveBack M z = 0 then v_giveBack M z else 0)))) ∧ RMF S0 S9 o B (n_giveBack M z)) args s 0 0) 29 [(0, .ref o), (1, .int (iN (z)))] [.int (iN x), .ref o] S 0 0 := by
    intro x S hx hM
    subst hx
    refine j_mcall C hM (c_goesOn l hfl (by unfold x_giveBack; (repeat' split) <;> (unfold rg; omega))) cal_X6_goesOn vi_X6_goesOn rfl ml_Mo_103 rfl rfl (Nat.le_of_ble_eq_true rfl) ⟨by decide, by decide⟩ ⟨by omega, by omega⟩ dX6_giveBack_29 (fun S hM => ?_)
    refine j_ifne_b (tgt := 37) C dX6_giveBack_32 (by decide) (fun c32 => ?_) (fun c32 => ?_)
    · try simp only [decide_eq_true_eq, decide_eq_false_iff_not] at c32
      try simp only [decide_eq_true_eq, decide_eq_false_iff_not] at c32
      have ok : 0 ≤ z ∧ z < M 28 0 := by
        clear I i1 i2 i3 i3e i4 i4e i5 i6 i7 i8 i10 i11; (try clear key); (try clear key2); (try clear ih); (try clear w5); (try clear w11); (try clear w2); (try clear w3); (try clear w4); (try clear w6); (try clear w7); (try clear w8); (try clear w9); (try clear p4); (try clear o4); unfold x_giveBack at c32
        (repeat' split at c32) <;> first | rfl | omega | (simp_all; done) | (simp_all; omega)
      have e26 : mup (mup M 0 0 (x_giveBack M z)) 27 z (bN true) 26 z = M 26 z := rfl
      have e29 : mup (mup M 0 0 (x_giveBack M z)) 27 z (bN true) 29 0 = M 29 0 := rfl
      have w8 := i8 z (by omega) (by omega)
      refine j_aload_n C dX6_giveBack_37 rfl ?_
      refine j_mgeta C hM fl_Mo_77 (by decide) dX6_giveBack_38 ?_
      refine j_iload_n C dX6_giveBack_41 rfl ?_
      refine j_iconst C dX6_giveBack_42 ?_
      refine j_mzst (b := true) C hM (by omega) dX6_giveBack_43 (fun S hM => ?_)
      refine j_aload_n C dX6_giveBack_44 rfl ?_
      refine j_mgeti C hM fl_Mo_181 ⟨by decide, rfl⟩ dX6_giveBack_45 ?_
      refine j_aload_n C dX6_giveBack_48 rfl ?_
      refine j_mgeta C hM fl_Mo_74 (by decide) dX6_giveBack_49 ?_
      refine j_iload_n C dX6_giveBack_52 rfl ?_
      refine j_mald C hM (by decide) rfl (by simp only [mLen]; omega) dX6_giveBack_53 ?_
      refine j_icmp_le (tgt := 71) C dX6_giveBack_54 (by decide) (by unfold rg at *; omega) (by unfold rg at *; omega) (fun c54 => ?_) (fun c54 => ?_)
      · refine j_iconst C dX6_giveBack_71 ?_
        refine j_iret C ME ?_ (by omega) (by omega) dX6_giveBack_72
        refine ⟨rI ?_, ?_⟩
        · first
          | (rw [if_neg c32]; done)
          | (rw [if_pos c32]; unfold v_giveBack; (simp_all [mup] <;> omega))
        · unfold n_giveBack
          first
          | (rw [if_neg c32]; exact hM)
          | (rw [if_pos c32]; exact hM)
      · refine j_aload_n C dX6_giveBack_57 rfl ?_
        refine j_mgeti C hM fl_Mo_181 ⟨by decide, rfl⟩ dX6_giveBack_58 ?_
        refine j_aload_n C dX6_giveBack_61 rfl ?_
        refine j_mgeta C hM fl_Mo_74 (by decide) dX6_giveBack_62 ?_
        refine j_iload_n C dX6_giveBack_65 rfl ?_
        refine j_mald C hM (by decide) rfl (by simp only [mLen]; omega) dX6_giveBack_66 ?_
        refine j_isub C dX6_giveBack_67 ?_
        refine j_goto (tgt := 72) C dX6_giveBack_68 (by decide) ?_
        refine j_iret C ME ?_ (by omega) (by omega) dX6_giveBack_72
        refine ⟨rI ?_, ?_⟩
        · first
          | (rw [if_neg c32]; done)
          | (rw [if_pos c32]; unfold v_giveBack; (simp_all [mup] <;> omega))
        · unfold n_giveBack
          first
          | (rw [if_neg c32]; exact hM)
          | (rw [if_pos c32]; exact hM)
    · try simp only [decide_eq_true_eq, decide_eq_false_iff_not] at c32
      try simp only [decide_eq_true_eq, decide_eq_false_iff_not] at c32
      refine j_iconst C dX6_giveBack_35 ?_
      refine j_iret C ME ?_ (by omega) (by omega) dX6_giveBack_36
      refine ⟨rI ?_, ?_⟩
      · first
        | (rw [if_neg c32]; done)
        | (rw [if_pos c32]; unfold v_giveBack; (simp_all [mup] <;> omega))
      · unfold n_giveBack
        first
        | (rw [if_neg c32]; exact hM)
        | (rw [if_pos c32]; exact hM)
  refine j_aload_n C dX6_giveBack_0 rfl ?_
  refine j_iload_n C dX6_giveBack_1 rfl ?_
  refine j_mcall C hM (c_isLoan l hfl (by unfold rg at *; omega) (by omega)) cal_X6_isLoan vi_X6_isLoan rfl ml_Mo_184 rfl rfl (Nat.le_of_ble_eq_true rfl) ⟨by decide, by decide⟩ ⟨by omega, by omega⟩ dX6_giveBack_2 (fun S hM => ?_)
  refine j_istore_n C dX6_giveBack_5 (by decide) ?_
  refine j_aload_n C dX6_giveBack_6 rfl ?_
  refine j_iload_n C dX6_giveBack_7 rfl ?_
  refine j_ifne_b (tgt := 15) C dX6_giveBack_8 (by decide) (fun c8 => ?_) (fun c8 => ?_)
  · try simp only [decide_eq_true_eq, decide_eq_false_iff_not] at c8
    have w8 := i8 z (by omega) (by omega)
    refine j_aload_n C dX6_giveBack_15 rfl ?_
    refine j_mgeta C hM fl_Mo_77 (by decide) dX6_giveBack_16 ?_
    refine j_iload_n C dX6_giveBack_19 rfl ?_
    refine j_mzld C hM (by omega) dX6_giveBack_20 ?_
    refine j_if_eq (tgt := 28) C dX6_giveBack_21 (by decide) (by unfold rg at *; omega) (fun c21 => ?_) (fun c21 => ?_)
    · refine j_iconst C dX6_giveBack_28 ?_
      refine J.lvs (lv' := [(0, .ref o), (1, .int (iN (z)))]) ?_ ?_
      · intro q hq; simp only [List.mem_cons, List.not_mem_nil, or_false] at hq; rcases hq with rfl | rfl <;> rfl
      · refine key _ _ (by clear I i1 i2 i3 i3e i4 i4e i5 i6 i7 i8 i10 i11; (try clear key); (try clear key2); (try clear ih); (try clear w5); (try clear w11); (try clear w2); (try clear w3); (try clear w4); (try clear w6); (try clear w7); (try clear w8); (try clear w9); (try clear p4); (try clear o4); (try simp only [decide_eq_true_eq, decide_eq_false_iff_not] at *); unfold x_giveBack; (repeat' split) <;> first | rfl | omega | (simp_all; done) | (simp_all; omega)) hM
    · refine j_iconst C dX6_giveBack_24 ?_
      refine j_goto (tgt := 29) C dX6_giveBack_25 (by decide) ?_
      refine J.lvs (lv' := [(0, .ref o), (1, .int (iN (z)))]) ?_ ?_
      · intro q hq; simp only [List.mem_cons, List.not_mem_nil, or_false] at hq; rcases hq with rfl | rfl <;> rfl
      · refine key _ _ (by clear I i1 i2 i3 i3e i4 i4e i5 i6 i7 i8 i10 i11; (try clear key); (try clear key2); (try clear ih); (try clear w5); (try clear w11); (try clear w2); (try clear w3); (try clear w4); (try clear w6); (try clear w7); (try clear w8); (try clear w9); (try clear p4); (try clear o4); (try simp only [decide_eq_true_eq, decide_eq_false_iff_not] at *); unfold x_giveBack; (repeat' split) <;> first | rfl | omega | (simp_all; done) | (simp_all; omega)) hM
  · try simp only [decide_eq_true_eq, decide_eq_false_iff_not] at c8
    refine j_iconst C dX6_giveBack_11 ?_
    refine j_goto (tgt := 29) C dX6_giveBack_12 (by decide) ?_
    refine J.lvs (lv' := [(0, .ref o), (1, .int (iN (z)))]) ?_ ?_
    · intro q hq; simp only [List.mem_cons, List.not_mem_nil, or_false] at hq; rcases hq with rfl | rfl <;> rfl
    · refine key _ _ (by clear I i1 i2 i3 i3e i4 i4e i5 i6 i7 i8 i10 i11; (try clear key); (try clear key2); (try clear ih); (try clear w5); (try clear w11); (try clear w2); (try clear w3); (try clear w4); (try clear w6); (try clear w7); (try clear w8); (try clear w9); (try clear p4); (try clear o4); (try simp only [decide_eq_true_eq, decide_eq_false_iff_not] at *); unfold x_giveBack; (repeat' split) <;> first | rfl | omega | (simp_all; done) | (simp_all; omega)) hM

