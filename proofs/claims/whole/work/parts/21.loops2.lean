/-! THE REFERENCE: show, mend, scan, lend. -/
def showC (M : wM) (z : Int) (k : Nat) : wM := fun j i =>
  if j = 15 then (if (0 ≤ i ∧ i < 60 * k) ∧ M 13 (i / 60) = M 19 (M 23 z) ∧ i % 60 + 1 < M 16 (i / 60) then M 15 i + (1 + M 25 z) else M 15 i)
  else if j = 30 then (if i = 0 then M 30 0 + sumI (fun r => if M 13 r = M 19 (M 23 z) then onM M r else 0) k else M 30 i)
  else M j i
theorem sC15 {M : wM} {z : Int} {k : Nat} (i : Int) : showC M z k 15 i = (if (0 ≤ i ∧ i < 60 * k) ∧ M 13 (i / 60) = M 19 (M 23 z) ∧ i % 60 + 1 < M 16 (i / 60) then M 15 i + (1 + M 25 z) else M 15 i) := rfl
theorem sC30 {M : wM} {z : Int} {k : Nat} (i : Int) : showC M z k 30 i = (if i = 0 then M 30 0 + sumI (fun r => if M 13 r = M 19 (M 23 z) then onM M r else 0) k else M 30 i) := rfl
theorem sCne {M : wM} {z : Int} {k j : Nat} (i : Int) (h1 : ¬ j = 15) (h2 : ¬ j = 30) : showC M z k j i = M j i := by
  show (if j = 15 then _ else if j = 30 then _ else M j i) = _
  rw [if_neg h1, if_neg h2]
theorem wM15 {M : wM} {r w : Int} (i : Int) : wearM M r w 15 i = (if 60 * r ≤ i ∧ i < 60 * r + (M 16 r - 1) then M 15 i + w else M 15 i) := rfl
theorem wM30 {M : wM} {r w : Int} (i : Int) : wearM M r w 30 i = (if i = 0 then M 30 0 + onM M r else M 30 i) := by
  show (if 30 = 30 ∧ i = 0 then _ else M 30 i) = _
  simp
theorem wMne {M : wM} {r w : Int} {j : Nat} (i : Int) (h1 : ¬ j = 15) (h2 : ¬ j = 30) : wearM M r w j i = M j i := by
  unfold wearM mup wearK mset
  rw [if_neg (fun z => h2 z.1), if_neg h1]
theorem showC_0 {M : wM} {z : Int} : showC M z 0 = M := by
  funext j i
  by_cases h1 : j = 15
  · subst h1; rw [sC15, if_neg (by omega)]
  · by_cases h2 : j = 30
    · subst h2
      rw [sC30]
      by_cases e : i = 0
      · rw [if_pos e, e]; simp [sumI]
      · rw [if_neg e]
    · rw [sCne i h1 h2]
theorem showC_S0 {M : wM} {z : Int} {k : Nat} (h : ¬ M 13 k = M 19 (M 23 z)) : showC M z (k + 1) = showC M z k := by
  funext j i
  by_cases h1 : j = 15
  · subst h1
    rw [sC15, sC15]
    by_cases e : i / 60 = k
    · rw [e, if_neg (fun q => h q.2.1), if_neg (fun q => h q.2.1)]
    · by_cases e2 : (0 ≤ i ∧ i < 60 * k) ∧ M 13 (i / 60) = M 19 (M 23 z) ∧ i % 60 + 1 < M 16 (i / 60)
      · rw [if_pos e2, if_pos ⟨by omega, e2.2⟩]
      · rw [if_neg e2, if_neg (fun q => e2 ⟨by omega, q.2⟩)]
  · by_cases h2 : j = 30
    · subst h2; rw [sC30, sC30, sumI, if_neg h, Int.add_zero]
    · rw [sCne i h1 h2, sCne i h1 h2]
theorem showC_S1 {M : wM} {z : Int} {k : Nat} (h : M 13 k = M 19 (M 23 z)) (hm : M 16 k ≤ 60) : showC M z (k + 1) = wearM (showC M z k) k (1 + M 25 z) := by
  funext j i
  by_cases h1 : j = 15
  · subst h1
    rw [wM15, sC15, sC15, show showC M z k 16 k = M 16 k from rfl]
    by_cases e : i / 60 = k
    · rw [e]
      rw [if_neg (c := (0 ≤ i ∧ i < 60 * (k : Int)) ∧ _) (by omega)]
      by_cases e2 : i % 60 + 1 < M 16 k
      · rw [if_pos ⟨by omega, h, e2⟩, if_pos (by omega)]
      · rw [if_neg (fun q => e2 q.2.2), if_neg (by omega)]
    · rw [if_neg (c := 60 * (k : Int) ≤ i ∧ _) (by omega)]
      by_cases e2 : (0 ≤ i ∧ i < 60 * k) ∧ M 13 (i / 60) = M 19 (M 23 z) ∧ i % 60 + 1 < M 16 (i / 60)
      · rw [if_pos e2, if_pos ⟨by omega, e2.2⟩]
      · rw [if_neg e2, if_neg (fun q => e2 ⟨by omega, q.2⟩)]
  · by_cases h2 : j = 30
    · subst h2
      rw [wM30, sC30, sC30, if_pos rfl, sC30, show onM (showC M z k) k = onM M k from rfl, sumI, if_pos h]
      by_cases e : i = 0
      · rw [if_pos e, if_pos e]; omega
      · rw [if_neg e, if_neg e, if_neg e]
    · rw [sCne i h1 h2, wMne i h1 h2, sCne i h1 h2]
def mend22 (M : wM) (s : Int) : Nat → Int → Int
  | 0, i => M 22 i
  | k + 1, i => if i = 32 * (60 * k + s) + (M 5 s - 1) / 32 then andI (mend22 M s k i) (xorI (shlI 1 ((M 5 s - 1) % 32)) (-1)) else mend22 M s k i
def mendC (M : wM) (r z : Int) (k : Nat) : wM := fun j i =>
  if j = 22 then mend22 M (M 14 (60 * r + z)) k i
  else if j = 15 then (if i = 60 * r + z then 0 else M 15 i)
  else if j = 5 then (if i = M 14 (60 * r + z) then M 5 i - 1 else M 5 i)
  else M j i
theorem mendC_0 {M : wM} {r z : Int} : mendC M r z 0 = mup (mup M 15 (60 * r + z) 0) 5 (M 14 (60 * r + z)) (M 5 (M 14 (60 * r + z)) - 1) := by
  funext j i
  unfold mendC mup
  by_cases h1 : j = 22
  · subst h1; simp [mend22]
  · by_cases h2 : j = 15
    · subst h2; simp
    · by_cases h3 : j = 5
      · subst h3
        simp only [if_neg h1, if_neg h2, if_true, true_and]
        by_cases e : i = M 14 (60 * r + z)
        · rw [if_pos e, if_pos e, e]
        · rw [if_neg e, if_neg e]; simp
      · simp [h1, h2, h3]
theorem mendC_S {M : wM} {r z : Int} {k : Nat} : mendC M r z (k + 1) = mup (mendC M r z k) 22 (32 * (60 * k + M 14 (60 * r + z)) + (M 5 (M 14 (60 * r + z)) - 1) / 32) (andI (mendC M r z k 22 (32 * (60 * k + M 14 (60 * r + z)) + (M 5 (M 14 (60 * r + z)) - 1) / 32)) (xorI (shlI 1 ((M 5 (M 14 (60 * r + z)) - 1) % 32)) (-1))) := by
  funext j i
  unfold mup
  by_cases h1 : j = 22
  · subst h1
    show mend22 M _ (k + 1) i = _
    rw [mend22]
    by_cases e : i = 32 * (60 * k + M 14 (60 * r + z)) + (M 5 (M 14 (60 * r + z)) - 1) / 32
    · rw [if_pos e, if_pos ⟨rfl, e⟩, e]; rfl
    · rw [if_neg e, if_neg (fun q => e q.2)]; rfl
  · rw [if_neg (fun q => h1 q.1)]
    unfold mendC
    rw [if_neg h1, if_neg h1]
def lossM (M : wM) (r k : Int) : Int := if M 5 (M 14 (60 * r + k)) < bN (wornP M r k) + bN (wornP M r (k - 1)) then M 5 (M 14 (60 * r + k)) else bN (wornP M r k) + bN (wornP M r (k - 1))
def sc8 (M : wM) (r z : Int) : Nat → Int → Int
  | 0, i => M 8 i
  | k + 1, i => if i = M 14 (60 * r + k) ∧ M 8 i ≤ z then z else sc8 M r z k i
def sc9 (M : wM) (r z : Int) : Nat → Int → Int
  | 0, i => M 9 i
  | k + 1, i => if i = M 14 (60 * r + k) ∧ M 8 i ≤ z then lossM M r k else sc9 M r z k i
def scanC (M : wM) (r z : Int) (k : Nat) : wM := fun j i => if j = 8 then sc8 M r z k i else if j = 9 then sc9 M r z k i else M j i
theorem sc8_at {M : wM} {r z s : Int} : ∀ {k : Nat}, (∀ k' : Nat, k' < k → M 14 (60 * r + k') ≠ s) → sc8 M r z k s = M 8 s
  | 0, _ => rfl
  | k + 1, h => by
    rw [sc8, if_neg (fun q => h k (by omega) q.1.symm)]
    exact sc8_at (fun k' hk => h k' (by omega))
theorem scanC_0 {M : wM} {r z : Int} : scanC M r z 0 = M := by
  funext j i
  unfold scanC
  by_cases h1 : j = 8
  · subst h1; simp [sc8]
  · by_cases h2 : j = 9
    · subst h2; simp [sc9]
    · simp [h1, h2]
theorem scanC_S1 {M : wM} {r z : Int} {k : Nat} (h : M 8 (M 14 (60 * r + k)) ≤ z) : scanC M r z (k + 1) = mup (mup (scanC M r z k) 8 (M 14 (60 * r + k)) z) 9 (M 14 (60 * r + k)) (lossM M r k) := by
  funext j i
  unfold mup
  by_cases h1 : j = 8
  · subst h1
    rw [if_neg (by omega)]
    show sc8 M r z (k + 1) i = _
    rw [sc8]
    by_cases e : i = M 14 (60 * r + k)
    · rw [if_pos ⟨e, by rw [e]; exact h⟩, if_pos ⟨rfl, e⟩]
    · rw [if_neg (fun q => e q.1), if_neg (fun q => e q.2)]; rfl
  · by_cases h2 : j = 9
    · subst h2
      show sc9 M r z (k + 1) i = _
      rw [sc9]
      by_cases e : i = M 14 (60 * r + k)
      · rw [if_pos ⟨e, by rw [e]; exact h⟩, if_pos ⟨rfl, e⟩]
      · rw [if_neg (fun q => e q.1), if_neg (fun q => e q.2), if_neg (by omega)]; rfl
    · rw [if_neg (fun q => h2 q.1), if_neg (fun q => h1 q.1)]
      unfold scanC
      rw [if_neg h1, if_neg h2, if_neg h1, if_neg h2]
theorem scanC_S0 {M : wM} {r z : Int} {k : Nat} (h : ¬ M 8 (M 14 (60 * r + k)) ≤ z) : scanC M r z (k + 1) = scanC M r z k := by
  funext j i
  by_cases h1 : j = 8
  · subst h1
    show sc8 M r z (k + 1) i = sc8 M r z k i
    rw [sc8, if_neg (fun q => h (by rw [← q.1]; exact q.2))]
  · by_cases h2 : j = 9
    · subst h2
      show sc9 M r z (k + 1) i = sc9 M r z k i
      rw [sc9, if_neg (fun q => h (by rw [← q.1]; exact q.2))]
    · unfold scanC
      rw [if_neg h1, if_neg h2, if_neg h1, if_neg h2]
def badM (M : wM) (f w : Int) (k : Nat) : Bool := anyI (fun r => decide (M 13 r = M 19 f) && !bearP M r w) k
theorem anyI_mono {P : Nat → Bool} {k n : Nat} (h : k ≤ n) (hk : anyI P k = true) : anyI P n = true := by
  obtain ⟨i, h1, h2⟩ := (anyI_iff P k).mp hk
  exact (anyI_iff P n).mpr ⟨i, by omega, h2⟩
def x_show (M : wM) (z : Int) : Int := if ¬ (0 ≤ z ∧ z < M 28 0) then 1 else if ¬ M 27 z = 0 ∨ M 24 z = 0 then 2 else 0
def v_show (M : wM) (z : Int) : Int := M 24 z - 1
def n_show (M : wM) (z : Int) : wM := if x_show M z = 0 then mup (showC (mup M 0 0 (x_show M z)) z (M 17 0).toNat) 24 z (M 24 z - 1) else (mup M 0 0 (x_show M z))
def x_mend (M : wM) (r z : Int) : Int := if ¬ ((0 ≤ r ∧ r < M 17 0) ∧ 0 ≤ z ∧ z ≤ M 16 r - 2) then 1 else if M 5 (M 14 (60 * r + z)) < 2 ∨ lentM M (M 13 r) = true then 2 else 0
def v_mend (M : wM) (r z : Int) : Int := M 15 (60 * r + z)
def n_mend (M : wM) (r z : Int) : wM := if x_mend M r z = 0 then mup (mendC (mup M 0 0 (x_mend M r z)) r z (M 21 0).toNat) 9 (M 14 (60 * r + z)) (if M 5 (M 14 (60 * r + z)) - 1 < M 9 (M 14 (60 * r + z)) then M 5 (M 14 (60 * r + z)) - 1 else M 9 (M 14 (60 * r + z))) else (mup M 0 0 (x_mend M r z))
set_option maxHeartbeats 4000000 in
set_option maxRecDepth 100000 in
theorem m_show (l : Launch) (hfl : l.stackTraces = false) {M : wM} {z : Int} (h_z : rg z) (I : Inv M) : MC l yX6_show cX6_show 4 (some FieldType.int) 4 [.int (iN z)] M (.inl (some (.int (iN (if x_show M z = 0 then v_show M z else 0))))) (n_show M z) := by
  intro S0 o B hM0
  refine Ct.of cal_X6_show hfl (Nat.le_of_ble_eq_true rfl) ?_
  intro p e s m args below meth c D sz C ME
  have hM : RMF S0 S0 o B M := ⟨hM0, mF.rf⟩
  have I9 := I
  obtain ⟨i1, i2, i3, i3e, i4, i4e, i5, i6, i7, i8, i10, i11⟩ := I9
  obtain ⟨a1, a2, a3, a4, a5, a6, a7⟩ := id i1
  have key : ∀ (x : Int) (S : wS), x = x_show M z → RMF S0 S o B M → J p l e { frames := 20 * 4, cells := 0, slots := 0, locals := 200 * 4 } s m args below meth c 4 D (wA S0 sz) (wQ below D sz S0 (fun r9 S9 => r9 = .inl (some (.int (iN (if x_show M z = 0 then v_show M z else 0)))) ∧ RMF S0 S9 o B (n_show M z)) args s 0 0) 38 [(0, .ref o), (1, .int (iN (z)))] [.int (iN x), .ref o] S 0 0 := by
    intro x S hx hM
    subst hx
    refine j_mcall C hM (c_goesOn l hfl (by unfold x_show; (repeat' split) <;> (unfold rg; omega))) cal_X6_goesOn vi_X6_goesOn rfl ml_Mo_103 rfl rfl (Nat.le_of_ble_eq_true rfl) ⟨by decide, by decide⟩ ⟨by omega, by omega⟩ dX6_show_38 (fun S hM => ?_)
    refine j_ifne_b (tgt := 46) C dX6_show_41 (by decide) (fun c41 => ?_) (fun c41 => ?_)
    · try simp only [decide_eq_true_eq, decide_eq_false_iff_not] at c41
      try simp only [decide_eq_true_eq, decide_eq_false_iff_not] at c41
      have ok : 0 ≤ z ∧ z < M 28 0 := by
        clear I i1 i2 i3 i3e i4 i4e i5 i6 i7 i8 i10 i11; (try clear key); (try clear key2); (try clear ih); (try clear w5); (try clear w11); (try clear w2); (try clear w3); (try clear w4); (try clear w6); (try clear w7); (try clear w8); (try clear w9); (try clear p4); (try clear o4); unfold x_show at c41
        (repeat' split at c41) <;> first | rfl | omega | (simp_all; done) | (simp_all; omega)
      have w8 := i8 z (by omega) (by omega)
      have w60 := i6 (M 23 z) (by omega) (by omega)
      refine j_iconst C dX6_show_46 ?_
      refine j_istore_n C dX6_show_47 (by decide) ?_
      have key2 : ∀ (fuel : Nat) (i : Nat) (S : wS), M 17 0 - i < fuel → (i : Int) ≤ M 17 0 → RMF S0 S o B (showC (mup M 0 0 (x_show M z)) z i) → J p l e { frames := 20 * 4, cells := 0, slots := 0, locals := 200 * 4 } s m args below meth c 4 D (wA S0 sz) (wQ below D sz S0 (fun r9 S9 => r9 = .inl (some (.int (iN (if x_show M z = 0 then v_show M z else 0)))) ∧ RMF S0 S9 o B (n_show M z)) args s 0 0) 48 [(0, .ref o), (1, .int (iN (z))), (3, .int (iN (i)))] [] S 0 0 := by
        intro fuel
        induction fuel with
        | zero => intro i S h1 h2 hM; omega
        | succ fuel ih =>
          intro i S h1 h2 hM
          have e17 : (showC (mup M 0 0 (x_show M z)) z i) 17 0 = M 17 0 := rfl
          have w4 := fun (h : (i : Int) < M 17 0) => i4 i (by omega) (by omega)
          have f1 : (showC (mup M 0 0 (x_show M z)) z i) 13 i = M 13 i := rfl
          have f2 : (showC (mup M 0 0 (x_show M z)) z i) 19 ((showC (mup M 0 0 (x_show M z)) z i) 23 z) = M 19 (M 23 z) := rfl
          refine j_iload_n C dX6_show_48 rfl ?_
          refine j_aload_n C dX6_show_49 rfl ?_
          refine j_mgeti C hM fl_Mo_94 ⟨by decide, rfl⟩ dX6_show_50 ?_
          refine j_icmp_ge (tgt := 95) C dX6_show_53 (by decide) (by unfold rg at *; omega) (by unfold rg at *; omega) (fun c53 => ?_) (fun c53 => ?_)
          · have ei : i = (M 17 0).toNat := by omega
            subst ei
            refine j_aload_n C dX6_show_95 rfl ?_
            refine j_mgeta C hM fl_Mo_68 (by decide) dX6_show_96 ?_
            refine j_iload_n C dX6_show_99 rfl ?_
            refine j_dup2 C dX6_show_100 rfl rfl ?_
            refine j_mald C hM (by decide) rfl (by simp only [mLen]; omega) dX6_show_101 ?_
            refine j_iconst C dX6_show_102 ?_
            refine j_isub C dX6_show_103 ?_
            refine j_mast C hM (by decide) rfl (by simp only [mLen]; omega) dX6_show_104 (fun S hM => ?_)
            refine j_aload_n C dX6_show_105 rfl ?_
            refine j_mgeta C hM fl_Mo_68 (by decide) dX6_show_106 ?_
            refine j_iload_n C dX6_show_109 rfl ?_
            refine j_mald C hM (by decide) rfl (by simp only [mLen]; omega) dX6_show_110 ?_
            refine j_iret C ME ?_ (by omega) (by omega) dX6_show_111
            refine ⟨rI ?_, ?_⟩
            · first
              | (rw [if_neg c41]; done)
              | (rw [if_pos c41]; unfold v_show; show (if 24 = 24 ∧ z = z then M 24 z - 1 else _) = _; rw [if_pos ⟨rfl, rfl⟩])
            · unfold n_show
              first
              | (rw [if_neg c41]; exact hM)
              | (rw [if_pos c41]; exact hM)
          · have w4 := w4 (by omega)
            refine j_aload_n C dX6_show_56 rfl ?_
            refine j_mgeta C hM fl_Mo_40 (by decide) dX6_show_57 ?_
            refine j_iload_n C dX6_show_60 rfl ?_
            refine j_mald C hM (by decide) rfl (by simp only [mLen]; omega) dX6_show_61 ?_
            refine j_aload_n C dX6_show_62 rfl ?_
            refine j_mgeta C hM fl_Mo_56 (by decide) dX6_show_63 ?_
            refine j_aload_n C dX6_show_66 rfl ?_
            refine j_mgeta C hM fl_Mo_65 (by decide) dX6_show_67 ?_
            refine j_iload_n C dX6_show_70 rfl ?_
            refine j_mald C hM (by decide) rfl (show 0 ≤ z ∧ z < ((20 : Nat) : Int) by omega) dX6_show_71 ?_
            refine j_mald C hM (by decide) rfl (show 0 ≤ M 23 z ∧ M 23 z < ((10 : Nat) : Int) by omega) dX6_show_72 ?_
            refine j_icmp_ne (tgt := 89) C dX6_show_73 (by decide) (by rw [f1]; unfold rg; omega) (by rw [f2]; unfold rg; omega) (fun c73 => ?_) (fun c73 => ?_)
            · refine j_iinc C dX6_show_89 rfl (by decide) ?_
              refine j_goto (tgt := 48) C dX6_show_92 (by decide) ?_
              have ihk := ih (i + 1) S (by omega) (by omega)
              first
                | (have ihk := ihk (by rw [showC_S1 (M := (mup M 0 0 (x_show M z))) (show M 13 i = M 19 (M 23 z) by omega) (show M 16 i ≤ 60 by omega)]; exact hM)
                   refine J.lvs (lv' := [(0, .ref o), (1, .int (iN (z))), (3, .int (iN (((i + 1 : Nat) : Int))))]) ?_ ?_
                   · intro q hq; simp only [List.mem_cons, List.not_mem_nil, or_false] at hq; rcases hq with rfl | rfl | rfl <;> rfl
                   · refine ihk)
                | (have ihk := ihk (by rw [showC_S0 (M := (mup M 0 0 (x_show M z))) (show ¬ M 13 i = M 19 (M 23 z) by omega)]; exact hM)
                   refine J.lvs (lv' := [(0, .ref o), (1, .int (iN (z))), (3, .int (iN (((i + 1 : Nat) : Int))))]) ?_ ?_
                   · intro q hq; simp only [List.mem_cons, List.not_mem_nil, or_false] at hq; rcases hq with rfl | rfl | rfl <;> rfl
                   · refine ihk)
            · refine j_aload_n C dX6_show_76 rfl ?_
              refine j_iload_n C dX6_show_77 rfl ?_
              refine j_iconst C dX6_show_78 ?_
              refine j_aload_n C dX6_show_79 rfl ?_
              refine j_mgeta C hM fl_Mo_71 (by decide) dX6_show_80 ?_
              refine j_iload_n C dX6_show_83 rfl ?_
              refine j_mald C hM (by decide) rfl (by simp only [mLen]; omega) dX6_show_84 ?_
              refine j_iadd C dX6_show_85 ?_
              refine j_mcall C hM (c_wears l hfl (M := (showC (mup M 0 0 (x_show M z)) z i)) (by omega) (wearH_of (M := M) (by omega) i1 i2 i4)) cal_X6_wears vi_X6_wears rfl ml_Mo_162 rfl rfl (Nat.le_of_ble_eq_true rfl) ⟨by decide, by decide⟩ ⟨by omega, by omega⟩ dX6_show_86 (fun S hM => ?_)
              refine j_iinc C dX6_show_89 rfl (by decide) ?_
              refine j_goto (tgt := 48) C dX6_show_92 (by decide) ?_
              have ihk := ih (i + 1) S (by omega) (by omega)
              first
                | (have ihk := ihk (by rw [showC_S1 (M := (mup M 0 0 (x_show M z))) (show M 13 i = M 19 (M 23 z) by omega) (show M 16 i ≤ 60 by omega)]; exact hM)
                   refine J.lvs (lv' := [(0, .ref o), (1, .int (iN (z))), (3, .int (iN (((i + 1 : Nat) : Int))))]) ?_ ?_
                   · intro q hq; simp only [List.mem_cons, List.not_mem_nil, or_false] at hq; rcases hq with rfl | rfl | rfl <;> rfl
                   · refine ihk)
                | (have ihk := ihk (by rw [showC_S0 (M := (mup M 0 0 (x_show M z))) (show ¬ M 13 i = M 19 (M 23 z) by omega)]; exact hM)
                   refine J.lvs (lv' := [(0, .ref o), (1, .int (iN (z))), (3, .int (iN (((i + 1 : Nat) : Int))))]) ?_ ?_
                   · intro q hq; simp only [List.mem_cons, List.not_mem_nil, or_false] at hq; rcases hq with rfl | rfl | rfl <;> rfl
                   · refine ihk)
      refine J.lvs (lv' := [(0, .ref o), (1, .int (iN (z))), (3, .int (iN (((0 : Nat) : Int))))]) ?_ ?_
      · intro q hq; simp only [List.mem_cons, List.not_mem_nil, or_false] at hq; rcases hq with rfl | rfl | rfl <;> rfl
      · exact key2 ((M 17 0).toNat + 1) 0 S (by omega) (by omega) (by rw [showC_0]; exact hM)
    · try simp only [decide_eq_true_eq, decide_eq_false_iff_not] at c41
      try simp only [decide_eq_true_eq, decide_eq_false_iff_not] at c41
      refine j_iconst C dX6_show_44 ?_
      refine j_iret C ME ?_ (by omega) (by omega) dX6_show_45
      refine ⟨rI ?_, ?_⟩
      · first
        | (rw [if_neg c41]; done)
        | (rw [if_pos c41]; unfold v_show; show (if 24 = 24 ∧ z = z then M 24 z - 1 else _) = _; rw [if_pos ⟨rfl, rfl⟩])
      · unfold n_show
        first
        | (rw [if_neg c41]; exact hM)
        | (rw [if_pos c41]; exact hM)
  refine j_aload_n C dX6_show_0 rfl ?_
  refine j_iload_n C dX6_show_1 rfl ?_
  refine j_mcall C hM (c_isLoan l hfl (by unfold rg at *; omega) (by omega)) cal_X6_isLoan vi_X6_isLoan rfl ml_Mo_184 rfl rfl (Nat.le_of_ble_eq_true rfl) ⟨by decide, by decide⟩ ⟨by omega, by omega⟩ dX6_show_2 (fun S hM => ?_)
  refine j_istore_n C dX6_show_5 (by decide) ?_
  refine j_aload_n C dX6_show_6 rfl ?_
  refine j_iload_n C dX6_show_7 rfl ?_
  refine j_ifne_b (tgt := 15) C dX6_show_8 (by decide) (fun c8 => ?_) (fun c8 => ?_)
  · try simp only [decide_eq_true_eq, decide_eq_false_iff_not] at c8
    have w8 := i8 z (by omega) (by omega)
    refine j_aload_n C dX6_show_15 rfl ?_
    refine j_mgeta C hM fl_Mo_77 (by decide) dX6_show_16 ?_
    refine j_iload_n C dX6_show_19 rfl ?_
    refine j_mzld C hM (by omega) dX6_show_20 ?_
    refine j_if_ne (tgt := 33) C dX6_show_21 (by decide) (by unfold rg at *; omega) (fun c21 => ?_) (fun c21 => ?_)
    · refine j_iconst C dX6_show_33 ?_
      refine j_goto (tgt := 38) C dX6_show_34 (by decide) ?_
      refine J.lvs (lv' := [(0, .ref o), (1, .int (iN (z)))]) ?_ ?_
      · intro q hq; simp only [List.mem_cons, List.not_mem_nil, or_false] at hq; rcases hq with rfl | rfl <;> rfl
      · refine key _ _ (by clear I i1 i2 i3 i3e i4 i4e i5 i6 i7 i8 i10 i11; (try clear key); (try clear key2); (try clear ih); (try clear w5); (try clear w11); (try clear w2); (try clear w3); (try clear w4); (try clear w6); (try clear w7); (try clear w8); (try clear w9); (try clear p4); (try clear o4); (try simp only [decide_eq_true_eq, decide_eq_false_iff_not] at *); unfold x_show; (repeat' split) <;> first | rfl | omega | (simp_all; done) | (simp_all; omega)) hM
    · refine j_aload_n C dX6_show_24 rfl ?_
      refine j_mgeta C hM fl_Mo_68 (by decide) dX6_show_25 ?_
      refine j_iload_n C dX6_show_28 rfl ?_
      refine j_mald C hM (by decide) rfl (by simp only [mLen]; omega) dX6_show_29 ?_
      refine j_if_ne (tgt := 37) C dX6_show_30 (by decide) (by unfold rg at *; omega) (fun c30 => ?_) (fun c30 => ?_)
      · refine j_iconst C dX6_show_37 ?_
        refine J.lvs (lv' := [(0, .ref o), (1, .int (iN (z)))]) ?_ ?_
        · intro q hq; simp only [List.mem_cons, List.not_mem_nil, or_false] at hq; rcases hq with rfl | rfl <;> rfl
        · refine key _ _ (by clear I i1 i2 i3 i3e i4 i4e i5 i6 i7 i8 i10 i11; (try clear key); (try clear key2); (try clear ih); (try clear w5); (try clear w11); (try clear w2); (try clear w3); (try clear w4); (try clear w6); (try clear w7); (try clear w8); (try clear w9); (try clear p4); (try clear o4); (try simp only [decide_eq_true_eq, decide_eq_false_iff_not] at *); unfold x_show; (repeat' split) <;> first | rfl | omega | (simp_all; done) | (simp_all; omega)) hM
      · refine j_iconst C dX6_show_33 ?_
        refine j_goto (tgt := 38) C dX6_show_34 (by decide) ?_
        refine J.lvs (lv' := [(0, .ref o), (1, .int (iN (z)))]) ?_ ?_
        · intro q hq; simp only [List.mem_cons, List.not_mem_nil, or_false] at hq; rcases hq with rfl | rfl <;> rfl
        · refine key _ _ (by clear I i1 i2 i3 i3e i4 i4e i5 i6 i7 i8 i10 i11; (try clear key); (try clear key2); (try clear ih); (try clear w5); (try clear w11); (try clear w2); (try clear w3); (try clear w4); (try clear w6); (try clear w7); (try clear w8); (try clear w9); (try clear p4); (try clear o4); (try simp only [decide_eq_true_eq, decide_eq_false_iff_not] at *); unfold x_show; (repeat' split) <;> first | rfl | omega | (simp_all; done) | (simp_all; omega)) hM
  · try simp only [decide_eq_true_eq, decide_eq_false_iff_not] at c8
    refine j_iconst C dX6_show_11 ?_
    refine j_goto (tgt := 38) C dX6_show_12 (by decide) ?_
    refine J.lvs (lv' := [(0, .ref o), (1, .int (iN (z)))]) ?_ ?_
    · intro q hq; simp only [List.mem_cons, List.not_mem_nil, or_false] at hq; rcases hq with rfl | rfl <;> rfl
    · refine key _ _ (by clear I i1 i2 i3 i3e i4 i4e i5 i6 i7 i8 i10 i11; (try clear key); (try clear key2); (try clear ih); (try clear w5); (try clear w11); (try clear w2); (try clear w3); (try clear w4); (try clear w6); (try clear w7); (try clear w8); (try clear w9); (try clear p4); (try clear o4); (try simp only [decide_eq_true_eq, decide_eq_false_iff_not] at *); unfold x_show; (repeat' split) <;> first | rfl | omega | (simp_all; done) | (simp_all; omega)) hM

set_option maxHeartbeats 4000000 in
set_option maxRecDepth 100000 in
theorem m_mend (l : Launch) (hfl : l.stackTraces = false) {M : wM} {r z : Int} (h_r : rg r)  (h_z : rg z) (I : Inv M) : MC l yX6_mend cX6_mend 8 (some FieldType.int) 4 [.int (iN r), .int (iN z)] M (.inl (some (.int (iN (if x_mend M r z = 0 then v_mend M r z else 0))))) (n_mend M r z) := by
  intro S0 o B hM0
  refine Ct.of cal_X6_mend hfl (Nat.le_of_ble_eq_true rfl) ?_
  intro p e s m args below meth c D sz C ME
  have hM : RMF S0 S0 o B M := ⟨hM0, mF.rf⟩
  have I9 := I
  obtain ⟨i1, i2, i3, i3e, i4, i4e, i5, i6, i7, i8, i10, i11⟩ := I9
  obtain ⟨a1, a2, a3, a4, a5, a6, a7⟩ := id i1
  have key : ∀ (x : Int) (y : Int) (S : wS), x = x_mend M r z → (x = 0 → y = M 14 (60 * r + z)) → RMF S0 S o B M → J p l e { frames := 20 * 4, cells := 0, slots := 0, locals := 200 * 4 } s m args below meth c 8 D (wA S0 sz) (wQ below D sz S0 (fun r9 S9 => r9 = .inl (some (.int (iN (if x_mend M r z = 0 then v_mend M r z else 0)))) ∧ RMF S0 S9 o B (n_mend M r z)) args s 0 0) 66 [(0, .ref o), (1, .int (iN (r))), (2, .int (iN (z))), (4, .int (iN (y)))] [.int (iN x), .ref o] S 0 0 := by
    intro x y S hx hy hM
    subst hx
    refine j_mcall C hM (c_goesOn l hfl (by unfold x_mend; (repeat' split) <;> (unfold rg; omega))) cal_X6_goesOn vi_X6_goesOn rfl ml_Mo_103 rfl rfl (Nat.le_of_ble_eq_true rfl) ⟨by decide, by decide⟩ ⟨by omega, by omega⟩ dX6_mend_66 (fun S hM => ?_)
    refine j_ifne_b (tgt := 74) C dX6_mend_69 (by decide) (fun c69 => ?_) (fun c69 => ?_)
    · try simp only [splP, decide_eq_true_eq, decide_eq_false_iff_not] at c69
      try simp only [decide_eq_true_eq, decide_eq_false_iff_not] at c69
      have hy := hy c69
      subst hy
      have ok : ((0 ≤ r ∧ r < M 17 0) ∧ 0 ≤ z ∧ z ≤ M 16 r - 2) ∧ ¬ M 5 (M 14 (60 * r + z)) < 2 := by
        (try clear key)
        clear I i1 i2 i3 i3e i4 i4e i5 i6 i7 i8 i10 i11
        unfold x_mend at c69
        (repeat' split at c69) <;> first | rfl | omega | (simp_all; done) | (simp_all; omega)
      have w4 := i4 r (by omega) (by omega)
      have w50 := w4.2.2.2.2 z (by omega) (by omega)
      have w20 := i2 (M 14 (60 * r + z)) w50.1 w50.2.1
      refine j_aload_n C dX6_mend_74 rfl ?_
      refine j_mgeta C hM fl_Mo_46 (by decide) dX6_mend_75 ?_
      refine j_bipush C dX6_mend_78 (by decide) ?_
      refine j_iload_n C dX6_mend_80 rfl ?_
      refine j_imul C dX6_mend_81 ?_
      refine j_iload_n C dX6_mend_82 rfl ?_
      refine j_iadd C dX6_mend_83 ?_
      refine j_mald C hM (by decide) rfl (by simp only [mLen]; omega) dX6_mend_84 ?_
      refine j_istore C dX6_mend_85 (by decide) ?_
      refine j_aload_n C dX6_mend_87 rfl ?_
      refine j_mgeta C hM fl_Mo_46 (by decide) dX6_mend_88 ?_
      refine j_bipush C dX6_mend_91 (by decide) ?_
      refine j_iload_n C dX6_mend_93 rfl ?_
      refine j_imul C dX6_mend_94 ?_
      refine j_iload_n C dX6_mend_95 rfl ?_
      refine j_iadd C dX6_mend_96 ?_
      refine j_iconst C dX6_mend_97 ?_
      refine j_mast C hM (by decide) rfl (by simp only [mLen]; omega) dX6_mend_98 (fun S hM => ?_)
      refine j_aload_n C dX6_mend_99 rfl ?_
      refine j_mgeta C hM fl_Mo_19 (by decide) dX6_mend_100 ?_
      refine j_iload C dX6_mend_103 rfl ?_
      refine j_dup2 C dX6_mend_105 rfl rfl ?_
      refine j_mald C hM (by decide) rfl (show 0 ≤ M 14 (60 * r + z) ∧ M 14 (60 * r + z) < ((60 : Nat) : Int) by omega) dX6_mend_106 ?_
      refine j_iconst C dX6_mend_107 ?_
      refine j_isub C dX6_mend_108 ?_
      refine j_mast C hM (by decide) rfl (by simp only [mLen]; omega) dX6_mend_109 (fun S hM => ?_)
      refine j_iconst C dX6_mend_110 ?_
      refine j_istore C dX6_mend_111 (by decide) ?_
      have key2 : ∀ (fuel : Nat) (i : Nat) (S : wS), M 21 0 - i < fuel → (i : Int) ≤ M 21 0 → RMF S0 S o B (mendC (mup M 0 0 (x_mend M r z)) r z i) → J p l e { frames := 20 * 4, cells := 0, slots := 0, locals := 200 * 4 } s m args below meth c 8 D (wA S0 sz) (wQ below D sz S0 (fun r9 S9 => r9 = .inl (some (.int (iN (if x_mend M r z = 0 then v_mend M r z else 0)))) ∧ RMF S0 S9 o B (n_mend M r z)) args s 0 0) 113 [(0, .ref o), (1, .int (iN (r))), (2, .int (iN (z))), (4, .int (iN (M 14 (60 * r + z)))), (5, .int (iN (M 15 (60 * r + z)))), (6, .int (iN (i)))] [] S 0 0 := by
        intro fuel
        induction fuel with
        | zero => intro i S h1 h2 hM; omega
        | succ fuel ih =>
          intro i S h1 h2 hM
          have e21 : (mendC (mup M 0 0 (x_mend M r z)) r z i) 21 0 = M 21 0 := rfl
          have e5 : (mendC (mup M 0 0 (x_mend M r z)) r z i) 5 (M 14 (60 * r + z)) = M 5 (M 14 (60 * r + z)) - 1 := by show (if M 14 (60 * r + z) = M 14 (60 * r + z) then M 5 (M 14 (60 * r + z)) - 1 else _) = _; rw [if_pos rfl]
          have e9 : (mendC (mup M 0 0 (x_mend M r z)) r z i) 9 (M 14 (60 * r + z)) = M 9 (M 14 (60 * r + z)) := rfl
          refine j_iload C dX6_mend_113 rfl ?_
          refine j_aload_n C dX6_mend_115 rfl ?_
          refine j_mgeti C hM fl_Mo_97 ⟨by decide, rfl⟩ dX6_mend_116 ?_
          refine j_icmp_ge (tgt := 176) C dX6_mend_119 (by decide) (by unfold rg at *; omega) (by unfold rg at *; omega) (fun c119 => ?_) (fun c119 => ?_)
          · have ei : i = (M 21 0).toNat := by omega
            subst ei
            refine j_aload_n C dX6_mend_176 rfl ?_
            refine j_mgeta C hM fl_Mo_31 (by decide) dX6_mend_177 ?_
            refine j_iload C dX6_mend_180 rfl ?_
            refine j_aload_n C dX6_mend_182 rfl ?_
            refine j_mgeta C hM fl_Mo_31 (by decide) dX6_mend_183 ?_
            refine j_iload C dX6_mend_186 rfl ?_
            refine j_mald C hM (by decide) rfl (by simp only [mLen]; omega) dX6_mend_188 ?_
            refine J.eqI e9 ?_
            refine j_aload_n C dX6_mend_189 rfl ?_
            refine j_mgeta C hM fl_Mo_19 (by decide) dX6_mend_190 ?_
            refine j_iload C dX6_mend_193 rfl ?_
            refine j_mald C hM (by decide) rfl (by simp only [mLen]; omega) dX6_mend_195 ?_
            refine J.eqI e5 ?_
            refine j_icmp_le (tgt := 209) C dX6_mend_196 (by decide) (by unfold rg at *; omega) (by unfold rg at *; omega) (fun c196 => ?_) (fun c196 => ?_)
            · refine j_aload_n C dX6_mend_209 rfl ?_
              refine j_mgeta C hM fl_Mo_31 (by decide) dX6_mend_210 ?_
              refine j_iload C dX6_mend_213 rfl ?_
              refine j_mald C hM (by decide) rfl (by simp only [mLen]; omega) dX6_mend_215 ?_
              refine J.eqI e9 ?_
              refine j_mast C hM (by decide) rfl (by simp only [mLen]; omega) dX6_mend_216 (fun S hM => ?_)
              refine j_iload C dX6_mend_217 rfl ?_
              refine j_iret C ME ?_ (by omega) (by omega) dX6_mend_219
              refine ⟨rI ?_, ?_⟩
              · first
                | (rw [if_neg c69]; done)
                | (rw [if_pos c69]; unfold v_mend; rfl)
              · unfold n_mend
                first
                | (rw [if_neg c69]; exact hM)
                | (rw [if_pos c69, if_pos (c := M 5 (M 14 (60 * r + z)) - 1 < M 9 (M 14 (60 * r + z))) (by omega)]; exact hM)
                | (rw [if_pos c69, if_neg (c := M 5 (M 14 (60 * r + z)) - 1 < M 9 (M 14 (60 * r + z))) (by omega)]; exact hM)
            · refine j_aload_n C dX6_mend_199 rfl ?_
              refine j_mgeta C hM fl_Mo_19 (by decide) dX6_mend_200 ?_
              refine j_iload C dX6_mend_203 rfl ?_
              refine j_mald C hM (by decide) rfl (by simp only [mLen]; omega) dX6_mend_205 ?_
              refine J.eqI e5 ?_
              refine j_goto (tgt := 216) C dX6_mend_206 (by decide) ?_
              refine j_mast C hM (by decide) rfl (by simp only [mLen]; omega) dX6_mend_216 (fun S hM => ?_)
              refine j_iload C dX6_mend_217 rfl ?_
              refine j_iret C ME ?_ (by omega) (by omega) dX6_mend_219
              refine ⟨rI ?_, ?_⟩
              · first
                | (rw [if_neg c69]; done)
                | (rw [if_pos c69]; unfold v_mend; rfl)
              · unfold n_mend
                first
                | (rw [if_neg c69]; exact hM)
                | (rw [if_pos c69, if_pos (c := M 5 (M 14 (60 * r + z)) - 1 < M 9 (M 14 (60 * r + z))) (by omega)]; exact hM)
                | (rw [if_pos c69, if_neg (c := M 5 (M 14 (60 * r + z)) - 1 < M 9 (M 14 (60 * r + z))) (by omega)]; exact hM)
          · refine j_bipush C dX6_mend_122 (by decide) ?_
            refine j_bipush C dX6_mend_124 (by decide) ?_
            refine j_iload C dX6_mend_126 rfl ?_
            refine j_imul C dX6_mend_128 ?_
            refine j_iload C dX6_mend_129 rfl ?_
            refine j_iadd C dX6_mend_131 ?_
            refine j_imul C dX6_mend_132 ?_
            refine j_aload_n C dX6_mend_133 rfl ?_
            refine j_mgeta C hM fl_Mo_19 (by decide) dX6_mend_134 ?_
            refine j_iload C dX6_mend_137 rfl ?_
            refine j_mald C hM (by decide) rfl (by simp only [mLen]; omega) dX6_mend_139 ?_
            refine J.eqI e5 ?_
            refine j_bipush C dX6_mend_140 (by decide) ?_
            refine j_idiv C (by omega) (by omega) dX6_mend_142 ?_
            refine j_iadd C dX6_mend_143 ?_
            refine j_istore C dX6_mend_144 (by decide) ?_
            refine j_aload_n C dX6_mend_146 rfl ?_
            refine j_mgeta C hM fl_Mo_62 (by decide) dX6_mend_147 ?_
            refine j_iload C dX6_mend_150 rfl ?_
            refine j_dup2 C dX6_mend_152 rfl rfl ?_
            refine j_mald C hM (by decide) rfl (by simp only [mLen]; omega) dX6_mend_153 ?_
            refine j_iconst C dX6_mend_154 ?_
            refine j_aload_n C dX6_mend_155 rfl ?_
            refine j_mgeta C hM fl_Mo_19 (by decide) dX6_mend_156 ?_
            refine j_iload C dX6_mend_159 rfl ?_
            refine j_mald C hM (by decide) rfl (by simp only [mLen]; omega) dX6_mend_161 ?_
            refine J.eqI e5 ?_
            refine j_bipush C dX6_mend_162 (by decide) ?_
            refine j_irem C (by omega) (by omega) dX6_mend_164 ?_
            refine j_ishl C dX6_mend_165 ?_
            refine j_iconst C dX6_mend_166 ?_
            refine j_ixor C dX6_mend_167 ?_
            refine j_iand C dX6_mend_168 ?_
            refine j_mast C hM (by decide) rfl (by simp only [mLen]; omega) dX6_mend_169 (fun S hM => ?_)
            refine j_iinc C dX6_mend_170 rfl (by decide) ?_
            refine j_goto (tgt := 113) C dX6_mend_173 (by decide) ?_
            have ihk := ih (i + 1) S (by omega) (by omega) (by rw [mendC_S]; exact hM)
            refine J.lvs (lv' := [(0, .ref o), (1, .int (iN (r))), (2, .int (iN (z))), (4, .int (iN (M 14 (60 * r + z)))), (5, .int (iN (M 15 (60 * r + z)))), (6, .int (iN (((i + 1 : Nat) : Int))))]) ?_ ?_
            · intro q hq; simp only [List.mem_cons, List.not_mem_nil, or_false] at hq; rcases hq with rfl | rfl | rfl | rfl | rfl | rfl <;> rfl
            · refine ihk
      refine J.lvs (lv' := [(0, .ref o), (1, .int (iN (r))), (2, .int (iN (z))), (4, .int (iN (M 14 (60 * r + z)))), (5, .int (iN (M 15 (60 * r + z)))), (6, .int (iN (((0 : Nat) : Int))))]) ?_ ?_
      · intro q hq; simp only [List.mem_cons, List.not_mem_nil, or_false] at hq; rcases hq with rfl | rfl | rfl | rfl | rfl | rfl <;> rfl
      · exact key2 ((M 21 0).toNat + 1) 0 S (by omega) (by omega) (by rw [mendC_0]; exact hM)
    · try simp only [splP, decide_eq_true_eq, decide_eq_false_iff_not] at c69
      try simp only [decide_eq_true_eq, decide_eq_false_iff_not] at c69
      refine j_iconst C dX6_mend_72 ?_
      refine j_iret C ME ?_ (by omega) (by omega) dX6_mend_73
      refine ⟨rI ?_, ?_⟩
      · first
        | (rw [if_neg c69]; done)
        | (rw [if_pos c69]; unfold v_mend; rfl)
      · unfold n_mend
        first
        | (rw [if_neg c69]; exact hM)
        | (rw [if_pos c69, if_pos (c := M 5 (M 14 (60 * r + z)) - 1 < M 9 (M 14 (60 * r + z))) (by omega)]; exact hM)
        | (rw [if_pos c69, if_neg (c := M 5 (M 14 (60 * r + z)) - 1 < M 9 (M 14 (60 * r + z))) (by omega)]; exact hM)
  refine j_aload_n C dX6_mend_0 rfl ?_
  refine j_iload_n C dX6_mend_1 rfl ?_
  refine j_iload_n C dX6_mend_2 rfl ?_
  refine j_mcall C hM (c_isSplice l hfl (by unfold rg at *; omega) (by unfold rg at *; omega) i1 i4) cal_X6_isSplice vi_X6_isSplice rfl ml_Mo_166 rfl rfl (Nat.le_of_ble_eq_true rfl) ⟨by decide, by decide⟩ ⟨by omega, by omega⟩ dX6_mend_3 (fun S hM => ?_)
  refine j_istore_n C dX6_mend_6 (by decide) ?_
  refine j_iload_n C dX6_mend_7 rfl ?_
  refine j_ifeq_b (tgt := 25) C dX6_mend_8 (by decide) (fun c8 => ?_) (fun c8 => ?_)
  · try simp only [splP, decide_eq_true_eq, decide_eq_false_iff_not] at c8
    refine j_iconst C dX6_mend_25 ?_
    refine j_istore C dX6_mend_26 (by decide) ?_
    refine j_aload_n C dX6_mend_28 rfl ?_
    refine j_iload_n C dX6_mend_29 rfl ?_
    refine j_ifne_b (tgt := 37) C dX6_mend_30 (by decide) (fun c30 => ?_) (fun c30 => ?_)
    · try simp only [splP, decide_eq_true_eq, decide_eq_false_iff_not] at c30
      refine j_aload_n C dX6_mend_37 rfl ?_
      refine j_mgeta C hM fl_Mo_19 (by decide) dX6_mend_38 ?_
      refine j_iload C dX6_mend_41 rfl ?_
      refine j_mald C hM (by decide) rfl (by simp only [mLen]; omega) dX6_mend_43 ?_
      refine j_iconst C dX6_mend_44 ?_
      refine j_icmp_lt (tgt := 61) C dX6_mend_45 (by decide) (by unfold rg at *; omega) (by unfold rg at *; omega) (fun c45 => ?_) (fun c45 => ?_)
      · refine j_iconst C dX6_mend_61 ?_
        refine j_goto (tgt := 66) C dX6_mend_62 (by decide) ?_
        first
          | (refine J.lvs (lv' := [(0, .ref o), (1, .int (iN (r))), (2, .int (iN (z))), (4, .int (iN (0)))]) ?_ ?_
             · intro q hq; simp only [List.mem_cons, List.not_mem_nil, or_false] at hq; rcases hq with rfl | rfl | rfl | rfl <;> rfl
             · refine key _ _ _ (by clear I i1 i2 i3 i3e i4 i4e i5 i6 i7 i8 i10 i11; (try clear key); (try clear key2); (try clear ih); (try clear w5); (try clear w11); (try clear w2); (try clear w3); (try clear w4); (try clear w6); (try clear w7); (try clear w8); (try clear w9); (try clear p4); (try clear o4); (try simp only [decide_eq_true_eq, decide_eq_false_iff_not] at *); unfold x_mend; (repeat' split) <;> first | rfl | omega | (simp_all; done) | (simp_all; omega)) (by intros; first | rfl | omega) hM)
          | (refine J.lvs (lv' := [(0, .ref o), (1, .int (iN (r))), (2, .int (iN (z))), (4, .int (iN (M 14 (60 * r + z))))]) ?_ ?_
             · intro q hq; simp only [List.mem_cons, List.not_mem_nil, or_false] at hq; rcases hq with rfl | rfl | rfl | rfl <;> rfl
             · refine key _ _ _ (by clear I i1 i2 i3 i3e i4 i4e i5 i6 i7 i8 i10 i11; (try clear key); (try clear key2); (try clear ih); (try clear w5); (try clear w11); (try clear w2); (try clear w3); (try clear w4); (try clear w6); (try clear w7); (try clear w8); (try clear w9); (try clear p4); (try clear o4); (try simp only [decide_eq_true_eq, decide_eq_false_iff_not] at *); unfold x_mend; (repeat' split) <;> first | rfl | omega | (simp_all; done) | (simp_all; omega)) (by intros; first | rfl | omega) hM)
      · refine j_aload_n C dX6_mend_48 rfl ?_
        refine j_aload_n C dX6_mend_49 rfl ?_
        refine j_mgeta C hM fl_Mo_40 (by decide) dX6_mend_50 ?_
        refine j_iload_n C dX6_mend_53 rfl ?_
        refine j_mald C hM (by decide) rfl (by simp only [mLen]; omega) dX6_mend_54 ?_
        refine j_mcall C hM (c_isLent l hfl (by unfold rg at *; omega) i1 i6 i8) cal_X6_isLent vi_X6_isLent rfl ml_Mo_131 rfl rfl (Nat.le_of_ble_eq_true rfl) ⟨by decide, by decide⟩ ⟨by omega, by omega⟩ dX6_mend_55 (fun S hM => ?_)
        refine j_ifeq_b (tgt := 65) C dX6_mend_58 (by decide) (fun c58 => ?_) (fun c58 => ?_)
        · try simp only [splP, decide_eq_true_eq, decide_eq_false_iff_not] at c58
          refine j_iconst C dX6_mend_65 ?_
          first
            | (refine J.lvs (lv' := [(0, .ref o), (1, .int (iN (r))), (2, .int (iN (z))), (4, .int (iN (0)))]) ?_ ?_
               · intro q hq; simp only [List.mem_cons, List.not_mem_nil, or_false] at hq; rcases hq with rfl | rfl | rfl | rfl <;> rfl
               · refine key _ _ _ (by clear I i1 i2 i3 i3e i4 i4e i5 i6 i7 i8 i10 i11; (try clear key); (try clear key2); (try clear ih); (try clear w5); (try clear w11); (try clear w2); (try clear w3); (try clear w4); (try clear w6); (try clear w7); (try clear w8); (try clear w9); (try clear p4); (try clear o4); (try simp only [decide_eq_true_eq, decide_eq_false_iff_not] at *); unfold x_mend; (repeat' split) <;> first | rfl | omega | (simp_all; done) | (simp_all; omega)) (by intros; first | rfl | omega) hM)
            | (refine J.lvs (lv' := [(0, .ref o), (1, .int (iN (r))), (2, .int (iN (z))), (4, .int (iN (M 14 (60 * r + z))))]) ?_ ?_
               · intro q hq; simp only [List.mem_cons, List.not_mem_nil, or_false] at hq; rcases hq with rfl | rfl | rfl | rfl <;> rfl
               · refine key _ _ _ (by clear I i1 i2 i3 i3e i4 i4e i5 i6 i7 i8 i10 i11; (try clear key); (try clear key2); (try clear ih); (try clear w5); (try clear w11); (try clear w2); (try clear w3); (try clear w4); (try clear w6); (try clear w7); (try clear w8); (try clear w9); (try clear p4); (try clear o4); (try simp only [decide_eq_true_eq, decide_eq_false_iff_not] at *); unfold x_mend; (repeat' split) <;> first | rfl | omega | (simp_all; done) | (simp_all; omega)) (by intros; first | rfl | omega) hM)
        · try simp only [splP, decide_eq_true_eq, decide_eq_false_iff_not] at c58
          refine j_iconst C dX6_mend_61 ?_
          refine j_goto (tgt := 66) C dX6_mend_62 (by decide) ?_
          first
            | (refine J.lvs (lv' := [(0, .ref o), (1, .int (iN (r))), (2, .int (iN (z))), (4, .int (iN (0)))]) ?_ ?_
               · intro q hq; simp only [List.mem_cons, List.not_mem_nil, or_false] at hq; rcases hq with rfl | rfl | rfl | rfl <;> rfl
               · refine key _ _ _ (by clear I i1 i2 i3 i3e i4 i4e i5 i6 i7 i8 i10 i11; (try clear key); (try clear key2); (try clear ih); (try clear w5); (try clear w11); (try clear w2); (try clear w3); (try clear w4); (try clear w6); (try clear w7); (try clear w8); (try clear w9); (try clear p4); (try clear o4); (try simp only [decide_eq_true_eq, decide_eq_false_iff_not] at *); unfold x_mend; (repeat' split) <;> first | rfl | omega | (simp_all; done) | (simp_all; omega)) (by intros; first | rfl | omega) hM)
            | (refine J.lvs (lv' := [(0, .ref o), (1, .int (iN (r))), (2, .int (iN (z))), (4, .int (iN (M 14 (60 * r + z))))]) ?_ ?_
               · intro q hq; simp only [List.mem_cons, List.not_mem_nil, or_false] at hq; rcases hq with rfl | rfl | rfl | rfl <;> rfl
               · refine key _ _ _ (by clear I i1 i2 i3 i3e i4 i4e i5 i6 i7 i8 i10 i11; (try clear key); (try clear key2); (try clear ih); (try clear w5); (try clear w11); (try clear w2); (try clear w3); (try clear w4); (try clear w6); (try clear w7); (try clear w8); (try clear w9); (try clear p4); (try clear o4); (try simp only [decide_eq_true_eq, decide_eq_false_iff_not] at *); unfold x_mend; (repeat' split) <;> first | rfl | omega | (simp_all; done) | (simp_all; omega)) (by intros; first | rfl | omega) hM)
    · try simp only [splP, decide_eq_true_eq, decide_eq_false_iff_not] at c30
      refine j_iconst C dX6_mend_33 ?_
      refine j_goto (tgt := 66) C dX6_mend_34 (by decide) ?_
      first
        | (refine J.lvs (lv' := [(0, .ref o), (1, .int (iN (r))), (2, .int (iN (z))), (4, .int (iN (0)))]) ?_ ?_
           · intro q hq; simp only [List.mem_cons, List.not_mem_nil, or_false] at hq; rcases hq with rfl | rfl | rfl | rfl <;> rfl
           · refine key _ _ _ (by clear I i1 i2 i3 i3e i4 i4e i5 i6 i7 i8 i10 i11; (try clear key); (try clear key2); (try clear ih); (try clear w5); (try clear w11); (try clear w2); (try clear w3); (try clear w4); (try clear w6); (try clear w7); (try clear w8); (try clear w9); (try clear p4); (try clear o4); (try simp only [decide_eq_true_eq, decide_eq_false_iff_not] at *); unfold x_mend; (repeat' split) <;> first | rfl | omega | (simp_all; done) | (simp_all; omega)) (by intros; first | rfl | omega) hM)
        | (refine J.lvs (lv' := [(0, .ref o), (1, .int (iN (r))), (2, .int (iN (z))), (4, .int (iN (M 14 (60 * r + z))))]) ?_ ?_
           · intro q hq; simp only [List.mem_cons, List.not_mem_nil, or_false] at hq; rcases hq with rfl | rfl | rfl | rfl <;> rfl
           · refine key _ _ _ (by clear I i1 i2 i3 i3e i4 i4e i5 i6 i7 i8 i10 i11; (try clear key); (try clear key2); (try clear ih); (try clear w5); (try clear w11); (try clear w2); (try clear w3); (try clear w4); (try clear w6); (try clear w7); (try clear w8); (try clear w9); (try clear p4); (try clear o4); (try simp only [decide_eq_true_eq, decide_eq_false_iff_not] at *); unfold x_mend; (repeat' split) <;> first | rfl | omega | (simp_all; done) | (simp_all; omega)) (by intros; first | rfl | omega) hM)
  · try simp only [splP, decide_eq_true_eq, decide_eq_false_iff_not] at c8
    have w4 := i4 r (by omega) (by omega)
    have w50 := w4.2.2.2.2 z (by omega) (by omega)
    have w20 := i2 (M 14 (60 * r + z)) w50.1 w50.2.1
    refine j_aload_n C dX6_mend_11 rfl ?_
    refine j_mgeta C hM fl_Mo_43 (by decide) dX6_mend_12 ?_
    refine j_bipush C dX6_mend_15 (by decide) ?_
    refine j_iload_n C dX6_mend_17 rfl ?_
    refine j_imul C dX6_mend_18 ?_
    refine j_iload_n C dX6_mend_19 rfl ?_
    refine j_iadd C dX6_mend_20 ?_
    refine j_mald C hM (by decide) rfl (by simp only [mLen]; omega) dX6_mend_21 ?_
    refine j_goto (tgt := 26) C dX6_mend_22 (by decide) ?_
    refine j_istore C dX6_mend_26 (by decide) ?_
    refine j_aload_n C dX6_mend_28 rfl ?_
    refine j_iload_n C dX6_mend_29 rfl ?_
    refine j_ifne_b (tgt := 37) C dX6_mend_30 (by decide) (fun c30 => ?_) (fun c30 => ?_)
    · try simp only [splP, decide_eq_true_eq, decide_eq_false_iff_not] at c30
      refine j_aload_n C dX6_mend_37 rfl ?_
      refine j_mgeta C hM fl_Mo_19 (by decide) dX6_mend_38 ?_
      refine j_iload C dX6_mend_41 rfl ?_
      refine j_mald C hM (by decide) rfl (by simp only [mLen]; omega) dX6_mend_43 ?_
      refine j_iconst C dX6_mend_44 ?_
      refine j_icmp_lt (tgt := 61) C dX6_mend_45 (by decide) (by unfold rg at *; omega) (by unfold rg at *; omega) (fun c45 => ?_) (fun c45 => ?_)
      · refine j_iconst C dX6_mend_61 ?_
        refine j_goto (tgt := 66) C dX6_mend_62 (by decide) ?_
        first
          | (refine J.lvs (lv' := [(0, .ref o), (1, .int (iN (r))), (2, .int (iN (z))), (4, .int (iN (0)))]) ?_ ?_
             · intro q hq; simp only [List.mem_cons, List.not_mem_nil, or_false] at hq; rcases hq with rfl | rfl | rfl | rfl <;> rfl
             · refine key _ _ _ (by clear I i1 i2 i3 i3e i4 i4e i5 i6 i7 i8 i10 i11; (try clear key); (try clear key2); (try clear ih); (try clear w5); (try clear w11); (try clear w2); (try clear w3); (try clear w4); (try clear w6); (try clear w7); (try clear w8); (try clear w9); (try clear p4); (try clear o4); (try simp only [decide_eq_true_eq, decide_eq_false_iff_not] at *); unfold x_mend; (repeat' split) <;> first | rfl | omega | (simp_all; done) | (simp_all; omega)) (by intros; first | rfl | omega) hM)
          | (refine J.lvs (lv' := [(0, .ref o), (1, .int (iN (r))), (2, .int (iN (z))), (4, .int (iN (M 14 (60 * r + z))))]) ?_ ?_
             · intro q hq; simp only [List.mem_cons, List.not_mem_nil, or_false] at hq; rcases hq with rfl | rfl | rfl | rfl <;> rfl
             · refine key _ _ _ (by clear I i1 i2 i3 i3e i4 i4e i5 i6 i7 i8 i10 i11; (try clear key); (try clear key2); (try clear ih); (try clear w5); (try clear w11); (try clear w2); (try clear w3); (try clear w4); (try clear w6); (try clear w7); (try clear w8); (try clear w9); (try clear p4); (try clear o4); (try simp only [decide_eq_true_eq, decide_eq_false_iff_not] at *); unfold x_mend; (repeat' split) <;> first | rfl | omega | (simp_all; done) | (simp_all; omega)) (by intros; first | rfl | omega) hM)
      · refine j_aload_n C dX6_mend_48 rfl ?_
        refine j_aload_n C dX6_mend_49 rfl ?_
        refine j_mgeta C hM fl_Mo_40 (by decide) dX6_mend_50 ?_
        refine j_iload_n C dX6_mend_53 rfl ?_
        refine j_mald C hM (by decide) rfl (by simp only [mLen]; omega) dX6_mend_54 ?_
        refine j_mcall C hM (c_isLent l hfl (by unfold rg at *; omega) i1 i6 i8) cal_X6_isLent vi_X6_isLent rfl ml_Mo_131 rfl rfl (Nat.le_of_ble_eq_true rfl) ⟨by decide, by decide⟩ ⟨by omega, by omega⟩ dX6_mend_55 (fun S hM => ?_)
        refine j_ifeq_b (tgt := 65) C dX6_mend_58 (by decide) (fun c58 => ?_) (fun c58 => ?_)
        · try simp only [splP, decide_eq_true_eq, decide_eq_false_iff_not] at c58
          refine j_iconst C dX6_mend_65 ?_
          first
            | (refine J.lvs (lv' := [(0, .ref o), (1, .int (iN (r))), (2, .int (iN (z))), (4, .int (iN (0)))]) ?_ ?_
               · intro q hq; simp only [List.mem_cons, List.not_mem_nil, or_false] at hq; rcases hq with rfl | rfl | rfl | rfl <;> rfl
               · refine key _ _ _ (by clear I i1 i2 i3 i3e i4 i4e i5 i6 i7 i8 i10 i11; (try clear key); (try clear key2); (try clear ih); (try clear w5); (try clear w11); (try clear w2); (try clear w3); (try clear w4); (try clear w6); (try clear w7); (try clear w8); (try clear w9); (try clear p4); (try clear o4); (try simp only [decide_eq_true_eq, decide_eq_false_iff_not] at *); unfold x_mend; (repeat' split) <;> first | rfl | omega | (simp_all; done) | (simp_all; omega)) (by intros; first | rfl | omega) hM)
            | (refine J.lvs (lv' := [(0, .ref o), (1, .int (iN (r))), (2, .int (iN (z))), (4, .int (iN (M 14 (60 * r + z))))]) ?_ ?_
               · intro q hq; simp only [List.mem_cons, List.not_mem_nil, or_false] at hq; rcases hq with rfl | rfl | rfl | rfl <;> rfl
               · refine key _ _ _ (by clear I i1 i2 i3 i3e i4 i4e i5 i6 i7 i8 i10 i11; (try clear key); (try clear key2); (try clear ih); (try clear w5); (try clear w11); (try clear w2); (try clear w3); (try clear w4); (try clear w6); (try clear w7); (try clear w8); (try clear w9); (try clear p4); (try clear o4); (try simp only [decide_eq_true_eq, decide_eq_false_iff_not] at *); unfold x_mend; (repeat' split) <;> first | rfl | omega | (simp_all; done) | (simp_all; omega)) (by intros; first | rfl | omega) hM)
        · try simp only [splP, decide_eq_true_eq, decide_eq_false_iff_not] at c58
          refine j_iconst C dX6_mend_61 ?_
          refine j_goto (tgt := 66) C dX6_mend_62 (by decide) ?_
          first
            | (refine J.lvs (lv' := [(0, .ref o), (1, .int (iN (r))), (2, .int (iN (z))), (4, .int (iN (0)))]) ?_ ?_
               · intro q hq; simp only [List.mem_cons, List.not_mem_nil, or_false] at hq; rcases hq with rfl | rfl | rfl | rfl <;> rfl
               · refine key _ _ _ (by clear I i1 i2 i3 i3e i4 i4e i5 i6 i7 i8 i10 i11; (try clear key); (try clear key2); (try clear ih); (try clear w5); (try clear w11); (try clear w2); (try clear w3); (try clear w4); (try clear w6); (try clear w7); (try clear w8); (try clear w9); (try clear p4); (try clear o4); (try simp only [decide_eq_true_eq, decide_eq_false_iff_not] at *); unfold x_mend; (repeat' split) <;> first | rfl | omega | (simp_all; done) | (simp_all; omega)) (by intros; first | rfl | omega) hM)
            | (refine J.lvs (lv' := [(0, .ref o), (1, .int (iN (r))), (2, .int (iN (z))), (4, .int (iN (M 14 (60 * r + z))))]) ?_ ?_
               · intro q hq; simp only [List.mem_cons, List.not_mem_nil, or_false] at hq; rcases hq with rfl | rfl | rfl | rfl <;> rfl
               · refine key _ _ _ (by clear I i1 i2 i3 i3e i4 i4e i5 i6 i7 i8 i10 i11; (try clear key); (try clear key2); (try clear ih); (try clear w5); (try clear w11); (try clear w2); (try clear w3); (try clear w4); (try clear w6); (try clear w7); (try clear w8); (try clear w9); (try clear p4); (try clear o4); (try simp only [decide_eq_true_eq, decide_eq_false_iff_not] at *); unfold x_mend; (repeat' split) <;> first | rfl | omega | (simp_all; done) | (simp_all; omega)) (by intros; first | rfl | omega) hM)
    · try simp only [splP, decide_eq_true_eq, decide_eq_false_iff_not] at c30
      refine j_iconst C dX6_mend_33 ?_
      refine j_goto (tgt := 66) C dX6_mend_34 (by decide) ?_
      first
        | (refine J.lvs (lv' := [(0, .ref o), (1, .int (iN (r))), (2, .int (iN (z))), (4, .int (iN (0)))]) ?_ ?_
           · intro q hq; simp only [List.mem_cons, List.not_mem_nil, or_false] at hq; rcases hq with rfl | rfl | rfl | rfl <;> rfl
           · refine key _ _ _ (by clear I i1 i2 i3 i3e i4 i4e i5 i6 i7 i8 i10 i11; (try clear key); (try clear key2); (try clear ih); (try clear w5); (try clear w11); (try clear w2); (try clear w3); (try clear w4); (try clear w6); (try clear w7); (try clear w8); (try clear w9); (try clear p4); (try clear o4); (try simp only [decide_eq_true_eq, decide_eq_false_iff_not] at *); unfold x_mend; (repeat' split) <;> first | rfl | omega | (simp_all; done) | (simp_all; omega)) (by intros; first | rfl | omega) hM)
        | (refine J.lvs (lv' := [(0, .ref o), (1, .int (iN (r))), (2, .int (iN (z))), (4, .int (iN (M 14 (60 * r + z))))]) ?_ ?_
           · intro q hq; simp only [List.mem_cons, List.not_mem_nil, or_false] at hq; rcases hq with rfl | rfl | rfl | rfl <;> rfl
           · refine key _ _ _ (by clear I i1 i2 i3 i3e i4 i4e i5 i6 i7 i8 i10 i11; (try clear key); (try clear key2); (try clear ih); (try clear w5); (try clear w11); (try clear w2); (try clear w3); (try clear w4); (try clear w6); (try clear w7); (try clear w8); (try clear w9); (try clear p4); (try clear o4); (try simp only [decide_eq_true_eq, decide_eq_false_iff_not] at *); unfold x_mend; (repeat' split) <;> first | rfl | omega | (simp_all; done) | (simp_all; omega)) (by intros; first | rfl | omega) hM)

