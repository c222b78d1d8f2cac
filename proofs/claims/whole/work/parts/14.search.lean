/-! THE REFERENCE: searches and sums. -/
set_option maxHeartbeats 4000000 in
set_option maxRecDepth 100000 in
theorem c_isLent (l : Launch) (hfl : l.stackTraces = false) {M : wM} {z : Int} (h0 : rg z) (i1 : I1 M) (i6 : I6 M) (i8 : I8 M) : MC l yX6_isLent cX6_isLent 4 (some FieldType.boolean) 1 [.int (iN z)] M (.inl (some (.int (iN (bN (lentM M z)))))) (M) := by
  intro S0 o B hM0
  refine Ct.of cal_X6_isLent hfl (Nat.le_of_ble_eq_true rfl) ?_
  intro p e s m args below meth c D sz C ME
  have hM : RMF S0 S0 o B M := ⟨hM0, mF.rf⟩
  obtain ⟨a1, a2, a3, a4, a5, a6, a7⟩ := id i1
  refine j_iconst C dX6_isLent_0 ?_
  refine j_istore_n C dX6_isLent_1 (by decide) ?_
  refine j_iconst C dX6_isLent_2 ?_
  refine j_istore_n C dX6_isLent_3 (by decide) ?_
  have key : ∀ (fuel : Nat) (i : Nat) (b : Bool), M 28 0 - i < fuel → (i : Int) ≤ M 28 0 → b = anyI (lentP M z) i → J p l e { frames := 20 * 1, cells := 0, slots := 0, locals := 200 * 1 } s m args below meth c 4 D (wA S0 sz) (wQ below D sz S0 (fun r S' => r = .inl (some (.int (iN (bN (lentM M z))))) ∧ RMF S0 S' o B (M)) args s 0 0) 4 [(0, .ref o), (1, .int (iN z)), (2, .int (iN (bN b))), (3, .int (iN i))] [] S0 0 0 := by
    intro fuel
    induction fuel with
    | zero => intro i b h1 h2 hb; omega
    | succ fuel ih =>
      intro i b h1 h2 hb
      refine j_iload_n C dX6_isLent_4 rfl ?_
      refine j_aload_n C dX6_isLent_5 rfl ?_
      refine j_mgeti C hM fl_Mo_100 ⟨by decide, rfl⟩ dX6_isLent_6 ?_
      refine j_icmp_ge (tgt := 52) C dX6_isLent_9 (by decide) (by unfold rg at *; omega) (by unfold rg at *; omega) (fun c9 => ?_) (fun c9 => ?_)
      · refine j_iload_n C dX6_isLent_52 rfl ?_
        refine j_zret C ME (by unfold bN; split <;> simp) ?_ (by omega) (by omega) dX6_isLent_53
        exact ⟨rI (by rw [lentM, show (M 28 0).toNat = i by omega, hb]), hM⟩
      · have w8 := i8 i (by omega) (by omega)
        have w6 := i6 (M 23 i) (by omega) (by omega)
        refine j_iload_n C dX6_isLent_12 rfl ?_
        refine j_ifne_b (tgt := 40) C dX6_isLent_13 (by decide) (fun c13 => ?_) (fun c13 => ?_)
        · refine j_iconst C dX6_isLent_40 ?_
          refine j_goto (tgt := 45) C dX6_isLent_41 (by decide) ?_
          refine j_istore_n C dX6_isLent_45 (by decide) ?_
          refine j_iinc C dX6_isLent_46 rfl (by decide) ?_
          refine j_goto (tgt := 4) C dX6_isLent_49 (by decide) ?_
          first
            | (refine J.lvs (lv' := [(0, .ref o), (1, .int (iN z)), (2, .int (iN (bN true))), (3, .int (iN ((i + 1 : Nat) : Int)))]) ?_ ?_
               · intro q hq; simp only [List.mem_cons, List.not_mem_nil, or_false] at hq; rcases hq with rfl | rfl | rfl | rfl <;> rfl
               · refine ih (i + 1) true ?_ ?_ ?_
                 · omega
                 · omega
                 · rw [anyI, ← hb]; clear hb; simp [lentP, *])
            | (refine J.lvs (lv' := [(0, .ref o), (1, .int (iN z)), (2, .int (iN (bN false))), (3, .int (iN ((i + 1 : Nat) : Int)))]) ?_ ?_
               · intro q hq; simp only [List.mem_cons, List.not_mem_nil, or_false] at hq; rcases hq with rfl | rfl | rfl | rfl <;> rfl
               · refine ih (i + 1) false ?_ ?_ ?_
                 · omega
                 · omega
                 · rw [anyI, ← hb]; clear hb; simp [lentP, *])
        · refine j_aload_n C dX6_isLent_16 rfl ?_
          refine j_mgeta C hM fl_Mo_77 (by decide) dX6_isLent_17 ?_
          refine j_iload_n C dX6_isLent_20 rfl ?_
          refine j_mzld C hM (by omega) dX6_isLent_21 ?_
          refine j_if_ne (tgt := 44) C dX6_isLent_22 (by decide) (by unfold rg at *; omega) (fun c22 => ?_) (fun c22 => ?_)
          · refine j_iconst C dX6_isLent_44 ?_
            refine j_istore_n C dX6_isLent_45 (by decide) ?_
            refine j_iinc C dX6_isLent_46 rfl (by decide) ?_
            refine j_goto (tgt := 4) C dX6_isLent_49 (by decide) ?_
            first
              | (refine J.lvs (lv' := [(0, .ref o), (1, .int (iN z)), (2, .int (iN (bN true))), (3, .int (iN ((i + 1 : Nat) : Int)))]) ?_ ?_
                 · intro q hq; simp only [List.mem_cons, List.not_mem_nil, or_false] at hq; rcases hq with rfl | rfl | rfl | rfl <;> rfl
                 · refine ih (i + 1) true ?_ ?_ ?_
                   · omega
                   · omega
                   · rw [anyI, ← hb]; clear hb; simp [lentP, *])
              | (refine J.lvs (lv' := [(0, .ref o), (1, .int (iN z)), (2, .int (iN (bN false))), (3, .int (iN ((i + 1 : Nat) : Int)))]) ?_ ?_
                 · intro q hq; simp only [List.mem_cons, List.not_mem_nil, or_false] at hq; rcases hq with rfl | rfl | rfl | rfl <;> rfl
                 · refine ih (i + 1) false ?_ ?_ ?_
                   · omega
                   · omega
                   · rw [anyI, ← hb]; clear hb; simp [lentP, *])
          · refine j_aload_n C dX6_isLent_25 rfl ?_
            refine j_mgeta C hM fl_Mo_56 (by decide) dX6_isLent_26 ?_
            refine j_aload_n C dX6_isLent_29 rfl ?_
            refine j_mgeta C hM fl_Mo_65 (by decide) dX6_isLent_30 ?_
            refine j_iload_n C dX6_isLent_33 rfl ?_
            refine j_mald C hM (by decide) rfl (by simp only [mLen]; omega) dX6_isLent_34 ?_
            refine j_mald C hM (by decide) rfl (by simp only [mLen]; omega) dX6_isLent_35 ?_
            refine j_iload_n C dX6_isLent_36 rfl ?_
            refine j_icmp_ne (tgt := 44) C dX6_isLent_37 (by decide) (by unfold rg at *; omega) (by unfold rg at *; omega) (fun c37 => ?_) (fun c37 => ?_)
            · refine j_iconst C dX6_isLent_44 ?_
              refine j_istore_n C dX6_isLent_45 (by decide) ?_
              refine j_iinc C dX6_isLent_46 rfl (by decide) ?_
              refine j_goto (tgt := 4) C dX6_isLent_49 (by decide) ?_
              first
                | (refine J.lvs (lv' := [(0, .ref o), (1, .int (iN z)), (2, .int (iN (bN true))), (3, .int (iN ((i + 1 : Nat) : Int)))]) ?_ ?_
                   · intro q hq; simp only [List.mem_cons, List.not_mem_nil, or_false] at hq; rcases hq with rfl | rfl | rfl | rfl <;> rfl
                   · refine ih (i + 1) true ?_ ?_ ?_
                     · omega
                     · omega
                     · rw [anyI, ← hb]; clear hb; simp [lentP, *])
                | (refine J.lvs (lv' := [(0, .ref o), (1, .int (iN z)), (2, .int (iN (bN false))), (3, .int (iN ((i + 1 : Nat) : Int)))]) ?_ ?_
                   · intro q hq; simp only [List.mem_cons, List.not_mem_nil, or_false] at hq; rcases hq with rfl | rfl | rfl | rfl <;> rfl
                   · refine ih (i + 1) false ?_ ?_ ?_
                     · omega
                     · omega
                     · rw [anyI, ← hb]; clear hb; simp [lentP, *])
            · refine j_iconst C dX6_isLent_40 ?_
              refine j_goto (tgt := 45) C dX6_isLent_41 (by decide) ?_
              refine j_istore_n C dX6_isLent_45 (by decide) ?_
              refine j_iinc C dX6_isLent_46 rfl (by decide) ?_
              refine j_goto (tgt := 4) C dX6_isLent_49 (by decide) ?_
              first
                | (refine J.lvs (lv' := [(0, .ref o), (1, .int (iN z)), (2, .int (iN (bN true))), (3, .int (iN ((i + 1 : Nat) : Int)))]) ?_ ?_
                   · intro q hq; simp only [List.mem_cons, List.not_mem_nil, or_false] at hq; rcases hq with rfl | rfl | rfl | rfl <;> rfl
                   · refine ih (i + 1) true ?_ ?_ ?_
                     · omega
                     · omega
                     · rw [anyI, ← hb]; clear hb; simp [lentP, *])
                | (refine J.lvs (lv' := [(0, .ref o), (1, .int (iN z)), (2, .int (iN (bN false))), (3, .int (iN ((i + 1 : Nat) : Int)))]) ?_ ?_
                   · intro q hq; simp only [List.mem_cons, List.not_mem_nil, or_false] at hq; rcases hq with rfl | rfl | rfl | rfl <;> rfl
                   · refine ih (i + 1) false ?_ ?_ ?_
                     · omega
                     · omega
                     · rw [anyI, ← hb]; clear hb; simp [lentP, *])
  refine J.lvs (lv' := [(0, .ref o), (1, .int (iN z)), (2, .int (iN (bN false))), (3, .int (iN ((0 : Nat) : Int)))]) ?_ ?_
  · intro q hq; simp only [List.mem_cons, List.not_mem_nil, or_false] at hq; rcases hq with rfl | rfl | rfl | rfl <;> rfl
  · exact key ((M 28 0).toNat + 1) 0 false (by omega) (by omega) rfl

set_option maxHeartbeats 4000000 in
set_option maxRecDepth 100000 in
theorem c_hasLoan (l : Launch) (hfl : l.stackTraces = false) {M : wM} (i1 : I1 M) (i8 : I8 M) : MC l yX6_hasLoan cX6_hasLoan 3 (some FieldType.boolean) 1 [] M (.inl (some (.int (iN (bN (loanM M)))))) (M) := by
  intro S0 o B hM0
  refine Ct.of cal_X6_hasLoan hfl (Nat.le_of_ble_eq_true rfl) ?_
  intro p e s m args below meth c D sz C ME
  have hM : RMF S0 S0 o B M := ⟨hM0, mF.rf⟩
  obtain ⟨a1, a2, a3, a4, a5, a6, a7⟩ := id i1
  refine j_iconst C dX6_hasLoan_0 ?_
  refine j_istore_n C dX6_hasLoan_1 (by decide) ?_
  refine j_iconst C dX6_hasLoan_2 ?_
  refine j_istore_n C dX6_hasLoan_3 (by decide) ?_
  have key : ∀ (fuel : Nat) (i : Nat) (b : Bool), M 28 0 - i < fuel → (i : Int) ≤ M 28 0 → b = anyI (fun k => decide (M 27 k = 0)) i → J p l e { frames := 20 * 1, cells := 0, slots := 0, locals := 200 * 1 } s m args below meth c 3 D (wA S0 sz) (wQ below D sz S0 (fun r S' => r = .inl (some (.int (iN (bN (loanM M))))) ∧ RMF S0 S' o B (M)) args s 0 0) 4 [(0, .ref o), (1, .int (iN (bN b))), (2, .int (iN i))] [] S0 0 0 := by
    intro fuel
    induction fuel with
    | zero => intro i b h1 h2 hb; omega
    | succ fuel ih =>
      intro i b h1 h2 hb
      refine j_iload_n C dX6_hasLoan_4 rfl ?_
      refine j_aload_n C dX6_hasLoan_5 rfl ?_
      refine j_mgeti C hM fl_Mo_100 ⟨by decide, rfl⟩ dX6_hasLoan_6 ?_
      refine j_icmp_ge (tgt := 37) C dX6_hasLoan_9 (by decide) (by unfold rg at *; omega) (by unfold rg at *; omega) (fun c9 => ?_) (fun c9 => ?_)
      · refine j_iload_n C dX6_hasLoan_37 rfl ?_
        refine j_zret C ME (by unfold bN; split <;> simp) ?_ (by omega) (by omega) dX6_hasLoan_38
        exact ⟨rI (by rw [loanM, show (M 28 0).toNat = i by omega, hb]), hM⟩
      · have w8 := i8 i (by omega) (by omega)
        refine j_iload_n C dX6_hasLoan_12 rfl ?_
        refine j_ifne_b (tgt := 25) C dX6_hasLoan_13 (by decide) (fun c13 => ?_) (fun c13 => ?_)
        · refine j_iconst C dX6_hasLoan_25 ?_
          refine j_goto (tgt := 30) C dX6_hasLoan_26 (by decide) ?_
          refine j_istore_n C dX6_hasLoan_30 (by decide) ?_
          refine j_iinc C dX6_hasLoan_31 rfl (by decide) ?_
          refine j_goto (tgt := 4) C dX6_hasLoan_34 (by decide) ?_
          first
            | (refine J.lvs (lv' := [(0, .ref o), (1, .int (iN (bN true))), (2, .int (iN ((i + 1 : Nat) : Int)))]) ?_ ?_
               · intro q hq; simp only [List.mem_cons, List.not_mem_nil, or_false] at hq; rcases hq with rfl | rfl | rfl <;> rfl
               · refine ih (i + 1) true ?_ ?_ ?_
                 · omega
                 · omega
                 · rw [anyI, ← hb]; clear hb; simp [*])
            | (refine J.lvs (lv' := [(0, .ref o), (1, .int (iN (bN false))), (2, .int (iN ((i + 1 : Nat) : Int)))]) ?_ ?_
               · intro q hq; simp only [List.mem_cons, List.not_mem_nil, or_false] at hq; rcases hq with rfl | rfl | rfl <;> rfl
               · refine ih (i + 1) false ?_ ?_ ?_
                 · omega
                 · omega
                 · rw [anyI, ← hb]; clear hb; simp [*])
        · refine j_aload_n C dX6_hasLoan_16 rfl ?_
          refine j_mgeta C hM fl_Mo_77 (by decide) dX6_hasLoan_17 ?_
          refine j_iload_n C dX6_hasLoan_20 rfl ?_
          refine j_mzld C hM (by omega) dX6_hasLoan_21 ?_
          refine j_if_ne (tgt := 29) C dX6_hasLoan_22 (by decide) (by unfold rg at *; omega) (fun c22 => ?_) (fun c22 => ?_)
          · refine j_iconst C dX6_hasLoan_29 ?_
            refine j_istore_n C dX6_hasLoan_30 (by decide) ?_
            refine j_iinc C dX6_hasLoan_31 rfl (by decide) ?_
            refine j_goto (tgt := 4) C dX6_hasLoan_34 (by decide) ?_
            first
              | (refine J.lvs (lv' := [(0, .ref o), (1, .int (iN (bN true))), (2, .int (iN ((i + 1 : Nat) : Int)))]) ?_ ?_
                 · intro q hq; simp only [List.mem_cons, List.not_mem_nil, or_false] at hq; rcases hq with rfl | rfl | rfl <;> rfl
                 · refine ih (i + 1) true ?_ ?_ ?_
                   · omega
                   · omega
                   · rw [anyI, ← hb]; clear hb; simp [*])
              | (refine J.lvs (lv' := [(0, .ref o), (1, .int (iN (bN false))), (2, .int (iN ((i + 1 : Nat) : Int)))]) ?_ ?_
                 · intro q hq; simp only [List.mem_cons, List.not_mem_nil, or_false] at hq; rcases hq with rfl | rfl | rfl <;> rfl
                 · refine ih (i + 1) false ?_ ?_ ?_
                   · omega
                   · omega
                   · rw [anyI, ← hb]; clear hb; simp [*])
          · refine j_iconst C dX6_hasLoan_25 ?_
            refine j_goto (tgt := 30) C dX6_hasLoan_26 (by decide) ?_
            refine j_istore_n C dX6_hasLoan_30 (by decide) ?_
            refine j_iinc C dX6_hasLoan_31 rfl (by decide) ?_
            refine j_goto (tgt := 4) C dX6_hasLoan_34 (by decide) ?_
            first
              | (refine J.lvs (lv' := [(0, .ref o), (1, .int (iN (bN true))), (2, .int (iN ((i + 1 : Nat) : Int)))]) ?_ ?_
                 · intro q hq; simp only [List.mem_cons, List.not_mem_nil, or_false] at hq; rcases hq with rfl | rfl | rfl <;> rfl
                 · refine ih (i + 1) true ?_ ?_ ?_
                   · omega
                   · omega
                   · rw [anyI, ← hb]; clear hb; simp [*])
              | (refine J.lvs (lv' := [(0, .ref o), (1, .int (iN (bN false))), (2, .int (iN ((i + 1 : Nat) : Int)))]) ?_ ?_
                 · intro q hq; simp only [List.mem_cons, List.not_mem_nil, or_false] at hq; rcases hq with rfl | rfl | rfl <;> rfl
                 · refine ih (i + 1) false ?_ ?_ ?_
                   · omega
                   · omega
                   · rw [anyI, ← hb]; clear hb; simp [*])
  refine J.lvs (lv' := [(0, .ref o), (1, .int (iN (bN false))), (2, .int (iN ((0 : Nat) : Int)))]) ?_ ?_
  · intro q hq; simp only [List.mem_cons, List.not_mem_nil, or_false] at hq; rcases hq with rfl | rfl | rfl <;> rfl
  · exact key ((M 28 0).toNat + 1) 0 false (by omega) (by omega) rfl

set_option maxHeartbeats 4000000 in
set_option maxRecDepth 100000 in
theorem c_placeOf (l : Launch) (hfl : l.stackTraces = false) {M : wM} {z : Int} (hz : 0 ≤ z ∧ z < M 12 0) (i1 : I1 M) (i2 : I2 M) (i3 : I3 M) (i3e : I3e M) : MC l yX6_placeOf cX6_placeOf 3 (some FieldType.int) 1 [.int (iN z)] M (.inl (some (.int (iN (plM M z))))) (M) := by
  intro S0 o B hM0
  refine Ct.of cal_X6_placeOf hfl (Nat.le_of_ble_eq_true rfl) ?_
  intro p e s m args below meth c D sz C ME
  have hM : RMF S0 S0 o B M := ⟨hM0, mF.rf⟩
  obtain ⟨a1, a2, a3, a4, a5, a6, a7⟩ := id i1
  obtain ⟨p1, p2, p3, p4⟩ := plM_spec i1 i3 i2 i3e hz.1 hz.2
  have w2 := i2 z hz.1 hz.2
  have w30 := i3 (M 4 z) (by omega) (by omega)
  refine j_iconst C dX6_placeOf_0 ?_
  refine j_istore_n C dX6_placeOf_1 (by decide) ?_
  have key : ∀ (fuel : Nat) (i : Nat), plM M z - i < fuel → (i : Int) ≤ plM M z → J p l e { frames := 20 * 1, cells := 0, slots := 0, locals := 200 * 1 } s m args below meth c 3 D (wA S0 sz) (wQ below D sz S0 (fun r S' => r = .inl (some (.int (iN (plM M z)))) ∧ RMF S0 S' o B (M)) args s 0 0) 2 [(0, .ref o), (1, .int (iN z)), (2, .int (iN i))] [] S0 0 0 := by
    intro fuel
    induction fuel with
    | zero => intro i h1 h2; omega
    | succ fuel ih =>
      intro i h1 h2
      have w3 := (i3 (M 4 z) (by omega) (by omega)).2.2.2 i (by omega) (by omega)
      refine j_aload_n C dX6_placeOf_2 rfl ?_
      refine j_mgeta C hM fl_Mo_7 (by decide) dX6_placeOf_3 ?_
      refine j_bipush C dX6_placeOf_6 (by decide) ?_
      refine j_aload_n C dX6_placeOf_8 rfl ?_
      refine j_mgeta C hM fl_Mo_16 (by decide) dX6_placeOf_9 ?_
      refine j_iload_n C dX6_placeOf_12 rfl ?_
      refine j_mald C hM (by decide) rfl (by simp only [mLen]; omega) dX6_placeOf_13 ?_
      refine j_imul C dX6_placeOf_14 ?_
      refine j_iload_n C dX6_placeOf_15 rfl ?_
      refine j_iadd C dX6_placeOf_16 ?_
      refine j_mald C hM (by decide) rfl (by simp only [mLen]; omega) dX6_placeOf_17 ?_
      refine j_iload_n C dX6_placeOf_18 rfl ?_
      refine j_icmp_eq (tgt := 28) C dX6_placeOf_19 (by decide) (by unfold rg at *; omega) (by unfold rg at *; omega) (fun c19 => ?_) (fun c19 => ?_)
      · refine j_iload_n C dX6_placeOf_28 rfl ?_
        refine j_iret C ME ?_ (by omega) (by omega) dX6_placeOf_29
        refine ⟨rI ?_, hM⟩
        rcases Int.lt_or_le (i : Int) (plM M z) with q | q
        · exact absurd c19 (p4 i q)
        · omega
      · refine j_iinc C dX6_placeOf_22 rfl (by decide) ?_
        refine j_goto (tgt := 2) C dX6_placeOf_25 (by decide) ?_
        have q : (i : Int) < plM M z := by
          rcases Int.lt_or_le (i : Int) (plM M z) with q | q
          · exact q
          · exact absurd (by rw [show (i : Int) = plM M z by omega]; exact p3) c19
        first
          | (refine J.lvs (lv' := [(0, .ref o), (1, .int (iN z)), (2, .int (iN ((i + 1 : Nat) : Int)))]) ?_ ?_
             · intro q hq; simp only [List.mem_cons, List.not_mem_nil, or_false] at hq; rcases hq with rfl | rfl | rfl <;> rfl
             · refine ih (i + 1) ?_ ?_
               · omega
               · omega)
  refine J.lvs (lv' := [(0, .ref o), (1, .int (iN z)), (2, .int (iN ((0 : Nat) : Int)))]) ?_ ?_
  · intro q hq; simp only [List.mem_cons, List.not_mem_nil, or_false] at hq; rcases hq with rfl | rfl | rfl <;> rfl
  · exact key ((plM M z).toNat + 1) 0 (by omega) (by omega)

set_option maxHeartbeats 4000000 in
set_option maxRecDepth 100000 in
theorem c_lastOf (l : Launch) (hfl : l.stackTraces = false) {M : wM} {r : Int} (hr : 0 ≤ r ∧ r < 24) (hm : 1 ≤ M 16 r ∧ M 16 r ≤ 60) : MC l yX6_lastOf cX6_lastOf 2 (some FieldType.int) 1 [.int (iN r)] M (.inl (some (.int (iN (lastM M r))))) (M) := by
  intro S0 o B hM0
  refine Ct.of cal_X6_lastOf hfl (Nat.le_of_ble_eq_true rfl) ?_
  intro p e s m args below meth c D sz C ME
  have hM : RMF S0 S0 o B M := ⟨hM0, mF.rf⟩
  refine j_aload_n C dX6_lastOf_0 rfl ?_
  refine j_mgeta C hM fl_Mo_43 (by decide) dX6_lastOf_1 ?_
  refine j_bipush C dX6_lastOf_4 (by decide) ?_
  refine j_iload_n C dX6_lastOf_6 rfl ?_
  refine j_imul C dX6_lastOf_7 ?_
  refine j_aload_n C dX6_lastOf_8 rfl ?_
  refine j_mgeta C hM fl_Mo_49 (by decide) dX6_lastOf_9 ?_
  refine j_iload_n C dX6_lastOf_12 rfl ?_
  refine j_mald C hM (by decide) rfl (by simp only [mLen]; omega) dX6_lastOf_13 ?_
  refine j_iadd C dX6_lastOf_14 ?_
  refine j_iconst C dX6_lastOf_15 ?_
  refine j_isub C dX6_lastOf_16 ?_
  refine j_mald C hM (by decide) rfl (by simp only [mLen]; omega) dX6_lastOf_17 ?_
  refine j_iret C ME ?_ (by omega) (by omega) dX6_lastOf_18
  exact ⟨rfl, hM⟩

