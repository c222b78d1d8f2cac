/-! THE CLASS: frameOf and shotAt, which may throw NoSuchElementException. -/
theorem nse_0 : decode nseB 0 = .ok (.aload_n 0, 1) := by decide +kernel
theorem nse_1 : decode nseB 1 = .ok (.aload_n 1, 1) := by decide +kernel
theorem nse_2 : decode nseB 2 = .ok (.invokespecial 13, 3) := by decide +kernel
theorem nse_5 : decode nseB 5 = .ok (.return_, 1) := by decide +kernel
section CORE43
variable {p : Program} {l : Launch} {e : Env} {R : Room} {s : State} {m : MethodId} {args : Array Value} {below : List Frame} {meth : Method} {c : Code} {nL : Nat} {D : wD} {Q : State → Prop}
variable {cc : ByteArray} {own : String} {pc : Nat} {lv : List (Nat × Value)} {st : List Value} {S0 S : wS} {k n sz mc ms : Nat} {Post : wR → wS → Prop} {A : Nat → Prop}
theorem j_throwX (C : Cx p l s m args meth c cc nL RX5 D (wA S0 sz)) {nm : String} {ret : Option FieldType} (M : Me meth c nm ret) {ik is ic : Nat} {X text : String} (T : ThrX ic X) (hik : Cond.classLink RX5 ik X ∈ WALL) (hini : Cond.initialized X ∈ WALL) (his : ("Spliceroom", is, text) ∈ wStr) (hP : Post (.inr X) S)
    (d0 : decode cc pc = .ok (.new ik, 3)) (d3 : decode cc (pc + 3) = .ok (.dup, 1)) (d4 : decode cc (pc + 4) = .ok (.ldc is, 2)) (d6 : decode cc (pc + 6) = .ok (.invokespecial ic, 3)) (d9 : decode cc (pc + 9) = .ok (.athrow, 1))
    (hR : 5 < R.frames ∧ (st.map fun v => v.category).sum + 82 ≤ R.locals ∧ k + 1 ≤ R.cells ∧ n + 6 ≤ R.slots) (hk : k + 1 ≤ mc) (hn : n + 6 ≤ ms) : J p l e R s m args below meth c nL D (wA S0 sz) (wQ below D sz S0 Post args s mc ms) pc lv st S k n := by
  intro H locs ls h1 h2 h3
  obtain ⟨c1, c2, c3, c4, c5, c6, c7, c8, c9, c10, c11⟩ := C
  obtain ⟨t1, t2, t3, t4⟩ := T
  obtain ⟨sa, hsa⟩ := c8.2.2.2.2.2 _ his
  have hcs := va_Nw.use (A := args) rfl (c8.1 _ t4)
  refine vx_throwX (names := xNm) c1 c2 c11 nse_0 nse_1 nse_2 nse_5 c4 t1 xNm_fit (c5 _ hik) (c5 _ hini) hsa ?_ ?_ c7.1 c7.2.1 h3 (by rw [c3]; exact h1.1) d0 d3 d4 d6 d9 (fun x hx => (M.2.2 x hx).elim) (show 2 + 3 < R.frames from hR.1) (by show _ + (13 * (2 + 1) + 43) ≤ _; omega) hR.2.2.1 hR.2.2.2 c10 ?_ h3.2.2 hk hn
  · intro w hw
    rcases t2 w hw with ⟨g1, g2⟩ | g | ⟨y9, g1, g⟩
    · exact c5 _ (WALL_of g1 g2)
    · rw [g]; exact hcs
    · rw [g]; exact va_Nw.use (A := args) rfl (c8.2.1 _ g1)
  · intro w hw
    rcases List.mem_cons.mp hw with rfl | hw
    · rfl
    · rcases List.mem_cons.mp hw with rfl | hw
      · rfl
      · exact t3 w hw
  · intro t hal hz hq
    exact ⟨S, hP, h2.kept hq, ⟨Nat.le_trans h3.1 hz, fun q g1 g2 => (hq q (Nat.lt_of_lt_of_le g1 h3.1)).trans (h3.2.1 q g1 g2)⟩⟩
end CORE43
theorem swS_end {M : wM} {f fr : Int} (hM : ∀ k : Nat, (k : Int) < M 3 f → 1 ≤ M 5 (M 2 (60 * f + k))) {j : Nat} (hj : (swS M f fr j).2 < 0) : ∀ d : Nat, ((j + d : Nat) : Int) ≤ M 3 f → (swS M f fr (j + d)).1 = (swS M f fr j).1 ∧ (swS M f fr (j + d)).2 < 0
  | 0, _ => ⟨rfl, hj⟩
  | d + 1, h => by
    obtain ⟨h1, h2⟩ := swS_end hM hj d (by omega)
    have h3 := hM (j + d) (by omega)
    rw [show j + (d + 1) = (j + d) + 1 from rfl, swS]
    split
    · exact ⟨h1, h2⟩
    · rw [if_neg (by omega)]
      exact ⟨h1, by show (swS M f fr (j + d)).2 - _ < 0; omega⟩
theorem swM_at {M : wM} {f fr : Int} (h0 : 0 ≤ fr) (hM : ∀ k : Nat, (k : Int) < M 3 f → 1 ≤ M 5 (M 2 (60 * f + k))) {i : Nat} (hi : (i : Int) < M 3 f) (h1 : swS M f fr i = (-1, fr - aheadM M f i)) (h2 : aheadM M f i ≤ fr) (h3 : fr < aheadM M f (i + 1)) : swM M f fr = M 2 (60 * f + i) := by
  have e : aheadM M f (i + 1) = aheadM M f i + keptM M (M 2 (60 * f + i)) := rfl
  have h4 := hM i hi
  have h7 : ¬ M 7 (M 2 (60 * f + i)) = -1 := by
    intro z
    rw [e] at h3
    unfold keptM at h3
    rw [if_pos z] at h3
    omega
  have h8 : keptM M (M 2 (60 * f + i)) = M 5 (M 2 (60 * f + i)) := by unfold keptM; rw [if_neg h7]
  have hs : swS M f fr (i + 1) = (M 2 (60 * f + i), fr - aheadM M f i - M 5 (M 2 (60 * f + i))) := by
    rw [swS, if_neg h7, h1, if_pos (by show 0 ≤ fr - aheadM M f i ∧ fr - aheadM M f i < _; omega)]
  have q := swS_end hM (j := i + 1) (by rw [hs]; show fr - aheadM M f i - _ < 0; omega) ((M 3 f).toNat - (i + 1)) (by omega)
  unfold swM
  rw [if_neg (by omega), show (M 3 f).toNat = i + 1 + ((M 3 f).toNat - (i + 1)) by omega, q.1, hs]
theorem swS_step {M : wM} {f fr : Int} {i : Nat} (h1 : swS M f fr i = (-1, fr - aheadM M f i)) (h3 : aheadM M f (i + 1) ≤ fr) : swS M f fr (i + 1) = (-1, fr - aheadM M f (i + 1)) := by
  have e : aheadM M f (i + 1) = aheadM M f i + keptM M (M 2 (60 * f + i)) := rfl
  rw [swS, h1]
  by_cases h7 : M 7 (M 2 (60 * f + i)) = -1
  · rw [if_pos h7, e]
    unfold keptM
    rw [if_pos h7, Int.add_zero]
  · have h8 : keptM M (M 2 (60 * f + i)) = M 5 (M 2 (60 * f + i)) := by unfold keptM; rw [if_neg h7]
    rw [if_neg h7, e, h8, if_neg (by show ¬ (0 ≤ fr - aheadM M f i ∧ fr - aheadM M f i < _); omega)]
    show (_, _) = (_, _)
    rw [show fr - aheadM M f i - M 5 (M 2 (60 * f + i)) = fr - (aheadM M f i + M 5 (M 2 (60 * f + i))) by omega]
set_option maxHeartbeats 4000000 in
set_option maxRecDepth 100000 in
theorem p_frameOf (l : Launch) (hfl : l.stackTraces = false) {S : wS} {E0 : Nat} {G : wG} {X : wM} (hC : RC E0 S G X) {z : Int} (h_z : rg z) (hP : ∀ s, 0 ≤ s → s < X 12 0 → PLs X s) : Ct l yX5_frameOf cX5_frameOf 3 (some FieldType.int) 20 100 6000 [.ref (G 6 0), .int (iN z)] S (pubP E0 S G (x_frameOf X z) ["java/lang/IndexOutOfBoundsException", "java/util/NoSuchElementException"] (some (.int (iN (v_frameOf X z)))) (X)) := by
  refine Ct.of cal_X5_frameOf hfl (Nat.le_of_ble_eq_true rfl) ?_
  intro p e s m args below meth c D sz C ME
  have hR : RCF E0 S S G X := ⟨hC, cF.rf⟩
  have w6 := hC.w6
  unfold wf6 at w6
  refine j_aload_n C dX5_frameOf_0 rfl ?_
  refine j_iload_n C dX5_frameOf_1 rfl ?_
  refine j_callV C (n_shot l hfl hR.1 (by unfold rg at *; omega)) cal_X5_shotNumbered vi_X5_shotNumbered ml_Sp_92 (hR.1.k6) ⟨by decide, by decide, rfl⟩ rfl rfl (Nat.le_of_ble_eq_true rfl) ⟨by decide, by decide⟩ ⟨(by first | omega | (dsimp only; omega) | exact Nat.le_of_ble_eq_true rfl), (by first | omega | (dsimp only; omega) | exact Nat.le_of_ble_eq_true rfl)⟩ dX5_frameOf_2 (fun E S9 h => ?_) (fun v9 S9 h => ?_)
  · obtain ⟨h9, h | h⟩ := h
    · exact nomatch h.2
    · obtain ⟨c2, h⟩ := h
      have h9 := h9.symm
      subst h9
      cases h
      refine j_out C ME ?_ (by omega) (by omega)
      exact Or.inr ⟨0, _, rfl, (by clear hR hC ME C; (try clear key); (try clear ih); unfold x_frameOf; (repeat' split) <;> first | rfl | omega | (simp_all; done) | (simp_all; omega)), rfl, rfl⟩
  obtain ⟨h9, h | h⟩ := h
  rotate_left
  · exact nomatch h.2
  obtain ⟨c2, h⟩ := h
  have h9 := h9.symm
  subst h9
  cases h
  have w4 := hC.w4 c2
  unfold wf4 at w4
  have wf := hC.w1 w4.1
  unfold wf1 at wf
  obtain ⟨hp1, hp2, hp3, hp4⟩ := hP z c2.1 c2.2
  refine j_astore_n C dX5_frameOf_5 (by decide) ?_
  refine j_aload_n C dX5_frameOf_6 rfl ?_
  refine j_callV C (k_isMissing l hfl hR.1 (by omega)) cal_X3_isMissing vi_X3_isMissing ml_Sp_106 (hR.1.k4 (by omega)) ⟨by decide, by decide, rfl⟩ rfl rfl (Nat.le_of_ble_eq_true rfl) ⟨by decide, by decide⟩ ⟨(by first | omega | (dsimp only; omega) | exact Nat.le_of_ble_eq_true rfl), (by first | omega | (dsimp only; omega) | exact Nat.le_of_ble_eq_true rfl)⟩ dX5_frameOf_7 (fun E S9 h => nomatch h.1) (fun v9 S9 h => ?_)
  obtain ⟨h, h9⟩ := h
  have h9 := h9.symm
  subst h9
  cases h
  refine j_ifeq_b (tgt := 23) C dX5_frameOf_10 (by decide) (fun c10 => ?_) (fun c10 => ?_)
  · refine j_aload_n C dX5_frameOf_23 rfl ?_
    refine jg_4_0 C hR (by omega) fl_Sp_100 dX5_frameOf_24 (fun w24 => ?_)
    refine j_aload_n C dX5_frameOf_27 rfl ?_
    refine jg_4_0 C hR (by omega) fl_Sp_100 dX5_frameOf_28 (fun w28 => ?_)
    refine j_aload_n C dX5_frameOf_31 rfl ?_
    refine j_callV C (k_place l hfl hR.1 (f9 := X 4 z) (s9 := z) (k9 := plM X z) (by omega) (by omega) ⟨hp1, hp2⟩ hp3 hp4) cal_X0_placeOf vi_X0_placeOf ml_Sp_161 (hR.1.k1 (by omega)) ⟨by decide, by decide, rfl⟩ rfl rfl (Nat.le_of_ble_eq_true rfl) ⟨by decide, by decide⟩ ⟨(by first | omega | (dsimp only; omega) | exact Nat.le_of_ble_eq_true rfl), (by first | omega | (dsimp only; omega) | exact Nat.le_of_ble_eq_true rfl)⟩ dX5_frameOf_32 (fun E S9 h => nomatch h.1) (fun v9 S9 h => ?_)
    obtain ⟨h, h9⟩ := h
    have h9 := h9.symm
    subst h9
    cases h
    refine j_callV C (k_before l hfl hR.1 (by omega) (by omega)) cal_X0_framesBefore vi_X0_framesBefore ml_Sp_165 (hR.1.k1 (by omega)) ⟨by decide, by decide, rfl⟩ rfl rfl (Nat.le_of_ble_eq_true rfl) ⟨by decide, by decide⟩ ⟨(by first | omega | (dsimp only; omega) | exact Nat.le_of_ble_eq_true rfl), (by first | omega | (dsimp only; omega) | exact Nat.le_of_ble_eq_true rfl)⟩ dX5_frameOf_35 (fun E S9 h => nomatch h.1) (fun v9 S9 h => ?_)
    obtain ⟨h, h9⟩ := h
    have h9 := h9.symm
    subst h9
    cases h
    refine j_iret C ME ?_ (by first | omega | exact Nat.le_of_ble_eq_true rfl) (by first | omega | exact Nat.le_of_ble_eq_true rfl) dX5_frameOf_38
    refine Or.inl ⟨?_, ?_, G, rfl, hR⟩
    · exact (by clear hR hC ME C; (try clear key); (try clear ih); unfold x_frameOf; (repeat' split) <;> first | rfl | omega | (simp_all; done) | (simp_all; omega))
    · rfl
  · refine j_throwX (text := "the shot is missing") C ME thr_NSE cl_Sp_156 ini_NSE (by decide +kernel) ?_ dX5_frameOf_13 dX5_frameOf_16 dX5_frameOf_17 dX5_frameOf_19 dX5_frameOf_22 ⟨by decide, (Nat.le_of_ble_eq_true rfl), (by first | omega | (dsimp only; omega) | exact Nat.le_of_ble_eq_true rfl), (by first | omega | (dsimp only; omega) | exact Nat.le_of_ble_eq_true rfl)⟩ (by omega) (by omega)
    exact Or.inr ⟨1, _, rfl, (by clear hR hC ME C; (try clear key); (try clear ih); unfold x_frameOf; (repeat' split) <;> first | rfl | omega | (simp_all; done) | (simp_all; omega)), rfl, rfl⟩

set_option maxHeartbeats 4000000 in
set_option maxRecDepth 100000 in
theorem p_shotAt (l : Launch) (hfl : l.stackTraces = false) {S : wS} {E0 : Nat} {G : wG} {X : wM} (hC : RC E0 S G X) {f z : Int} (h_f : rg f)  (h_z : rg z) (h5 : ∀ s, 0 ≤ s → s < X 12 0 → 1 ≤ X 5 s) : Ct l yX5_shotAt cX5_shotAt 7 (some FieldType.int) 20 100 6000 [.ref (G 6 0), .int (iN f), .int (iN z)] S (pubP E0 S G (x_shotAt X f z) ["java/lang/IndexOutOfBoundsException", "java/util/NoSuchElementException"] (some (.int (iN (v_shotAt X f z)))) (X)) := by
  refine Ct.of cal_X5_shotAt hfl (Nat.le_of_ble_eq_true rfl) ?_
  intro p e s m args below meth c D sz C ME
  have hR : RCF E0 S S G X := ⟨hC, cF.rf⟩
  have w6 := hC.w6
  unfold wf6 at w6
  refine j_aload_n C dX5_shotAt_0 rfl ?_
  refine j_iload_n C dX5_shotAt_1 rfl ?_
  refine j_callV C (n_film l hfl hR.1 (by unfold rg at *; omega)) cal_X5_filmNumbered vi_X5_filmNumbered ml_Sp_57 (hR.1.k6) ⟨by decide, by decide, rfl⟩ rfl rfl (Nat.le_of_ble_eq_true rfl) ⟨by decide, by decide⟩ ⟨(by first | omega | (dsimp only; omega) | exact Nat.le_of_ble_eq_true rfl), (by first | omega | (dsimp only; omega) | exact Nat.le_of_ble_eq_true rfl)⟩ dX5_shotAt_2 (fun E S9 h => ?_) (fun v9 S9 h => ?_)
  · obtain ⟨h9, h | h⟩ := h
    · exact nomatch h.2
    · obtain ⟨c2, h⟩ := h
      have h9 := h9.symm
      subst h9
      cases h
      refine j_out C ME ?_ (by omega) (by omega)
      exact Or.inr ⟨0, _, rfl, (by clear hR hC ME C; (try clear key); (try clear ih); unfold x_shotAt; (repeat' split) <;> first | rfl | omega | (simp_all; done) | (simp_all; omega)), rfl, rfl⟩
  obtain ⟨h9, h | h⟩ := h
  rotate_left
  · exact nomatch h.2
  obtain ⟨c2, h⟩ := h
  have h9 := h9.symm
  subst h9
  cases h
  have wf := hC.w1 c2
  unfold wf1 at wf
  have h5 : ∀ k9 : Nat, (k9 : Int) < X 3 f → 1 ≤ X 5 (X 2 (60 * f + (k9 : Int))) := fun k9 hk9 => (by have wz := wf.2.2 k9 (by omega) hk9; exact h5 _ wz.1 wz.2)
  refine j_astore_n C dX5_shotAt_5 (by decide) ?_
  refine j_iload_n C dX5_shotAt_6 rfl ?_
  refine j_if_ge (tgt := 20) C dX5_shotAt_7 (by decide) (by unfold rg at *; omega) (fun c7 => ?_) (fun c7 => ?_)
  · refine j_iconst C dX5_shotAt_20 ?_
    refine j_istore C dX5_shotAt_21 (by decide) ?_
    refine j_iconst C dX5_shotAt_23 ?_
    refine j_istore C dX5_shotAt_24 (by decide) ?_
    have key : ∀ (fuel : Nat) (i : Nat), X 3 f - i < fuel → (i : Int) ≤ X 3 f → swS X f z i = (-1, z - aheadM X f i) → aheadM X f i ≤ z → J p l e { frames := 20 * 20, cells := 100, slots := 6000, locals := 200 * 20 } s m args below meth c 7 D (wA S sz) (wQ below D sz S (pubP E0 S G (x_shotAt X f z) ["java/lang/IndexOutOfBoundsException", "java/util/NoSuchElementException"] (some (.int (iN (v_shotAt X f z)))) (X)) args s 100 6000) 26 [(0, .ref (G 6 0)), (1, .int (iN f)), (2, .int (iN z)), (3, .ref (G 1 f)), (4, .int (iN (aheadM X f i))), (5, .int (iN ((i : Nat) : Int)))] [] S 50 3000 := by
      intro fuel
      induction fuel with
      | zero => intro i h1 h2 h3 h4; omega
      | succ fuel ih =>
        intro i h1 h2 h3 h4
        have hb := ahead_b hC c2 (n := i) (by omega)
        have e7 : aheadM X f (i + 1) = aheadM X f i + keptM X (X 2 (60 * f + (i : Int))) := rfl
        refine j_iload C dX5_shotAt_26 rfl ?_
        refine j_aload_n C dX5_shotAt_28 rfl ?_
        refine jg_1_0 C hR (by omega) fl_Sp_71 dX5_shotAt_29 ?_
        refine j_callV C (z_row l hfl hR.1 (by omega)) cal_Jx4a65c_size_8abf5 vi_Jx4a65c_size_8abf5 ml_Sp_39 (hR.1.q_row (by omega)) ⟨by decide, by decide, rfl⟩ rfl rfl (Nat.le_of_ble_eq_true rfl) ⟨by decide, by decide⟩ ⟨(by first | omega | (dsimp only; omega) | exact Nat.le_of_ble_eq_true rfl), (by first | omega | (dsimp only; omega) | exact Nat.le_of_ble_eq_true rfl)⟩ dX5_shotAt_32 (fun E S9 h => nomatch h.1) (fun v9 S9 h => ?_)
        obtain ⟨h, h9⟩ := h
        have h9 := h9.symm
        subst h9
        cases h
        refine j_icmp_ge (tgt := 80) C dX5_shotAt_35 (by decide) (by unfold rg at *; omega) (by unfold rg at *; omega) (fun c35 => ?_) (fun c35 => ?_)
        · have esw : swM X f z = -1 := by unfold swM; rw [if_neg (by omega), show (X 3 f).toNat = i by omega, h3]
          refine j_throwX (text := "no such frame") C ME thr_NSE cl_Sp_156 ini_NSE (by decide +kernel) ?_ dX5_shotAt_80 dX5_shotAt_83 dX5_shotAt_84 dX5_shotAt_86 dX5_shotAt_89 ⟨by decide, (Nat.le_of_ble_eq_true rfl), (by first | omega | (dsimp only; omega) | exact Nat.le_of_ble_eq_true rfl), (by first | omega | (dsimp only; omega) | exact Nat.le_of_ble_eq_true rfl)⟩ (by omega) (by omega)
          exact Or.inr ⟨1, _, rfl, (by clear hR hC ME C; (try clear key); (try clear ih); unfold x_shotAt; (repeat' split) <;> first | rfl | omega | (simp_all; done) | (simp_all; omega)), rfl, rfl⟩
        · refine j_aload_n C dX5_shotAt_38 rfl ?_
          refine jg_1_0 C hR (by omega) fl_Sp_71 dX5_shotAt_39 ?_
          refine j_iload C dX5_shotAt_42 rfl ?_
          refine j_callV C (g_row l hfl hR.1 (by omega) (by omega)) cal_Jx4a65c_get_915e3 vi_Jx4a65c_get_915e3 ml_Sp_146 (hR.1.q_row (by omega)) ⟨by decide, by decide, rfl⟩ rfl rfl (Nat.le_of_ble_eq_true rfl) ⟨by decide, by decide⟩ ⟨(by first | omega | (dsimp only; omega) | exact Nat.le_of_ble_eq_true rfl), (by first | omega | (dsimp only; omega) | exact Nat.le_of_ble_eq_true rfl)⟩ dX5_shotAt_44 (fun E S9 h => nomatch h.1) (fun v9 S9 h => ?_)
          obtain ⟨h, h9, w44⟩ := h
          have h9 := h9.symm
          subst h9
          cases h
          have hkb := kept_b hC (s9 := X 2 (60 * f + (i : Int))) (by omega)
          refine j_cast (kd := 4) C (hR.1.k4 (by omega)) ⟨by decide, by decide⟩ cl_Sp_75 dX5_shotAt_47 ?_
          refine j_astore C dX5_shotAt_50 (by decide) ?_
          refine j_iload C dX5_shotAt_52 rfl ?_
          refine j_aload C dX5_shotAt_54 rfl ?_
          refine j_callV C (k_kept l hfl hR.1 (by omega)) cal_X3_keptFrames vi_X3_keptFrames ml_Sp_171 (hR.1.k4 (by omega)) ⟨by decide, by decide, rfl⟩ rfl rfl (Nat.le_of_ble_eq_true rfl) ⟨by decide, by decide⟩ ⟨(by first | omega | (dsimp only; omega) | exact Nat.le_of_ble_eq_true rfl), (by first | omega | (dsimp only; omega) | exact Nat.le_of_ble_eq_true rfl)⟩ dX5_shotAt_56 (fun E S9 h => nomatch h.1) (fun v9 S9 h => ?_)
          obtain ⟨h, h9⟩ := h
          have h9 := h9.symm
          subst h9
          cases h
          refine j_iadd C dX5_shotAt_59 ?_
          refine j_istore C dX5_shotAt_60 (by decide) ?_
          refine j_iload_n C dX5_shotAt_62 rfl ?_
          refine j_iload C dX5_shotAt_63 rfl ?_
          refine j_icmp_ge (tgt := 74) C dX5_shotAt_65 (by decide) (by unfold rg at *; omega) (by unfold rg at *; omega) (fun c65 => ?_) (fun c65 => ?_)
          · refine j_iinc C dX5_shotAt_74 rfl (by decide) ?_
            refine j_goto (tgt := 26) C dX5_shotAt_77 (by decide) ?_
            refine J.lvs (lv' := [(0, .ref (G 6 0)), (1, .int (iN f)), (2, .int (iN z)), (3, .ref (G 1 f)), (4, .int (iN (aheadM X f (i + 1)))), (5, .int (iN (((i + 1) : Nat) : Int)))]) ?_ ((ih (i + 1) (by omega) (by omega) (swS_step h3 (by rw [e7]; omega)) (by rw [e7]; omega)))
            intro q hq; simp only [List.mem_cons, List.not_mem_nil, or_false] at hq; rcases hq with rfl | rfl | rfl | rfl | rfl | rfl <;> rfl
          · have esw := swM_at (by omega) h5 (by omega) h3 h4 (by rw [e7]; omega)
            refine j_aload C dX5_shotAt_68 rfl ?_
            refine jg_4_1 C hR (by omega) fl_Sp_74 dX5_shotAt_70 ?_
            refine j_iret C ME ?_ (by first | omega | exact Nat.le_of_ble_eq_true rfl) (by first | omega | exact Nat.le_of_ble_eq_true rfl) dX5_shotAt_73
            refine Or.inl ⟨?_, ?_, G, rfl, hR⟩
            · exact (by clear hR hC ME C; (try clear key); (try clear ih); unfold x_shotAt; (repeat' split) <;> first | rfl | omega | (simp_all; done) | (simp_all; omega))
            · exact rI esw.symm
    refine J.lvs (lv' := [(0, .ref (G 6 0)), (1, .int (iN f)), (2, .int (iN z)), (3, .ref (G 1 f)), (4, .int (iN (aheadM X f 0))), (5, .int (iN ((0 : Nat) : Int)))]) ?_ (J.widen (by first | omega | exact Nat.le_of_ble_eq_true rfl) (by first | omega | exact Nat.le_of_ble_eq_true rfl) (key ((X 3 f).toNat + 1) 0 (by omega) (by omega) (by show (_, _) = (_, _); rw [show aheadM X f 0 = 0 from rfl, Int.sub_zero]) (by show (0 : Int) ≤ z; omega)))
    intro q hq; simp only [List.mem_cons, List.not_mem_nil, or_false] at hq; rcases hq with rfl | rfl | rfl | rfl | rfl | rfl <;> rfl
  · have esw : swM X f z = -1 := by unfold swM; rw [if_pos (by omega)]
    refine j_throwX (text := "no such frame") C ME thr_NSE cl_Sp_156 ini_NSE (by decide +kernel) ?_ dX5_shotAt_10 dX5_shotAt_13 dX5_shotAt_14 dX5_shotAt_16 dX5_shotAt_19 ⟨by decide, (Nat.le_of_ble_eq_true rfl), (by first | omega | (dsimp only; omega) | exact Nat.le_of_ble_eq_true rfl), (by first | omega | (dsimp only; omega) | exact Nat.le_of_ble_eq_true rfl)⟩ (by omega) (by omega)
    exact Or.inr ⟨1, _, rfl, (by clear hR hC ME C; (try clear key); (try clear ih); unfold x_shotAt; (repeat' split) <;> first | rfl | omega | (simp_all; done) | (simp_all; omega)), rfl, rfl⟩

