/-! THE WRAPPERS of the law's class. -/
section CALL60
variable {p : Program} {l : Launch} {e : Env} {R : Room} {s : State} {m : MethodId} {args : Array Value} {below : List Frame} {meth : Method} {c : Code} {nL : Nat} {D : wD} {Q : State → Prop}
variable {cc : ByteArray} {own : String} {pc : Nat} {lv : List (Nat × Value)} {st : List Value} {S0 S : wS} {k n sz mc ms : Nat} {Post : wR → wS → Prop} {A : Nat → Prop}
variable {y : MethodName} {bc : ByteArray} {nc np d mcc msc idx : Nat} {rc : Option FieldType} {PostC : wR → wS → Prop} {As rest st0 : List Value} {b : Nat}
theorem j_i2lx (C : Cx p l s m args meth c cc nL own D A) {x : Int32} (d : decode cc pc = .ok (.i2l, 1)) (kk : J p l e R s m args below meth c nL D A Q (pc + 1) lv (.long x.toInt64 :: st) S k n) : J p l e R s m args below meth c nL D A Q pc lv (.int x :: st) S k n :=
  fun H locs ls h1 h2 h3 => lv_i2l C.1 C.2.1 d rfl (kk H locs ls h1 h2 h3)
end CALL60
theorem ini_La : Cond.initialized RL ∈ WALL := WALL_at 50 (by decide +kernel) rfl
/-- a wrapper's end: the code, and the value in the row a of kind kd -/
def wrP (E : Nat) (S : wS) (q kd a : Nat) (xc : Int) (v : Value) (M' : wM) (r : wR) (S' : wS) : Prop :=
  ∃ S1, cF S S1 ∧ Jn E S1 q M' ∧ r = .inl (some (.int (iN xc))) ∧ ((xc = 0 ∧ S' = sPutE S1 kd a 0 v) ∨ (xc ≠ 0 ∧ S' = S1))
theorem Jn.k6 {E : Nat} {S : wS} {q : Nat} {M : wM} (h : Jn E S q M) : sK S q = 6 := by
  obtain ⟨G, Y, rfl, hC, -⟩ := h
  exact hC.k6
theorem calH_shots : CalH yL_shots cL_shots 4 (some FieldType.int) [(0, 9, 12, 19)] 3 := ⟨by decide +kernel, ⟨by decide +kernel, by decide +kernel, by decide +kernel⟩, WALL_at 878 (by decide +kernel) rfl, ini_La⟩
set_option maxHeartbeats 1000000 in
theorem w_shots (l : Launch) (hfl : l.stackTraces = false) {D : wD} {S : wS} {q9 a9 : Nat} {M : wM} (h : Jn D.2.2.1 S q9 M) (ha : sK S a9 = 10 ∧ sN S a9 = 1) {f : Int} (h_f : rg f) : CtH l D yL_shots cL_shots 4 (some FieldType.int) [(0, 9, 12, 19)] 21 100 6000 [.ref q9, .int (iN f), .ref a9] S (wrP D.2.2.1 S q9 10 a9 (x_shots M f) (.long (iN (v_shots M f)).toInt64) (n_shots M f)) := by
  refine CtH.of calH_shots hfl (Nat.le_of_ble_eq_true rfl) ?_
  intro p e s m args below meth c sz hs C MH
  refine j_aload_n C dL_shots_0 rfl ?_
  refine j_iconst C dL_shots_1 ?_
  refine j_aload_n C dL_shots_2 rfl ?_
  refine j_iload_n C dL_shots_3 rfl ?_
  refine j_callV C (s_shots l hfl h h_f) cal_X5_shots vi_X5_shots ml_La_40 h.k6 ⟨by decide, by decide, rfl⟩ rfl rfl (Nat.le_of_ble_eq_true rfl) ⟨by decide, by decide⟩ ⟨(Nat.le_of_ble_eq_true rfl), (Nat.le_of_ble_eq_true rfl)⟩ dL_shots_4 (fun E S9 h9 => ?_) (fun v9 S9 h9 => ?_)
  · obtain ⟨hF, hJ, ⟨-, h9⟩ | ⟨k9, e9, k1, k2, k3, k4⟩⟩ := h9
    · exact nomatch h9
    · cases k3
      subst k4
      rcases (show k9 = 0 ∨ 1 ≤ k9 by omega) with rfl | k9
      · cases k1
        refine j_catch C MH (name := xI) ((tableOf [(0, 9, 12, 19)]).take 0) (tableOf [(0, 9, 12, 19)])[0] ((tableOf [(0, 9, 12, 19)]).drop 1) rfl (fun z hz => ?_) (by decide) (by decide) cl_La_19 (by simp [wCas, xI, xA, xU, xS, xN]) (fun q8 => ?_)
        · exact nomatch hz
        refine j_astore_n C dL_shots_12 (by decide) ?_
        refine j_iconst C dL_shots_13 ?_
        refine j_iretH C MH ?_ (Nat.le_of_ble_eq_true rfl) (Nat.le_of_ble_eq_true rfl) dL_shots_14
        exact ⟨_, hF, hJ, by rw [k2]; rfl, Or.inr ⟨by omega, rfl⟩⟩
      · rw [List.getElem?_eq_none (by simpa using k9)] at k1
        exact nomatch k1
  · obtain ⟨hF, hJ, ⟨k2, h9⟩ | ⟨k9, e9, k1, k2, k3, k4⟩⟩ := h9
    rotate_left
    · exact nomatch k3
    cases h9
    have f9 := hF a9 (by rw [ha.1]; decide)
    refine j_i2lx C dL_shots_7 ?_
    refine j_last C (f9.1.trans ha.1) ⟨by decide, by rw [f9.2.1, ha.2]; decide, by decide⟩ dL_shots_8 ?_
    refine j_goto (tgt := 15) C dL_shots_9 (by decide) ?_
    refine j_iconst C dL_shots_15 ?_
    refine j_iretH C MH ?_ (Nat.le_of_ble_eq_true rfl) (Nat.le_of_ble_eq_true rfl) dL_shots_16
    exact ⟨S9, hF, hJ, by rw [k2], Or.inl ⟨k2, rfl⟩⟩

theorem calH_lengthOf : CalH yL_lengthOf cL_lengthOf 4 (some FieldType.int) [(0, 9, 12, 19)] 3 := ⟨by decide +kernel, ⟨by decide +kernel, by decide +kernel, by decide +kernel⟩, WALL_at 892 (by decide +kernel) rfl, ini_La⟩
set_option maxHeartbeats 1000000 in
theorem w_lengthOf (l : Launch) (hfl : l.stackTraces = false) {D : wD} {S : wS} {q9 a9 : Nat} {M : wM} (h : Jn D.2.2.1 S q9 M) (ha : sK S a9 = 10 ∧ sN S a9 = 1) {z : Int} (h_z : rg z) : CtH l D yL_lengthOf cL_lengthOf 4 (some FieldType.int) [(0, 9, 12, 19)] 21 100 6000 [.ref q9, .int (iN z), .ref a9] S (wrP D.2.2.1 S q9 10 a9 (x_lengthOf M z) (.long (iN (v_lengthOf M z)).toInt64) (n_lengthOf M z)) := by
  refine CtH.of calH_lengthOf hfl (Nat.le_of_ble_eq_true rfl) ?_
  intro p e s m args below meth c sz hs C MH
  refine j_aload_n C dL_lengthOf_0 rfl ?_
  refine j_iconst C dL_lengthOf_1 ?_
  refine j_aload_n C dL_lengthOf_2 rfl ?_
  refine j_iload_n C dL_lengthOf_3 rfl ?_
  refine j_callV C (s_lengthOf l hfl h h_z) cal_X5_lengthOf vi_X5_lengthOf ml_La_46 h.k6 ⟨by decide, by decide, rfl⟩ rfl rfl (Nat.le_of_ble_eq_true rfl) ⟨by decide, by decide⟩ ⟨(Nat.le_of_ble_eq_true rfl), (Nat.le_of_ble_eq_true rfl)⟩ dL_lengthOf_4 (fun E S9 h9 => ?_) (fun v9 S9 h9 => ?_)
  · obtain ⟨hF, hJ, ⟨-, h9⟩ | ⟨k9, e9, k1, k2, k3, k4⟩⟩ := h9
    · exact nomatch h9
    · cases k3
      subst k4
      rcases (show k9 = 0 ∨ 1 ≤ k9 by omega) with rfl | k9
      · cases k1
        refine j_catch C MH (name := xI) ((tableOf [(0, 9, 12, 19)]).take 0) (tableOf [(0, 9, 12, 19)])[0] ((tableOf [(0, 9, 12, 19)]).drop 1) rfl (fun z hz => ?_) (by decide) (by decide) cl_La_19 (by simp [wCas, xI, xA, xU, xS, xN]) (fun q8 => ?_)
        · exact nomatch hz
        refine j_astore_n C dL_lengthOf_12 (by decide) ?_
        refine j_iconst C dL_lengthOf_13 ?_
        refine j_iretH C MH ?_ (Nat.le_of_ble_eq_true rfl) (Nat.le_of_ble_eq_true rfl) dL_lengthOf_14
        exact ⟨_, hF, hJ, by rw [k2]; rfl, Or.inr ⟨by omega, rfl⟩⟩
      · rw [List.getElem?_eq_none (by simpa using k9)] at k1
        exact nomatch k1
  · obtain ⟨hF, hJ, ⟨k2, h9⟩ | ⟨k9, e9, k1, k2, k3, k4⟩⟩ := h9
    rotate_left
    · exact nomatch k3
    cases h9
    have f9 := hF a9 (by rw [ha.1]; decide)
    refine j_i2lx C dL_lengthOf_7 ?_
    refine j_last C (f9.1.trans ha.1) ⟨by decide, by rw [f9.2.1, ha.2]; decide, by decide⟩ dL_lengthOf_8 ?_
    refine j_goto (tgt := 15) C dL_lengthOf_9 (by decide) ?_
    refine j_iconst C dL_lengthOf_15 ?_
    refine j_iretH C MH ?_ (Nat.le_of_ble_eq_true rfl) (Nat.le_of_ble_eq_true rfl) dL_lengthOf_16
    exact ⟨S9, hF, hJ, by rw [k2], Or.inl ⟨k2, rfl⟩⟩

theorem calH_scanned : CalH yL_scanned cL_scanned 4 (some FieldType.int) [(0, 9, 12, 19)] 3 := ⟨by decide +kernel, ⟨by decide +kernel, by decide +kernel, by decide +kernel⟩, WALL_at 1043 (by decide +kernel) rfl, ini_La⟩
set_option maxHeartbeats 1000000 in
theorem w_scanned (l : Launch) (hfl : l.stackTraces = false) {D : wD} {S : wS} {q9 a9 : Nat} {M : wM} (h : Jn D.2.2.1 S q9 M) (ha : sK S a9 = 10 ∧ sN S a9 = 1) {z : Int} (h_z : rg z) : CtH l D yL_scanned cL_scanned 4 (some FieldType.int) [(0, 9, 12, 19)] 21 100 6000 [.ref q9, .int (iN z), .ref a9] S (wrP D.2.2.1 S q9 10 a9 (x_scanned M z) (.long (iN (v_scanned M z)).toInt64) (n_scanned M z)) := by
  refine CtH.of calH_scanned hfl (Nat.le_of_ble_eq_true rfl) ?_
  intro p e s m args below meth c sz hs C MH
  refine j_aload_n C dL_scanned_0 rfl ?_
  refine j_iconst C dL_scanned_1 ?_
  refine j_aload_n C dL_scanned_2 rfl ?_
  refine j_iload_n C dL_scanned_3 rfl ?_
  refine j_callV C (s_scanned l hfl h h_z) cal_X5_scanned vi_X5_scanned ml_La_75 h.k6 ⟨by decide, by decide, rfl⟩ rfl rfl (Nat.le_of_ble_eq_true rfl) ⟨by decide, by decide⟩ ⟨(Nat.le_of_ble_eq_true rfl), (Nat.le_of_ble_eq_true rfl)⟩ dL_scanned_4 (fun E S9 h9 => ?_) (fun v9 S9 h9 => ?_)
  · obtain ⟨hF, hJ, ⟨-, h9⟩ | ⟨k9, e9, k1, k2, k3, k4⟩⟩ := h9
    · exact nomatch h9
    · cases k3
      subst k4
      rcases (show k9 = 0 ∨ 1 ≤ k9 by omega) with rfl | k9
      · cases k1
        refine j_catch C MH (name := xI) ((tableOf [(0, 9, 12, 19)]).take 0) (tableOf [(0, 9, 12, 19)])[0] ((tableOf [(0, 9, 12, 19)]).drop 1) rfl (fun z hz => ?_) (by decide) (by decide) cl_La_19 (by simp [wCas, xI, xA, xU, xS, xN]) (fun q8 => ?_)
        · exact nomatch hz
        refine j_astore_n C dL_scanned_12 (by decide) ?_
        refine j_iconst C dL_scanned_13 ?_
        refine j_iretH C MH ?_ (Nat.le_of_ble_eq_true rfl) (Nat.le_of_ble_eq_true rfl) dL_scanned_14
        exact ⟨_, hF, hJ, by rw [k2]; rfl, Or.inr ⟨by omega, rfl⟩⟩
      · rw [List.getElem?_eq_none (by simpa using k9)] at k1
        exact nomatch k1
  · obtain ⟨hF, hJ, ⟨k2, h9⟩ | ⟨k9, e9, k1, k2, k3, k4⟩⟩ := h9
    rotate_left
    · exact nomatch k3
    cases h9
    have f9 := hF a9 (by rw [ha.1]; decide)
    refine j_i2lx C dL_scanned_7 ?_
    refine j_last C (f9.1.trans ha.1) ⟨by decide, by rw [f9.2.1, ha.2]; decide, by decide⟩ dL_scanned_8 ?_
    refine j_goto (tgt := 15) C dL_scanned_9 (by decide) ?_
    refine j_iconst C dL_scanned_15 ?_
    refine j_iretH C MH ?_ (Nat.le_of_ble_eq_true rfl) (Nat.le_of_ble_eq_true rfl) dL_scanned_16
    exact ⟨S9, hF, hJ, by rw [k2], Or.inl ⟨k2, rfl⟩⟩

theorem calH_missed : CalH yL_missed cL_missed 4 (some FieldType.int) [(0, 9, 12, 19)] 3 := ⟨by decide +kernel, ⟨by decide +kernel, by decide +kernel, by decide +kernel⟩, WALL_at 1050 (by decide +kernel) rfl, ini_La⟩
set_option maxHeartbeats 1000000 in
theorem w_missed (l : Launch) (hfl : l.stackTraces = false) {D : wD} {S : wS} {q9 a9 : Nat} {M : wM} (h : Jn D.2.2.1 S q9 M) (ha : sK S a9 = 10 ∧ sN S a9 = 1) {z : Int} (h_z : rg z) : CtH l D yL_missed cL_missed 4 (some FieldType.int) [(0, 9, 12, 19)] 21 100 6000 [.ref q9, .int (iN z), .ref a9] S (wrP D.2.2.1 S q9 10 a9 (x_missed M z) (.long (iN (v_missed M z)).toInt64) (n_missed M z)) := by
  refine CtH.of calH_missed hfl (Nat.le_of_ble_eq_true rfl) ?_
  intro p e s m args below meth c sz hs C MH
  refine j_aload_n C dL_missed_0 rfl ?_
  refine j_iconst C dL_missed_1 ?_
  refine j_aload_n C dL_missed_2 rfl ?_
  refine j_iload_n C dL_missed_3 rfl ?_
  refine j_callV C (s_missed l hfl h h_z) cal_X5_missed vi_X5_missed ml_La_78 h.k6 ⟨by decide, by decide, rfl⟩ rfl rfl (Nat.le_of_ble_eq_true rfl) ⟨by decide, by decide⟩ ⟨(Nat.le_of_ble_eq_true rfl), (Nat.le_of_ble_eq_true rfl)⟩ dL_missed_4 (fun E S9 h9 => ?_) (fun v9 S9 h9 => ?_)
  · obtain ⟨hF, hJ, ⟨-, h9⟩ | ⟨k9, e9, k1, k2, k3, k4⟩⟩ := h9
    · exact nomatch h9
    · cases k3
      subst k4
      rcases (show k9 = 0 ∨ 1 ≤ k9 by omega) with rfl | k9
      · cases k1
        refine j_catch C MH (name := xI) ((tableOf [(0, 9, 12, 19)]).take 0) (tableOf [(0, 9, 12, 19)])[0] ((tableOf [(0, 9, 12, 19)]).drop 1) rfl (fun z hz => ?_) (by decide) (by decide) cl_La_19 (by simp [wCas, xI, xA, xU, xS, xN]) (fun q8 => ?_)
        · exact nomatch hz
        refine j_astore_n C dL_missed_12 (by decide) ?_
        refine j_iconst C dL_missed_13 ?_
        refine j_iretH C MH ?_ (Nat.le_of_ble_eq_true rfl) (Nat.le_of_ble_eq_true rfl) dL_missed_14
        exact ⟨_, hF, hJ, by rw [k2]; rfl, Or.inr ⟨by omega, rfl⟩⟩
      · rw [List.getElem?_eq_none (by simpa using k9)] at k1
        exact nomatch k1
  · obtain ⟨hF, hJ, ⟨k2, h9⟩ | ⟨k9, e9, k1, k2, k3, k4⟩⟩ := h9
    rotate_left
    · exact nomatch k3
    cases h9
    have f9 := hF a9 (by rw [ha.1]; decide)
    refine j_i2lx C dL_missed_7 ?_
    refine j_last C (f9.1.trans ha.1) ⟨by decide, by rw [f9.2.1, ha.2]; decide, by decide⟩ dL_missed_8 ?_
    refine j_goto (tgt := 15) C dL_missed_9 (by decide) ?_
    refine j_iconst C dL_missed_15 ?_
    refine j_iretH C MH ?_ (Nat.le_of_ble_eq_true rfl) (Nat.le_of_ble_eq_true rfl) dL_missed_16
    exact ⟨S9, hF, hJ, by rw [k2], Or.inl ⟨k2, rfl⟩⟩

theorem calH_reelOf : CalH yL_reelOf cL_reelOf 4 (some FieldType.int) [(0, 9, 12, 19)] 3 := ⟨by decide +kernel, ⟨by decide +kernel, by decide +kernel, by decide +kernel⟩, WALL_at 938 (by decide +kernel) rfl, ini_La⟩
set_option maxHeartbeats 1000000 in
theorem w_reelOf (l : Launch) (hfl : l.stackTraces = false) {D : wD} {S : wS} {q9 a9 : Nat} {M : wM} (h : Jn D.2.2.1 S q9 M) (ha : sK S a9 = 10 ∧ sN S a9 = 1) {z : Int} (h_z : rg z) : CtH l D yL_reelOf cL_reelOf 4 (some FieldType.int) [(0, 9, 12, 19)] 21 100 6000 [.ref q9, .int (iN z), .ref a9] S (wrP D.2.2.1 S q9 10 a9 (x_reelOf M z) (.long (iN (v_reelOf M z)).toInt64) (n_reelOf M z)) := by
  refine CtH.of calH_reelOf hfl (Nat.le_of_ble_eq_true rfl) ?_
  intro p e s m args below meth c sz hs C MH
  refine j_aload_n C dL_reelOf_0 rfl ?_
  refine j_iconst C dL_reelOf_1 ?_
  refine j_aload_n C dL_reelOf_2 rfl ?_
  refine j_iload_n C dL_reelOf_3 rfl ?_
  refine j_callV C (s_reelOf l hfl h h_z) cal_X5_reelOf vi_X5_reelOf ml_La_57 h.k6 ⟨by decide, by decide, rfl⟩ rfl rfl (Nat.le_of_ble_eq_true rfl) ⟨by decide, by decide⟩ ⟨(Nat.le_of_ble_eq_true rfl), (Nat.le_of_ble_eq_true rfl)⟩ dL_reelOf_4 (fun E S9 h9 => ?_) (fun v9 S9 h9 => ?_)
  · obtain ⟨hF, hJ, ⟨-, h9⟩ | ⟨k9, e9, k1, k2, k3, k4⟩⟩ := h9
    · exact nomatch h9
    · cases k3
      subst k4
      rcases (show k9 = 0 ∨ 1 ≤ k9 by omega) with rfl | k9
      · cases k1
        refine j_catch C MH (name := xI) ((tableOf [(0, 9, 12, 19)]).take 0) (tableOf [(0, 9, 12, 19)])[0] ((tableOf [(0, 9, 12, 19)]).drop 1) rfl (fun z hz => ?_) (by decide) (by decide) cl_La_19 (by simp [wCas, xI, xA, xU, xS, xN]) (fun q8 => ?_)
        · exact nomatch hz
        refine j_astore_n C dL_reelOf_12 (by decide) ?_
        refine j_iconst C dL_reelOf_13 ?_
        refine j_iretH C MH ?_ (Nat.le_of_ble_eq_true rfl) (Nat.le_of_ble_eq_true rfl) dL_reelOf_14
        exact ⟨_, hF, hJ, by rw [k2]; rfl, Or.inr ⟨by omega, rfl⟩⟩
      · rw [List.getElem?_eq_none (by simpa using k9)] at k1
        exact nomatch k1
  · obtain ⟨hF, hJ, ⟨k2, h9⟩ | ⟨k9, e9, k1, k2, k3, k4⟩⟩ := h9
    rotate_left
    · exact nomatch k3
    cases h9
    have f9 := hF a9 (by rw [ha.1]; decide)
    refine j_i2lx C dL_reelOf_7 ?_
    refine j_last C (f9.1.trans ha.1) ⟨by decide, by rw [f9.2.1, ha.2]; decide, by decide⟩ dL_reelOf_8 ?_
    refine j_goto (tgt := 15) C dL_reelOf_9 (by decide) ?_
    refine j_iconst C dL_reelOf_15 ?_
    refine j_iretH C MH ?_ (Nat.le_of_ble_eq_true rfl) (Nat.le_of_ble_eq_true rfl) dL_reelOf_16
    exact ⟨S9, hF, hJ, by rw [k2], Or.inl ⟨k2, rfl⟩⟩

theorem calH_gradeOf : CalH yL_gradeOf cL_gradeOf 4 (some FieldType.int) [(0, 9, 12, 19)] 3 := ⟨by decide +kernel, ⟨by decide +kernel, by decide +kernel, by decide +kernel⟩, WALL_at 1078 (by decide +kernel) rfl, ini_La⟩
set_option maxHeartbeats 1000000 in
theorem w_gradeOf (l : Launch) (hfl : l.stackTraces = false) {D : wD} {S : wS} {q9 a9 : Nat} {M : wM} (h : Jn D.2.2.1 S q9 M) (ha : sK S a9 = 10 ∧ sN S a9 = 1) {z : Int} (h_z : rg z) : CtH l D yL_gradeOf cL_gradeOf 4 (some FieldType.int) [(0, 9, 12, 19)] 21 100 6000 [.ref q9, .int (iN z), .ref a9] S (wrP D.2.2.1 S q9 10 a9 (x_gradeOf M z) (.long (iN (v_gradeOf M z)).toInt64) (n_gradeOf M z)) := by
  refine CtH.of calH_gradeOf hfl (Nat.le_of_ble_eq_true rfl) ?_
  intro p e s m args below meth c sz hs C MH
  refine j_aload_n C dL_gradeOf_0 rfl ?_
  refine j_iconst C dL_gradeOf_1 ?_
  refine j_aload_n C dL_gradeOf_2 rfl ?_
  refine j_iload_n C dL_gradeOf_3 rfl ?_
  refine j_callV C (s_gradeOf l hfl h h_z) cal_X5_gradeOf vi_X5_gradeOf ml_La_87 h.k6 ⟨by decide, by decide, rfl⟩ rfl rfl (Nat.le_of_ble_eq_true rfl) ⟨by decide, by decide⟩ ⟨(Nat.le_of_ble_eq_true rfl), (Nat.le_of_ble_eq_true rfl)⟩ dL_gradeOf_4 (fun E S9 h9 => ?_) (fun v9 S9 h9 => ?_)
  · obtain ⟨hF, hJ, ⟨-, h9⟩ | ⟨k9, e9, k1, k2, k3, k4⟩⟩ := h9
    · exact nomatch h9
    · cases k3
      subst k4
      rcases (show k9 = 0 ∨ 1 ≤ k9 by omega) with rfl | k9
      · cases k1
        refine j_catch C MH (name := xI) ((tableOf [(0, 9, 12, 19)]).take 0) (tableOf [(0, 9, 12, 19)])[0] ((tableOf [(0, 9, 12, 19)]).drop 1) rfl (fun z hz => ?_) (by decide) (by decide) cl_La_19 (by simp [wCas, xI, xA, xU, xS, xN]) (fun q8 => ?_)
        · exact nomatch hz
        refine j_astore_n C dL_gradeOf_12 (by decide) ?_
        refine j_iconst C dL_gradeOf_13 ?_
        refine j_iretH C MH ?_ (Nat.le_of_ble_eq_true rfl) (Nat.le_of_ble_eq_true rfl) dL_gradeOf_14
        exact ⟨_, hF, hJ, by rw [k2]; rfl, Or.inr ⟨by omega, rfl⟩⟩
      · rw [List.getElem?_eq_none (by simpa using k9)] at k1
        exact nomatch k1
  · obtain ⟨hF, hJ, ⟨k2, h9⟩ | ⟨k9, e9, k1, k2, k3, k4⟩⟩ := h9
    rotate_left
    · exact nomatch k3
    cases h9
    have f9 := hF a9 (by rw [ha.1]; decide)
    refine j_i2lx C dL_gradeOf_7 ?_
    refine j_last C (f9.1.trans ha.1) ⟨by decide, by rw [f9.2.1, ha.2]; decide, by decide⟩ dL_gradeOf_8 ?_
    refine j_goto (tgt := 15) C dL_gradeOf_9 (by decide) ?_
    refine j_iconst C dL_gradeOf_15 ?_
    refine j_iretH C MH ?_ (Nat.le_of_ble_eq_true rfl) (Nat.le_of_ble_eq_true rfl) dL_gradeOf_16
    exact ⟨S9, hF, hJ, by rw [k2], Or.inl ⟨k2, rfl⟩⟩

theorem calH_gradeFrom : CalH yL_gradeFrom cL_gradeFrom 4 (some FieldType.int) [(0, 9, 12, 19)] 3 := ⟨by decide +kernel, ⟨by decide +kernel, by decide +kernel, by decide +kernel⟩, WALL_at 1085 (by decide +kernel) rfl, ini_La⟩
set_option maxHeartbeats 1000000 in
theorem w_gradeFrom (l : Launch) (hfl : l.stackTraces = false) {D : wD} {S : wS} {q9 a9 : Nat} {M : wM} (h : Jn D.2.2.1 S q9 M) (ha : sK S a9 = 10 ∧ sN S a9 = 1) {z : Int} (h_z : rg z) : CtH l D yL_gradeFrom cL_gradeFrom 4 (some FieldType.int) [(0, 9, 12, 19)] 21 100 6000 [.ref q9, .int (iN z), .ref a9] S (wrP D.2.2.1 S q9 10 a9 (x_gradeFrom M z) (.long (iN (v_gradeFrom M z)).toInt64) (n_gradeFrom M z)) := by
  refine CtH.of calH_gradeFrom hfl (Nat.le_of_ble_eq_true rfl) ?_
  intro p e s m args below meth c sz hs C MH
  refine j_aload_n C dL_gradeFrom_0 rfl ?_
  refine j_iconst C dL_gradeFrom_1 ?_
  refine j_aload_n C dL_gradeFrom_2 rfl ?_
  refine j_iload_n C dL_gradeFrom_3 rfl ?_
  refine j_callV C (s_gradeFrom l hfl h h_z) cal_X5_gradeFrom vi_X5_gradeFrom ml_La_90 h.k6 ⟨by decide, by decide, rfl⟩ rfl rfl (Nat.le_of_ble_eq_true rfl) ⟨by decide, by decide⟩ ⟨(Nat.le_of_ble_eq_true rfl), (Nat.le_of_ble_eq_true rfl)⟩ dL_gradeFrom_4 (fun E S9 h9 => ?_) (fun v9 S9 h9 => ?_)
  · obtain ⟨hF, hJ, ⟨-, h9⟩ | ⟨k9, e9, k1, k2, k3, k4⟩⟩ := h9
    · exact nomatch h9
    · cases k3
      subst k4
      rcases (show k9 = 0 ∨ 1 ≤ k9 by omega) with rfl | k9
      · cases k1
        refine j_catch C MH (name := xI) ((tableOf [(0, 9, 12, 19)]).take 0) (tableOf [(0, 9, 12, 19)])[0] ((tableOf [(0, 9, 12, 19)]).drop 1) rfl (fun z hz => ?_) (by decide) (by decide) cl_La_19 (by simp [wCas, xI, xA, xU, xS, xN]) (fun q8 => ?_)
        · exact nomatch hz
        refine j_astore_n C dL_gradeFrom_12 (by decide) ?_
        refine j_iconst C dL_gradeFrom_13 ?_
        refine j_iretH C MH ?_ (Nat.le_of_ble_eq_true rfl) (Nat.le_of_ble_eq_true rfl) dL_gradeFrom_14
        exact ⟨_, hF, hJ, by rw [k2]; rfl, Or.inr ⟨by omega, rfl⟩⟩
      · rw [List.getElem?_eq_none (by simpa using k9)] at k1
        exact nomatch k1
  · obtain ⟨hF, hJ, ⟨k2, h9⟩ | ⟨k9, e9, k1, k2, k3, k4⟩⟩ := h9
    rotate_left
    · exact nomatch k3
    cases h9
    have f9 := hF a9 (by rw [ha.1]; decide)
    refine j_i2lx C dL_gradeFrom_7 ?_
    refine j_last C (f9.1.trans ha.1) ⟨by decide, by rw [f9.2.1, ha.2]; decide, by decide⟩ dL_gradeFrom_8 ?_
    refine j_goto (tgt := 15) C dL_gradeFrom_9 (by decide) ?_
    refine j_iconst C dL_gradeFrom_15 ?_
    refine j_iretH C MH ?_ (Nat.le_of_ble_eq_true rfl) (Nat.le_of_ble_eq_true rfl) dL_gradeFrom_16
    exact ⟨S9, hF, hJ, by rw [k2], Or.inl ⟨k2, rfl⟩⟩

theorem calH_shotOf : CalH yL_shotOf cL_shotOf 5 (some FieldType.int) [(0, 10, 13, 19)] 4 := ⟨by decide +kernel, ⟨by decide +kernel, by decide +kernel, by decide +kernel⟩, WALL_at 885 (by decide +kernel) rfl, ini_La⟩
set_option maxHeartbeats 1000000 in
theorem w_shotOf (l : Launch) (hfl : l.stackTraces = false) {D : wD} {S : wS} {q9 a9 : Nat} {M : wM} (h : Jn D.2.2.1 S q9 M) (ha : sK S a9 = 10 ∧ sN S a9 = 1) {f z : Int} (h_f : rg f)  (h_z : rg z) : CtH l D yL_shotOf cL_shotOf 5 (some FieldType.int) [(0, 10, 13, 19)] 21 100 6000 [.ref q9, .int (iN f), .int (iN z), .ref a9] S (wrP D.2.2.1 S q9 10 a9 (x_shotOf M f z) (.long (iN (v_shotOf M f z)).toInt64) (n_shotOf M f z)) := by
  refine CtH.of calH_shotOf hfl (Nat.le_of_ble_eq_true rfl) ?_
  intro p e s m args below meth c sz hs C MH
  refine j_aload_n C dL_shotOf_0 rfl ?_
  refine j_iconst C dL_shotOf_1 ?_
  refine j_aload_n C dL_shotOf_2 rfl ?_
  refine j_iload_n C dL_shotOf_3 rfl ?_
  refine j_iload_n C dL_shotOf_4 rfl ?_
  refine j_callV C (s_shotOf l hfl h h_f h_z) cal_X5_shotOf vi_X5_shotOf ml_La_43 h.k6 ⟨by decide, by decide, rfl⟩ rfl rfl (Nat.le_of_ble_eq_true rfl) ⟨by decide, by decide⟩ ⟨(Nat.le_of_ble_eq_true rfl), (Nat.le_of_ble_eq_true rfl)⟩ dL_shotOf_5 (fun E S9 h9 => ?_) (fun v9 S9 h9 => ?_)
  · obtain ⟨hF, hJ, ⟨-, h9⟩ | ⟨k9, e9, k1, k2, k3, k4⟩⟩ := h9
    · exact nomatch h9
    · cases k3
      subst k4
      rcases (show k9 = 0 ∨ 1 ≤ k9 by omega) with rfl | k9
      · cases k1
        refine j_catch C MH (name := xI) ((tableOf [(0, 10, 13, 19)]).take 0) (tableOf [(0, 10, 13, 19)])[0] ((tableOf [(0, 10, 13, 19)]).drop 1) rfl (fun z hz => ?_) (by decide) (by decide) cl_La_19 (by simp [wCas, xI, xA, xU, xS, xN]) (fun q8 => ?_)
        · exact nomatch hz
        refine j_astore C dL_shotOf_13 (by decide) ?_
        refine j_iconst C dL_shotOf_15 ?_
        refine j_iretH C MH ?_ (Nat.le_of_ble_eq_true rfl) (Nat.le_of_ble_eq_true rfl) dL_shotOf_16
        exact ⟨_, hF, hJ, by rw [k2]; rfl, Or.inr ⟨by omega, rfl⟩⟩
      · rw [List.getElem?_eq_none (by simpa using k9)] at k1
        exact nomatch k1
  · obtain ⟨hF, hJ, ⟨k2, h9⟩ | ⟨k9, e9, k1, k2, k3, k4⟩⟩ := h9
    rotate_left
    · exact nomatch k3
    cases h9
    have f9 := hF a9 (by rw [ha.1]; decide)
    refine j_i2lx C dL_shotOf_8 ?_
    refine j_last C (f9.1.trans ha.1) ⟨by decide, by rw [f9.2.1, ha.2]; decide, by decide⟩ dL_shotOf_9 ?_
    refine j_goto (tgt := 17) C dL_shotOf_10 (by decide) ?_
    refine j_iconst C dL_shotOf_17 ?_
    refine j_iretH C MH ?_ (Nat.le_of_ble_eq_true rfl) (Nat.le_of_ble_eq_true rfl) dL_shotOf_18
    exact ⟨S9, hF, hJ, by rw [k2], Or.inl ⟨k2, rfl⟩⟩

theorem calH_frames : CalH yL_frames cL_frames 4 (some FieldType.int) [(0, 9, 12, 19)] 3 := ⟨by decide +kernel, ⟨by decide +kernel, by decide +kernel, by decide +kernel⟩, WALL_at 1143 (by decide +kernel) rfl, ini_La⟩
set_option maxHeartbeats 1000000 in
theorem w_frames (l : Launch) (hfl : l.stackTraces = false) {D : wD} {S : wS} {q9 a9 : Nat} {M : wM} (h : Jn D.2.2.1 S q9 M) (ha : sK S a9 = 10 ∧ sN S a9 = 1) {z : Int} (h_z : rg z) : CtH l D yL_frames cL_frames 4 (some FieldType.int) [(0, 9, 12, 19)] 21 100 6000 [.ref q9, .int (iN z), .ref a9] S (wrP D.2.2.1 S q9 10 a9 (x_frames M z) (.long (iN (v_frames M z)).toInt64) (n_frames M z)) := by
  refine CtH.of calH_frames hfl (Nat.le_of_ble_eq_true rfl) ?_
  intro p e s m args below meth c sz hs C MH
  refine j_aload_n C dL_frames_0 rfl ?_
  refine j_iconst C dL_frames_1 ?_
  refine j_aload_n C dL_frames_2 rfl ?_
  refine j_iload_n C dL_frames_3 rfl ?_
  refine j_callV C (s_frames l hfl h h_z) cal_X5_frames vi_X5_frames ml_La_100 h.k6 ⟨by decide, by decide, rfl⟩ rfl rfl (Nat.le_of_ble_eq_true rfl) ⟨by decide, by decide⟩ ⟨(Nat.le_of_ble_eq_true rfl), (Nat.le_of_ble_eq_true rfl)⟩ dL_frames_4 (fun E S9 h9 => ?_) (fun v9 S9 h9 => ?_)
  · obtain ⟨hF, hJ, ⟨-, h9⟩ | ⟨k9, e9, k1, k2, k3, k4⟩⟩ := h9
    · exact nomatch h9
    · cases k3
      subst k4
      rcases (show k9 = 0 ∨ 1 ≤ k9 by omega) with rfl | k9
      · cases k1
        refine j_catch C MH (name := xI) ((tableOf [(0, 9, 12, 19)]).take 0) (tableOf [(0, 9, 12, 19)])[0] ((tableOf [(0, 9, 12, 19)]).drop 1) rfl (fun z hz => ?_) (by decide) (by decide) cl_La_19 (by simp [wCas, xI, xA, xU, xS, xN]) (fun q8 => ?_)
        · exact nomatch hz
        refine j_astore_n C dL_frames_12 (by decide) ?_
        refine j_iconst C dL_frames_13 ?_
        refine j_iretH C MH ?_ (Nat.le_of_ble_eq_true rfl) (Nat.le_of_ble_eq_true rfl) dL_frames_14
        exact ⟨_, hF, hJ, by rw [k2]; rfl, Or.inr ⟨by omega, rfl⟩⟩
      · rw [List.getElem?_eq_none (by simpa using k9)] at k1
        exact nomatch k1
  · obtain ⟨hF, hJ, ⟨k2, h9⟩ | ⟨k9, e9, k1, k2, k3, k4⟩⟩ := h9
    rotate_left
    · exact nomatch k3
    cases h9
    have f9 := hF a9 (by rw [ha.1]; decide)
    refine j_i2lx C dL_frames_7 ?_
    refine j_last C (f9.1.trans ha.1) ⟨by decide, by rw [f9.2.1, ha.2]; decide, by decide⟩ dL_frames_8 ?_
    refine j_goto (tgt := 15) C dL_frames_9 (by decide) ?_
    refine j_iconst C dL_frames_15 ?_
    refine j_iretH C MH ?_ (Nat.le_of_ble_eq_true rfl) (Nat.le_of_ble_eq_true rfl) dL_frames_16
    exact ⟨S9, hF, hJ, by rw [k2], Or.inl ⟨k2, rfl⟩⟩

theorem calH_wear : CalH yL_wear cL_wear 5 (some FieldType.int) [(0, 10, 13, 19)] 4 := ⟨by decide +kernel, ⟨by decide +kernel, by decide +kernel, by decide +kernel⟩, WALL_at 983 (by decide +kernel) rfl, ini_La⟩
set_option maxHeartbeats 1000000 in
theorem w_wear (l : Launch) (hfl : l.stackTraces = false) {D : wD} {S : wS} {q9 a9 : Nat} {M : wM} (h : Jn D.2.2.1 S q9 M) (ha : sK S a9 = 10 ∧ sN S a9 = 1) {r z : Int} (h_r : rg r)  (h_z : rg z) : CtH l D yL_wear cL_wear 5 (some FieldType.int) [(0, 10, 13, 19)] 21 100 6000 [.ref q9, .int (iN r), .int (iN z), .ref a9] S (wrP D.2.2.1 S q9 10 a9 (x_wear M r z) (.long (iN (v_wear M r z)).toInt64) (n_wear M r z)) := by
  refine CtH.of calH_wear hfl (Nat.le_of_ble_eq_true rfl) ?_
  intro p e s m args below meth c sz hs C MH
  refine j_aload_n C dL_wear_0 rfl ?_
  refine j_iconst C dL_wear_1 ?_
  refine j_aload_n C dL_wear_2 rfl ?_
  refine j_iload_n C dL_wear_3 rfl ?_
  refine j_iload_n C dL_wear_4 rfl ?_
  refine j_callV C (s_wear l hfl h h_r h_z) cal_X5_wear vi_X5_wear ml_La_66 h.k6 ⟨by decide, by decide, rfl⟩ rfl rfl (Nat.le_of_ble_eq_true rfl) ⟨by decide, by decide⟩ ⟨(Nat.le_of_ble_eq_true rfl), (Nat.le_of_ble_eq_true rfl)⟩ dL_wear_5 (fun E S9 h9 => ?_) (fun v9 S9 h9 => ?_)
  · obtain ⟨hF, hJ, ⟨-, h9⟩ | ⟨k9, e9, k1, k2, k3, k4⟩⟩ := h9
    · exact nomatch h9
    · cases k3
      subst k4
      rcases (show k9 = 0 ∨ 1 ≤ k9 by omega) with rfl | k9
      · cases k1
        refine j_catch C MH (name := xI) ((tableOf [(0, 10, 13, 19)]).take 0) (tableOf [(0, 10, 13, 19)])[0] ((tableOf [(0, 10, 13, 19)]).drop 1) rfl (fun z hz => ?_) (by decide) (by decide) cl_La_19 (by simp [wCas, xI, xA, xU, xS, xN]) (fun q8 => ?_)
        · exact nomatch hz
        refine j_astore C dL_wear_13 (by decide) ?_
        refine j_iconst C dL_wear_15 ?_
        refine j_iretH C MH ?_ (Nat.le_of_ble_eq_true rfl) (Nat.le_of_ble_eq_true rfl) dL_wear_16
        exact ⟨_, hF, hJ, by rw [k2]; rfl, Or.inr ⟨by omega, rfl⟩⟩
      · rw [List.getElem?_eq_none (by simpa using k9)] at k1
        exact nomatch k1
  · obtain ⟨hF, hJ, ⟨k2, h9⟩ | ⟨k9, e9, k1, k2, k3, k4⟩⟩ := h9
    rotate_left
    · exact nomatch k3
    cases h9
    have f9 := hF a9 (by rw [ha.1]; decide)
    refine j_i2lx C dL_wear_8 ?_
    refine j_last C (f9.1.trans ha.1) ⟨by decide, by rw [f9.2.1, ha.2]; decide, by decide⟩ dL_wear_9 ?_
    refine j_goto (tgt := 17) C dL_wear_10 (by decide) ?_
    refine j_iconst C dL_wear_17 ?_
    refine j_iretH C MH ?_ (Nat.le_of_ble_eq_true rfl) (Nat.le_of_ble_eq_true rfl) dL_wear_18
    exact ⟨S9, hF, hJ, by rw [k2], Or.inl ⟨k2, rfl⟩⟩

theorem calH_setLimit : CalH yL_setLimit cL_setLimit 4 (some FieldType.int) [(0, 9, 12, 21), (0, 9, 15, 31)] 3 := ⟨by decide +kernel, ⟨by decide +kernel, by decide +kernel, by decide +kernel⟩, WALL_at 945 (by decide +kernel) rfl, ini_La⟩
set_option maxHeartbeats 1000000 in
theorem w_setLimit (l : Launch) (hfl : l.stackTraces = false) {D : wD} {S : wS} {q9 a9 : Nat} {M : wM} (h : Jn D.2.2.1 S q9 M) (ha : sK S a9 = 10 ∧ sN S a9 = 1) {a : Int} (h_a : rg a) : CtH l D yL_setLimit cL_setLimit 4 (some FieldType.int) [(0, 9, 12, 21), (0, 9, 15, 31)] 21 100 6000 [.ref q9, .int (iN a), .ref a9] S (wrP D.2.2.1 S q9 10 a9 (x_setLimit M a) (.long (iN (v_setLimit M a)).toInt64) (n_setLimit M a)) := by
  refine CtH.of calH_setLimit hfl (Nat.le_of_ble_eq_true rfl) ?_
  intro p e s m args below meth c sz hs C MH
  refine j_aload_n C dL_setLimit_0 rfl ?_
  refine j_iconst C dL_setLimit_1 ?_
  refine j_aload_n C dL_setLimit_2 rfl ?_
  refine j_iload_n C dL_setLimit_3 rfl ?_
  refine j_callV C (s_setLimit l hfl h h_a) cal_X5_setLimit vi_X5_setLimit ml_La_60 h.k6 ⟨by decide, by decide, rfl⟩ rfl rfl (Nat.le_of_ble_eq_true rfl) ⟨by decide, by decide⟩ ⟨(Nat.le_of_ble_eq_true rfl), (Nat.le_of_ble_eq_true rfl)⟩ dL_setLimit_4 (fun E S9 h9 => ?_) (fun v9 S9 h9 => ?_)
  · obtain ⟨hF, hJ, ⟨-, h9⟩ | ⟨k9, e9, k1, k2, k3, k4⟩⟩ := h9
    · exact nomatch h9
    · cases k3
      subst k4
      rcases (show k9 = 0 ∨ k9 = 1 ∨ 2 ≤ k9 by omega) with rfl | rfl | k9
      · cases k1
        refine j_catch C MH (name := xA) ((tableOf [(0, 9, 12, 21), (0, 9, 15, 31)]).take 0) (tableOf [(0, 9, 12, 21), (0, 9, 15, 31)])[0] ((tableOf [(0, 9, 12, 21), (0, 9, 15, 31)]).drop 1) rfl (fun z hz => ?_) (by decide) (by decide) cl_La_21 (by simp [wCas, xI, xA, xU, xS, xN]) (fun q8 => ?_)
        · exact nomatch hz
        refine j_astore_n C dL_setLimit_12 (by decide) ?_
        refine j_iconst C dL_setLimit_13 ?_
        refine j_iretH C MH ?_ (Nat.le_of_ble_eq_true rfl) (Nat.le_of_ble_eq_true rfl) dL_setLimit_14
        exact ⟨_, hF, hJ, by rw [k2]; rfl, Or.inr ⟨by omega, rfl⟩⟩
      · cases k1
        refine j_catch C MH (name := xU) ((tableOf [(0, 9, 12, 21), (0, 9, 15, 31)]).take 1) (tableOf [(0, 9, 12, 21), (0, 9, 15, 31)])[1] ((tableOf [(0, 9, 12, 21), (0, 9, 15, 31)]).drop 2) rfl (fun z hz => ?_) (by decide) (by decide) cl_La_31 (by simp [wCas, xI, xA, xU, xS, xN]) (fun q8 => ?_)
        · have hz : z = (tableOf [(0, 9, 12, 21), (0, 9, 15, 31)])[0] := by simpa [tableOf] using hz
          rcases hz with rfl
          · exact Or.inr ⟨by decide, xA, cl_La_21, hs.2 (xU, xA) (by simp [wNc])⟩
        refine j_astore_n C dL_setLimit_15 (by decide) ?_
        refine j_iconst C dL_setLimit_16 ?_
        refine j_iretH C MH ?_ (Nat.le_of_ble_eq_true rfl) (Nat.le_of_ble_eq_true rfl) dL_setLimit_17
        exact ⟨_, hF, hJ, by rw [k2]; rfl, Or.inr ⟨by omega, rfl⟩⟩
      · rw [List.getElem?_eq_none (by simpa using k9)] at k1
        exact nomatch k1
  · obtain ⟨hF, hJ, ⟨k2, h9⟩ | ⟨k9, e9, k1, k2, k3, k4⟩⟩ := h9
    rotate_left
    · exact nomatch k3
    cases h9
    have f9 := hF a9 (by rw [ha.1]; decide)
    refine j_i2lx C dL_setLimit_7 ?_
    refine j_last C (f9.1.trans ha.1) ⟨by decide, by rw [f9.2.1, ha.2]; decide, by decide⟩ dL_setLimit_8 ?_
    refine j_goto (tgt := 18) C dL_setLimit_9 (by decide) ?_
    refine j_iconst C dL_setLimit_18 ?_
    refine j_iretH C MH ?_ (Nat.le_of_ble_eq_true rfl) (Nat.le_of_ble_eq_true rfl) dL_setLimit_19
    exact ⟨S9, hF, hJ, by rw [k2], Or.inl ⟨k2, rfl⟩⟩

theorem calH_run : CalH yL_run cL_run 4 (some FieldType.int) [(0, 9, 12, 19), (0, 9, 15, 31)] 3 := ⟨by decide +kernel, ⟨by decide +kernel, by decide +kernel, by decide +kernel⟩, WALL_at 958 (by decide +kernel) rfl, ini_La⟩
set_option maxHeartbeats 1000000 in
theorem w_run (l : Launch) (hfl : l.stackTraces = false) {D : wD} {S : wS} {q9 a9 : Nat} {M : wM} (h : Jn D.2.2.1 S q9 M) (ha : sK S a9 = 10 ∧ sN S a9 = 1) {r : Int} (h_r : rg r) : CtH l D yL_run cL_run 4 (some FieldType.int) [(0, 9, 12, 19), (0, 9, 15, 31)] 21 100 6000 [.ref q9, .int (iN r), .ref a9] S (wrP D.2.2.1 S q9 10 a9 (x_run M r) (.long (iN (v_run M r)).toInt64) (n_run M r)) := by
  refine CtH.of calH_run hfl (Nat.le_of_ble_eq_true rfl) ?_
  intro p e s m args below meth c sz hs C MH
  refine j_aload_n C dL_run_0 rfl ?_
  refine j_iconst C dL_run_1 ?_
  refine j_aload_n C dL_run_2 rfl ?_
  refine j_iload_n C dL_run_3 rfl ?_
  refine j_callV C (s_run l hfl h h_r) cal_X5_run vi_X5_run ml_La_63 h.k6 ⟨by decide, by decide, rfl⟩ rfl rfl (Nat.le_of_ble_eq_true rfl) ⟨by decide, by decide⟩ ⟨(Nat.le_of_ble_eq_true rfl), (Nat.le_of_ble_eq_true rfl)⟩ dL_run_4 (fun E S9 h9 => ?_) (fun v9 S9 h9 => ?_)
  · obtain ⟨hF, hJ, ⟨-, h9⟩ | ⟨k9, e9, k1, k2, k3, k4⟩⟩ := h9
    · exact nomatch h9
    · cases k3
      subst k4
      rcases (show k9 = 0 ∨ k9 = 1 ∨ 2 ≤ k9 by omega) with rfl | rfl | k9
      · cases k1
        refine j_catch C MH (name := xI) ((tableOf [(0, 9, 12, 19), (0, 9, 15, 31)]).take 0) (tableOf [(0, 9, 12, 19), (0, 9, 15, 31)])[0] ((tableOf [(0, 9, 12, 19), (0, 9, 15, 31)]).drop 1) rfl (fun z hz => ?_) (by decide) (by decide) cl_La_19 (by simp [wCas, xI, xA, xU, xS, xN]) (fun q8 => ?_)
        · exact nomatch hz
        refine j_astore_n C dL_run_12 (by decide) ?_
        refine j_iconst C dL_run_13 ?_
        refine j_iretH C MH ?_ (Nat.le_of_ble_eq_true rfl) (Nat.le_of_ble_eq_true rfl) dL_run_14
        exact ⟨_, hF, hJ, by rw [k2]; rfl, Or.inr ⟨by omega, rfl⟩⟩
      · cases k1
        refine j_catch C MH (name := xU) ((tableOf [(0, 9, 12, 19), (0, 9, 15, 31)]).take 1) (tableOf [(0, 9, 12, 19), (0, 9, 15, 31)])[1] ((tableOf [(0, 9, 12, 19), (0, 9, 15, 31)]).drop 2) rfl (fun z hz => ?_) (by decide) (by decide) cl_La_31 (by simp [wCas, xI, xA, xU, xS, xN]) (fun q8 => ?_)
        · have hz : z = (tableOf [(0, 9, 12, 19), (0, 9, 15, 31)])[0] := by simpa [tableOf] using hz
          rcases hz with rfl
          · exact Or.inr ⟨by decide, xI, cl_La_19, hs.2 (xU, xI) (by simp [wNc])⟩
        refine j_astore_n C dL_run_15 (by decide) ?_
        refine j_iconst C dL_run_16 ?_
        refine j_iretH C MH ?_ (Nat.le_of_ble_eq_true rfl) (Nat.le_of_ble_eq_true rfl) dL_run_17
        exact ⟨_, hF, hJ, by rw [k2]; rfl, Or.inr ⟨by omega, rfl⟩⟩
      · rw [List.getElem?_eq_none (by simpa using k9)] at k1
        exact nomatch k1
  · obtain ⟨hF, hJ, ⟨k2, h9⟩ | ⟨k9, e9, k1, k2, k3, k4⟩⟩ := h9
    rotate_left
    · exact nomatch k3
    cases h9
    have f9 := hF a9 (by rw [ha.1]; decide)
    refine j_i2lx C dL_run_7 ?_
    refine j_last C (f9.1.trans ha.1) ⟨by decide, by rw [f9.2.1, ha.2]; decide, by decide⟩ dL_run_8 ?_
    refine j_goto (tgt := 18) C dL_run_9 (by decide) ?_
    refine j_iconst C dL_run_18 ?_
    refine j_iretH C MH ?_ (Nat.le_of_ble_eq_true rfl) (Nat.le_of_ble_eq_true rfl) dL_run_19
    exact ⟨S9, hF, hJ, by rw [k2], Or.inl ⟨k2, rfl⟩⟩

theorem calH_giveBack : CalH yL_giveBack cL_giveBack 4 (some FieldType.int) [(0, 9, 12, 19), (0, 9, 15, 31)] 3 := ⟨by decide +kernel, ⟨by decide +kernel, by decide +kernel, by decide +kernel⟩, WALL_at 1201 (by decide +kernel) rfl, ini_La⟩
set_option maxHeartbeats 1000000 in
theorem w_giveBack (l : Launch) (hfl : l.stackTraces = false) {D : wD} {S : wS} {q9 a9 : Nat} {M : wM} (h : Jn D.2.2.1 S q9 M) (ha : sK S a9 = 10 ∧ sN S a9 = 1) {z : Int} (h_z : rg z) : CtH l D yL_giveBack cL_giveBack 4 (some FieldType.int) [(0, 9, 12, 19), (0, 9, 15, 31)] 21 100 6000 [.ref q9, .int (iN z), .ref a9] S (wrP D.2.2.1 S q9 10 a9 (x_giveBack M z) (.long (iN (v_giveBack M z)).toInt64) (n_giveBack M z)) := by
  refine CtH.of calH_giveBack hfl (Nat.le_of_ble_eq_true rfl) ?_
  intro p e s m args below meth c sz hs C MH
  refine j_aload_n C dL_giveBack_0 rfl ?_
  refine j_iconst C dL_giveBack_1 ?_
  refine j_aload_n C dL_giveBack_2 rfl ?_
  refine j_iload_n C dL_giveBack_3 rfl ?_
  refine j_callV C (s_giveBack l hfl h h_z) cal_X5_giveBack vi_X5_giveBack ml_La_109 h.k6 ⟨by decide, by decide, rfl⟩ rfl rfl (Nat.le_of_ble_eq_true rfl) ⟨by decide, by decide⟩ ⟨(Nat.le_of_ble_eq_true rfl), (Nat.le_of_ble_eq_true rfl)⟩ dL_giveBack_4 (fun E S9 h9 => ?_) (fun v9 S9 h9 => ?_)
  · obtain ⟨hF, hJ, ⟨-, h9⟩ | ⟨k9, e9, k1, k2, k3, k4⟩⟩ := h9
    · exact nomatch h9
    · cases k3
      subst k4
      rcases (show k9 = 0 ∨ k9 = 1 ∨ 2 ≤ k9 by omega) with rfl | rfl | k9
      · cases k1
        refine j_catch C MH (name := xI) ((tableOf [(0, 9, 12, 19), (0, 9, 15, 31)]).take 0) (tableOf [(0, 9, 12, 19), (0, 9, 15, 31)])[0] ((tableOf [(0, 9, 12, 19), (0, 9, 15, 31)]).drop 1) rfl (fun z hz => ?_) (by decide) (by decide) cl_La_19 (by simp [wCas, xI, xA, xU, xS, xN]) (fun q8 => ?_)
        · exact nomatch hz
        refine j_astore_n C dL_giveBack_12 (by decide) ?_
        refine j_iconst C dL_giveBack_13 ?_
        refine j_iretH C MH ?_ (Nat.le_of_ble_eq_true rfl) (Nat.le_of_ble_eq_true rfl) dL_giveBack_14
        exact ⟨_, hF, hJ, by rw [k2]; rfl, Or.inr ⟨by omega, rfl⟩⟩
      · cases k1
        refine j_catch C MH (name := xU) ((tableOf [(0, 9, 12, 19), (0, 9, 15, 31)]).take 1) (tableOf [(0, 9, 12, 19), (0, 9, 15, 31)])[1] ((tableOf [(0, 9, 12, 19), (0, 9, 15, 31)]).drop 2) rfl (fun z hz => ?_) (by decide) (by decide) cl_La_31 (by simp [wCas, xI, xA, xU, xS, xN]) (fun q8 => ?_)
        · have hz : z = (tableOf [(0, 9, 12, 19), (0, 9, 15, 31)])[0] := by simpa [tableOf] using hz
          rcases hz with rfl
          · exact Or.inr ⟨by decide, xI, cl_La_19, hs.2 (xU, xI) (by simp [wNc])⟩
        refine j_astore_n C dL_giveBack_15 (by decide) ?_
        refine j_iconst C dL_giveBack_16 ?_
        refine j_iretH C MH ?_ (Nat.le_of_ble_eq_true rfl) (Nat.le_of_ble_eq_true rfl) dL_giveBack_17
        exact ⟨_, hF, hJ, by rw [k2]; rfl, Or.inr ⟨by omega, rfl⟩⟩
      · rw [List.getElem?_eq_none (by simpa using k9)] at k1
        exact nomatch k1
  · obtain ⟨hF, hJ, ⟨k2, h9⟩ | ⟨k9, e9, k1, k2, k3, k4⟩⟩ := h9
    rotate_left
    · exact nomatch k3
    cases h9
    have f9 := hF a9 (by rw [ha.1]; decide)
    refine j_i2lx C dL_giveBack_7 ?_
    refine j_last C (f9.1.trans ha.1) ⟨by decide, by rw [f9.2.1, ha.2]; decide, by decide⟩ dL_giveBack_8 ?_
    refine j_goto (tgt := 18) C dL_giveBack_9 (by decide) ?_
    refine j_iconst C dL_giveBack_18 ?_
    refine j_iretH C MH ?_ (Nat.le_of_ble_eq_true rfl) (Nat.le_of_ble_eq_true rfl) dL_giveBack_19
    exact ⟨S9, hF, hJ, by rw [k2], Or.inl ⟨k2, rfl⟩⟩

theorem calH_advance : CalH yL_advance cL_advance 4 (some FieldType.int) [(0, 9, 12, 21)] 3 := ⟨by decide +kernel, ⟨by decide +kernel, by decide +kernel, by decide +kernel⟩, WALL_at 1209 (by decide +kernel) rfl, ini_La⟩
set_option maxHeartbeats 1000000 in
theorem w_advance (l : Launch) (hfl : l.stackTraces = false) {D : wD} {S : wS} {q9 a9 : Nat} {M : wM} (h : Jn D.2.2.1 S q9 M) (ha : sK S a9 = 10 ∧ sN S a9 = 1) {a : Int} (h_a : rg a) (hd : M 29 0 + 99 ≤ 50688) : CtH l D yL_advance cL_advance 4 (some FieldType.int) [(0, 9, 12, 21)] 21 100 6000 [.ref q9, .int (iN a), .ref a9] S (wrP D.2.2.1 S q9 10 a9 (x_advance M a) (.long (iN (v_advance M a)).toInt64) (n_advance M a)) := by
  refine CtH.of calH_advance hfl (Nat.le_of_ble_eq_true rfl) ?_
  intro p e s m args below meth c sz hs C MH
  refine j_aload_n C dL_advance_0 rfl ?_
  refine j_iconst C dL_advance_1 ?_
  refine j_aload_n C dL_advance_2 rfl ?_
  refine j_iload_n C dL_advance_3 rfl ?_
  refine j_callV C (s_advance l hfl h h_a hd) cal_X5_advance vi_X5_advance ml_La_112 h.k6 ⟨by decide, by decide, rfl⟩ rfl rfl (Nat.le_of_ble_eq_true rfl) ⟨by decide, by decide⟩ ⟨(Nat.le_of_ble_eq_true rfl), (Nat.le_of_ble_eq_true rfl)⟩ dL_advance_4 (fun E S9 h9 => ?_) (fun v9 S9 h9 => ?_)
  · obtain ⟨hF, hJ, ⟨-, h9⟩ | ⟨k9, e9, k1, k2, k3, k4⟩⟩ := h9
    · exact nomatch h9
    · cases k3
      subst k4
      rcases (show k9 = 0 ∨ 1 ≤ k9 by omega) with rfl | k9
      · cases k1
        refine j_catch C MH (name := xA) ((tableOf [(0, 9, 12, 21)]).take 0) (tableOf [(0, 9, 12, 21)])[0] ((tableOf [(0, 9, 12, 21)]).drop 1) rfl (fun z hz => ?_) (by decide) (by decide) cl_La_21 (by simp [wCas, xI, xA, xU, xS, xN]) (fun q8 => ?_)
        · exact nomatch hz
        refine j_astore_n C dL_advance_12 (by decide) ?_
        refine j_iconst C dL_advance_13 ?_
        refine j_iretH C MH ?_ (Nat.le_of_ble_eq_true rfl) (Nat.le_of_ble_eq_true rfl) dL_advance_14
        exact ⟨_, hF, hJ, by rw [k2]; rfl, Or.inr ⟨by omega, rfl⟩⟩
      · rw [List.getElem?_eq_none (by simpa using k9)] at k1
        exact nomatch k1
  · obtain ⟨hF, hJ, ⟨k2, h9⟩ | ⟨k9, e9, k1, k2, k3, k4⟩⟩ := h9
    rotate_left
    · exact nomatch k3
    cases h9
    have f9 := hF a9 (by rw [ha.1]; decide)
    refine j_i2lx C dL_advance_7 ?_
    refine j_last C (f9.1.trans ha.1) ⟨by decide, by rw [f9.2.1, ha.2]; decide, by decide⟩ dL_advance_8 ?_
    refine j_goto (tgt := 15) C dL_advance_9 (by decide) ?_
    refine j_iconst C dL_advance_15 ?_
    refine j_iretH C MH ?_ (Nat.le_of_ble_eq_true rfl) (Nat.le_of_ble_eq_true rfl) dL_advance_16
    exact ⟨S9, hF, hJ, by rw [k2], Or.inl ⟨k2, rfl⟩⟩

theorem calH_addShot : CalH yL_addShot cL_addShot 6 (some FieldType.int) [(0, 12, 15, 19), (0, 12, 19, 21), (0, 12, 23, 13)] 5 := ⟨by decide +kernel, ⟨by decide +kernel, by decide +kernel, by decide +kernel⟩, WALL_at 392 (by decide +kernel) rfl, ini_La⟩
set_option maxHeartbeats 1000000 in
theorem w_addShot (l : Launch) (hfl : l.stackTraces = false) {D : wD} {S : wS} {q9 a9 : Nat} {M : wM} (h : Jn D.2.2.1 S q9 M) (ha : sK S a9 = 10 ∧ sN S a9 = 1) {f a b : Int} (h_f : rg f)  (h_a : rg a)  (h_b : rg b) : CtH l D yL_addShot cL_addShot 6 (some FieldType.int) [(0, 12, 15, 19), (0, 12, 19, 21), (0, 12, 23, 13)] 21 100 6000 [.ref q9, .int (iN f), .int (iN a), .int (iN b), .ref a9] S (wrP D.2.2.1 S q9 10 a9 (x_addShot M f a b) (.long (iN (v_addShot M f a b)).toInt64) (n_addShot M f a b)) := by
  refine CtH.of calH_addShot hfl (Nat.le_of_ble_eq_true rfl) ?_
  intro p e s m args below meth c sz hs C MH
  refine j_aload C dL_addShot_0 rfl ?_
  refine j_iconst C dL_addShot_2 ?_
  refine j_aload_n C dL_addShot_3 rfl ?_
  refine j_iload_n C dL_addShot_4 rfl ?_
  refine j_iload_n C dL_addShot_5 rfl ?_
  refine j_iload_n C dL_addShot_6 rfl ?_
  refine j_callVD C (s_addShot l hfl h h_f h_a h_b) cal_X5_addShot vi_X5_addShot ml_La_15 h.k6 ⟨by decide, by decide, rfl⟩ rfl rfl (Nat.le_of_ble_eq_true rfl) ⟨by decide, by decide⟩ ⟨(Nat.le_of_ble_eq_true rfl), (Nat.le_of_ble_eq_true rfl)⟩ dL_addShot_7 (fun E S9 h9 => ?_) (fun v9 S9 h9 => ?_)
  · obtain ⟨hF, hJ, ⟨-, h9⟩ | ⟨k9, e9, k1, k2, k3, k4⟩⟩ := h9
    · exact nomatch h9
    · cases k3
      subst k4
      rcases (show k9 = 0 ∨ k9 = 1 ∨ k9 = 2 ∨ 3 ≤ k9 by omega) with rfl | rfl | rfl | k9
      · cases k1
        refine j_catch C MH (name := xI) ((tableOf [(0, 12, 15, 19), (0, 12, 19, 21), (0, 12, 23, 13)]).take 0) (tableOf [(0, 12, 15, 19), (0, 12, 19, 21), (0, 12, 23, 13)])[0] ((tableOf [(0, 12, 15, 19), (0, 12, 19, 21), (0, 12, 23, 13)]).drop 1) rfl (fun z hz => ?_) (by decide) (by decide) cl_La_19 (by simp [wCas, xI, xA, xU, xS, xN]) (fun q8 => ?_)
        · exact nomatch hz
        refine j_astore C dL_addShot_15 (by decide) ?_
        refine j_iconst C dL_addShot_17 ?_
        refine j_iretH C MH ?_ (Nat.le_of_ble_eq_true rfl) (Nat.le_of_ble_eq_true rfl) dL_addShot_18
        exact ⟨_, hF, hJ, by rw [k2]; rfl, Or.inr ⟨by omega, rfl⟩⟩
      · cases k1
        refine j_catch C MH (name := xA) ((tableOf [(0, 12, 15, 19), (0, 12, 19, 21), (0, 12, 23, 13)]).take 1) (tableOf [(0, 12, 15, 19), (0, 12, 19, 21), (0, 12, 23, 13)])[1] ((tableOf [(0, 12, 15, 19), (0, 12, 19, 21), (0, 12, 23, 13)]).drop 2) rfl (fun z hz => ?_) (by decide) (by decide) cl_La_21 (by simp [wCas, xI, xA, xU, xS, xN]) (fun q8 => ?_)
        · have hz : z = (tableOf [(0, 12, 15, 19), (0, 12, 19, 21), (0, 12, 23, 13)])[0] := by simpa [tableOf] using hz
          rcases hz with rfl
          · exact Or.inr ⟨by decide, xI, cl_La_19, hs.2 (xA, xI) (by simp [wNc])⟩
        refine j_astore C dL_addShot_19 (by decide) ?_
        refine j_iconst C dL_addShot_21 ?_
        refine j_iretH C MH ?_ (Nat.le_of_ble_eq_true rfl) (Nat.le_of_ble_eq_true rfl) dL_addShot_22
        exact ⟨_, hF, hJ, by rw [k2]; rfl, Or.inr ⟨by omega, rfl⟩⟩
      · cases k1
        refine j_catch C MH (name := xS) ((tableOf [(0, 12, 15, 19), (0, 12, 19, 21), (0, 12, 23, 13)]).take 2) (tableOf [(0, 12, 15, 19), (0, 12, 19, 21), (0, 12, 23, 13)])[2] ((tableOf [(0, 12, 15, 19), (0, 12, 19, 21), (0, 12, 23, 13)]).drop 3) rfl (fun z hz => ?_) (by decide) (by decide) cl_La_13 (by simp [wCas, xI, xA, xU, xS, xN]) (fun q8 => ?_)
        · have hz : z = (tableOf [(0, 12, 15, 19), (0, 12, 19, 21), (0, 12, 23, 13)])[0] ∨ z = (tableOf [(0, 12, 15, 19), (0, 12, 19, 21), (0, 12, 23, 13)])[1] := by simpa [tableOf] using hz
          rcases hz with rfl | rfl
          · exact Or.inr ⟨by decide, xI, cl_La_19, hs.2 (xS, xI) (by simp [wNc])⟩
          · exact Or.inr ⟨by decide, xA, cl_La_21, hs.2 (xS, xA) (by simp [wNc])⟩
        refine j_astore C dL_addShot_23 (by decide) ?_
        refine j_iconst C dL_addShot_25 ?_
        refine j_iretH C MH ?_ (Nat.le_of_ble_eq_true rfl) (Nat.le_of_ble_eq_true rfl) dL_addShot_26
        exact ⟨_, hF, hJ, by rw [k2]; rfl, Or.inr ⟨by omega, rfl⟩⟩
      · rw [List.getElem?_eq_none (by simpa using k9)] at k1
        exact nomatch k1
  · obtain ⟨hF, hJ, ⟨k2, h9⟩ | ⟨k9, e9, k1, k2, k3, k4⟩⟩ := h9
    rotate_left
    · exact nomatch k3
    cases h9
    have f9 := hF a9 (by rw [ha.1]; decide)
    refine j_i2lx C dL_addShot_10 ?_
    refine j_last C (f9.1.trans ha.1) ⟨by decide, by rw [f9.2.1, ha.2]; decide, by decide⟩ dL_addShot_11 ?_
    refine j_goto (tgt := 27) C dL_addShot_12 (by decide) ?_
    refine j_iconst C dL_addShot_27 ?_
    refine j_iretH C MH ?_ (Nat.le_of_ble_eq_true rfl) (Nat.le_of_ble_eq_true rfl) dL_addShot_28
    exact ⟨S9, hF, hJ, by rw [k2], Or.inl ⟨k2, rfl⟩⟩

theorem calH_addReel : CalH yL_addReel cL_addReel 4 (some FieldType.int) [(0, 9, 12, 19), (0, 9, 15, 13)] 3 := ⟨by decide +kernel, ⟨by decide +kernel, by decide +kernel, by decide +kernel⟩, WALL_at 516 (by decide +kernel) rfl, ini_La⟩
set_option maxHeartbeats 1000000 in
theorem w_addReel (l : Launch) (hfl : l.stackTraces = false) {D : wD} {S : wS} {q9 a9 : Nat} {M : wM} (h : Jn D.2.2.1 S q9 M) (ha : sK S a9 = 10 ∧ sN S a9 = 1) {f : Int} (h_f : rg f) : CtH l D yL_addReel cL_addReel 4 (some FieldType.int) [(0, 9, 12, 19), (0, 9, 15, 13)] 21 100 6000 [.ref q9, .int (iN f), .ref a9] S (wrP D.2.2.1 S q9 10 a9 (x_addReel M f) (.long (iN (v_addReel M f)).toInt64) (n_addReel M f)) := by
  refine CtH.of calH_addReel hfl (Nat.le_of_ble_eq_true rfl) ?_
  intro p e s m args below meth c sz hs C MH
  refine j_aload_n C dL_addReel_0 rfl ?_
  refine j_iconst C dL_addReel_1 ?_
  refine j_aload_n C dL_addReel_2 rfl ?_
  refine j_iload_n C dL_addReel_3 rfl ?_
  refine j_callVD C (s_addReel l hfl h h_f) cal_X5_addReel vi_X5_addReel ml_La_23 h.k6 ⟨by decide, by decide, rfl⟩ rfl rfl (Nat.le_of_ble_eq_true rfl) ⟨by decide, by decide⟩ ⟨(Nat.le_of_ble_eq_true rfl), (Nat.le_of_ble_eq_true rfl)⟩ dL_addReel_4 (fun E S9 h9 => ?_) (fun v9 S9 h9 => ?_)
  · obtain ⟨hF, hJ, ⟨-, h9⟩ | ⟨k9, e9, k1, k2, k3, k4⟩⟩ := h9
    · exact nomatch h9
    · cases k3
      subst k4
      rcases (show k9 = 0 ∨ k9 = 1 ∨ 2 ≤ k9 by omega) with rfl | rfl | k9
      · cases k1
        refine j_catch C MH (name := xI) ((tableOf [(0, 9, 12, 19), (0, 9, 15, 13)]).take 0) (tableOf [(0, 9, 12, 19), (0, 9, 15, 13)])[0] ((tableOf [(0, 9, 12, 19), (0, 9, 15, 13)]).drop 1) rfl (fun z hz => ?_) (by decide) (by decide) cl_La_19 (by simp [wCas, xI, xA, xU, xS, xN]) (fun q8 => ?_)
        · exact nomatch hz
        refine j_astore_n C dL_addReel_12 (by decide) ?_
        refine j_iconst C dL_addReel_13 ?_
        refine j_iretH C MH ?_ (Nat.le_of_ble_eq_true rfl) (Nat.le_of_ble_eq_true rfl) dL_addReel_14
        exact ⟨_, hF, hJ, by rw [k2]; rfl, Or.inr ⟨by omega, rfl⟩⟩
      · cases k1
        refine j_catch C MH (name := xS) ((tableOf [(0, 9, 12, 19), (0, 9, 15, 13)]).take 1) (tableOf [(0, 9, 12, 19), (0, 9, 15, 13)])[1] ((tableOf [(0, 9, 12, 19), (0, 9, 15, 13)]).drop 2) rfl (fun z hz => ?_) (by decide) (by decide) cl_La_13 (by simp [wCas, xI, xA, xU, xS, xN]) (fun q8 => ?_)
        · have hz : z = (tableOf [(0, 9, 12, 19), (0, 9, 15, 13)])[0] := by simpa [tableOf] using hz
          rcases hz with rfl
          · exact Or.inr ⟨by decide, xI, cl_La_19, hs.2 (xS, xI) (by simp [wNc])⟩
        refine j_astore_n C dL_addReel_15 (by decide) ?_
        refine j_iconst C dL_addReel_16 ?_
        refine j_iretH C MH ?_ (Nat.le_of_ble_eq_true rfl) (Nat.le_of_ble_eq_true rfl) dL_addReel_17
        exact ⟨_, hF, hJ, by rw [k2]; rfl, Or.inr ⟨by omega, rfl⟩⟩
      · rw [List.getElem?_eq_none (by simpa using k9)] at k1
        exact nomatch k1
  · obtain ⟨hF, hJ, ⟨k2, h9⟩ | ⟨k9, e9, k1, k2, k3, k4⟩⟩ := h9
    rotate_left
    · exact nomatch k3
    cases h9
    have f9 := hF a9 (by rw [ha.1]; decide)
    refine j_i2lx C dL_addReel_7 ?_
    refine j_last C (f9.1.trans ha.1) ⟨by decide, by rw [f9.2.1, ha.2]; decide, by decide⟩ dL_addReel_8 ?_
    refine j_goto (tgt := 18) C dL_addReel_9 (by decide) ?_
    refine j_iconst C dL_addReel_18 ?_
    refine j_iretH C MH ?_ (Nat.le_of_ble_eq_true rfl) (Nat.le_of_ble_eq_true rfl) dL_addReel_19
    exact ⟨S9, hF, hJ, by rw [k2], Or.inl ⟨k2, rfl⟩⟩

theorem calH_put : CalH yL_put cL_put 5 (some FieldType.int) [(0, 10, 13, 19), (0, 10, 17, 21), (0, 10, 21, 31)] 4 := ⟨by decide +kernel, ⟨by decide +kernel, by decide +kernel, by decide +kernel⟩, WALL_at 548 (by decide +kernel) rfl, ini_La⟩
set_option maxHeartbeats 1000000 in
theorem w_put (l : Launch) (hfl : l.stackTraces = false) {D : wD} {S : wS} {q9 a9 : Nat} {M : wM} (h : Jn D.2.2.1 S q9 M) (ha : sK S a9 = 10 ∧ sN S a9 = 1) {r z : Int} (h_r : rg r)  (h_z : rg z) : CtH l D yL_put cL_put 5 (some FieldType.int) [(0, 10, 13, 19), (0, 10, 17, 21), (0, 10, 21, 31)] 21 100 6000 [.ref q9, .int (iN r), .int (iN z), .ref a9] S (wrP D.2.2.1 S q9 10 a9 (x_put M r z) (.long (iN (v_put M r z)).toInt64) (n_put M r z)) := by
  refine CtH.of calH_put hfl (Nat.le_of_ble_eq_true rfl) ?_
  intro p e s m args below meth c sz hs C MH
  refine j_aload_n C dL_put_0 rfl ?_
  refine j_iconst C dL_put_1 ?_
  refine j_aload_n C dL_put_2 rfl ?_
  refine j_iload_n C dL_put_3 rfl ?_
  refine j_iload_n C dL_put_4 rfl ?_
  refine j_callVD C (s_put l hfl h h_r h_z) cal_X5_put vi_X5_put ml_La_27 h.k6 ⟨by decide, by decide, rfl⟩ rfl rfl (Nat.le_of_ble_eq_true rfl) ⟨by decide, by decide⟩ ⟨(Nat.le_of_ble_eq_true rfl), (Nat.le_of_ble_eq_true rfl)⟩ dL_put_5 (fun E S9 h9 => ?_) (fun v9 S9 h9 => ?_)
  · obtain ⟨hF, hJ, ⟨-, h9⟩ | ⟨k9, e9, k1, k2, k3, k4⟩⟩ := h9
    · exact nomatch h9
    · cases k3
      subst k4
      rcases (show k9 = 0 ∨ k9 = 1 ∨ k9 = 2 ∨ 3 ≤ k9 by omega) with rfl | rfl | rfl | k9
      · cases k1
        refine j_catch C MH (name := xI) ((tableOf [(0, 10, 13, 19), (0, 10, 17, 21), (0, 10, 21, 31)]).take 0) (tableOf [(0, 10, 13, 19), (0, 10, 17, 21), (0, 10, 21, 31)])[0] ((tableOf [(0, 10, 13, 19), (0, 10, 17, 21), (0, 10, 21, 31)]).drop 1) rfl (fun z hz => ?_) (by decide) (by decide) cl_La_19 (by simp [wCas, xI, xA, xU, xS, xN]) (fun q8 => ?_)
        · exact nomatch hz
        refine j_astore C dL_put_13 (by decide) ?_
        refine j_iconst C dL_put_15 ?_
        refine j_iretH C MH ?_ (Nat.le_of_ble_eq_true rfl) (Nat.le_of_ble_eq_true rfl) dL_put_16
        exact ⟨_, hF, hJ, by rw [k2]; rfl, Or.inr ⟨by omega, rfl⟩⟩
      · cases k1
        refine j_catch C MH (name := xA) ((tableOf [(0, 10, 13, 19), (0, 10, 17, 21), (0, 10, 21, 31)]).take 1) (tableOf [(0, 10, 13, 19), (0, 10, 17, 21), (0, 10, 21, 31)])[1] ((tableOf [(0, 10, 13, 19), (0, 10, 17, 21), (0, 10, 21, 31)]).drop 2) rfl (fun z hz => ?_) (by decide) (by decide) cl_La_21 (by simp [wCas, xI, xA, xU, xS, xN]) (fun q8 => ?_)
        · have hz : z = (tableOf [(0, 10, 13, 19), (0, 10, 17, 21), (0, 10, 21, 31)])[0] := by simpa [tableOf] using hz
          rcases hz with rfl
          · exact Or.inr ⟨by decide, xI, cl_La_19, hs.2 (xA, xI) (by simp [wNc])⟩
        refine j_astore C dL_put_17 (by decide) ?_
        refine j_iconst C dL_put_19 ?_
        refine j_iretH C MH ?_ (Nat.le_of_ble_eq_true rfl) (Nat.le_of_ble_eq_true rfl) dL_put_20
        exact ⟨_, hF, hJ, by rw [k2]; rfl, Or.inr ⟨by omega, rfl⟩⟩
      · cases k1
        refine j_catch C MH (name := xU) ((tableOf [(0, 10, 13, 19), (0, 10, 17, 21), (0, 10, 21, 31)]).take 2) (tableOf [(0, 10, 13, 19), (0, 10, 17, 21), (0, 10, 21, 31)])[2] ((tableOf [(0, 10, 13, 19), (0, 10, 17, 21), (0, 10, 21, 31)]).drop 3) rfl (fun z hz => ?_) (by decide) (by decide) cl_La_31 (by simp [wCas, xI, xA, xU, xS, xN]) (fun q8 => ?_)
        · have hz : z = (tableOf [(0, 10, 13, 19), (0, 10, 17, 21), (0, 10, 21, 31)])[0] ∨ z = (tableOf [(0, 10, 13, 19), (0, 10, 17, 21), (0, 10, 21, 31)])[1] := by simpa [tableOf] using hz
          rcases hz with rfl | rfl
          · exact Or.inr ⟨by decide, xI, cl_La_19, hs.2 (xU, xI) (by simp [wNc])⟩
          · exact Or.inr ⟨by decide, xA, cl_La_21, hs.2 (xU, xA) (by simp [wNc])⟩
        refine j_astore C dL_put_21 (by decide) ?_
        refine j_iconst C dL_put_23 ?_
        refine j_iretH C MH ?_ (Nat.le_of_ble_eq_true rfl) (Nat.le_of_ble_eq_true rfl) dL_put_24
        exact ⟨_, hF, hJ, by rw [k2]; rfl, Or.inr ⟨by omega, rfl⟩⟩
      · rw [List.getElem?_eq_none (by simpa using k9)] at k1
        exact nomatch k1
  · obtain ⟨hF, hJ, ⟨k2, h9⟩ | ⟨k9, e9, k1, k2, k3, k4⟩⟩ := h9
    rotate_left
    · exact nomatch k3
    cases h9
    have f9 := hF a9 (by rw [ha.1]; decide)
    refine j_i2lx C dL_put_8 ?_
    refine j_last C (f9.1.trans ha.1) ⟨by decide, by rw [f9.2.1, ha.2]; decide, by decide⟩ dL_put_9 ?_
    refine j_goto (tgt := 25) C dL_put_10 (by decide) ?_
    refine j_iconst C dL_put_25 ?_
    refine j_iretH C MH ?_ (Nat.le_of_ble_eq_true rfl) (Nat.le_of_ble_eq_true rfl) dL_put_26
    exact ⟨S9, hF, hJ, by rw [k2], Or.inl ⟨k2, rfl⟩⟩

theorem calH_grade : CalH yL_grade cL_grade 5 (some FieldType.int) [(0, 10, 13, 19), (0, 10, 17, 21), (0, 10, 21, 31)] 4 := ⟨by decide +kernel, ⟨by decide +kernel, by decide +kernel, by decide +kernel⟩, WALL_at 1057 (by decide +kernel) rfl, ini_La⟩
set_option maxHeartbeats 1000000 in
theorem w_grade (l : Launch) (hfl : l.stackTraces = false) {D : wD} {S : wS} {q9 a9 : Nat} {M : wM} (h : Jn D.2.2.1 S q9 M) (ha : sK S a9 = 10 ∧ sN S a9 = 1) {z g : Int} (h_z : rg z)  (h_g : rg g) : CtH l D yL_grade cL_grade 5 (some FieldType.int) [(0, 10, 13, 19), (0, 10, 17, 21), (0, 10, 21, 31)] 21 100 6000 [.ref q9, .int (iN z), .int (iN g), .ref a9] S (wrP D.2.2.1 S q9 10 a9 (x_grade M z g) (.long (iN (v_grade M z g)).toInt64) (n_grade M z g)) := by
  refine CtH.of calH_grade hfl (Nat.le_of_ble_eq_true rfl) ?_
  intro p e s m args below meth c sz hs C MH
  refine j_aload_n C dL_grade_0 rfl ?_
  refine j_iconst C dL_grade_1 ?_
  refine j_aload_n C dL_grade_2 rfl ?_
  refine j_iload_n C dL_grade_3 rfl ?_
  refine j_iload_n C dL_grade_4 rfl ?_
  refine j_callV C (s_grade l hfl h h_z h_g) cal_X5_grade vi_X5_grade ml_La_81 h.k6 ⟨by decide, by decide, rfl⟩ rfl rfl (Nat.le_of_ble_eq_true rfl) ⟨by decide, by decide⟩ ⟨(Nat.le_of_ble_eq_true rfl), (Nat.le_of_ble_eq_true rfl)⟩ dL_grade_5 (fun E S9 h9 => ?_) (fun v9 S9 h9 => ?_)
  · obtain ⟨hF, hJ, ⟨-, h9⟩ | ⟨k9, e9, k1, k2, k3, k4⟩⟩ := h9
    · exact nomatch h9
    · cases k3
      subst k4
      rcases (show k9 = 0 ∨ k9 = 1 ∨ k9 = 2 ∨ 3 ≤ k9 by omega) with rfl | rfl | rfl | k9
      · cases k1
        refine j_catch C MH (name := xI) ((tableOf [(0, 10, 13, 19), (0, 10, 17, 21), (0, 10, 21, 31)]).take 0) (tableOf [(0, 10, 13, 19), (0, 10, 17, 21), (0, 10, 21, 31)])[0] ((tableOf [(0, 10, 13, 19), (0, 10, 17, 21), (0, 10, 21, 31)]).drop 1) rfl (fun z hz => ?_) (by decide) (by decide) cl_La_19 (by simp [wCas, xI, xA, xU, xS, xN]) (fun q8 => ?_)
        · exact nomatch hz
        refine j_astore C dL_grade_13 (by decide) ?_
        refine j_iconst C dL_grade_15 ?_
        refine j_iretH C MH ?_ (Nat.le_of_ble_eq_true rfl) (Nat.le_of_ble_eq_true rfl) dL_grade_16
        exact ⟨_, hF, hJ, by rw [k2]; rfl, Or.inr ⟨by omega, rfl⟩⟩
      · cases k1
        refine j_catch C MH (name := xA) ((tableOf [(0, 10, 13, 19), (0, 10, 17, 21), (0, 10, 21, 31)]).take 1) (tableOf [(0, 10, 13, 19), (0, 10, 17, 21), (0, 10, 21, 31)])[1] ((tableOf [(0, 10, 13, 19), (0, 10, 17, 21), (0, 10, 21, 31)]).drop 2) rfl (fun z hz => ?_) (by decide) (by decide) cl_La_21 (by simp [wCas, xI, xA, xU, xS, xN]) (fun q8 => ?_)
        · have hz : z = (tableOf [(0, 10, 13, 19), (0, 10, 17, 21), (0, 10, 21, 31)])[0] := by simpa [tableOf] using hz
          rcases hz with rfl
          · exact Or.inr ⟨by decide, xI, cl_La_19, hs.2 (xA, xI) (by simp [wNc])⟩
        refine j_astore C dL_grade_17 (by decide) ?_
        refine j_iconst C dL_grade_19 ?_
        refine j_iretH C MH ?_ (Nat.le_of_ble_eq_true rfl) (Nat.le_of_ble_eq_true rfl) dL_grade_20
        exact ⟨_, hF, hJ, by rw [k2]; rfl, Or.inr ⟨by omega, rfl⟩⟩
      · cases k1
        refine j_catch C MH (name := xU) ((tableOf [(0, 10, 13, 19), (0, 10, 17, 21), (0, 10, 21, 31)]).take 2) (tableOf [(0, 10, 13, 19), (0, 10, 17, 21), (0, 10, 21, 31)])[2] ((tableOf [(0, 10, 13, 19), (0, 10, 17, 21), (0, 10, 21, 31)]).drop 3) rfl (fun z hz => ?_) (by decide) (by decide) cl_La_31 (by simp [wCas, xI, xA, xU, xS, xN]) (fun q8 => ?_)
        · have hz : z = (tableOf [(0, 10, 13, 19), (0, 10, 17, 21), (0, 10, 21, 31)])[0] ∨ z = (tableOf [(0, 10, 13, 19), (0, 10, 17, 21), (0, 10, 21, 31)])[1] := by simpa [tableOf] using hz
          rcases hz with rfl | rfl
          · exact Or.inr ⟨by decide, xI, cl_La_19, hs.2 (xU, xI) (by simp [wNc])⟩
          · exact Or.inr ⟨by decide, xA, cl_La_21, hs.2 (xU, xA) (by simp [wNc])⟩
        refine j_astore C dL_grade_21 (by decide) ?_
        refine j_iconst C dL_grade_23 ?_
        refine j_iretH C MH ?_ (Nat.le_of_ble_eq_true rfl) (Nat.le_of_ble_eq_true rfl) dL_grade_24
        exact ⟨_, hF, hJ, by rw [k2]; rfl, Or.inr ⟨by omega, rfl⟩⟩
      · rw [List.getElem?_eq_none (by simpa using k9)] at k1
        exact nomatch k1
  · obtain ⟨hF, hJ, ⟨k2, h9⟩ | ⟨k9, e9, k1, k2, k3, k4⟩⟩ := h9
    rotate_left
    · exact nomatch k3
    cases h9
    have f9 := hF a9 (by rw [ha.1]; decide)
    refine j_i2lx C dL_grade_8 ?_
    refine j_last C (f9.1.trans ha.1) ⟨by decide, by rw [f9.2.1, ha.2]; decide, by decide⟩ dL_grade_9 ?_
    refine j_goto (tgt := 25) C dL_grade_10 (by decide) ?_
    refine j_iconst C dL_grade_25 ?_
    refine j_iretH C MH ?_ (Nat.le_of_ble_eq_true rfl) (Nat.le_of_ble_eq_true rfl) dL_grade_26
    exact ⟨S9, hF, hJ, by rw [k2], Or.inl ⟨k2, rfl⟩⟩

theorem calH_mend : CalH yL_mend cL_mend 5 (some FieldType.int) [(0, 10, 13, 19), (0, 10, 17, 31)] 4 := ⟨by decide +kernel, ⟨by decide +kernel, by decide +kernel, by decide +kernel⟩, WALL_at 999 (by decide +kernel) rfl, ini_La⟩
set_option maxHeartbeats 1000000 in
theorem w_mend (l : Launch) (hfl : l.stackTraces = false) {D : wD} {S : wS} {q9 a9 : Nat} {M : wM} (h : Jn D.2.2.1 S q9 M) (ha : sK S a9 = 10 ∧ sN S a9 = 1) {r z : Int} (h_r : rg r)  (h_z : rg z) : CtH l D yL_mend cL_mend 5 (some FieldType.int) [(0, 10, 13, 19), (0, 10, 17, 31)] 21 100 6000 [.ref q9, .int (iN r), .int (iN z), .ref a9] S (wrP D.2.2.1 S q9 10 a9 (x_mend M r z) (.long (iN (v_mend M r z)).toInt64) (n_mend M r z)) := by
  refine CtH.of calH_mend hfl (Nat.le_of_ble_eq_true rfl) ?_
  intro p e s m args below meth c sz hs C MH
  refine j_aload_n C dL_mend_0 rfl ?_
  refine j_iconst C dL_mend_1 ?_
  refine j_aload_n C dL_mend_2 rfl ?_
  refine j_iload_n C dL_mend_3 rfl ?_
  refine j_iload_n C dL_mend_4 rfl ?_
  refine j_callV C (s_mend l hfl h h_r h_z) cal_X5_mend vi_X5_mend ml_La_69 h.k6 ⟨by decide, by decide, rfl⟩ rfl rfl (Nat.le_of_ble_eq_true rfl) ⟨by decide, by decide⟩ ⟨(Nat.le_of_ble_eq_true rfl), (Nat.le_of_ble_eq_true rfl)⟩ dL_mend_5 (fun E S9 h9 => ?_) (fun v9 S9 h9 => ?_)
  · obtain ⟨hF, hJ, ⟨-, h9⟩ | ⟨k9, e9, k1, k2, k3, k4⟩⟩ := h9
    · exact nomatch h9
    · cases k3
      subst k4
      rcases (show k9 = 0 ∨ k9 = 1 ∨ 2 ≤ k9 by omega) with rfl | rfl | k9
      · cases k1
        refine j_catch C MH (name := xI) ((tableOf [(0, 10, 13, 19), (0, 10, 17, 31)]).take 0) (tableOf [(0, 10, 13, 19), (0, 10, 17, 31)])[0] ((tableOf [(0, 10, 13, 19), (0, 10, 17, 31)]).drop 1) rfl (fun z hz => ?_) (by decide) (by decide) cl_La_19 (by simp [wCas, xI, xA, xU, xS, xN]) (fun q8 => ?_)
        · exact nomatch hz
        refine j_astore C dL_mend_13 (by decide) ?_
        refine j_iconst C dL_mend_15 ?_
        refine j_iretH C MH ?_ (Nat.le_of_ble_eq_true rfl) (Nat.le_of_ble_eq_true rfl) dL_mend_16
        exact ⟨_, hF, hJ, by rw [k2]; rfl, Or.inr ⟨by omega, rfl⟩⟩
      · cases k1
        refine j_catch C MH (name := xU) ((tableOf [(0, 10, 13, 19), (0, 10, 17, 31)]).take 1) (tableOf [(0, 10, 13, 19), (0, 10, 17, 31)])[1] ((tableOf [(0, 10, 13, 19), (0, 10, 17, 31)]).drop 2) rfl (fun z hz => ?_) (by decide) (by decide) cl_La_31 (by simp [wCas, xI, xA, xU, xS, xN]) (fun q8 => ?_)
        · have hz : z = (tableOf [(0, 10, 13, 19), (0, 10, 17, 31)])[0] := by simpa [tableOf] using hz
          rcases hz with rfl
          · exact Or.inr ⟨by decide, xI, cl_La_19, hs.2 (xU, xI) (by simp [wNc])⟩
        refine j_astore C dL_mend_17 (by decide) ?_
        refine j_iconst C dL_mend_19 ?_
        refine j_iretH C MH ?_ (Nat.le_of_ble_eq_true rfl) (Nat.le_of_ble_eq_true rfl) dL_mend_20
        exact ⟨_, hF, hJ, by rw [k2]; rfl, Or.inr ⟨by omega, rfl⟩⟩
      · rw [List.getElem?_eq_none (by simpa using k9)] at k1
        exact nomatch k1
  · obtain ⟨hF, hJ, ⟨k2, h9⟩ | ⟨k9, e9, k1, k2, k3, k4⟩⟩ := h9
    rotate_left
    · exact nomatch k3
    cases h9
    have f9 := hF a9 (by rw [ha.1]; decide)
    refine j_i2lx C dL_mend_8 ?_
    refine j_last C (f9.1.trans ha.1) ⟨by decide, by rw [f9.2.1, ha.2]; decide, by decide⟩ dL_mend_9 ?_
    refine j_goto (tgt := 21) C dL_mend_10 (by decide) ?_
    refine j_iconst C dL_mend_21 ?_
    refine j_iretH C MH ?_ (Nat.le_of_ble_eq_true rfl) (Nat.le_of_ble_eq_true rfl) dL_mend_22
    exact ⟨S9, hF, hJ, by rw [k2], Or.inl ⟨k2, rfl⟩⟩

theorem calH_scan : CalH yL_scan cL_scan 5 (some FieldType.int) [(0, 10, 13, 19), (0, 10, 17, 21), (0, 10, 21, 31)] 4 := ⟨by decide +kernel, ⟨by decide +kernel, by decide +kernel, by decide +kernel⟩, WALL_at 1022 (by decide +kernel) rfl, ini_La⟩
set_option maxHeartbeats 1000000 in
theorem w_scan (l : Launch) (hfl : l.stackTraces = false) {D : wD} {S : wS} {q9 a9 : Nat} {M : wM} (h : Jn D.2.2.1 S q9 M) (ha : sK S a9 = 10 ∧ sN S a9 = 1) {r z : Int} (h_r : rg r)  (h_z : rg z) : CtH l D yL_scan cL_scan 5 (some FieldType.int) [(0, 10, 13, 19), (0, 10, 17, 21), (0, 10, 21, 31)] 21 100 6000 [.ref q9, .int (iN r), .int (iN z), .ref a9] S (wrP D.2.2.1 S q9 10 a9 (x_scan M r z) (.long (iN (v_scan M r z)).toInt64) (n_scan M r z)) := by
  refine CtH.of calH_scan hfl (Nat.le_of_ble_eq_true rfl) ?_
  intro p e s m args below meth c sz hs C MH
  refine j_aload_n C dL_scan_0 rfl ?_
  refine j_iconst C dL_scan_1 ?_
  refine j_aload_n C dL_scan_2 rfl ?_
  refine j_iload_n C dL_scan_3 rfl ?_
  refine j_iload_n C dL_scan_4 rfl ?_
  refine j_callV C (s_scan l hfl h h_r h_z) cal_X5_scan vi_X5_scan ml_La_72 h.k6 ⟨by decide, by decide, rfl⟩ rfl rfl (Nat.le_of_ble_eq_true rfl) ⟨by decide, by decide⟩ ⟨(Nat.le_of_ble_eq_true rfl), (Nat.le_of_ble_eq_true rfl)⟩ dL_scan_5 (fun E S9 h9 => ?_) (fun v9 S9 h9 => ?_)
  · obtain ⟨hF, hJ, ⟨-, h9⟩ | ⟨k9, e9, k1, k2, k3, k4⟩⟩ := h9
    · exact nomatch h9
    · cases k3
      subst k4
      rcases (show k9 = 0 ∨ k9 = 1 ∨ k9 = 2 ∨ 3 ≤ k9 by omega) with rfl | rfl | rfl | k9
      · cases k1
        refine j_catch C MH (name := xI) ((tableOf [(0, 10, 13, 19), (0, 10, 17, 21), (0, 10, 21, 31)]).take 0) (tableOf [(0, 10, 13, 19), (0, 10, 17, 21), (0, 10, 21, 31)])[0] ((tableOf [(0, 10, 13, 19), (0, 10, 17, 21), (0, 10, 21, 31)]).drop 1) rfl (fun z hz => ?_) (by decide) (by decide) cl_La_19 (by simp [wCas, xI, xA, xU, xS, xN]) (fun q8 => ?_)
        · exact nomatch hz
        refine j_astore C dL_scan_13 (by decide) ?_
        refine j_iconst C dL_scan_15 ?_
        refine j_iretH C MH ?_ (Nat.le_of_ble_eq_true rfl) (Nat.le_of_ble_eq_true rfl) dL_scan_16
        exact ⟨_, hF, hJ, by rw [k2]; rfl, Or.inr ⟨by omega, rfl⟩⟩
      · cases k1
        refine j_catch C MH (name := xA) ((tableOf [(0, 10, 13, 19), (0, 10, 17, 21), (0, 10, 21, 31)]).take 1) (tableOf [(0, 10, 13, 19), (0, 10, 17, 21), (0, 10, 21, 31)])[1] ((tableOf [(0, 10, 13, 19), (0, 10, 17, 21), (0, 10, 21, 31)]).drop 2) rfl (fun z hz => ?_) (by decide) (by decide) cl_La_21 (by simp [wCas, xI, xA, xU, xS, xN]) (fun q8 => ?_)
        · have hz : z = (tableOf [(0, 10, 13, 19), (0, 10, 17, 21), (0, 10, 21, 31)])[0] := by simpa [tableOf] using hz
          rcases hz with rfl
          · exact Or.inr ⟨by decide, xI, cl_La_19, hs.2 (xA, xI) (by simp [wNc])⟩
        refine j_astore C dL_scan_17 (by decide) ?_
        refine j_iconst C dL_scan_19 ?_
        refine j_iretH C MH ?_ (Nat.le_of_ble_eq_true rfl) (Nat.le_of_ble_eq_true rfl) dL_scan_20
        exact ⟨_, hF, hJ, by rw [k2]; rfl, Or.inr ⟨by omega, rfl⟩⟩
      · cases k1
        refine j_catch C MH (name := xU) ((tableOf [(0, 10, 13, 19), (0, 10, 17, 21), (0, 10, 21, 31)]).take 2) (tableOf [(0, 10, 13, 19), (0, 10, 17, 21), (0, 10, 21, 31)])[2] ((tableOf [(0, 10, 13, 19), (0, 10, 17, 21), (0, 10, 21, 31)]).drop 3) rfl (fun z hz => ?_) (by decide) (by decide) cl_La_31 (by simp [wCas, xI, xA, xU, xS, xN]) (fun q8 => ?_)
        · have hz : z = (tableOf [(0, 10, 13, 19), (0, 10, 17, 21), (0, 10, 21, 31)])[0] ∨ z = (tableOf [(0, 10, 13, 19), (0, 10, 17, 21), (0, 10, 21, 31)])[1] := by simpa [tableOf] using hz
          rcases hz with rfl | rfl
          · exact Or.inr ⟨by decide, xI, cl_La_19, hs.2 (xU, xI) (by simp [wNc])⟩
          · exact Or.inr ⟨by decide, xA, cl_La_21, hs.2 (xU, xA) (by simp [wNc])⟩
        refine j_astore C dL_scan_21 (by decide) ?_
        refine j_iconst C dL_scan_23 ?_
        refine j_iretH C MH ?_ (Nat.le_of_ble_eq_true rfl) (Nat.le_of_ble_eq_true rfl) dL_scan_24
        exact ⟨_, hF, hJ, by rw [k2]; rfl, Or.inr ⟨by omega, rfl⟩⟩
      · rw [List.getElem?_eq_none (by simpa using k9)] at k1
        exact nomatch k1
  · obtain ⟨hF, hJ, ⟨k2, h9⟩ | ⟨k9, e9, k1, k2, k3, k4⟩⟩ := h9
    rotate_left
    · exact nomatch k3
    cases h9
    have f9 := hF a9 (by rw [ha.1]; decide)
    refine j_i2lx C dL_scan_8 ?_
    refine j_last C (f9.1.trans ha.1) ⟨by decide, by rw [f9.2.1, ha.2]; decide, by decide⟩ dL_scan_9 ?_
    refine j_goto (tgt := 25) C dL_scan_10 (by decide) ?_
    refine j_iconst C dL_scan_25 ?_
    refine j_iretH C MH ?_ (Nat.le_of_ble_eq_true rfl) (Nat.le_of_ble_eq_true rfl) dL_scan_26
    exact ⟨S9, hF, hJ, by rw [k2], Or.inl ⟨k2, rfl⟩⟩

theorem calH_addFilm : CalH yL_addFilm cL_addFilm 3 (some FieldType.int) [(0, 8, 11, 13)] 2 := ⟨by decide +kernel, ⟨by decide +kernel, by decide +kernel, by decide +kernel⟩, WALL_at 231 (by decide +kernel) rfl, ini_La⟩
set_option maxHeartbeats 1000000 in
theorem w_addFilm (l : Launch) (hfl : l.stackTraces = false) {D : wD} {S : wS} {q9 a9 : Nat} {M : wM} (h : Jn D.2.2.1 S q9 M) (ha : sK S a9 = 10 ∧ sN S a9 = 1)  : CtH l D yL_addFilm cL_addFilm 3 (some FieldType.int) [(0, 8, 11, 13)] 21 100 6000 [.ref q9, .ref a9] S (wrP D.2.2.1 S q9 10 a9 (x_addFilm M) (.long (iN (v_addFilm M )).toInt64) (n_addFilm M )) := by
  refine CtH.of calH_addFilm hfl (Nat.le_of_ble_eq_true rfl) ?_
  intro p e s m args below meth c sz hs C MH
  refine j_aload_n C dL_addFilm_0 rfl ?_
  refine j_iconst C dL_addFilm_1 ?_
  refine j_aload_n C dL_addFilm_2 rfl ?_
  refine j_callVN C hs.1 (s_addFilm l hfl h ) cal_X5_addFilm vi_X5_addFilm ml_La_7 h.k6 ⟨by decide, by decide, rfl⟩ rfl rfl (Nat.le_of_ble_eq_true rfl) ⟨by decide, by decide⟩ ⟨(Nat.le_of_ble_eq_true rfl), (Nat.le_of_ble_eq_true rfl)⟩ dL_addFilm_3 (fun E S9 h9 => ?_) (fun v9 S9 h9 => ?_)
  · obtain ⟨hF, hJ, ⟨-, h9⟩ | ⟨k9, e9, k1, k2, k3, k4⟩⟩ := h9
    · exact nomatch h9
    · cases k3
      subst k4
      rcases (show k9 = 0 ∨ 1 ≤ k9 by omega) with rfl | k9
      · cases k1
        refine j_catch C MH (name := xS) ((tableOf [(0, 8, 11, 13)]).take 0) (tableOf [(0, 8, 11, 13)])[0] ((tableOf [(0, 8, 11, 13)]).drop 1) rfl (fun z hz => ?_) (by decide) (by decide) cl_La_13 (by simp [wCas, xI, xA, xU, xS, xN]) (fun q8 => ?_)
        · exact nomatch hz
        refine j_astore_n C dL_addFilm_11 (by decide) ?_
        refine j_iconst C dL_addFilm_12 ?_
        refine j_iretH C MH ?_ (Nat.le_of_ble_eq_true rfl) (Nat.le_of_ble_eq_true rfl) dL_addFilm_13
        exact ⟨_, hF, hJ, by rw [k2]; rfl, Or.inr ⟨by omega, rfl⟩⟩
      · rw [List.getElem?_eq_none (by simpa using k9)] at k1
        exact nomatch k1
  · obtain ⟨hF, hJ, ⟨k2, h9⟩ | ⟨k9, e9, k1, k2, k3, k4⟩⟩ := h9
    rotate_left
    · exact nomatch k3
    cases h9
    have f9 := hF a9 (by rw [ha.1]; decide)
    refine j_i2lx C dL_addFilm_6 ?_
    refine j_last C (f9.1.trans ha.1) ⟨by decide, by rw [f9.2.1, ha.2]; decide, by decide⟩ dL_addFilm_7 ?_
    refine j_goto (tgt := 14) C dL_addFilm_8 (by decide) ?_
    refine j_iconst C dL_addFilm_14 ?_
    refine j_iretH C MH ?_ (Nat.le_of_ble_eq_true rfl) (Nat.le_of_ble_eq_true rfl) dL_addFilm_15
    exact ⟨S9, hF, hJ, by rw [k2], Or.inl ⟨k2, rfl⟩⟩

theorem calH_found : CalH yL_found cL_found 7 (some FieldType.int) [(0, 14, 17, 19), (0, 14, 21, 21), (0, 14, 25, 31), (0, 14, 29, 13)] 6 := ⟨by decide +kernel, ⟨by decide +kernel, by decide +kernel, by decide +kernel⟩, WALL_at 607 (by decide +kernel) rfl, ini_La⟩
set_option maxHeartbeats 1000000 in
theorem w_found (l : Launch) (hfl : l.stackTraces = false) {D : wD} {S : wS} {q9 a9 : Nat} {M : wM} (h : Jn D.2.2.1 S q9 M) (ha : sK S a9 = 10 ∧ sN S a9 = 1) {f z a b : Int} (h_f : rg f)  (h_z : rg z)  (h_a : rg a)  (h_b : rg b) : CtH l D yL_found cL_found 7 (some FieldType.int) [(0, 14, 17, 19), (0, 14, 21, 21), (0, 14, 25, 31), (0, 14, 29, 13)] 21 100 6000 [.ref q9, .int (iN f), .int (iN z), .int (iN a), .int (iN b), .ref a9] S (wrP D.2.2.1 S q9 10 a9 (x_found M f z a b) (.long (iN (v_found M f z a b)).toInt64) (n_found M f z a b)) := by
  refine CtH.of calH_found hfl (Nat.le_of_ble_eq_true rfl) ?_
  intro p e s m args below meth c sz hs C MH
  refine j_aload C dL_found_0 rfl ?_
  refine j_iconst C dL_found_2 ?_
  refine j_aload_n C dL_found_3 rfl ?_
  refine j_iload_n C dL_found_4 rfl ?_
  refine j_iload_n C dL_found_5 rfl ?_
  refine j_iload_n C dL_found_6 rfl ?_
  refine j_iload C dL_found_7 rfl ?_
  refine j_callVD C (s_found l hfl h h_f h_z h_a h_b) cal_X5_found vi_X5_found ml_La_33 h.k6 ⟨by decide, by decide, rfl⟩ rfl rfl (Nat.le_of_ble_eq_true rfl) ⟨by decide, by decide⟩ ⟨(Nat.le_of_ble_eq_true rfl), (Nat.le_of_ble_eq_true rfl)⟩ dL_found_9 (fun E S9 h9 => ?_) (fun v9 S9 h9 => ?_)
  · obtain ⟨hF, hJ, ⟨-, h9⟩ | ⟨k9, e9, k1, k2, k3, k4⟩⟩ := h9
    · exact nomatch h9
    · cases k3
      subst k4
      rcases (show k9 = 0 ∨ k9 = 1 ∨ k9 = 2 ∨ k9 = 3 ∨ 4 ≤ k9 by omega) with rfl | rfl | rfl | rfl | k9
      · cases k1
        refine j_catch C MH (name := xI) ((tableOf [(0, 14, 17, 19), (0, 14, 21, 21), (0, 14, 25, 31), (0, 14, 29, 13)]).take 0) (tableOf [(0, 14, 17, 19), (0, 14, 21, 21), (0, 14, 25, 31), (0, 14, 29, 13)])[0] ((tableOf [(0, 14, 17, 19), (0, 14, 21, 21), (0, 14, 25, 31), (0, 14, 29, 13)]).drop 1) rfl (fun z hz => ?_) (by decide) (by decide) cl_La_19 (by simp [wCas, xI, xA, xU, xS, xN]) (fun q8 => ?_)
        · exact nomatch hz
        refine j_astore C dL_found_17 (by decide) ?_
        refine j_iconst C dL_found_19 ?_
        refine j_iretH C MH ?_ (Nat.le_of_ble_eq_true rfl) (Nat.le_of_ble_eq_true rfl) dL_found_20
        exact ⟨_, hF, hJ, by rw [k2]; rfl, Or.inr ⟨by omega, rfl⟩⟩
      · cases k1
        refine j_catch C MH (name := xA) ((tableOf [(0, 14, 17, 19), (0, 14, 21, 21), (0, 14, 25, 31), (0, 14, 29, 13)]).take 1) (tableOf [(0, 14, 17, 19), (0, 14, 21, 21), (0, 14, 25, 31), (0, 14, 29, 13)])[1] ((tableOf [(0, 14, 17, 19), (0, 14, 21, 21), (0, 14, 25, 31), (0, 14, 29, 13)]).drop 2) rfl (fun z hz => ?_) (by decide) (by decide) cl_La_21 (by simp [wCas, xI, xA, xU, xS, xN]) (fun q8 => ?_)
        · have hz : z = (tableOf [(0, 14, 17, 19), (0, 14, 21, 21), (0, 14, 25, 31), (0, 14, 29, 13)])[0] := by simpa [tableOf] using hz
          rcases hz with rfl
          · exact Or.inr ⟨by decide, xI, cl_La_19, hs.2 (xA, xI) (by simp [wNc])⟩
        refine j_astore C dL_found_21 (by decide) ?_
        refine j_iconst C dL_found_23 ?_
        refine j_iretH C MH ?_ (Nat.le_of_ble_eq_true rfl) (Nat.le_of_ble_eq_true rfl) dL_found_24
        exact ⟨_, hF, hJ, by rw [k2]; rfl, Or.inr ⟨by omega, rfl⟩⟩
      · cases k1
        refine j_catch C MH (name := xU) ((tableOf [(0, 14, 17, 19), (0, 14, 21, 21), (0, 14, 25, 31), (0, 14, 29, 13)]).take 2) (tableOf [(0, 14, 17, 19), (0, 14, 21, 21), (0, 14, 25, 31), (0, 14, 29, 13)])[2] ((tableOf [(0, 14, 17, 19), (0, 14, 21, 21), (0, 14, 25, 31), (0, 14, 29, 13)]).drop 3) rfl (fun z hz => ?_) (by decide) (by decide) cl_La_31 (by simp [wCas, xI, xA, xU, xS, xN]) (fun q8 => ?_)
        · have hz : z = (tableOf [(0, 14, 17, 19), (0, 14, 21, 21), (0, 14, 25, 31), (0, 14, 29, 13)])[0] ∨ z = (tableOf [(0, 14, 17, 19), (0, 14, 21, 21), (0, 14, 25, 31), (0, 14, 29, 13)])[1] := by simpa [tableOf] using hz
          rcases hz with rfl | rfl
          · exact Or.inr ⟨by decide, xI, cl_La_19, hs.2 (xU, xI) (by simp [wNc])⟩
          · exact Or.inr ⟨by decide, xA, cl_La_21, hs.2 (xU, xA) (by simp [wNc])⟩
        refine j_astore C dL_found_25 (by decide) ?_
        refine j_iconst C dL_found_27 ?_
        refine j_iretH C MH ?_ (Nat.le_of_ble_eq_true rfl) (Nat.le_of_ble_eq_true rfl) dL_found_28
        exact ⟨_, hF, hJ, by rw [k2]; rfl, Or.inr ⟨by omega, rfl⟩⟩
      · cases k1
        refine j_catch C MH (name := xS) ((tableOf [(0, 14, 17, 19), (0, 14, 21, 21), (0, 14, 25, 31), (0, 14, 29, 13)]).take 3) (tableOf [(0, 14, 17, 19), (0, 14, 21, 21), (0, 14, 25, 31), (0, 14, 29, 13)])[3] ((tableOf [(0, 14, 17, 19), (0, 14, 21, 21), (0, 14, 25, 31), (0, 14, 29, 13)]).drop 4) rfl (fun z hz => ?_) (by decide) (by decide) cl_La_13 (by simp [wCas, xI, xA, xU, xS, xN]) (fun q8 => ?_)
        · have hz : z = (tableOf [(0, 14, 17, 19), (0, 14, 21, 21), (0, 14, 25, 31), (0, 14, 29, 13)])[0] ∨ z = (tableOf [(0, 14, 17, 19), (0, 14, 21, 21), (0, 14, 25, 31), (0, 14, 29, 13)])[1] ∨ z = (tableOf [(0, 14, 17, 19), (0, 14, 21, 21), (0, 14, 25, 31), (0, 14, 29, 13)])[2] := by simpa [tableOf] using hz
          rcases hz with rfl | rfl | rfl
          · exact Or.inr ⟨by decide, xI, cl_La_19, hs.2 (xS, xI) (by simp [wNc])⟩
          · exact Or.inr ⟨by decide, xA, cl_La_21, hs.2 (xS, xA) (by simp [wNc])⟩
          · exact Or.inr ⟨by decide, xU, cl_La_31, hs.2 (xS, xU) (by simp [wNc])⟩
        refine j_astore C dL_found_29 (by decide) ?_
        refine j_iconst C dL_found_31 ?_
        refine j_iretH C MH ?_ (Nat.le_of_ble_eq_true rfl) (Nat.le_of_ble_eq_true rfl) dL_found_32
        exact ⟨_, hF, hJ, by rw [k2]; rfl, Or.inr ⟨by omega, rfl⟩⟩
      · rw [List.getElem?_eq_none (by simpa using k9)] at k1
        exact nomatch k1
  · obtain ⟨hF, hJ, ⟨k2, h9⟩ | ⟨k9, e9, k1, k2, k3, k4⟩⟩ := h9
    rotate_left
    · exact nomatch k3
    cases h9
    have f9 := hF a9 (by rw [ha.1]; decide)
    refine j_i2lx C dL_found_12 ?_
    refine j_last C (f9.1.trans ha.1) ⟨by decide, by rw [f9.2.1, ha.2]; decide, by decide⟩ dL_found_13 ?_
    refine j_goto (tgt := 33) C dL_found_14 (by decide) ?_
    refine j_iconst C dL_found_33 ?_
    refine j_iretH C MH ?_ (Nat.le_of_ble_eq_true rfl) (Nat.le_of_ble_eq_true rfl) dL_found_34
    exact ⟨S9, hF, hJ, by rw [k2], Or.inl ⟨k2, rfl⟩⟩

theorem calH_join : CalH yL_join cL_join 5 (some FieldType.int) [(0, 10, 13, 19), (0, 10, 17, 21), (0, 10, 21, 31)] 4 := ⟨by decide +kernel, ⟨by decide +kernel, by decide +kernel, by decide +kernel⟩, WALL_at 857 (by decide +kernel) rfl, ini_La⟩
set_option maxHeartbeats 1000000 in
theorem w_join (l : Launch) (hfl : l.stackTraces = false) {D : wD} {S : wS} {q9 a9 : Nat} {M : wM} (h : Jn D.2.2.1 S q9 M) (ha : sK S a9 = 10 ∧ sN S a9 = 1) {r q : Int} (h_r : rg r)  (h_q : rg q) : CtH l D yL_join cL_join 5 (some FieldType.int) [(0, 10, 13, 19), (0, 10, 17, 21), (0, 10, 21, 31)] 21 100 10000 [.ref q9, .int (iN r), .int (iN q), .ref a9] S (wrP D.2.2.1 S q9 10 a9 (x_join M r q) (.long (iN (v_join M r q)).toInt64) (n_join M r q)) := by
  refine CtH.of calH_join hfl (Nat.le_of_ble_eq_true rfl) ?_
  intro p e s m args below meth c sz hs C MH
  refine j_aload_n C dL_join_0 rfl ?_
  refine j_iconst C dL_join_1 ?_
  refine j_aload_n C dL_join_2 rfl ?_
  refine j_iload_n C dL_join_3 rfl ?_
  refine j_iload_n C dL_join_4 rfl ?_
  refine j_callVD C (s_join l hfl h h_r h_q) cal_X5_join vi_X5_join ml_La_37 h.k6 ⟨by decide, by decide, rfl⟩ rfl rfl (Nat.le_of_ble_eq_true rfl) ⟨by decide, by decide⟩ ⟨(Nat.le_of_ble_eq_true rfl), (Nat.le_of_ble_eq_true rfl)⟩ dL_join_5 (fun E S9 h9 => ?_) (fun v9 S9 h9 => ?_)
  · obtain ⟨hF, hJ, ⟨-, h9⟩ | ⟨k9, e9, k1, k2, k3, k4⟩⟩ := h9
    · exact nomatch h9
    · cases k3
      subst k4
      rcases (show k9 = 0 ∨ k9 = 1 ∨ k9 = 2 ∨ 3 ≤ k9 by omega) with rfl | rfl | rfl | k9
      · cases k1
        refine j_catch C MH (name := xI) ((tableOf [(0, 10, 13, 19), (0, 10, 17, 21), (0, 10, 21, 31)]).take 0) (tableOf [(0, 10, 13, 19), (0, 10, 17, 21), (0, 10, 21, 31)])[0] ((tableOf [(0, 10, 13, 19), (0, 10, 17, 21), (0, 10, 21, 31)]).drop 1) rfl (fun z hz => ?_) (by decide) (by decide) cl_La_19 (by simp [wCas, xI, xA, xU, xS, xN]) (fun q8 => ?_)
        · exact nomatch hz
        refine j_astore C dL_join_13 (by decide) ?_
        refine j_iconst C dL_join_15 ?_
        refine j_iretH C MH ?_ (Nat.le_of_ble_eq_true rfl) (Nat.le_of_ble_eq_true rfl) dL_join_16
        exact ⟨_, hF, hJ, by rw [k2]; rfl, Or.inr ⟨by omega, rfl⟩⟩
      · cases k1
        refine j_catch C MH (name := xA) ((tableOf [(0, 10, 13, 19), (0, 10, 17, 21), (0, 10, 21, 31)]).take 1) (tableOf [(0, 10, 13, 19), (0, 10, 17, 21), (0, 10, 21, 31)])[1] ((tableOf [(0, 10, 13, 19), (0, 10, 17, 21), (0, 10, 21, 31)]).drop 2) rfl (fun z hz => ?_) (by decide) (by decide) cl_La_21 (by simp [wCas, xI, xA, xU, xS, xN]) (fun q8 => ?_)
        · have hz : z = (tableOf [(0, 10, 13, 19), (0, 10, 17, 21), (0, 10, 21, 31)])[0] := by simpa [tableOf] using hz
          rcases hz with rfl
          · exact Or.inr ⟨by decide, xI, cl_La_19, hs.2 (xA, xI) (by simp [wNc])⟩
        refine j_astore C dL_join_17 (by decide) ?_
        refine j_iconst C dL_join_19 ?_
        refine j_iretH C MH ?_ (Nat.le_of_ble_eq_true rfl) (Nat.le_of_ble_eq_true rfl) dL_join_20
        exact ⟨_, hF, hJ, by rw [k2]; rfl, Or.inr ⟨by omega, rfl⟩⟩
      · cases k1
        refine j_catch C MH (name := xU) ((tableOf [(0, 10, 13, 19), (0, 10, 17, 21), (0, 10, 21, 31)]).take 2) (tableOf [(0, 10, 13, 19), (0, 10, 17, 21), (0, 10, 21, 31)])[2] ((tableOf [(0, 10, 13, 19), (0, 10, 17, 21), (0, 10, 21, 31)]).drop 3) rfl (fun z hz => ?_) (by decide) (by decide) cl_La_31 (by simp [wCas, xI, xA, xU, xS, xN]) (fun q8 => ?_)
        · have hz : z = (tableOf [(0, 10, 13, 19), (0, 10, 17, 21), (0, 10, 21, 31)])[0] ∨ z = (tableOf [(0, 10, 13, 19), (0, 10, 17, 21), (0, 10, 21, 31)])[1] := by simpa [tableOf] using hz
          rcases hz with rfl | rfl
          · exact Or.inr ⟨by decide, xI, cl_La_19, hs.2 (xU, xI) (by simp [wNc])⟩
          · exact Or.inr ⟨by decide, xA, cl_La_21, hs.2 (xU, xA) (by simp [wNc])⟩
        refine j_astore C dL_join_21 (by decide) ?_
        refine j_iconst C dL_join_23 ?_
        refine j_iretH C MH ?_ (Nat.le_of_ble_eq_true rfl) (Nat.le_of_ble_eq_true rfl) dL_join_24
        exact ⟨_, hF, hJ, by rw [k2]; rfl, Or.inr ⟨by omega, rfl⟩⟩
      · rw [List.getElem?_eq_none (by simpa using k9)] at k1
        exact nomatch k1
  · obtain ⟨hF, hJ, ⟨k2, h9⟩ | ⟨k9, e9, k1, k2, k3, k4⟩⟩ := h9
    rotate_left
    · exact nomatch k3
    cases h9
    have f9 := hF a9 (by rw [ha.1]; decide)
    refine j_i2lx C dL_join_8 ?_
    refine j_last C (f9.1.trans ha.1) ⟨by decide, by rw [f9.2.1, ha.2]; decide, by decide⟩ dL_join_9 ?_
    refine j_goto (tgt := 25) C dL_join_10 (by decide) ?_
    refine j_iconst C dL_join_25 ?_
    refine j_iretH C MH ?_ (Nat.le_of_ble_eq_true rfl) (Nat.le_of_ble_eq_true rfl) dL_join_26
    exact ⟨S9, hF, hJ, by rw [k2], Or.inl ⟨k2, rfl⟩⟩

theorem calH_passOn : CalH yL_passOn cL_passOn 4 (some FieldType.int) [(0, 9, 12, 19), (0, 9, 15, 31)] 3 := ⟨by decide +kernel, ⟨by decide +kernel, by decide +kernel, by decide +kernel⟩, WALL_at 1071 (by decide +kernel) rfl, ini_La⟩
set_option maxHeartbeats 1000000 in
theorem w_passOn (l : Launch) (hfl : l.stackTraces = false) {D : wD} {S : wS} {q9 a9 : Nat} {M : wM} (h : Jn D.2.2.1 S q9 M) (ha : sK S a9 = 10 ∧ sN S a9 = 1) {z : Int} (h_z : rg z) : CtH l D yL_passOn cL_passOn 4 (some FieldType.int) [(0, 9, 12, 19), (0, 9, 15, 31)] 21 100 6000 [.ref q9, .int (iN z), .ref a9] S (wrP D.2.2.1 S q9 10 a9 (x_passOn M z) (.long (iN (v_passOn M z)).toInt64) (n_passOn M z)) := by
  refine CtH.of calH_passOn hfl (Nat.le_of_ble_eq_true rfl) ?_
  intro p e s m args below meth c sz hs C MH
  refine j_aload_n C dL_passOn_0 rfl ?_
  refine j_iconst C dL_passOn_1 ?_
  refine j_aload_n C dL_passOn_2 rfl ?_
  refine j_iload_n C dL_passOn_3 rfl ?_
  refine j_callV C (s_passOn l hfl h h_z) cal_X5_passOn vi_X5_passOn ml_La_84 h.k6 ⟨by decide, by decide, rfl⟩ rfl rfl (Nat.le_of_ble_eq_true rfl) ⟨by decide, by decide⟩ ⟨(Nat.le_of_ble_eq_true rfl), (Nat.le_of_ble_eq_true rfl)⟩ dL_passOn_4 (fun E S9 h9 => ?_) (fun v9 S9 h9 => ?_)
  · obtain ⟨hF, hJ, ⟨-, h9⟩ | ⟨k9, e9, k1, k2, k3, k4⟩⟩ := h9
    · exact nomatch h9
    · cases k3
      subst k4
      rcases (show k9 = 0 ∨ k9 = 1 ∨ 2 ≤ k9 by omega) with rfl | rfl | k9
      · cases k1
        refine j_catch C MH (name := xI) ((tableOf [(0, 9, 12, 19), (0, 9, 15, 31)]).take 0) (tableOf [(0, 9, 12, 19), (0, 9, 15, 31)])[0] ((tableOf [(0, 9, 12, 19), (0, 9, 15, 31)]).drop 1) rfl (fun z hz => ?_) (by decide) (by decide) cl_La_19 (by simp [wCas, xI, xA, xU, xS, xN]) (fun q8 => ?_)
        · exact nomatch hz
        refine j_astore_n C dL_passOn_12 (by decide) ?_
        refine j_iconst C dL_passOn_13 ?_
        refine j_iretH C MH ?_ (Nat.le_of_ble_eq_true rfl) (Nat.le_of_ble_eq_true rfl) dL_passOn_14
        exact ⟨_, hF, hJ, by rw [k2]; rfl, Or.inr ⟨by omega, rfl⟩⟩
      · cases k1
        refine j_catch C MH (name := xU) ((tableOf [(0, 9, 12, 19), (0, 9, 15, 31)]).take 1) (tableOf [(0, 9, 12, 19), (0, 9, 15, 31)])[1] ((tableOf [(0, 9, 12, 19), (0, 9, 15, 31)]).drop 2) rfl (fun z hz => ?_) (by decide) (by decide) cl_La_31 (by simp [wCas, xI, xA, xU, xS, xN]) (fun q8 => ?_)
        · have hz : z = (tableOf [(0, 9, 12, 19), (0, 9, 15, 31)])[0] := by simpa [tableOf] using hz
          rcases hz with rfl
          · exact Or.inr ⟨by decide, xI, cl_La_19, hs.2 (xU, xI) (by simp [wNc])⟩
        refine j_astore_n C dL_passOn_15 (by decide) ?_
        refine j_iconst C dL_passOn_16 ?_
        refine j_iretH C MH ?_ (Nat.le_of_ble_eq_true rfl) (Nat.le_of_ble_eq_true rfl) dL_passOn_17
        exact ⟨_, hF, hJ, by rw [k2]; rfl, Or.inr ⟨by omega, rfl⟩⟩
      · rw [List.getElem?_eq_none (by simpa using k9)] at k1
        exact nomatch k1
  · obtain ⟨hF, hJ, ⟨k2, h9⟩ | ⟨k9, e9, k1, k2, k3, k4⟩⟩ := h9
    rotate_left
    · exact nomatch k3
    cases h9
    have f9 := hF a9 (by rw [ha.1]; decide)
    refine j_i2lx C dL_passOn_7 ?_
    refine j_last C (f9.1.trans ha.1) ⟨by decide, by rw [f9.2.1, ha.2]; decide, by decide⟩ dL_passOn_8 ?_
    refine j_goto (tgt := 18) C dL_passOn_9 (by decide) ?_
    refine j_iconst C dL_passOn_18 ?_
    refine j_iretH C MH ?_ (Nat.le_of_ble_eq_true rfl) (Nat.le_of_ble_eq_true rfl) dL_passOn_19
    exact ⟨S9, hF, hJ, by rw [k2], Or.inl ⟨k2, rfl⟩⟩

theorem calH_addVersion : CalH yL_addVersion cL_addVersion 5 (some FieldType.int) [(0, 10, 13, 19), (0, 10, 17, 21), (0, 10, 21, 31), (0, 10, 25, 13)] 4 := ⟨by decide +kernel, ⟨by decide +kernel, by decide +kernel, by decide +kernel⟩, WALL_at 1092 (by decide +kernel) rfl, ini_La⟩
set_option maxHeartbeats 1000000 in
theorem w_addVersion (l : Launch) (hfl : l.stackTraces = false) {D : wD} {S : wS} {q9 a9 : Nat} {M : wM} (h : Jn D.2.2.1 S q9 M) (ha : sK S a9 = 10 ∧ sN S a9 = 1) {f a : Int} (h_f : rg f)  (h_a : rg a) : CtH l D yL_addVersion cL_addVersion 5 (some FieldType.int) [(0, 10, 13, 19), (0, 10, 17, 21), (0, 10, 21, 31), (0, 10, 25, 13)] 21 100 6000 [.ref q9, .int (iN f), .int (iN a), .ref a9] S (wrP D.2.2.1 S q9 10 a9 (x_addVersion M f a) (.long (iN (v_addVersion M f a)).toInt64) (n_addVersion M f a)) := by
  refine CtH.of calH_addVersion hfl (Nat.le_of_ble_eq_true rfl) ?_
  intro p e s m args below meth c sz hs C MH
  refine j_aload_n C dL_addVersion_0 rfl ?_
  refine j_iconst C dL_addVersion_1 ?_
  refine j_aload_n C dL_addVersion_2 rfl ?_
  refine j_iload_n C dL_addVersion_3 rfl ?_
  refine j_iload_n C dL_addVersion_4 rfl ?_
  refine j_callVD C (s_addVersion l hfl h h_f h_a) cal_X5_addVersion vi_X5_addVersion ml_La_93 h.k6 ⟨by decide, by decide, rfl⟩ rfl rfl (Nat.le_of_ble_eq_true rfl) ⟨by decide, by decide⟩ ⟨(Nat.le_of_ble_eq_true rfl), (Nat.le_of_ble_eq_true rfl)⟩ dL_addVersion_5 (fun E S9 h9 => ?_) (fun v9 S9 h9 => ?_)
  · obtain ⟨hF, hJ, ⟨-, h9⟩ | ⟨k9, e9, k1, k2, k3, k4⟩⟩ := h9
    · exact nomatch h9
    · cases k3
      subst k4
      rcases (show k9 = 0 ∨ k9 = 1 ∨ k9 = 2 ∨ k9 = 3 ∨ 4 ≤ k9 by omega) with rfl | rfl | rfl | rfl | k9
      · cases k1
        refine j_catch C MH (name := xI) ((tableOf [(0, 10, 13, 19), (0, 10, 17, 21), (0, 10, 21, 31), (0, 10, 25, 13)]).take 0) (tableOf [(0, 10, 13, 19), (0, 10, 17, 21), (0, 10, 21, 31), (0, 10, 25, 13)])[0] ((tableOf [(0, 10, 13, 19), (0, 10, 17, 21), (0, 10, 21, 31), (0, 10, 25, 13)]).drop 1) rfl (fun z hz => ?_) (by decide) (by decide) cl_La_19 (by simp [wCas, xI, xA, xU, xS, xN]) (fun q8 => ?_)
        · exact nomatch hz
        refine j_astore C dL_addVersion_13 (by decide) ?_
        refine j_iconst C dL_addVersion_15 ?_
        refine j_iretH C MH ?_ (Nat.le_of_ble_eq_true rfl) (Nat.le_of_ble_eq_true rfl) dL_addVersion_16
        exact ⟨_, hF, hJ, by rw [k2]; rfl, Or.inr ⟨by omega, rfl⟩⟩
      · cases k1
        refine j_catch C MH (name := xA) ((tableOf [(0, 10, 13, 19), (0, 10, 17, 21), (0, 10, 21, 31), (0, 10, 25, 13)]).take 1) (tableOf [(0, 10, 13, 19), (0, 10, 17, 21), (0, 10, 21, 31), (0, 10, 25, 13)])[1] ((tableOf [(0, 10, 13, 19), (0, 10, 17, 21), (0, 10, 21, 31), (0, 10, 25, 13)]).drop 2) rfl (fun z hz => ?_) (by decide) (by decide) cl_La_21 (by simp [wCas, xI, xA, xU, xS, xN]) (fun q8 => ?_)
        · have hz : z = (tableOf [(0, 10, 13, 19), (0, 10, 17, 21), (0, 10, 21, 31), (0, 10, 25, 13)])[0] := by simpa [tableOf] using hz
          rcases hz with rfl
          · exact Or.inr ⟨by decide, xI, cl_La_19, hs.2 (xA, xI) (by simp [wNc])⟩
        refine j_astore C dL_addVersion_17 (by decide) ?_
        refine j_iconst C dL_addVersion_19 ?_
        refine j_iretH C MH ?_ (Nat.le_of_ble_eq_true rfl) (Nat.le_of_ble_eq_true rfl) dL_addVersion_20
        exact ⟨_, hF, hJ, by rw [k2]; rfl, Or.inr ⟨by omega, rfl⟩⟩
      · cases k1
        refine j_catch C MH (name := xU) ((tableOf [(0, 10, 13, 19), (0, 10, 17, 21), (0, 10, 21, 31), (0, 10, 25, 13)]).take 2) (tableOf [(0, 10, 13, 19), (0, 10, 17, 21), (0, 10, 21, 31), (0, 10, 25, 13)])[2] ((tableOf [(0, 10, 13, 19), (0, 10, 17, 21), (0, 10, 21, 31), (0, 10, 25, 13)]).drop 3) rfl (fun z hz => ?_) (by decide) (by decide) cl_La_31 (by simp [wCas, xI, xA, xU, xS, xN]) (fun q8 => ?_)
        · have hz : z = (tableOf [(0, 10, 13, 19), (0, 10, 17, 21), (0, 10, 21, 31), (0, 10, 25, 13)])[0] ∨ z = (tableOf [(0, 10, 13, 19), (0, 10, 17, 21), (0, 10, 21, 31), (0, 10, 25, 13)])[1] := by simpa [tableOf] using hz
          rcases hz with rfl | rfl
          · exact Or.inr ⟨by decide, xI, cl_La_19, hs.2 (xU, xI) (by simp [wNc])⟩
          · exact Or.inr ⟨by decide, xA, cl_La_21, hs.2 (xU, xA) (by simp [wNc])⟩
        refine j_astore C dL_addVersion_21 (by decide) ?_
        refine j_iconst C dL_addVersion_23 ?_
        refine j_iretH C MH ?_ (Nat.le_of_ble_eq_true rfl) (Nat.le_of_ble_eq_true rfl) dL_addVersion_24
        exact ⟨_, hF, hJ, by rw [k2]; rfl, Or.inr ⟨by omega, rfl⟩⟩
      · cases k1
        refine j_catch C MH (name := xS) ((tableOf [(0, 10, 13, 19), (0, 10, 17, 21), (0, 10, 21, 31), (0, 10, 25, 13)]).take 3) (tableOf [(0, 10, 13, 19), (0, 10, 17, 21), (0, 10, 21, 31), (0, 10, 25, 13)])[3] ((tableOf [(0, 10, 13, 19), (0, 10, 17, 21), (0, 10, 21, 31), (0, 10, 25, 13)]).drop 4) rfl (fun z hz => ?_) (by decide) (by decide) cl_La_13 (by simp [wCas, xI, xA, xU, xS, xN]) (fun q8 => ?_)
        · have hz : z = (tableOf [(0, 10, 13, 19), (0, 10, 17, 21), (0, 10, 21, 31), (0, 10, 25, 13)])[0] ∨ z = (tableOf [(0, 10, 13, 19), (0, 10, 17, 21), (0, 10, 21, 31), (0, 10, 25, 13)])[1] ∨ z = (tableOf [(0, 10, 13, 19), (0, 10, 17, 21), (0, 10, 21, 31), (0, 10, 25, 13)])[2] := by simpa [tableOf] using hz
          rcases hz with rfl | rfl | rfl
          · exact Or.inr ⟨by decide, xI, cl_La_19, hs.2 (xS, xI) (by simp [wNc])⟩
          · exact Or.inr ⟨by decide, xA, cl_La_21, hs.2 (xS, xA) (by simp [wNc])⟩
          · exact Or.inr ⟨by decide, xU, cl_La_31, hs.2 (xS, xU) (by simp [wNc])⟩
        refine j_astore C dL_addVersion_25 (by decide) ?_
        refine j_iconst C dL_addVersion_27 ?_
        refine j_iretH C MH ?_ (Nat.le_of_ble_eq_true rfl) (Nat.le_of_ble_eq_true rfl) dL_addVersion_28
        exact ⟨_, hF, hJ, by rw [k2]; rfl, Or.inr ⟨by omega, rfl⟩⟩
      · rw [List.getElem?_eq_none (by simpa using k9)] at k1
        exact nomatch k1
  · obtain ⟨hF, hJ, ⟨k2, h9⟩ | ⟨k9, e9, k1, k2, k3, k4⟩⟩ := h9
    rotate_left
    · exact nomatch k3
    cases h9
    have f9 := hF a9 (by rw [ha.1]; decide)
    refine j_i2lx C dL_addVersion_8 ?_
    refine j_last C (f9.1.trans ha.1) ⟨by decide, by rw [f9.2.1, ha.2]; decide, by decide⟩ dL_addVersion_9 ?_
    refine j_goto (tgt := 29) C dL_addVersion_10 (by decide) ?_
    refine j_iconst C dL_addVersion_29 ?_
    refine j_iretH C MH ?_ (Nat.le_of_ble_eq_true rfl) (Nat.le_of_ble_eq_true rfl) dL_addVersion_30
    exact ⟨S9, hF, hJ, by rw [k2], Or.inl ⟨k2, rfl⟩⟩

theorem calH_leaveOut : CalH yL_leaveOut cL_leaveOut 7 (some FieldType.int) [(0, 14, 17, 19), (0, 14, 21, 21)] 6 := ⟨by decide +kernel, ⟨by decide +kernel, by decide +kernel, by decide +kernel⟩, WALL_at 1124 (by decide +kernel) rfl, ini_La⟩
set_option maxHeartbeats 1000000 in
theorem w_leaveOut (l : Launch) (hfl : l.stackTraces = false) {D : wD} {S : wS} {q9 a9 : Nat} {M : wM} (h : Jn D.2.2.1 S q9 M) (ha : sK S a9 = 10 ∧ sN S a9 = 1) {f a b : Int} (h_f : rg f)  (h_a : rg a)  (h_b : rg b) {w : Bool} : CtH l D yL_leaveOut cL_leaveOut 7 (some FieldType.int) [(0, 14, 17, 19), (0, 14, 21, 21)] 21 100 6000 [.ref q9, .int (iN f), .int (iN a), .int (iN b), .int (iN (bN w)), .ref a9] S (wrP D.2.2.1 S q9 10 a9 (x_leaveOut M f a b w) (.long (iN (v_leaveOut M f a b w)).toInt64) (n_leaveOut M f a b w)) := by
  refine CtH.of calH_leaveOut hfl (Nat.le_of_ble_eq_true rfl) ?_
  intro p e s m args below meth c sz hs C MH
  refine j_aload C dL_leaveOut_0 rfl ?_
  refine j_iconst C dL_leaveOut_2 ?_
  refine j_aload_n C dL_leaveOut_3 rfl ?_
  refine j_iload_n C dL_leaveOut_4 rfl ?_
  refine j_iload_n C dL_leaveOut_5 rfl ?_
  refine j_iload_n C dL_leaveOut_6 rfl ?_
  refine j_iload C dL_leaveOut_7 rfl ?_
  refine j_callV C (s_leaveOut l hfl h h_f h_a h_b) cal_X5_leaveOut vi_X5_leaveOut ml_La_96 h.k6 ⟨by decide, by decide, rfl⟩ rfl rfl (Nat.le_of_ble_eq_true rfl) ⟨by decide, by decide⟩ ⟨(Nat.le_of_ble_eq_true rfl), (Nat.le_of_ble_eq_true rfl)⟩ dL_leaveOut_9 (fun E S9 h9 => ?_) (fun v9 S9 h9 => ?_)
  · obtain ⟨hF, hJ, ⟨-, h9⟩ | ⟨k9, e9, k1, k2, k3, k4⟩⟩ := h9
    · exact nomatch h9
    · cases k3
      subst k4
      rcases (show k9 = 0 ∨ k9 = 1 ∨ 2 ≤ k9 by omega) with rfl | rfl | k9
      · cases k1
        refine j_catch C MH (name := xI) ((tableOf [(0, 14, 17, 19), (0, 14, 21, 21)]).take 0) (tableOf [(0, 14, 17, 19), (0, 14, 21, 21)])[0] ((tableOf [(0, 14, 17, 19), (0, 14, 21, 21)]).drop 1) rfl (fun z hz => ?_) (by decide) (by decide) cl_La_19 (by simp [wCas, xI, xA, xU, xS, xN]) (fun q8 => ?_)
        · exact nomatch hz
        refine j_astore C dL_leaveOut_17 (by decide) ?_
        refine j_iconst C dL_leaveOut_19 ?_
        refine j_iretH C MH ?_ (Nat.le_of_ble_eq_true rfl) (Nat.le_of_ble_eq_true rfl) dL_leaveOut_20
        exact ⟨_, hF, hJ, by rw [k2]; rfl, Or.inr ⟨by omega, rfl⟩⟩
      · cases k1
        refine j_catch C MH (name := xA) ((tableOf [(0, 14, 17, 19), (0, 14, 21, 21)]).take 1) (tableOf [(0, 14, 17, 19), (0, 14, 21, 21)])[1] ((tableOf [(0, 14, 17, 19), (0, 14, 21, 21)]).drop 2) rfl (fun z hz => ?_) (by decide) (by decide) cl_La_21 (by simp [wCas, xI, xA, xU, xS, xN]) (fun q8 => ?_)
        · have hz : z = (tableOf [(0, 14, 17, 19), (0, 14, 21, 21)])[0] := by simpa [tableOf] using hz
          rcases hz with rfl
          · exact Or.inr ⟨by decide, xI, cl_La_19, hs.2 (xA, xI) (by simp [wNc])⟩
        refine j_astore C dL_leaveOut_21 (by decide) ?_
        refine j_iconst C dL_leaveOut_23 ?_
        refine j_iretH C MH ?_ (Nat.le_of_ble_eq_true rfl) (Nat.le_of_ble_eq_true rfl) dL_leaveOut_24
        exact ⟨_, hF, hJ, by rw [k2]; rfl, Or.inr ⟨by omega, rfl⟩⟩
      · rw [List.getElem?_eq_none (by simpa using k9)] at k1
        exact nomatch k1
  · obtain ⟨hF, hJ, ⟨k2, h9⟩ | ⟨k9, e9, k1, k2, k3, k4⟩⟩ := h9
    rotate_left
    · exact nomatch k3
    cases h9
    have f9 := hF a9 (by rw [ha.1]; decide)
    refine j_i2lx C dL_leaveOut_12 ?_
    refine j_last C (f9.1.trans ha.1) ⟨by decide, by rw [f9.2.1, ha.2]; decide, by decide⟩ dL_leaveOut_13 ?_
    refine j_goto (tgt := 25) C dL_leaveOut_14 (by decide) ?_
    refine j_iconst C dL_leaveOut_25 ?_
    refine j_iretH C MH ?_ (Nat.le_of_ble_eq_true rfl) (Nat.le_of_ble_eq_true rfl) dL_leaveOut_26
    exact ⟨S9, hF, hJ, by rw [k2], Or.inl ⟨k2, rfl⟩⟩

theorem calH_lend : CalH yL_lend cL_lend 7 (some FieldType.int) [(0, 14, 17, 19), (0, 14, 21, 21), (0, 14, 25, 31), (0, 14, 29, 13)] 6 := ⟨by decide +kernel, ⟨by decide +kernel, by decide +kernel, by decide +kernel⟩, WALL_at 1150 (by decide +kernel) rfl, ini_La⟩
set_option maxHeartbeats 1000000 in
theorem w_lend (l : Launch) (hfl : l.stackTraces = false) {D : wD} {S : wS} {q9 a9 : Nat} {M : wM} (h : Jn D.2.2.1 S q9 M) (ha : sK S a9 = 10 ∧ sN S a9 = 1) {f a b g : Int} (h_f : rg f)  (h_a : rg a)  (h_b : rg b)  (h_g : rg g) : CtH l D yL_lend cL_lend 7 (some FieldType.int) [(0, 14, 17, 19), (0, 14, 21, 21), (0, 14, 25, 31), (0, 14, 29, 13)] 21 100 6000 [.ref q9, .int (iN f), .int (iN a), .int (iN b), .int (iN g), .ref a9] S (wrP D.2.2.1 S q9 10 a9 (x_lend M f a b g) (.long (iN (v_lend M f a b g)).toInt64) (n_lend M f a b g)) := by
  refine CtH.of calH_lend hfl (Nat.le_of_ble_eq_true rfl) ?_
  intro p e s m args below meth c sz hs C MH
  refine j_aload C dL_lend_0 rfl ?_
  refine j_iconst C dL_lend_2 ?_
  refine j_aload_n C dL_lend_3 rfl ?_
  refine j_iload_n C dL_lend_4 rfl ?_
  refine j_iload_n C dL_lend_5 rfl ?_
  refine j_iload_n C dL_lend_6 rfl ?_
  refine j_iload C dL_lend_7 rfl ?_
  refine j_callVD C (s_lend l hfl h h_f h_a h_b h_g) cal_X5_lend vi_X5_lend ml_La_103 h.k6 ⟨by decide, by decide, rfl⟩ rfl rfl (Nat.le_of_ble_eq_true rfl) ⟨by decide, by decide⟩ ⟨(Nat.le_of_ble_eq_true rfl), (Nat.le_of_ble_eq_true rfl)⟩ dL_lend_9 (fun E S9 h9 => ?_) (fun v9 S9 h9 => ?_)
  · obtain ⟨hF, hJ, ⟨-, h9⟩ | ⟨k9, e9, k1, k2, k3, k4⟩⟩ := h9
    · exact nomatch h9
    · cases k3
      subst k4
      rcases (show k9 = 0 ∨ k9 = 1 ∨ k9 = 2 ∨ k9 = 3 ∨ 4 ≤ k9 by omega) with rfl | rfl | rfl | rfl | k9
      · cases k1
        refine j_catch C MH (name := xI) ((tableOf [(0, 14, 17, 19), (0, 14, 21, 21), (0, 14, 25, 31), (0, 14, 29, 13)]).take 0) (tableOf [(0, 14, 17, 19), (0, 14, 21, 21), (0, 14, 25, 31), (0, 14, 29, 13)])[0] ((tableOf [(0, 14, 17, 19), (0, 14, 21, 21), (0, 14, 25, 31), (0, 14, 29, 13)]).drop 1) rfl (fun z hz => ?_) (by decide) (by decide) cl_La_19 (by simp [wCas, xI, xA, xU, xS, xN]) (fun q8 => ?_)
        · exact nomatch hz
        refine j_astore C dL_lend_17 (by decide) ?_
        refine j_iconst C dL_lend_19 ?_
        refine j_iretH C MH ?_ (Nat.le_of_ble_eq_true rfl) (Nat.le_of_ble_eq_true rfl) dL_lend_20
        exact ⟨_, hF, hJ, by rw [k2]; rfl, Or.inr ⟨by omega, rfl⟩⟩
      · cases k1
        refine j_catch C MH (name := xA) ((tableOf [(0, 14, 17, 19), (0, 14, 21, 21), (0, 14, 25, 31), (0, 14, 29, 13)]).take 1) (tableOf [(0, 14, 17, 19), (0, 14, 21, 21), (0, 14, 25, 31), (0, 14, 29, 13)])[1] ((tableOf [(0, 14, 17, 19), (0, 14, 21, 21), (0, 14, 25, 31), (0, 14, 29, 13)]).drop 2) rfl (fun z hz => ?_) (by decide) (by decide) cl_La_21 (by simp [wCas, xI, xA, xU, xS, xN]) (fun q8 => ?_)
        · have hz : z = (tableOf [(0, 14, 17, 19), (0, 14, 21, 21), (0, 14, 25, 31), (0, 14, 29, 13)])[0] := by simpa [tableOf] using hz
          rcases hz with rfl
          · exact Or.inr ⟨by decide, xI, cl_La_19, hs.2 (xA, xI) (by simp [wNc])⟩
        refine j_astore C dL_lend_21 (by decide) ?_
        refine j_iconst C dL_lend_23 ?_
        refine j_iretH C MH ?_ (Nat.le_of_ble_eq_true rfl) (Nat.le_of_ble_eq_true rfl) dL_lend_24
        exact ⟨_, hF, hJ, by rw [k2]; rfl, Or.inr ⟨by omega, rfl⟩⟩
      · cases k1
        refine j_catch C MH (name := xU) ((tableOf [(0, 14, 17, 19), (0, 14, 21, 21), (0, 14, 25, 31), (0, 14, 29, 13)]).take 2) (tableOf [(0, 14, 17, 19), (0, 14, 21, 21), (0, 14, 25, 31), (0, 14, 29, 13)])[2] ((tableOf [(0, 14, 17, 19), (0, 14, 21, 21), (0, 14, 25, 31), (0, 14, 29, 13)]).drop 3) rfl (fun z hz => ?_) (by decide) (by decide) cl_La_31 (by simp [wCas, xI, xA, xU, xS, xN]) (fun q8 => ?_)
        · have hz : z = (tableOf [(0, 14, 17, 19), (0, 14, 21, 21), (0, 14, 25, 31), (0, 14, 29, 13)])[0] ∨ z = (tableOf [(0, 14, 17, 19), (0, 14, 21, 21), (0, 14, 25, 31), (0, 14, 29, 13)])[1] := by simpa [tableOf] using hz
          rcases hz with rfl | rfl
          · exact Or.inr ⟨by decide, xI, cl_La_19, hs.2 (xU, xI) (by simp [wNc])⟩
          · exact Or.inr ⟨by decide, xA, cl_La_21, hs.2 (xU, xA) (by simp [wNc])⟩
        refine j_astore C dL_lend_25 (by decide) ?_
        refine j_iconst C dL_lend_27 ?_
        refine j_iretH C MH ?_ (Nat.le_of_ble_eq_true rfl) (Nat.le_of_ble_eq_true rfl) dL_lend_28
        exact ⟨_, hF, hJ, by rw [k2]; rfl, Or.inr ⟨by omega, rfl⟩⟩
      · cases k1
        refine j_catch C MH (name := xS) ((tableOf [(0, 14, 17, 19), (0, 14, 21, 21), (0, 14, 25, 31), (0, 14, 29, 13)]).take 3) (tableOf [(0, 14, 17, 19), (0, 14, 21, 21), (0, 14, 25, 31), (0, 14, 29, 13)])[3] ((tableOf [(0, 14, 17, 19), (0, 14, 21, 21), (0, 14, 25, 31), (0, 14, 29, 13)]).drop 4) rfl (fun z hz => ?_) (by decide) (by decide) cl_La_13 (by simp [wCas, xI, xA, xU, xS, xN]) (fun q8 => ?_)
        · have hz : z = (tableOf [(0, 14, 17, 19), (0, 14, 21, 21), (0, 14, 25, 31), (0, 14, 29, 13)])[0] ∨ z = (tableOf [(0, 14, 17, 19), (0, 14, 21, 21), (0, 14, 25, 31), (0, 14, 29, 13)])[1] ∨ z = (tableOf [(0, 14, 17, 19), (0, 14, 21, 21), (0, 14, 25, 31), (0, 14, 29, 13)])[2] := by simpa [tableOf] using hz
          rcases hz with rfl | rfl | rfl
          · exact Or.inr ⟨by decide, xI, cl_La_19, hs.2 (xS, xI) (by simp [wNc])⟩
          · exact Or.inr ⟨by decide, xA, cl_La_21, hs.2 (xS, xA) (by simp [wNc])⟩
          · exact Or.inr ⟨by decide, xU, cl_La_31, hs.2 (xS, xU) (by simp [wNc])⟩
        refine j_astore C dL_lend_29 (by decide) ?_
        refine j_iconst C dL_lend_31 ?_
        refine j_iretH C MH ?_ (Nat.le_of_ble_eq_true rfl) (Nat.le_of_ble_eq_true rfl) dL_lend_32
        exact ⟨_, hF, hJ, by rw [k2]; rfl, Or.inr ⟨by omega, rfl⟩⟩
      · rw [List.getElem?_eq_none (by simpa using k9)] at k1
        exact nomatch k1
  · obtain ⟨hF, hJ, ⟨k2, h9⟩ | ⟨k9, e9, k1, k2, k3, k4⟩⟩ := h9
    rotate_left
    · exact nomatch k3
    cases h9
    have f9 := hF a9 (by rw [ha.1]; decide)
    refine j_i2lx C dL_lend_12 ?_
    refine j_last C (f9.1.trans ha.1) ⟨by decide, by rw [f9.2.1, ha.2]; decide, by decide⟩ dL_lend_13 ?_
    refine j_goto (tgt := 33) C dL_lend_14 (by decide) ?_
    refine j_iconst C dL_lend_33 ?_
    refine j_iretH C MH ?_ (Nat.le_of_ble_eq_true rfl) (Nat.le_of_ble_eq_true rfl) dL_lend_34
    exact ⟨S9, hF, hJ, by rw [k2], Or.inl ⟨k2, rfl⟩⟩

theorem calH_show : CalH yL_show cL_show 4 (some FieldType.int) [(0, 9, 12, 19), (0, 9, 15, 31)] 3 := ⟨by decide +kernel, ⟨by decide +kernel, by decide +kernel, by decide +kernel⟩, WALL_at 1188 (by decide +kernel) rfl, ini_La⟩
set_option maxHeartbeats 1000000 in
theorem w_show (l : Launch) (hfl : l.stackTraces = false) {D : wD} {S : wS} {q9 a9 : Nat} {M : wM} (h : Jn D.2.2.1 S q9 M) (ha : sK S a9 = 10 ∧ sN S a9 = 1) {z : Int} (h_z : rg z) : CtH l D yL_show cL_show 4 (some FieldType.int) [(0, 9, 12, 19), (0, 9, 15, 31)] 21 100 6000 [.ref q9, .int (iN z), .ref a9] S (wrP D.2.2.1 S q9 10 a9 (x_show M z) (.long (iN (v_show M z)).toInt64) (n_show M z)) := by
  refine CtH.of calH_show hfl (Nat.le_of_ble_eq_true rfl) ?_
  intro p e s m args below meth c sz hs C MH
  refine j_aload_n C dL_show_0 rfl ?_
  refine j_iconst C dL_show_1 ?_
  refine j_aload_n C dL_show_2 rfl ?_
  refine j_iload_n C dL_show_3 rfl ?_
  refine j_callV C (s_show l hfl h h_z) cal_X5_show vi_X5_show ml_La_106 h.k6 ⟨by decide, by decide, rfl⟩ rfl rfl (Nat.le_of_ble_eq_true rfl) ⟨by decide, by decide⟩ ⟨(Nat.le_of_ble_eq_true rfl), (Nat.le_of_ble_eq_true rfl)⟩ dL_show_4 (fun E S9 h9 => ?_) (fun v9 S9 h9 => ?_)
  · obtain ⟨hF, hJ, ⟨-, h9⟩ | ⟨k9, e9, k1, k2, k3, k4⟩⟩ := h9
    · exact nomatch h9
    · cases k3
      subst k4
      rcases (show k9 = 0 ∨ k9 = 1 ∨ 2 ≤ k9 by omega) with rfl | rfl | k9
      · cases k1
        refine j_catch C MH (name := xI) ((tableOf [(0, 9, 12, 19), (0, 9, 15, 31)]).take 0) (tableOf [(0, 9, 12, 19), (0, 9, 15, 31)])[0] ((tableOf [(0, 9, 12, 19), (0, 9, 15, 31)]).drop 1) rfl (fun z hz => ?_) (by decide) (by decide) cl_La_19 (by simp [wCas, xI, xA, xU, xS, xN]) (fun q8 => ?_)
        · exact nomatch hz
        refine j_astore_n C dL_show_12 (by decide) ?_
        refine j_iconst C dL_show_13 ?_
        refine j_iretH C MH ?_ (Nat.le_of_ble_eq_true rfl) (Nat.le_of_ble_eq_true rfl) dL_show_14
        exact ⟨_, hF, hJ, by rw [k2]; rfl, Or.inr ⟨by omega, rfl⟩⟩
      · cases k1
        refine j_catch C MH (name := xU) ((tableOf [(0, 9, 12, 19), (0, 9, 15, 31)]).take 1) (tableOf [(0, 9, 12, 19), (0, 9, 15, 31)])[1] ((tableOf [(0, 9, 12, 19), (0, 9, 15, 31)]).drop 2) rfl (fun z hz => ?_) (by decide) (by decide) cl_La_31 (by simp [wCas, xI, xA, xU, xS, xN]) (fun q8 => ?_)
        · have hz : z = (tableOf [(0, 9, 12, 19), (0, 9, 15, 31)])[0] := by simpa [tableOf] using hz
          rcases hz with rfl
          · exact Or.inr ⟨by decide, xI, cl_La_19, hs.2 (xU, xI) (by simp [wNc])⟩
        refine j_astore_n C dL_show_15 (by decide) ?_
        refine j_iconst C dL_show_16 ?_
        refine j_iretH C MH ?_ (Nat.le_of_ble_eq_true rfl) (Nat.le_of_ble_eq_true rfl) dL_show_17
        exact ⟨_, hF, hJ, by rw [k2]; rfl, Or.inr ⟨by omega, rfl⟩⟩
      · rw [List.getElem?_eq_none (by simpa using k9)] at k1
        exact nomatch k1
  · obtain ⟨hF, hJ, ⟨k2, h9⟩ | ⟨k9, e9, k1, k2, k3, k4⟩⟩ := h9
    rotate_left
    · exact nomatch k3
    cases h9
    have f9 := hF a9 (by rw [ha.1]; decide)
    refine j_i2lx C dL_show_7 ?_
    refine j_last C (f9.1.trans ha.1) ⟨by decide, by rw [f9.2.1, ha.2]; decide, by decide⟩ dL_show_8 ?_
    refine j_goto (tgt := 18) C dL_show_9 (by decide) ?_
    refine j_iconst C dL_show_18 ?_
    refine j_iretH C MH ?_ (Nat.le_of_ble_eq_true rfl) (Nat.le_of_ble_eq_true rfl) dL_show_19
    exact ⟨S9, hF, hJ, by rw [k2], Or.inl ⟨k2, rfl⟩⟩

theorem calH_frameOf : CalH yL_frameOf cL_frameOf 4 (some FieldType.int) [(0, 9, 12, 19), (0, 9, 15, 52)] 3 := ⟨by decide +kernel, ⟨by decide +kernel, by decide +kernel, by decide +kernel⟩, WALL_at 899 (by decide +kernel) rfl, ini_La⟩
set_option maxHeartbeats 1000000 in
theorem w_frameOf (l : Launch) (hfl : l.stackTraces = false) {D : wD} {S : wS} {q9 a9 : Nat} {M : wM} (h : Jn D.2.2.1 S q9 M) (ha : sK S a9 = 10 ∧ sN S a9 = 1) {z : Int} (h_z : rg z) : CtH l D yL_frameOf cL_frameOf 4 (some FieldType.int) [(0, 9, 12, 19), (0, 9, 15, 52)] 21 100 6000 [.ref q9, .int (iN z), .ref a9] S (wrP D.2.2.1 S q9 10 a9 (x_frameOf M z) (.long (iN (v_frameOf M z)).toInt64) (n_frameOf M z)) := by
  refine CtH.of calH_frameOf hfl (Nat.le_of_ble_eq_true rfl) ?_
  intro p e s m args below meth c sz hs C MH
  refine j_aload_n C dL_frameOf_0 rfl ?_
  refine j_iconst C dL_frameOf_1 ?_
  refine j_aload_n C dL_frameOf_2 rfl ?_
  refine j_iload_n C dL_frameOf_3 rfl ?_
  refine j_callV C (s_frameOf l hfl h h_z) cal_X5_frameOf vi_X5_frameOf ml_La_49 h.k6 ⟨by decide, by decide, rfl⟩ rfl rfl (Nat.le_of_ble_eq_true rfl) ⟨by decide, by decide⟩ ⟨(Nat.le_of_ble_eq_true rfl), (Nat.le_of_ble_eq_true rfl)⟩ dL_frameOf_4 (fun E S9 h9 => ?_) (fun v9 S9 h9 => ?_)
  · obtain ⟨hF, hJ, ⟨-, h9⟩ | ⟨k9, e9, k1, k2, k3, k4⟩⟩ := h9
    · exact nomatch h9
    · cases k3
      subst k4
      rcases (show k9 = 0 ∨ k9 = 1 ∨ 2 ≤ k9 by omega) with rfl | rfl | k9
      · cases k1
        refine j_catch C MH (name := xI) ((tableOf [(0, 9, 12, 19), (0, 9, 15, 52)]).take 0) (tableOf [(0, 9, 12, 19), (0, 9, 15, 52)])[0] ((tableOf [(0, 9, 12, 19), (0, 9, 15, 52)]).drop 1) rfl (fun z hz => ?_) (by decide) (by decide) cl_La_19 (by simp [wCas, xI, xA, xU, xS, xN]) (fun q8 => ?_)
        · exact nomatch hz
        refine j_astore_n C dL_frameOf_12 (by decide) ?_
        refine j_iconst C dL_frameOf_13 ?_
        refine j_iretH C MH ?_ (Nat.le_of_ble_eq_true rfl) (Nat.le_of_ble_eq_true rfl) dL_frameOf_14
        exact ⟨_, hF, hJ, by rw [k2]; rfl, Or.inr ⟨by omega, rfl⟩⟩
      · cases k1
        refine j_catch C MH (name := xN) ((tableOf [(0, 9, 12, 19), (0, 9, 15, 52)]).take 1) (tableOf [(0, 9, 12, 19), (0, 9, 15, 52)])[1] ((tableOf [(0, 9, 12, 19), (0, 9, 15, 52)]).drop 2) rfl (fun z hz => ?_) (by decide) (by decide) cl_La_52 (by simp [wCas, xI, xA, xU, xS, xN]) (fun q8 => ?_)
        · have hz : z = (tableOf [(0, 9, 12, 19), (0, 9, 15, 52)])[0] := by simpa [tableOf] using hz
          rcases hz with rfl
          · exact Or.inr ⟨by decide, xI, cl_La_19, hs.2 (xN, xI) (by simp [wNc])⟩
        refine j_astore_n C dL_frameOf_15 (by decide) ?_
        refine j_iconst C dL_frameOf_16 ?_
        refine j_iretH C MH ?_ (Nat.le_of_ble_eq_true rfl) (Nat.le_of_ble_eq_true rfl) dL_frameOf_17
        exact ⟨_, hF, hJ, by rw [k2]; rfl, Or.inr ⟨by omega, rfl⟩⟩
      · rw [List.getElem?_eq_none (by simpa using k9)] at k1
        exact nomatch k1
  · obtain ⟨hF, hJ, ⟨k2, h9⟩ | ⟨k9, e9, k1, k2, k3, k4⟩⟩ := h9
    rotate_left
    · exact nomatch k3
    cases h9
    have f9 := hF a9 (by rw [ha.1]; decide)
    refine j_i2lx C dL_frameOf_7 ?_
    refine j_last C (f9.1.trans ha.1) ⟨by decide, by rw [f9.2.1, ha.2]; decide, by decide⟩ dL_frameOf_8 ?_
    refine j_goto (tgt := 18) C dL_frameOf_9 (by decide) ?_
    refine j_iconst C dL_frameOf_18 ?_
    refine j_iretH C MH ?_ (Nat.le_of_ble_eq_true rfl) (Nat.le_of_ble_eq_true rfl) dL_frameOf_19
    exact ⟨S9, hF, hJ, by rw [k2], Or.inl ⟨k2, rfl⟩⟩

theorem calH_shotAt : CalH yL_shotAt cL_shotAt 5 (some FieldType.int) [(0, 10, 13, 19), (0, 10, 17, 52)] 4 := ⟨by decide +kernel, ⟨by decide +kernel, by decide +kernel, by decide +kernel⟩, WALL_at 929 (by decide +kernel) rfl, ini_La⟩
set_option maxHeartbeats 1000000 in
theorem w_shotAt (l : Launch) (hfl : l.stackTraces = false) {D : wD} {S : wS} {q9 a9 : Nat} {M : wM} (h : Jn D.2.2.1 S q9 M) (ha : sK S a9 = 10 ∧ sN S a9 = 1) {f z : Int} (h_f : rg f)  (h_z : rg z) : CtH l D yL_shotAt cL_shotAt 5 (some FieldType.int) [(0, 10, 13, 19), (0, 10, 17, 52)] 21 100 6000 [.ref q9, .int (iN f), .int (iN z), .ref a9] S (wrP D.2.2.1 S q9 10 a9 (x_shotAt M f z) (.long (iN (v_shotAt M f z)).toInt64) (n_shotAt M f z)) := by
  refine CtH.of calH_shotAt hfl (Nat.le_of_ble_eq_true rfl) ?_
  intro p e s m args below meth c sz hs C MH
  refine j_aload_n C dL_shotAt_0 rfl ?_
  refine j_iconst C dL_shotAt_1 ?_
  refine j_aload_n C dL_shotAt_2 rfl ?_
  refine j_iload_n C dL_shotAt_3 rfl ?_
  refine j_iload_n C dL_shotAt_4 rfl ?_
  refine j_callV C (s_shotAt l hfl h h_f h_z) cal_X5_shotAt vi_X5_shotAt ml_La_54 h.k6 ⟨by decide, by decide, rfl⟩ rfl rfl (Nat.le_of_ble_eq_true rfl) ⟨by decide, by decide⟩ ⟨(Nat.le_of_ble_eq_true rfl), (Nat.le_of_ble_eq_true rfl)⟩ dL_shotAt_5 (fun E S9 h9 => ?_) (fun v9 S9 h9 => ?_)
  · obtain ⟨hF, hJ, ⟨-, h9⟩ | ⟨k9, e9, k1, k2, k3, k4⟩⟩ := h9
    · exact nomatch h9
    · cases k3
      subst k4
      rcases (show k9 = 0 ∨ k9 = 1 ∨ 2 ≤ k9 by omega) with rfl | rfl | k9
      · cases k1
        refine j_catch C MH (name := xI) ((tableOf [(0, 10, 13, 19), (0, 10, 17, 52)]).take 0) (tableOf [(0, 10, 13, 19), (0, 10, 17, 52)])[0] ((tableOf [(0, 10, 13, 19), (0, 10, 17, 52)]).drop 1) rfl (fun z hz => ?_) (by decide) (by decide) cl_La_19 (by simp [wCas, xI, xA, xU, xS, xN]) (fun q8 => ?_)
        · exact nomatch hz
        refine j_astore C dL_shotAt_13 (by decide) ?_
        refine j_iconst C dL_shotAt_15 ?_
        refine j_iretH C MH ?_ (Nat.le_of_ble_eq_true rfl) (Nat.le_of_ble_eq_true rfl) dL_shotAt_16
        exact ⟨_, hF, hJ, by rw [k2]; rfl, Or.inr ⟨by omega, rfl⟩⟩
      · cases k1
        refine j_catch C MH (name := xN) ((tableOf [(0, 10, 13, 19), (0, 10, 17, 52)]).take 1) (tableOf [(0, 10, 13, 19), (0, 10, 17, 52)])[1] ((tableOf [(0, 10, 13, 19), (0, 10, 17, 52)]).drop 2) rfl (fun z hz => ?_) (by decide) (by decide) cl_La_52 (by simp [wCas, xI, xA, xU, xS, xN]) (fun q8 => ?_)
        · have hz : z = (tableOf [(0, 10, 13, 19), (0, 10, 17, 52)])[0] := by simpa [tableOf] using hz
          rcases hz with rfl
          · exact Or.inr ⟨by decide, xI, cl_La_19, hs.2 (xN, xI) (by simp [wNc])⟩
        refine j_astore C dL_shotAt_17 (by decide) ?_
        refine j_iconst C dL_shotAt_19 ?_
        refine j_iretH C MH ?_ (Nat.le_of_ble_eq_true rfl) (Nat.le_of_ble_eq_true rfl) dL_shotAt_20
        exact ⟨_, hF, hJ, by rw [k2]; rfl, Or.inr ⟨by omega, rfl⟩⟩
      · rw [List.getElem?_eq_none (by simpa using k9)] at k1
        exact nomatch k1
  · obtain ⟨hF, hJ, ⟨k2, h9⟩ | ⟨k9, e9, k1, k2, k3, k4⟩⟩ := h9
    rotate_left
    · exact nomatch k3
    cases h9
    have f9 := hF a9 (by rw [ha.1]; decide)
    refine j_i2lx C dL_shotAt_8 ?_
    refine j_last C (f9.1.trans ha.1) ⟨by decide, by rw [f9.2.1, ha.2]; decide, by decide⟩ dL_shotAt_9 ?_
    refine j_goto (tgt := 21) C dL_shotAt_10 (by decide) ?_
    refine j_iconst C dL_shotAt_21 ?_
    refine j_iretH C MH ?_ (Nat.le_of_ble_eq_true rfl) (Nat.le_of_ble_eq_true rfl) dL_shotAt_22
    exact ⟨S9, hF, hJ, by rw [k2], Or.inl ⟨k2, rfl⟩⟩

