/-! THE WRAPPERS of keptShare and meanWear. -/
def chkK (a b : Nat) : Bool := decide (FP.f2d (FP.fdiv (FP.i2f (iN a)) (FP.i2f (iN b))) &&& 0x7fffffffffffffff ≤ 0x7ff0000000000000)
theorem chkK_all : ∀ b : Fin 60, ∀ a : Fin 61, chkK a.val (b.val + 1) = true := by decide +kernel
theorem fp_kept {a b : Int} (ha : 0 ≤ a ∧ a ≤ 60) (hb : 1 ≤ b ∧ b ≤ 60) : vf_n64 (FP.f2d (FP.fdiv (FP.i2f (iN a)) (FP.i2f (iN b)))) := by
  have h := chkK_all ⟨(b - 1).toNat, by omega⟩ ⟨a.toNat, by omega⟩
  have h2 := of_decide_eq_true h
  rw [show ((a.toNat : Nat) : Int) = a by omega, show (((b - 1).toNat + 1 : Nat) : Int) = b by omega] at h2
  exact h2
section CALL61
variable {p : Program} {l : Launch} {e : Env} {R : Room} {s : State} {m : MethodId} {args : Array Value} {below : List Frame} {meth : Method} {c : Code} {nL : Nat} {D : wD} {Q : State → Prop}
variable {cc : ByteArray} {own : String} {pc : Nat} {lv : List (Nat × Value)} {st : List Value} {S0 S : wS} {k n sz mc ms : Nat} {Post : wR → wS → Prop} {A : Nat → Prop}
variable {y : MethodName} {bc : ByteArray} {nc np d mcc msc idx : Nat} {rc : Option FieldType} {PostC : wR → wS → Prop} {As rest st0 : List Value} {b : Nat}
theorem j_f2d (C : Cx p l s m args meth c cc nL own D A) {x : UInt32} (hx : vf_n64 (FP.f2d x)) (d : decode cc pc = .ok (.f2d, 1)) (kk : J p l e R s m args below meth c nL D A Q (pc + 1) lv (.double (FP.f2d x) :: st) S k n) : J p l e R s m args below meth c nL D A Q pc lv (.float x :: st) S k n :=
  fun H locs ls h1 h2 h3 => lv_f2d C.1 C.2.1 d hx (kk H locs ls h1 h2 h3)
end CALL61
theorem kept_ok {M : wM} (I : Inv M) (h : x_keptShare M = 0) : vf_n64 (FP.f2d (v_keptShare M)) := by
  unfold x_keptShare at h
  obtain ⟨h1, -⟩ := ite0 h (by decide)
  obtain ⟨-, q12, -⟩ := I.1
  have := @keptN_rg M (M 12 0).toNat
  exact fp_kept (by omega) (by omega)
theorem calH_keptShare : CalH yL_keptShare cL_keptShare 3 (some FieldType.int) [(0, 8, 11, 119)] 2 := ⟨by decide +kernel, ⟨by decide +kernel, by decide +kernel, by decide +kernel⟩, WALL_at 1217 (by decide +kernel) rfl, ini_La⟩
theorem calH_meanWear : CalH yL_meanWear cL_meanWear 3 (some FieldType.int) [(0, 7, 10, 119)] 2 := ⟨by decide +kernel, ⟨by decide +kernel, by decide +kernel, by decide +kernel⟩, WALL_at 1241 (by decide +kernel) rfl, ini_La⟩
set_option maxHeartbeats 1000000 in
theorem w_keptShare (l : Launch) (hfl : l.stackTraces = false) {D : wD} {S : wS} {q9 a9 : Nat} {M : wM} (h : Jn D.2.2.1 S q9 M) (ha : sK S a9 = 13 ∧ sN S a9 = 1) : CtH l D yL_keptShare cL_keptShare 3 (some FieldType.int) [(0, 8, 11, 119)] 21 100 6000 [.ref q9, .ref a9] S (wrP D.2.2.1 S q9 13 a9 (x_keptShare M) (.double (FP.f2d (v_keptShare M))) (n_keptShare M)) := by
  have hI : Inv M := by obtain ⟨G, Y, -, -, -, hI, -⟩ := h; exact hI
  refine CtH.of calH_keptShare hfl (Nat.le_of_ble_eq_true rfl) ?_
  intro p e s m args below meth c sz hs C MH
  refine j_aload_n C dL_keptShare_0 rfl ?_
  refine j_iconst C dL_keptShare_1 ?_
  refine j_aload_n C dL_keptShare_2 rfl ?_
  refine j_callV C (s_keptShare l hfl h) cal_X5_keptShare vi_X5_keptShare ml_La_115 h.k6 ⟨by decide, by decide, rfl⟩ rfl rfl (Nat.le_of_ble_eq_true rfl) ⟨by decide, by decide⟩ ⟨(Nat.le_of_ble_eq_true rfl), (Nat.le_of_ble_eq_true rfl)⟩ dL_keptShare_3 (fun E S9 h9 => ?_) (fun v9 S9 h9 => ?_)
  · obtain ⟨hF, hJ, ⟨-, h9⟩ | ⟨k9, e9, k1, k2, k3, k4⟩⟩ := h9
    · exact nomatch h9
    · cases k3
      subst k4
      rcases (show k9 = 0 ∨ 1 ≤ k9 by omega) with rfl | k9
      · cases k1
        refine j_catch C MH (name := "java/lang/ArithmeticException") [] (tableOf [(0, 8, 11, 119)])[0] [] rfl (fun z hz => ?_) (by decide) (by decide) cl_La_119 (by simp [wCas]) (fun q8 => ?_)
        · exact nomatch hz
        refine j_astore_n C dL_keptShare_11 (by decide) ?_
        refine j_iconst C dL_keptShare_12 ?_
        refine j_iretH C MH ?_ (Nat.le_of_ble_eq_true rfl) (Nat.le_of_ble_eq_true rfl) dL_keptShare_13
        exact ⟨_, hF, hJ, by rw [k2]; rfl, Or.inr ⟨by omega, rfl⟩⟩
      · rw [List.getElem?_eq_none (by simpa using k9)] at k1
        exact nomatch k1
  · obtain ⟨hF, hJ, ⟨k2, h9⟩ | ⟨k9, e9, k1, k2, k3, k4⟩⟩ := h9
    rotate_left
    · exact nomatch k3
    cases h9
    have f9 := hF a9 (by rw [ha.1]; decide)
    refine j_f2d C (kept_ok hI k2) dL_keptShare_6 ?_
    refine j_dast C (f9.1.trans ha.1) ⟨by decide, by rw [f9.2.1, ha.2]; decide, by decide⟩ dL_keptShare_7 ?_
    refine j_goto (tgt := 14) C dL_keptShare_8 (by decide) ?_
    refine j_iconst C dL_keptShare_14 ?_
    refine j_iretH C MH ?_ (Nat.le_of_ble_eq_true rfl) (Nat.le_of_ble_eq_true rfl) dL_keptShare_15
    exact ⟨S9, hF, hJ, by rw [k2], Or.inl ⟨k2, rfl⟩⟩
set_option maxHeartbeats 1000000 in
theorem w_meanWear (l : Launch) (hfl : l.stackTraces = false) {D : wD} {S : wS} {q9 a9 : Nat} {M : wM} (h : Jn D.2.2.1 S q9 M) (ha : sK S a9 = 13 ∧ sN S a9 = 1) : CtH l D yL_meanWear cL_meanWear 3 (some FieldType.int) [(0, 7, 10, 119)] 21 100 6000 [.ref q9, .ref a9] S (wrP D.2.2.1 S q9 13 a9 (x_meanWear M) (.double (v_meanWear M)) (n_meanWear M)) := by
  have hI : Inv M := by obtain ⟨G, Y, -, -, -, hI, -⟩ := h; exact hI
  refine CtH.of calH_meanWear hfl (Nat.le_of_ble_eq_true rfl) ?_
  intro p e s m args below meth c sz hs C MH
  refine j_aload_n C dL_meanWear_0 rfl ?_
  refine j_iconst C dL_meanWear_1 ?_
  refine j_aload_n C dL_meanWear_2 rfl ?_
  refine j_callV C (s_meanWear l hfl h) cal_X5_meanWear vi_X5_meanWear ml_La_121 h.k6 ⟨by decide, by decide, rfl⟩ rfl rfl (Nat.le_of_ble_eq_true rfl) ⟨by decide, by decide⟩ ⟨(Nat.le_of_ble_eq_true rfl), (Nat.le_of_ble_eq_true rfl)⟩ dL_meanWear_3 (fun E S9 h9 => ?_) (fun v9 S9 h9 => ?_)
  · obtain ⟨hF, hJ, ⟨-, h9⟩ | ⟨k9, e9, k1, k2, k3, k4⟩⟩ := h9
    · exact nomatch h9
    · cases k3
      subst k4
      rcases (show k9 = 0 ∨ 1 ≤ k9 by omega) with rfl | k9
      · cases k1
        refine j_catch C MH (name := "java/lang/ArithmeticException") [] (tableOf [(0, 7, 10, 119)])[0] [] rfl (fun z hz => ?_) (by decide) (by decide) cl_La_119 (by simp [wCas]) (fun q8 => ?_)
        · exact nomatch hz
        refine j_astore_n C dL_meanWear_10 (by decide) ?_
        refine j_iconst C dL_meanWear_11 ?_
        refine j_iretH C MH ?_ (Nat.le_of_ble_eq_true rfl) (Nat.le_of_ble_eq_true rfl) dL_meanWear_12
        exact ⟨_, hF, hJ, by rw [k2]; rfl, Or.inr ⟨by omega, rfl⟩⟩
      · rw [List.getElem?_eq_none (by simpa using k9)] at k1
        exact nomatch k1
  · obtain ⟨hF, hJ, ⟨k2, h9⟩ | ⟨k9, e9, k1, k2, k3, k4⟩⟩ := h9
    rotate_left
    · exact nomatch k3
    cases h9
    have f9 := hF a9 (by rw [ha.1]; decide)
    refine j_dast C (f9.1.trans ha.1) ⟨by decide, by rw [f9.2.1, ha.2]; decide, by decide⟩ dL_meanWear_6 ?_
    refine j_goto (tgt := 13) C dL_meanWear_7 (by decide) ?_
    refine j_iconst C dL_meanWear_13 ?_
    refine j_iretH C MH ?_ (Nat.le_of_ble_eq_true rfl) (Nat.le_of_ble_eq_true rfl) dL_meanWear_14
    exact ⟨S9, hF, hJ, by rw [k2], Or.inl ⟨k2, rfl⟩⟩
