/-! THE TWO CONSTRUCTORS. -/
/-- the first numbers, of the class as of the reference -/
def M0 : wM := fun j _ => if j = 18 then 10 else 0
def L5N (E : Nat) (S : wS) (q j a : Nat) (S' : wS) : Prop := sK S a = 0 ∧ a ≠ q ∧ (∀ c, c ≠ q → c ≠ a → ceq S S' c) ∧ sK S' q = 6 ∧ (sK S' a = 8 ∧ sG S' 512 a = .int (iN 0) ∧ sG S' 513 a = .ref E ∧ sG S' 514 a = .int (iN 0)) ∧ sG S' (384 + j) q = .ref a ∧ ∀ f, f ≠ 384 + j → f < 512 → sG S' f q = sG S f q
section CORE44
variable {p : Program} {l : Launch} {e : Env} {R : Room} {s : State} {m : MethodId} {args : Array Value} {below : List Frame} {meth : Method} {c : Code} {nL : Nat} {D : wD} {Q : State → Prop}
variable {cc : ByteArray} {own : String} {pc : Nat} {lv : List (Nat × Value)} {st : List Value} {S0 S : wS} {k n sz mc ms : Nat} {Post : wR → wS → Prop} {A : Nat → Prop}
set_option maxHeartbeats 1000000 in
theorem j_mkl (hfl : l.stackTraces = false) (C : Cx p l s m args meth c cc nL RX5 D A) (hin : meth.name = "<init>") {q j idx : Nat} (hq : sK S q = 6) (hf : FL RX5 idx 6 j) (hj : j < 5) (hl : lvg lv 0 = some (.ref q))
    (hR : k + 1 ≤ R.cells ∧ n + 3 ≤ R.slots) (hR2 : 20 * 3 + 1 ≤ R.frames ∧ 8 + (1 + 11) + 200 * 3 ≤ R.locals) (d0 : decode cc pc = .ok (.aload_n 0, 1)) (d1 : decode cc (pc + 1) = .ok (.new 9, 3)) (d4 : decode cc (pc + 1 + 3) = .ok (.dup, 1)) (d5 : decode cc (pc + 1 + 3 + 1) = .ok (.invokespecial 11, 3)) (d8 : decode cc (pc + 1 + 3 + 1 + 3) = .ok (.putfield idx, 3))
    (kk : ∀ (a : Nat) (S' : wS), L5N D.2.2.1 S q j a S' → J p l e R s m args below meth c nL D A Q (pc + 1 + 3 + 1 + 3 + 3) lv [] S' (k + 1) (n + 3)) : J p l e R s m args below meth c nL D A Q pc lv [] S k n := by
  refine j_aload_n C d0 hl ?_
  refine j_new C (kd := 8) ⟨by decide, by decide⟩ cl_Sp_9 nw_AL ⟨hR.1, hR.2⟩ d1 (fun a9 ha9 haE => ?_)
  have haq : a9 ≠ q := fun z => by rw [z, hq] at ha9; omega
  have hk1 : sK (sNew S 8 a9 (fun j => defaultValue (kT 8 j))) q = 6 := (sK_new' haq.symm).trans hq
  refine j_dup C d4 rfl ?_
  refine j_callID C (c_alInit l hfl (sK_new (k := 8))) cal_Jx4a65c_init_da8c8 in_Jx4a65c_init_da8c8 ml_Sp_11 (by decide) rfl rfl (Nat.le_of_ble_eq_true rfl) hR2 ⟨hR.1, hR.2⟩ d5 (fun E S9 h => nomatch h.1) (fun v9 S9 h => ?_)
  obtain ⟨h, h9⟩ := h
  subst h9
  cases h
  have hT : ((kC 6).2.1 j).2.2.2 = true ∧ ((kC 6).2.1 j).1 = RX5 ∧ narrow (kT 6 j) (.ref a9) = .ref a9 ∧ fits (kT 6 j) (.ref a9) = true := by
    rcases (show j = 0 ∨ j = 1 ∨ j = 2 ∨ j = 3 ∨ j = 4 by omega) with rfl | rfl | rfl | rfl | rfl <;> exact ⟨rfl, rfl, rfl, rfl⟩
  refine j_putF C hin hf hk1 ⟨by decide, by decide, Nat.lt_of_lt_of_le hj (by decide)⟩ hT.1 hT.2.1 hT.2.2.1 hT.2.2.2 d8 ?_
  refine kk a9 _ ⟨ha9, haq, fun c9 h1 h2 => ⟨?_, rfl, fun f => ?_, fun _ _ => rfl⟩, hk1, ⟨by simp only [sK_put]; exact sK_new, ?_, ?_, ?_⟩, ?_, fun f hf2 h512 => ?_⟩
  · simp only [sK_put]; exact sK_new' h2
  · simp [sG_put2, h1, h2]
    exact sG_new' h2
  · simp [sG_put2, haq]
  · simp [sG_put2, haq]
  · simp [sG_put2, haq]
    exact sG_new (k := 8) (j := 2) (by decide)
  · simp [sG_put2]
  · simp [sG_put2, haq.symm, hf2]
    exact sG_new' haq.symm
end CORE44
theorem M0_wf : WF M0 := by
  refine ⟨by unfold wf6 M0; decide, ?_, ?_, ?_, ?_, ?_⟩ <;> intro i h1 h2
  · have : M0 1 0 = 0 := rfl
    omega
  · have : M0 28 0 = 0 := rfl
    omega
  · have : M0 17 0 = 0 := rfl
    omega
  · have : M0 12 0 = 0 := rfl
    omega
  · have : M0 21 0 = 0 := rfl
    omega
set_option maxHeartbeats 4000000 in
set_option maxRecDepth 100000 in
theorem p_new5 (l : Launch) (hfl : l.stackTraces = false) {D : wD} {S : wS} {q9 : Nat} (hk : sK S q9 = 6) : CtD l D yX5_init cX5_init 1 none 4 5 15 [.ref q9] S (fun r S' => r = .inl none ∧ (∃ G : wG, G 6 0 = q9 ∧ RC D.2.2.1 S' G M0) ∧ ∀ c, sK S c ≠ 0 → c ≠ q9 → ceq S S' c) := by
  refine CtD.of cal_X5_init hfl (Nat.le_of_ble_eq_true rfl) ?_
  intro p e s m args below meth c sz C ME
  refine j_aload_n C dX5_init_0 rfl ?_
  refine j_objInit C ml_Sp_3 ⟨by decide, by decide⟩ dX5_init_1 ?_
  refine j_mkl hfl C ME.1 hk fl_Sp_12 (by decide) rfl ⟨(Nat.le_of_ble_eq_true rfl), (Nat.le_of_ble_eq_true rfl)⟩ ⟨by decide, by decide⟩ dX5_init_4 dX5_init_5 dX5_init_8 dX5_init_9 dX5_init_12 (fun a0 S0 L0 => ?_)
  refine j_mkl hfl C ME.1 L0.2.2.2.1 fl_Sp_16 (by decide) rfl ⟨(Nat.le_of_ble_eq_true rfl), (Nat.le_of_ble_eq_true rfl)⟩ ⟨by decide, by decide⟩ dX5_init_15 dX5_init_16 dX5_init_19 dX5_init_20 dX5_init_23 (fun a1 S1 L1 => ?_)
  refine j_mkl hfl C ME.1 L1.2.2.2.1 fl_Sp_19 (by decide) rfl ⟨(Nat.le_of_ble_eq_true rfl), (Nat.le_of_ble_eq_true rfl)⟩ ⟨by decide, by decide⟩ dX5_init_26 dX5_init_27 dX5_init_30 dX5_init_31 dX5_init_34 (fun a2 S2 L2 => ?_)
  refine j_mkl hfl C ME.1 L2.2.2.2.1 fl_Sp_22 (by decide) rfl ⟨(Nat.le_of_ble_eq_true rfl), (Nat.le_of_ble_eq_true rfl)⟩ ⟨by decide, by decide⟩ dX5_init_37 dX5_init_38 dX5_init_41 dX5_init_42 dX5_init_45 (fun a3 S3 L3 => ?_)
  refine j_mkl hfl C ME.1 L3.2.2.2.1 fl_Sp_25 (by decide) rfl ⟨(Nat.le_of_ble_eq_true rfl), (Nat.le_of_ble_eq_true rfl)⟩ ⟨by decide, by decide⟩ dX5_init_48 dX5_init_49 dX5_init_52 dX5_init_53 dX5_init_56 (fun a4 S4 L4 => ?_)
  refine j_aload_n C dX5_init_59 rfl ?_
  refine j_bipush C dX5_init_60 (by decide) ?_
  refine j_put C fl_Sp_28 L4.2.2.2.1 ⟨by decide, by decide, by decide⟩ (by decide) rfl rfl dX5_init_62 ?_
  refine j_aload_n C dX5_init_65 rfl ?_
  refine j_iconst C dX5_init_66 ?_
  refine j_put C fl_Sp_32 L4.2.2.2.1 ⟨by decide, by decide, by decide⟩ (by decide) rfl rfl dX5_init_67 ?_
  refine j_aload_n C dX5_init_70 rfl ?_
  refine j_lconst C (v := 0) dX5_init_71 (by decide) ?_
  refine j_put C fl_Sp_35 L4.2.2.2.1 ⟨by decide, by decide, by decide⟩ (by decide) rfl rfl dX5_init_72 ?_
  refine j_vret C ME ?_ (Nat.le_of_ble_eq_true rfl) (Nat.le_of_ble_eq_true rfl) dX5_init_75
  obtain ⟨z0, n0, c0, k0, ⟨l0, x0, y0, w0⟩, f0, o0⟩ := L0
  obtain ⟨z1, n1, c1, k1, ⟨l1, x1, y1, w1⟩, f1, o1⟩ := L1
  obtain ⟨z2, n2, c2, k2, ⟨l2, x2, y2, w2⟩, f2, o2⟩ := L2
  obtain ⟨z3, n3, c3, k3, ⟨l3, x3, y3, w3⟩, f3, o3⟩ := L3
  obtain ⟨z4, n4, c4, k4, ⟨l4, x4, y4, w4⟩, f4, o4⟩ := L4
  -- an address that lived before a list was made isn't that list's
  have u1 : ∀ c, sK S0 c ≠ 0 → c ≠ a1 := fun c h z => h (by rw [z]; exact z1)
  have u2 : ∀ c, sK S1 c ≠ 0 → c ≠ a2 := fun c h z => h (by rw [z]; exact z2)
  have u3 : ∀ c, sK S2 c ≠ 0 → c ≠ a3 := fun c h z => h (by rw [z]; exact z3)
  have u4 : ∀ c, sK S3 c ≠ 0 → c ≠ a4 := fun c h z => h (by rw [z]; exact z4)
  have u0 : ∀ c, sK S c ≠ 0 → c ≠ a0 := fun c h z => h (by rw [z]; exact z0)
  have g4 : ∀ c, sK S3 c ≠ 0 → c ≠ q9 → ceq S3 S4 c := fun c h z => c4 c z (u4 c h)
  have g3 : ∀ c, sK S2 c ≠ 0 → c ≠ q9 → ceq S2 S4 c := fun c h z => (c3 c z (u3 c h)).tr (g4 c (by rw [(c3 c z (u3 c h)).1]; exact h) z)
  have g2 : ∀ c, sK S1 c ≠ 0 → c ≠ q9 → ceq S1 S4 c := fun c h z => (c2 c z (u2 c h)).tr (g3 c (by rw [(c2 c z (u2 c h)).1]; exact h) z)
  have g1 : ∀ c, sK S0 c ≠ 0 → c ≠ q9 → ceq S0 S4 c := fun c h z => (c1 c z (u1 c h)).tr (g2 c (by rw [(c1 c z (u1 c h)).1]; exact h) z)
  have g0 : ∀ c, sK S c ≠ 0 → c ≠ q9 → ceq S S4 c := fun c h z => (c0 c z (u0 c h)).tr (g1 c (by rw [(c0 c z (u0 c h)).1]; exact h) z)
  have e0 := g1 a0 (by rw [l0]; decide) n0
  have e1 := g2 a1 (by rw [l1]; decide) n1
  have e2 := g3 a2 (by rw [l2]; decide) n2
  have e3 := g4 a3 (by rw [l3]; decide) n3
  have m10 : a1 ≠ a0 := fun z => by rw [z, l0] at z1; omega
  have m20 : a2 ≠ a0 := fun z => by
    have h := (c1 a0 n0 m10.symm).1
    rw [z] at z2; omega
  have m21 : a2 ≠ a1 := fun z => by rw [z, l1] at z2; omega
  have m30 : a3 ≠ a0 := fun z => by
    have h := (c1 a0 n0 m10.symm).1
    have h2 := (c2 a0 n0 m20.symm).1
    rw [z] at z3; omega
  have m31 : a3 ≠ a1 := fun z => by
    have h2 := (c2 a1 n1 m21.symm).1
    rw [z] at z3; omega
  have m32 : a3 ≠ a2 := fun z => by rw [z, l2] at z3; omega
  have m40 : a4 ≠ a0 := fun z => by
    have h := (c1 a0 n0 m10.symm).1
    have h2 := (c2 a0 n0 m20.symm).1
    have h3 := (c3 a0 n0 m30.symm).1
    rw [z] at z4; omega
  have m41 : a4 ≠ a1 := fun z => by
    have h2 := (c2 a1 n1 m21.symm).1
    have h3 := (c3 a1 n1 m31.symm).1
    rw [z] at z4; omega
  have m42 : a4 ≠ a2 := fun z => by
    have h3 := (c3 a2 n2 m32.symm).1
    rw [z] at z4; omega
  have m43 : a4 ≠ a3 := fun z => by rw [z, l3] at z4; omega
  refine ⟨rfl, ⟨(fun j i => if j = 6 then q9 else if i = 0 then a0 else if i = 1 then a1 else if i = 2 then a2 else if i = 3 then a3 else a4), rfl, M0_wf, fun c => if c = q9 then (6, 0) else if c = a0 then (20, 0) else if c = a1 then (20, 1) else if c = a2 then (20, 2) else if c = a3 then (20, 3) else (20, 4), ?_⟩, fun c h z => ⟨?_, ?_, fun f => ?_, fun _ _ => ?_⟩⟩
  · refine ⟨fun i h1 h2 => absurd h2 (by show ¬ i < (0 : Int); omega), fun i h1 h2 => absurd h2 (by show ¬ i < (0 : Int); omega), fun i h1 h2 => absurd h2 (by show ¬ i < (0 : Int); omega), fun i h1 h2 => absurd h2 (by show ¬ i < (0 : Int); omega), fun i h1 h2 => absurd h2 (by show ¬ i < (0 : Int); omega), ?_, ⟨⟨?_, ?_, ?_, ?_, ?_⟩, fun i h1 h2 => absurd h2 (by show ¬ i < (0 : Int); omega), fun i h1 h2 => absurd h2 (by show ¬ i < (0 : Int); omega)⟩, fun i h1 h2 => absurd h2 (by show ¬ i < (0 : Int); omega)⟩
    · intro i h1 h2
      have hi : i = 0 := by omega
      subst hi
      refine ⟨k4, by show (if q9 = q9 then _ else _) = _; rw [if_pos rfl], fun j hj => ?_⟩
      rcases (show j = 0 ∨ j = 1 ∨ j = 2 ∨ j = 3 ∨ j = 4 ∨ j = 5 ∨ j = 6 ∨ j = 7 by omega) with rfl | rfl | rfl | rfl | rfl | rfl | rfl | rfl
      · exact ((((o4 384 (by decide) (by decide)).trans (o3 384 (by decide) (by decide))).trans (o2 384 (by decide) (by decide))).trans (o1 384 (by decide) (by decide))).trans f0
      · exact (((o4 385 (by decide) (by decide)).trans (o3 385 (by decide) (by decide))).trans (o2 385 (by decide) (by decide))).trans f1
      · exact ((o4 386 (by decide) (by decide)).trans (o3 386 (by decide) (by decide))).trans f2
      · exact (o4 387 (by decide) (by decide)).trans f3
      · exact f4
      · simp [sG_put2]; rfl
      · simp [sG_put2]; rfl
      · simp [sG_put2]; rfl
    · refine ⟨e0.1.trans l0, by simp [n0], ⟨0, ?_⟩, ?_, by decide, D.2.2.1, ?_, Or.inl ⟨rfl, rfl⟩⟩
      · simp [sG_put2]; exact (e0.2.2.1 _).trans x0
      · simp [sG_put2]; exact (e0.2.2.1 _).trans w0
      · simp [sG_put2]; exact (e0.2.2.1 _).trans y0
    · refine ⟨e1.1.trans l1, by simp [n1, m10], ⟨0, ?_⟩, ?_, by decide, D.2.2.1, ?_, Or.inl ⟨rfl, rfl⟩⟩
      · simp [sG_put2]; exact (e1.2.2.1 _).trans x1
      · simp [sG_put2]; exact (e1.2.2.1 _).trans w1
      · simp [sG_put2]; exact (e1.2.2.1 _).trans y1
    · refine ⟨e2.1.trans l2, by simp [n2, m20, m21], ⟨0, ?_⟩, ?_, by decide, D.2.2.1, ?_, Or.inl ⟨rfl, rfl⟩⟩
      · simp [sG_put2]; exact (e2.2.2.1 _).trans x2
      · simp [sG_put2]; exact (e2.2.2.1 _).trans w2
      · simp [sG_put2]; exact (e2.2.2.1 _).trans y2
    · refine ⟨e3.1.trans l3, by simp [n3, m30, m31, m32], ⟨0, ?_⟩, ?_, by decide, D.2.2.1, ?_, Or.inl ⟨rfl, rfl⟩⟩
      · simp [sG_put2]; exact (e3.2.2.1 _).trans x3
      · simp [sG_put2]; exact (e3.2.2.1 _).trans w3
      · simp [sG_put2]; exact (e3.2.2.1 _).trans y3
    · refine ⟨l4, by simp [n4, m40, m41, m42, m43], ⟨0, ?_⟩, ?_, by decide, D.2.2.1, ?_, Or.inl ⟨rfl, rfl⟩⟩
      · simp [sG_put2]; exact x4
      · simp [sG_put2]; exact w4
      · simp [sG_put2]; exact y4
  · simp only [sK_put]; exact (g0 c h z).1
  · simp only [sN_put]; exact (g0 c h z).2.1
  · simp [sG_put2, z]; exact (g0 c h z).2.2.1 f
  · simp only [sE_put]; exact (g0 c h z).2.2.2 _ _
