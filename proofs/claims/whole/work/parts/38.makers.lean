/-! THE CLASS: constructors, and what makes objects. -/
theorem sG_put2 {S : wS} {f a g b : Nat} {v : Value} : sG (sPut S f a v) g b = if g = f ∧ b = a then v else sG S g b := rfl
def cN (S S' : wS) (q : Nat) : Prop := sK S' = sK S ∧ ∀ c, c ≠ q → ceq S S' c
theorem cN.rf {S : wS} {q : Nat} : cN S S q := ⟨rfl, fun _ _ => ceq.rf⟩
theorem cN.put {S S' : wS} {q f : Nat} {v : Value} (h : cN S S' q) : cN S (sPut S' f q v) q := ⟨h.1, fun c hc => (h.2 c hc).tr ⟨rfl, rfl, fun g => sG_put' (fun z => hc z.2), fun _ _ => rfl⟩⟩
theorem cN.nE {S0 S S' : wS} {q : Nat} (h : cN S S' q) (n : nE S0 S) (hq : sK S0 q = 0) : nE S0 S' := by
  intro c hc
  have hne : c ≠ q := fun z => hc (by rw [z]; exact hq)
  exact (n c hc).tr (h.2 c hne)
set_option maxHeartbeats 4000000 in
set_option maxRecDepth 100000 in
theorem c_shInit (l : Launch) (hfl : l.stackTraces = false) {S : wS} {q9 fa : Nat} {n9 a9 b9 : Int} (hk : sK S q9 = 4) : Ct l yX3_init cX3_init 5 none 1 0 0 [.ref q9, .ref fa, .int (iN n9), .int (iN a9), .int (iN b9)] S (fun r S' => r = .inl none ∧ cN S S' q9 ∧ (sG S' 256 q9 = .ref fa ∧ sG S' 257 q9 = .int (iN n9) ∧ sG S' 258 q9 = .int (iN b9) ∧ sG S' 259 q9 = .int (iN a9) ∧ sG S' 264 q9 = .int (iN (-1))) ∧ ∀ f, f ≠ 256 → f ≠ 257 → f ≠ 258 → f ≠ 259 → f ≠ 264 → sG S' f q9 = sG S f q9) := by
  refine Ct.of cal_X3_init hfl (Nat.le_of_ble_eq_true rfl) ?_
  intro p e s m args below meth c D sz C ME
  refine j_aload_n C dX3_init_0 rfl ?_
  refine j_objInit C ml_Sh_3 ⟨by decide, by decide⟩ dX3_init_1 ?_
  refine j_aload_n C dX3_init_4 rfl ?_
  refine j_iconst C dX3_init_5 ?_
  refine j_put C fl_Sh_9 hk ⟨by decide, by decide, by decide⟩ (by decide) rfl rfl dX3_init_6 ?_
  refine j_aload_n C dX3_init_9 rfl ?_
  refine j_aload_n C dX3_init_10 rfl ?_
  refine j_putF C ME.1 fl_Sh_15 hk ⟨by decide, by decide, by decide⟩ (by decide) rfl rfl rfl dX3_init_11 ?_
  refine j_aload_n C dX3_init_14 rfl ?_
  refine j_iload_n C dX3_init_15 rfl ?_
  refine j_putF C ME.1 fl_Sh_19 hk ⟨by decide, by decide, by decide⟩ (by decide) rfl rfl rfl dX3_init_16 ?_
  refine j_aload_n C dX3_init_19 rfl ?_
  refine j_iload_n C dX3_init_20 rfl ?_
  refine j_put C fl_Sh_22 hk ⟨by decide, by decide, by decide⟩ (by decide) rfl rfl dX3_init_21 ?_
  refine j_aload_n C dX3_init_24 rfl ?_
  refine j_iload C dX3_init_25 rfl ?_
  refine j_putF C ME.1 fl_Sh_25 hk ⟨by decide, by decide, by decide⟩ (by decide) rfl rfl rfl dX3_init_27 ?_
  refine j_vret C ME ?_ (by first | omega | exact Nat.le_of_ble_eq_true rfl) (by first | omega | exact Nat.le_of_ble_eq_true rfl) dX3_init_30
  refine ⟨rfl, cN.rf.put.put.put.put.put, ⟨by simp [sG_put2], by simp [sG_put2], by simp [sG_put2], by simp [sG_put2], by simp [sG_put2]⟩, fun f h0 h1 h2 h3 h8 => ?_⟩
  · simp [sG_put2, h0, h1, h2, h3, h8]

set_option maxHeartbeats 4000000 in
set_option maxRecDepth 100000 in
theorem c_loInit (l : Launch) (hfl : l.stackTraces = false) {S : wS} {q9 fa : Nat} {n9 a9 b9 : Int} (hk : sK S q9 = 2) : Ct l yX1_init cX1_init 5 none 1 0 0 [.ref q9, .ref fa, .int (iN n9), .int (iN a9), .int (iN b9)] S (fun r S' => r = .inl none ∧ cN S S' q9 ∧ (sG S' 128 q9 = .ref fa ∧ sG S' 129 q9 = .int (iN a9) ∧ sG S' 130 q9 = .int (iN b9) ∧ sG S' 131 q9 = .int (iN n9)) ∧ ∀ f, f ≠ 128 → f ≠ 129 → f ≠ 130 → f ≠ 131 → sG S' f q9 = sG S f q9) := by
  refine Ct.of cal_X1_init hfl (Nat.le_of_ble_eq_true rfl) ?_
  intro p e s m args below meth c D sz C ME
  refine j_aload_n C dX1_init_0 rfl ?_
  refine j_objInit C ml_Lo_1 ⟨by decide, by decide⟩ dX1_init_1 ?_
  refine j_aload_n C dX1_init_4 rfl ?_
  refine j_aload_n C dX1_init_5 rfl ?_
  refine j_putF C ME.1 fl_Lo_7 hk ⟨by decide, by decide, by decide⟩ (by decide) rfl rfl rfl dX1_init_6 ?_
  refine j_aload_n C dX1_init_9 rfl ?_
  refine j_iload_n C dX1_init_10 rfl ?_
  refine j_put C fl_Lo_13 hk ⟨by decide, by decide, by decide⟩ (by decide) rfl rfl dX1_init_11 ?_
  refine j_aload_n C dX1_init_14 rfl ?_
  refine j_iload_n C dX1_init_15 rfl ?_
  refine j_putF C ME.1 fl_Lo_17 hk ⟨by decide, by decide, by decide⟩ (by decide) rfl rfl rfl dX1_init_16 ?_
  refine j_aload_n C dX1_init_19 rfl ?_
  refine j_iload C dX1_init_20 rfl ?_
  refine j_putF C ME.1 fl_Lo_20 hk ⟨by decide, by decide, by decide⟩ (by decide) rfl rfl rfl dX1_init_22 ?_
  refine j_vret C ME ?_ (by first | omega | exact Nat.le_of_ble_eq_true rfl) (by first | omega | exact Nat.le_of_ble_eq_true rfl) dX1_init_25
  refine ⟨rfl, cN.rf.put.put.put.put, ⟨by simp [sG_put2], by simp [sG_put2], by simp [sG_put2], by simp [sG_put2]⟩, fun f h0 h1 h2 h3 => ?_⟩
  · simp [sG_put2, h0, h1, h2, h3]

set_option maxHeartbeats 4000000 in
set_option maxRecDepth 100000 in
theorem c_reInit (l : Launch) (hfl : l.stackTraces = false) {D : wD} {S : wS} {q9 fa : Nat} {n9 : Int} (hk : sK S q9 = 3) : CtD l D yX2_init cX2_init 3 none 4 1 3 [.ref q9, .ref fa, .int (iN n9)] S (fun r S' => ∃ a9, r = .inl none ∧ sK S a9 = 0 ∧ a9 ≠ q9 ∧ (∀ c, c ≠ q9 → c ≠ a9 → ceq S S' c) ∧ sK S' q9 = 3 ∧ (sK S' a9 = 8 ∧ sG S' 512 a9 = .int (iN 0) ∧ sG S' 513 a9 = .ref D.2.2.1 ∧ sG S' 514 a9 = .int (iN 0)) ∧ sG S' 192 q9 = .ref fa ∧ sG S' 193 q9 = .int (iN n9) ∧ sG S' 194 q9 = .ref a9 ∧ ∀ f, f < 512 → f ≠ 192 → f ≠ 193 → f ≠ 194 → sG S' f q9 = sG S f q9) := by
  refine CtD.of cal_X2_init hfl (Nat.le_of_ble_eq_true rfl) ?_
  intro p e s m args below meth c sz C ME
  refine j_aload_n C dX2_init_0 rfl ?_
  refine j_objInit C ml_Re_1 ⟨by decide, by decide⟩ dX2_init_1 ?_
  refine j_aload_n C dX2_init_4 rfl ?_
  refine j_new C (kd := 8) ⟨by decide, by decide⟩ cl_Re_7 nw_AL ⟨(Nat.le_of_ble_eq_true rfl), (Nat.le_of_ble_eq_true rfl)⟩ dX2_init_5 (fun a9 ha9 haE => ?_)
  have haq : a9 ≠ q9 := fun z => by rw [z, hk] at ha9; omega
  have hk1 : sK (sNew S 8 a9 (fun j => defaultValue (kT 8 j))) q9 = 3 := (sK_new' haq.symm).trans hk
  refine j_dup C dX2_init_8 rfl ?_
  refine j_callID C (c_alInit l hfl (sK_new (k := 8))) cal_Jx4a65c_init_da8c8 in_Jx4a65c_init_da8c8 ml_Re_9 (by decide) rfl rfl (Nat.le_of_ble_eq_true rfl) ⟨by decide, by decide⟩ ⟨(by first | omega | (dsimp only; omega) | exact Nat.le_of_ble_eq_true rfl), (by first | omega | (dsimp only; omega) | exact Nat.le_of_ble_eq_true rfl)⟩ dX2_init_9 (fun E S9 h => nomatch h.1) (fun v9 S9 h => ?_)
  obtain ⟨h, h9⟩ := h
  subst h9
  cases h
  refine j_putF C ME.1 fl_Re_10 hk1 ⟨by decide, by decide, by decide⟩ (by decide) rfl rfl rfl dX2_init_12 ?_
  refine j_aload_n C dX2_init_15 rfl ?_
  refine j_aload_n C dX2_init_16 rfl ?_
  refine j_putF C ME.1 fl_Re_16 hk1 ⟨by decide, by decide, by decide⟩ (by decide) rfl rfl rfl dX2_init_17 ?_
  refine j_aload_n C dX2_init_20 rfl ?_
  refine j_iload_n C dX2_init_21 rfl ?_
  refine j_putF C ME.1 fl_Re_20 hk1 ⟨by decide, by decide, by decide⟩ (by decide) rfl rfl rfl dX2_init_22 ?_
  refine j_vret C ME ?_ (by first | omega | exact Nat.le_of_ble_eq_true rfl) (by first | omega | exact Nat.le_of_ble_eq_true rfl) dX2_init_25
  refine ⟨a9, rfl, ha9, haq, fun c9 h1 h2 => ⟨?_, rfl, fun f => ?_, fun _ _ => rfl⟩, hk1, ⟨by simp only [sK_put]; exact sK_new, ?_, ?_, ?_⟩, ?_, ?_, ?_, fun f hf g0 g1 g2 => ?_⟩
  · simp only [sK_put]; exact sK_new' h2
  · simp [sG_put2, h1, h2]
    exact sG_new' h2
  · simp [sG_put2, haq]
  · simp [sG_put2, haq]
  · simp [sG_put2, haq]
    exact sG_new (k := 8) (j := 2) (by decide)
  · simp [sG_put2, haq, haq.symm]
  · simp [sG_put2, haq, haq.symm]
  · simp [sG_put2, haq, haq.symm]
  · simp [sG_put2, haq.symm, g0, g1, g2]
    exact sG_new' haq.symm

set_option maxHeartbeats 4000000 in
set_option maxRecDepth 100000 in
theorem c_fiInit (l : Launch) (hfl : l.stackTraces = false) {D : wD} {S : wS} {q9 : Nat} (hk : sK S q9 = 1) : CtD l D yX0_init cX0_init 1 none 4 1 3 [.ref q9] S (fun r S' => ∃ a9, r = .inl none ∧ sK S a9 = 0 ∧ a9 ≠ q9 ∧ (∀ c, c ≠ q9 → c ≠ a9 → ceq S S' c) ∧ sK S' q9 = 1 ∧ (sK S' a9 = 8 ∧ sG S' 512 a9 = .int (iN 0) ∧ sG S' 513 a9 = .ref D.2.2.1 ∧ sG S' 514 a9 = .int (iN 0)) ∧ sG S' 64 q9 = .ref a9 ∧ ∀ f, f < 512 → f ≠ 64 → sG S' f q9 = sG S f q9) := by
  refine CtD.of cal_X0_init hfl (Nat.le_of_ble_eq_true rfl) ?_
  intro p e s m args below meth c sz C ME
  refine j_aload_n C dX0_init_0 rfl ?_
  refine j_objInit C ml_Fi_3 ⟨by decide, by decide⟩ dX0_init_1 ?_
  refine j_aload_n C dX0_init_4 rfl ?_
  refine j_new C (kd := 8) ⟨by decide, by decide⟩ cl_Fi_9 nw_AL ⟨(Nat.le_of_ble_eq_true rfl), (Nat.le_of_ble_eq_true rfl)⟩ dX0_init_5 (fun a9 ha9 haE => ?_)
  have haq : a9 ≠ q9 := fun z => by rw [z, hk] at ha9; omega
  have hk1 : sK (sNew S 8 a9 (fun j => defaultValue (kT 8 j))) q9 = 1 := (sK_new' haq.symm).trans hk
  refine j_dup C dX0_init_8 rfl ?_
  refine j_callID C (c_alInit l hfl (sK_new (k := 8))) cal_Jx4a65c_init_da8c8 in_Jx4a65c_init_da8c8 ml_Fi_11 (by decide) rfl rfl (Nat.le_of_ble_eq_true rfl) ⟨by decide, by decide⟩ ⟨(by first | omega | (dsimp only; omega) | exact Nat.le_of_ble_eq_true rfl), (by first | omega | (dsimp only; omega) | exact Nat.le_of_ble_eq_true rfl)⟩ dX0_init_9 (fun E S9 h => nomatch h.1) (fun v9 S9 h => ?_)
  obtain ⟨h, h9⟩ := h
  subst h9
  cases h
  refine j_putF C ME.1 fl_Fi_12 hk1 ⟨by decide, by decide, by decide⟩ (by decide) rfl rfl rfl dX0_init_12 ?_
  refine j_vret C ME ?_ (by first | omega | exact Nat.le_of_ble_eq_true rfl) (by first | omega | exact Nat.le_of_ble_eq_true rfl) dX0_init_15
  refine ⟨a9, rfl, ha9, haq, fun c9 h1 h2 => ⟨?_, rfl, fun f => ?_, fun _ _ => rfl⟩, hk1, ⟨by simp only [sK_put]; exact sK_new, ?_, ?_, ?_⟩, ?_, fun f hf g0 => ?_⟩
  · simp only [sK_put]; exact sK_new' h2
  · simp [sG_put2, h1, h2]
    exact sG_new' h2
  · simp [sG_put2, haq]
  · simp [sG_put2, haq]
  · simp [sG_put2, haq]
    exact sG_new (k := 8) (j := 2) (by decide)
  · simp [sG_put2, haq, haq.symm]
  · simp [sG_put2, haq.symm, g0]
    exact sG_new' haq.symm

set_option maxHeartbeats 4000000 in
set_option maxRecDepth 100000 in
theorem c_veInit (l : Launch) (hfl : l.stackTraces = false) {S : wS} {q9 fa : Nat} {n9 : Int} (hk : sK S q9 = 5) : Ct l yX4_init cX4_init 3 none 1 1 960 [.ref q9, .ref fa, .int (iN n9)] S (fun r S' => ∃ a9, r = .inl none ∧ sK S a9 = 0 ∧ a9 ≠ q9 ∧ (∀ c, c ≠ q9 → c ≠ a9 → ceq S S' c) ∧ sK S' q9 = 5 ∧ (sK S' a9 = 10 ∧ sN S' a9 = 960 ∧ ∀ i : Nat, i < 960 → sE S' 10 a9 i = .long 0) ∧ sG S' 320 q9 = .ref fa ∧ sG S' 321 q9 = .int (iN n9) ∧ sG S' 322 q9 = .ref a9) := by
  refine Ct.of cal_X4_init hfl (Nat.le_of_ble_eq_true rfl) ?_
  intro p e s m args below meth c D sz C ME
  refine j_aload_n C dX4_init_0 rfl ?_
  refine j_objInit C ml_Ve_3 ⟨by decide, by decide⟩ dX4_init_1 ?_
  refine j_aload_n C dX4_init_4 rfl ?_
  refine j_sipush C dX4_init_5 (by decide) ?_
  refine j_newa C (kd := 10) (ty := .long) ⟨by decide, by decide⟩ rfl rfl ac_long (fun U cA h h2 => Option.some.inj (h2.symm.trans h)) ⟨by decide, by decide⟩ (by decide) ⟨(Nat.le_of_ble_eq_true rfl), (Nat.le_of_ble_eq_true rfl)⟩ dX4_init_8 (fun a9 ha9 haE => ?_)
  have haq : a9 ≠ q9 := fun z => by rw [z, hk] at ha9; omega
  have hk1 : sK (sNewA S 10 a9 (960 : Int).toNat (fun _ => defaultValue FieldType.long)) q9 = 5 := (sK_newA' haq.symm).trans hk
  refine j_putF C ME.1 fl_Ve_9 hk1 ⟨by decide, by decide, by decide⟩ (by decide) rfl rfl rfl dX4_init_10 ?_
  refine j_aload_n C dX4_init_13 rfl ?_
  refine j_aload_n C dX4_init_14 rfl ?_
  refine j_putF C ME.1 fl_Ve_15 hk1 ⟨by decide, by decide, by decide⟩ (by decide) rfl rfl rfl dX4_init_15 ?_
  refine j_aload_n C dX4_init_18 rfl ?_
  refine j_iload_n C dX4_init_19 rfl ?_
  refine j_putF C ME.1 fl_Ve_19 hk1 ⟨by decide, by decide, by decide⟩ (by decide) rfl rfl rfl dX4_init_20 ?_
  refine j_vret C ME ?_ (by first | omega | exact Nat.le_of_ble_eq_true rfl) (by first | omega | exact Nat.le_of_ble_eq_true rfl) dX4_init_23
  refine ⟨a9, rfl, ha9, haq, fun c9 h1 h2 => ⟨?_, ?_, fun f => ?_, fun k i => ?_⟩, hk1, ⟨by simp only [sK_put]; exact sK_newA, ?_, fun i hi => ?_⟩, ?_, ?_, ?_⟩
  · simp only [sK_put]; exact sK_newA' h2
  · simp only [sN_put]; exact sN_newA' h2
  · simp [sG_put2, h1]
    rfl
  · simp only [sE_put]; exact sE_newA' h2
  · simp only [sN_put]; exact sN_newA
  · simp only [sE_put]; exact sE_newA
  · simp [sG_put2]
  · simp [sG_put2]
  · simp [sG_put2]

set_option maxHeartbeats 4000000 in
set_option maxRecDepth 100000 in
theorem u_newShot (l : Launch) (hfl : l.stackTraces = false) {D : wD} {S : wS} {G : wG} {X : wM} (hC : RC D.2.2.1 S G X) {f9 a9 b9 : Int} (hf : 0 ≤ f9 ∧ f9 < X 1 0) (ha : 1 ≤ a9 ∧ a9 ≤ 999) (hb : 0 ≤ b9 ∧ b9 ≤ 9) (hc9 : X 12 0 < 60) : CtD l D yX5_newShot cX5_newShot 5 (some (FieldType.object "Spliceroom$Shot")) 7 2 160 [.ref (G 6 0), .ref (G 1 f9), .int (iN a9), .int (iN b9)] S (fun r S' => ∃ q9, r = .inl (some (.ref (gup G 4 (X 12 0) q9 4 (X 12 0)))) ∧ RCF D.2.2.1 S S' (gup G 4 (X 12 0) q9) (xShot X f9 a9 b9)) := by
  refine CtD.of cal_X5_newShot hfl (Nat.le_of_ble_eq_true rfl) ?_
  intro p e s m args below meth c sz C ME
  obtain ⟨T, hh⟩ := hC.2
  have w6 := hC.w6
  unfold wf6 at w6
  refine j_new C (kd := 4) ⟨by decide, by decide⟩ cl_Sp_75 nw_Sh ⟨(Nat.le_of_ble_eq_true rfl), (Nat.le_of_ble_eq_true rfl)⟩ dX5_newShot_0 (fun q9 hq hqE => ?_)
  have hn1 : nE S (sNew S 4 q9 (fun j => defaultValue (kT 4 j))) := nE.rf.new hq
  have hR : RCF D.2.2.1 S (sNew S 4 q9 (fun j => defaultValue (kT 4 j))) G X := ⟨hC.ne hn1, hn1.cF⟩
  refine j_dup C dX5_newShot_3 rfl ?_
  refine j_aload_n C dX5_newShot_4 rfl ?_
  refine j_aload_n C dX5_newShot_5 rfl ?_
  refine jg_6_1 C hR fl_Sp_16 dX5_newShot_6 ?_
  refine j_callV C (z_L1 l hfl hR.1 ) cal_Jx4a65c_size_8abf5 vi_Jx4a65c_size_8abf5 ml_Sp_39 (hR.1.q_L1 ) ⟨by decide, by decide, rfl⟩ rfl rfl (Nat.le_of_ble_eq_true rfl) ⟨by decide, by decide⟩ ⟨(by first | omega | (dsimp only; omega) | exact Nat.le_of_ble_eq_true rfl), (by first | omega | (dsimp only; omega) | exact Nat.le_of_ble_eq_true rfl)⟩ dX5_newShot_9 (fun E S9 h => nomatch h.1) (fun v9 S9 h => ?_)
  obtain ⟨h, h9⟩ := h
  have h9 := h9.symm
  subst h9
  cases h
  refine j_iload_n C dX5_newShot_12 rfl ?_
  refine j_iload_n C dX5_newShot_13 rfl ?_
  refine j_callI C (c_shInit l hfl (q9 := q9) (sK_new (k := 4))) cal_X3_init in_X3_init ml_Sp_370 (by decide) rfl rfl (Nat.le_of_ble_eq_true rfl) ⟨by decide, by decide⟩ ⟨(by first | omega | (dsimp only; omega) | exact Nat.le_of_ble_eq_true rfl), (by first | omega | (dsimp only; omega) | exact Nat.le_of_ble_eq_true rfl)⟩ dX5_newShot_14 (fun E S9 h => nomatch h.1) (fun v9 S2 h => ?_)
  obtain ⟨h, hcN, ⟨f0, f1, f2, f3, f8⟩, fo⟩ := h
  cases h
  have hn2 := hcN.nE hn1 hq
  have hk2 : sK S2 q9 = 4 := by rw [hcN.1]; exact sK_new
  have hR : RCF D.2.2.1 S S2 G X := ⟨hC.ne hn2, hn2.cF⟩
  refine j_astore C dX5_newShot_17 (by decide) ?_
  refine j_aload_n C dX5_newShot_19 rfl ?_
  refine jg_6_1 C hR fl_Sp_16 dX5_newShot_20 ?_
  refine j_aload C dX5_newShot_23 rfl ?_
  refine j_callVD C (c_alAdd l hfl (y := q9) (hh.ne hn2).2.2.2.2.2.2.1.1.2.1 (by omega) (by rw [hk2]; decide) (fun k hk => by rw [hR.1.k4 (i9 := (k : Int)) ⟨by omega, hk⟩]; decide)) cal_Jx4a65c_add_9ea2d vi_Jx4a65c_add_9ea2d ml_Sp_53 hR.1.q_L1 ⟨by decide, by decide, rfl⟩ rfl rfl (Nat.le_of_ble_eq_true rfl) ⟨by decide, by decide⟩ ⟨(by first | omega | (dsimp only; omega) | exact Nat.le_of_ble_eq_true rfl), (by first | omega | (dsimp only; omega) | exact Nat.le_of_ble_eq_true rfl)⟩ dX5_newShot_25 (fun E S9 h => nomatch h.1) (fun v9 S3 h => ?_)
  obtain ⟨h, hL⟩ := h
  cases h
  have hnew := RC.new_shot (f := f9) (a := a9) (b := b9) hC.1 hh hq hn2 hk2 (fun j hj => by
    have dN : ∀ j, j < 64 → sG (sNew S 4 q9 (fun j => defaultValue (kT 4 j))) (64 * 4 + j) q9 = defaultValue (kT 4 j) := fun j hj => sG_new hj
    rcases (show j = 0 ∨ j = 1 ∨ j = 2 ∨ j = 3 ∨ j = 4 ∨ j = 5 ∨ j = 6 ∨ j = 7 ∨ j = 8 ∨ j = 9 by omega) with rfl | rfl | rfl | rfl | rfl | rfl | rfl | rfl | rfl | rfl
    · refine f0.trans ?_
      show _ = Value.ref (G 1 (xShot X f9 a9 b9 4 (X 12 0)))
      rw [show xShot X f9 a9 b9 4 (X 12 0) = f9 from xnew_v (by decide) rfl]
    · exact f1
    · refine f2.trans ?_
      show _ = Value.int (iN (xShot X f9 a9 b9 6 (X 12 0)))
      rw [show xShot X f9 a9 b9 6 (X 12 0) = b9 from xnew_v (by decide) rfl]
    · refine f3.trans ?_
      show _ = Value.int (iN (xShot X f9 a9 b9 5 (X 12 0)))
      rw [show xShot X f9 a9 b9 5 (X 12 0) = a9 from xnew_v (by decide) rfl]
    · refine ((fo 260 (by decide) (by decide) (by decide) (by decide) (by decide)).trans (dN 4 (by decide))).trans ?_
      show _ = nref (G 3) (xShot X f9 a9 b9 7 (X 12 0))
      rw [show xShot X f9 a9 b9 7 (X 12 0) = -1 from xnew_v (by decide) rfl]
      rfl
    · refine ((fo 261 (by decide) (by decide) (by decide) (by decide) (by decide)).trans (dN 5 (by decide))).trans ?_
      show _ = Value.int (iN (xShot X f9 a9 b9 31 (X 12 0)))
      rw [show xShot X f9 a9 b9 31 (X 12 0) = 0 from xnew_v (by decide) rfl]
      rfl
    · refine ((fo 262 (by decide) (by decide) (by decide) (by decide) (by decide)).trans (dN 6 (by decide))).trans ?_
      show _ = Value.int (iN (xShot X f9 a9 b9 8 (X 12 0)))
      rw [show xShot X f9 a9 b9 8 (X 12 0) = 0 from xnew_v (by decide) rfl]
      rfl
    · refine ((fo 263 (by decide) (by decide) (by decide) (by decide) (by decide)).trans (dN 7 (by decide))).trans ?_
      show _ = Value.int (iN (xShot X f9 a9 b9 9 (X 12 0)))
      rw [show xShot X f9 a9 b9 9 (X 12 0) = 0 from xnew_v (by decide) rfl]
      rfl
    · refine f8.trans ?_
      show _ = Value.int (iN (xShot X f9 a9 b9 10 (X 12 0)))
      rw [show xShot X f9 a9 b9 10 (X 12 0) = -1 from xnew_v (by decide) rfl]
    · refine ((fo 265 (by decide) (by decide) (by decide) (by decide) (by decide)).trans (dN 9 (by decide))).trans ?_
      show _ = nref (gup G 4 (X 12 0) q9 4) (xShot X f9 a9 b9 11 (X 12 0))
      rw [show xShot X f9 a9 b9 11 (X 12 0) = -1 from xnew_v (by decide) rfl]
      rfl) hc9 hf ha hb hL
  refine j_pop C dX5_newShot_28 rfl ?_
  refine j_aload C dX5_newShot_29 rfl ?_
  refine j_aret C ME (Or.inl ⟨_, rfl⟩) (Or.inr ⟨_, rfl⟩) ?_ (by first | omega | exact Nat.le_of_ble_eq_true rfl) (by first | omega | exact Nat.le_of_ble_eq_true rfl) dX5_newShot_31
  exact ⟨q9, by rw [gup_at], hnew⟩

set_option maxHeartbeats 4000000 in
set_option maxRecDepth 100000 in
theorem u_newReel (l : Launch) (hfl : l.stackTraces = false) {D : wD} {S : wS} {G : wG} {X : wM} (hC : RC D.2.2.1 S G X) {f9 : Int} (hf : 0 ≤ f9 ∧ f9 < X 1 0) (hc9 : X 17 0 < 24) : CtD l D yX5_newReel cX5_newReel 3 (some (FieldType.object "Spliceroom$Reel")) 7 3 160 [.ref (G 6 0), .ref (G 1 f9)] S (fun r S' => ∃ q9 a9, r = .inl (some (.ref (gup (gup G 3 (X 17 0) q9) 22 (X 17 0) a9 3 (X 17 0)))) ∧ RCF D.2.2.1 S S' (gup (gup G 3 (X 17 0) q9) 22 (X 17 0) a9) (xReel X f9)) := by
  refine CtD.of cal_X5_newReel hfl (Nat.le_of_ble_eq_true rfl) ?_
  intro p e s m args below meth c sz C ME
  obtain ⟨T, hh⟩ := hC.2
  have w6 := hC.w6
  unfold wf6 at w6
  refine j_new C (kd := 3) ⟨by decide, by decide⟩ cl_Sp_86 nw_Re ⟨(Nat.le_of_ble_eq_true rfl), (Nat.le_of_ble_eq_true rfl)⟩ dX5_newReel_0 (fun q9 hq hqE => ?_)
  have hn1 : nE S (sNew S 3 q9 (fun j => defaultValue (kT 3 j))) := nE.rf.new hq
  have hR : RCF D.2.2.1 S (sNew S 3 q9 (fun j => defaultValue (kT 3 j))) G X := ⟨hC.ne hn1, hn1.cF⟩
  refine j_dup C dX5_newReel_3 rfl ?_
  refine j_aload_n C dX5_newReel_4 rfl ?_
  refine j_aload_n C dX5_newReel_5 rfl ?_
  refine jg_6_2 C hR fl_Sp_19 dX5_newReel_6 ?_
  refine j_callV C (z_L2 l hfl hR.1 ) cal_Jx4a65c_size_8abf5 vi_Jx4a65c_size_8abf5 ml_Sp_39 (hR.1.q_L2 ) ⟨by decide, by decide, rfl⟩ rfl rfl (Nat.le_of_ble_eq_true rfl) ⟨by decide, by decide⟩ ⟨(by first | omega | (dsimp only; omega) | exact Nat.le_of_ble_eq_true rfl), (by first | omega | (dsimp only; omega) | exact Nat.le_of_ble_eq_true rfl)⟩ dX5_newReel_9 (fun E S9 h => nomatch h.1) (fun v9 S9 h => ?_)
  obtain ⟨h, h9⟩ := h
  have h9 := h9.symm
  subst h9
  cases h
  refine j_callID C (c_reInit l hfl (q9 := q9) (sK_new (k := 3))) cal_X2_init in_X2_init ml_Sp_371 (by decide) rfl rfl (Nat.le_of_ble_eq_true rfl) ⟨by decide, by decide⟩ ⟨(by first | omega | (dsimp only; omega) | exact Nat.le_of_ble_eq_true rfl), (by first | omega | (dsimp only; omega) | exact Nat.le_of_ble_eq_true rfl)⟩ dX5_newReel_12 (fun E S9 h => by obtain ⟨a, h, -⟩ := h; exact nomatch h) (fun v9 S2 h => ?_)
  obtain ⟨a9, h, ha9, haq, hce, hk2, ⟨l1, l2, l3, l4⟩, f0, f1, f2, fo⟩ := h
  cases h
  have ha0 : sK S a9 = 0 := hn1.z ha9
  have hn2 : nE S S2 := fun c hc => (hn1 c hc).tr (hce c (fun z => hc (by rw [z]; exact hq)) (fun z => hc (by rw [z]; exact ha0)))
  have hR : RCF D.2.2.1 S S2 G X := ⟨hC.ne hn2, hn2.cF⟩
  refine j_astore_n C dX5_newReel_15 (by decide) ?_
  refine j_aload_n C dX5_newReel_16 rfl ?_
  refine jg_6_2 C hR fl_Sp_19 dX5_newReel_17 ?_
  refine j_aload_n C dX5_newReel_20 rfl ?_
  refine j_callVD C (c_alAdd l hfl (y := q9) (hh.ne hn2).2.2.2.2.2.2.1.1.2.2.1 (by omega) (by rw [hk2]; decide) (fun k hk => by rw [hR.1.k3 (i9 := (k : Int)) ⟨by omega, hk⟩]; decide)) cal_Jx4a65c_add_9ea2d vi_Jx4a65c_add_9ea2d ml_Sp_53 hR.1.q_L2 ⟨by decide, by decide, rfl⟩ rfl rfl (Nat.le_of_ble_eq_true rfl) ⟨by decide, by decide⟩ ⟨(by first | omega | (dsimp only; omega) | exact Nat.le_of_ble_eq_true rfl), (by first | omega | (dsimp only; omega) | exact Nat.le_of_ble_eq_true rfl)⟩ dX5_newReel_21 (fun E S9 h => nomatch h.1) (fun v9 S3 h => ?_)
  obtain ⟨h, hL⟩ := h
  cases h
  have hnew := RC.new_reel (f := f9) hC.1 hh hq ha0 haq l1 l2 l3 l4 hn2 hk2 (fun j hj => by
    rcases (show j = 0 ∨ j = 1 ∨ j = 2 by omega) with rfl | rfl | rfl
    · refine f0.trans ?_
      show _ = Value.ref (G 1 (xReel X f9 13 (X 17 0)))
      rw [show xReel X f9 13 (X 17 0) = f9 from xnew_v (by decide) rfl]
    · exact f1
    · refine f2.trans ?_
      show _ = Value.ref (gup (gup G 3 (X 17 0) q9) 22 (X 17 0) a9 22 (X 17 0))
      rw [gup_at]) hc9 hf hL
  refine j_pop C dX5_newReel_24 rfl ?_
  refine j_aload_n C dX5_newReel_25 rfl ?_
  refine j_aret C ME (Or.inl ⟨_, rfl⟩) (Or.inr ⟨_, rfl⟩) ?_ (by first | omega | exact Nat.le_of_ble_eq_true rfl) (by first | omega | exact Nat.le_of_ble_eq_true rfl) dX5_newReel_26
  exact ⟨q9, a9, by rw [show gup (gup G 3 (X 17 0) q9) 22 (X 17 0) a9 3 (X 17 0) = gup G 3 (X 17 0) q9 3 (X 17 0) from rfl, gup_at], hnew⟩

def apX (X : wM) (r s : Int) : wM := mup (rset X 16 14 r (X 16 r + 1) (fun k => if k = X 16 r then s else X 14 (60 * r + k))) 7 s r
set_option maxHeartbeats 4000000 in
set_option maxRecDepth 100000 in
theorem u_append (l : Launch) (hfl : l.stackTraces = false) {D : wD} {S : wS} {G : wG} {X : wM} (hC : RC D.2.2.1 S G X) {r9 s9 : Int} (hr : 0 ≤ r9 ∧ r9 < X 17 0) (hs : 0 ≤ s9 ∧ s9 < X 12 0) (hc9 : X 16 r9 < 60) : CtD l D yX2_append cX2_append 2 none 7 1 150 [.ref (G 3 r9), .ref (G 4 s9)] S (fun r S' => r = .inl none ∧ RCF D.2.2.1 S S' G (apX X r9 s9)) := by
  refine CtD.of cal_X2_append hfl (Nat.le_of_ble_eq_true rfl) ?_
  intro p e s m args below meth c sz C ME
  have hR : RCF D.2.2.1 S S G X := ⟨hC, cF.rf⟩
  obtain ⟨T, hh⟩ := hC.2
  have w6 := hC.w6
  unfold wf6 at w6
  have wf := hC.w3 hr
  unfold wf3 at wf
  refine j_aload_n C dX2_append_0 rfl ?_
  refine jg_3_2 C hR (by omega) fl_Re_10 dX2_append_1 ?_
  refine j_aload_n C dX2_append_4 rfl ?_
  refine j_callVD C (c_alAdd l hfl (y := G 4 s9) (hh.2.2.2.2.2.2.1.2.2 r9 hr.1 hr.2) (by omega) (by rw [hC.k4 hs]; decide) (fun k hk => by rw [hC.k4 (wf.2.2 k (by omega) hk)]; decide)) cal_Jx4a65c_add_9ea2d vi_Jx4a65c_add_9ea2d ml_Re_24 (hC.q_rrow hr) ⟨by decide, by decide, rfl⟩ rfl rfl (Nat.le_of_ble_eq_true rfl) ⟨by decide, by decide⟩ ⟨(by first | omega | (dsimp only; omega) | exact Nat.le_of_ble_eq_true rfl), (by first | omega | (dsimp only; omega) | exact Nat.le_of_ble_eq_true rfl)⟩ dX2_append_5 (fun E S9 h => nomatch h.1) (fun v9 S3 h => ?_)
  obtain ⟨h, hL⟩ := h
  cases h
  have hR : RCF D.2.2.1 S S3 G (rset X 16 14 r9 (X 16 r9 + 1) (fun k => if k = X 16 r9 then s9 else X 14 (60 * r9 + k))) := RC.row2 hC.1 hh hr hL (fun k k1 k2 => by show (if k = X 16 r9 then G 4 s9 else G 4 (X 14 (60 * r9 + k))) = _; split <;> rfl) (by omega) (fun k k1 k2 => by
    show 0 ≤ (if k = X 16 r9 then s9 else X 14 (60 * r9 + k)) ∧ (if k = X 16 r9 then s9 else X 14 (60 * r9 + k)) < X 12 0
    split
    · exact hs
    · exact wf.2.2 k k1 (by omega))
  refine j_pop C dX2_append_8 rfl ?_
  refine j_aload_n C dX2_append_9 rfl ?_
  refine j_aload_n C dX2_append_10 rfl ?_
  refine jp_4_4 C hR (by exact hs) (by exact hr) fl_Re_28 dX2_append_11 (fun S2 hR => ?_)
  refine j_vret C ME ?_ (by first | omega | exact Nat.le_of_ble_eq_true rfl) (by first | omega | exact Nat.le_of_ble_eq_true rfl) dX2_append_14
  exact ⟨rfl, hR⟩

