/-! MORE ROWS: rows of Object, the empty row, class objects, copies. -/
theorem gc_in : Cond.instanceMethod ⟨"java/lang/Object", "getClass", "()Ljava/lang/Class;"⟩ ∈ WALL := WALL_at 356 (by decide +kernel) rfl
theorem gc_na : Cond.native ⟨"java/lang/Object", "getClass", "()Ljava/lang/Class;"⟩ ∈ WALL := WALL_at 375 (by decide +kernel) rfl
theorem gc_se : Cond.selects "[Ljava/lang/Object;" ⟨"java/lang/Object", "getClass", "()Ljava/lang/Class;"⟩ ⟨"java/lang/Object", "getClass", "()Ljava/lang/Class;"⟩ ∈ WALL := WALL_at 1617 (by decide +kernel) rfl
theorem wCas_at {kd : Nat} (h : 1 ≤ kd ∧ kd ≤ 5) : ((kC kd).1, "java/lang/Object") ∈ wCas := by
  rcases (show kd = 1 ∨ kd = 2 ∨ kd = 3 ∨ kd = 4 ∨ kd = 5 by omega) with rfl | rfl | rfl | rfl | rfl <;> simp [wCas, kC]
section QROWS
variable {p : Program} {l : Launch} {e : Env} {R : Room} {s : State} {m : MethodId} {args : Array Value} {below : List Frame} {meth : Method} {c : Code} {nL : Nat} {D : wD} {A : Nat → Prop} {Q : State → Prop}
variable {cc : ByteArray} {own : String} {pc : Nat} {lv : List (Nat × Value)} {st : List Value} {S : wS} {k n : Nat}
theorem j_getsE (C : Cx p l s m args meth c cc nL RJx4a65c D A) (d : decode cc pc = .ok (.getstatic 39, 3)) (kk : J p l e R s m args below meth c nL D A Q (pc + 3) lv (.ref D.2.2.1 :: st) S k n) : J p l e R s m args below meth c nL D A Q pc lv st S k n := by
  intro H locs ls h1 h2 h3
  obtain ⟨c1, c2, c3, c4, c5, c6, c7, -⟩ := C
  exact va_gets c1 c2 c7.2.2.1 h3 c4 (c5 _ sl_AL_39) (fun _ h => h) d (kk H locs ls h1 h2 h3)
theorem j_alenE (C : Cx p l s m args meth c cc nL own D A) (d : decode cc pc = .ok (.arraylength, 1)) (kk : J p l e R s m args below meth c nL D A Q (pc + 1) lv (.int (iN 0) :: st) S k n) : J p l e R s m args below meth c nL D A Q pc lv (.ref D.2.2.1 :: st) S k n := by
  intro H locs ls h1 h2 h3
  obtain ⟨c1, c2, c3, c4, c5, c6, c7, -⟩ := C
  obtain ⟨cell, z1, z2, z3, z4⟩ := c7.2.2.2.1
  have hq : H[D.2.2.1]? = some cell := by rw [h3.2.1 _ (Array.getElem?_eq_some_iff.mp z1).1 c7.2.2.2.2]; exact z1
  refine W.alen (n := iN 0) c1 c2 hq z2 ?_ rfl rfl d (kk H locs ls h1 h2 h3)
  rw [z4]
  exact iN_ofNat _
theorem j_aast (C : Cx p l s m args meth c cc nL own D A) {a b kd : Nat} {z : Int} (hk : sK S a = 12) (hb : sK S b = kd) (h5 : 1 ≤ kd ∧ kd ≤ 5) (hz : 0 ≤ z ∧ z < (sN S a : Int) ∧ z < 2147483648) (d : decode cc pc = .ok (.aastore, 1)) (kk : J p l e R s m args below meth c nL D A Q (pc + 1) lv st (sPutE S 12 a z.toNat (.ref b)) k n) : J p l e R s m args below meth c nL D A Q pc lv (.ref b :: .int (iN z) :: .ref a :: st) S k n := by
  intro H locs ls h1 h2 h3
  obtain ⟨c1, c2, c3, c4, c5, c6, c7, c8, -⟩ := C
  obtain ⟨-, w2, w3⟩ := h2 a (by omega)
  have q1 := w2.2 (by omega)
  rw [hk] at q1
  obtain ⟨-, v2, -⟩ := h2 b (by omega)
  obtain ⟨cellV, g1, g2, g3, -⟩ := v2.1 (by omega)
  rw [hb] at g2
  have hcl : s.vm.findClass (kC kd).1 = some (D.1 kd) := (c6.1 kd (by omega) (by omega)).2.1
  obtain ⟨kA, comp, k1, k2, k3, -⟩ := (c6.2 12 (by omega) (by omega)).2
  obtain ⟨kE, hkE, -⟩ := Vm.findClass_spec k3
  obtain ⟨c0, t1, f1, f2, f3⟩ := Cond.castable_spec (va_Nw.use (A := args) rfl (c8.1 _ (wCas_at h5)))
  cases hcl.symm.trans f1
  cases k3.symm.trans f2
  obtain ⟨kC9, hkC, -⟩ := Vm.findClass_spec hcl
  have hi : ¬ iN z < 0 := by rw [iN_lt0 (show rg z by unfold rg; omega)]; omega
  refine W.aast c1 c2 q1 (fun q h => by cases h) (fun h => by cases h) k1 k2 rfl hkE ⟨hi, by rw [arrV_size, iN_nat hz.1 hz.2.2]; omega⟩ g1 (fun q h => by rw [g3] at h; cases h) (by rw [g2]; exact hkC) (by rw [g2]; exact f3) rfl rfl d fun H' e1 e2 e3 => ?_
  rw [iN_nat hz.1 hz.2.2] at e1 ⊢
  exact kk H' _ ls h1 (wI_putE h2 hk (by omega) (by omega) e1 e3) (h3.put e2 e3 w3)
theorem j_aastN (C : Cx p l s m args meth c cc nL own D A) {a : Nat} {z : Int} (hk : sK S a = 12) (hz : 0 ≤ z ∧ z < (sN S a : Int) ∧ z < 2147483648) (d : decode cc pc = .ok (.aastore, 1)) (kk : J p l e R s m args below meth c nL D A Q (pc + 1) lv st (sPutE S 12 a z.toNat .null) k n) : J p l e R s m args below meth c nL D A Q pc lv (.null :: .int (iN z) :: .ref a :: st) S k n := by
  intro H locs ls h1 h2 h3
  obtain ⟨c1, c2, c3, c4, c5, c6, c7, c8, -⟩ := C
  obtain ⟨-, w2, w3⟩ := h2 a (by omega)
  have q1 := w2.2 (by omega)
  rw [hk] at q1
  refine va_WaastN (C := "java/lang/Object") c1 c2 q1 ((c6.2 12 (by omega) (by omega)).1 _ _) (fun h => by cases h) (by rw [arrV_size]; exact iN_in hz.1 hz.2.1 hz.2.2) rfl rfl d fun H' e1 e2 e3 => ?_
  rw [iN_nat hz.1 hz.2.2] at e1 ⊢
  exact kk H' _ ls h1 (wI_putE h2 hk (by omega) (by omega) e1 e3) (h3.put e2 e3 w3)
theorem j_newq (C : Cx p l s m args meth c cc nL own D A) {idx : Nat} {z : Int} (hl : Cond.classLink own idx "java/lang/Object" ∈ WALL) (h0 : 0 ≤ z ∧ z < 100000) (hr : k + 1 ≤ R.cells ∧ n + z.toNat ≤ R.slots) (d : decode cc pc = .ok (.anewarray idx, 3))
    (kk : ∀ q : Nat, sK S q = 0 → q ≠ D.2.2.1 → J p l e R s m args below meth c nL D A Q (pc + 3) lv (.ref q :: st) (sNewA S 12 q z.toNat (fun _ => .null)) (k + 1) (n + z.toNat)) : J p l e R s m args below meth c nL D A Q pc lv (.int (iN z) :: st) S k n := by
  intro H locs ls h1 h2 h3
  obtain ⟨c1, c2, c3, c4, c5, c6, c7, c8, c9, -⟩ := C
  have hea : D.2.2.1 < H.size := by
    obtain ⟨cell, z, -⟩ := c7.2.2.2.1
    exact Nat.lt_of_lt_of_le (Array.getElem?_eq_some_iff.mp z).1 h3.1
  have hnn : (iN z).toNatClampNeg = z.toNat := iN_nat h0.1 (by omega)
  refine W.anew c1 c2 c4 (c5 _ hl) (va_AO.use c8.2.2.2.2.1) rfl d rfl (by rw [iN_lt0 (show rg z by unfold rg; omega)]; omega) (by rw [hnn]; show z.toNat * 4 ≤ 536870912; omega) hr.1 (by rw [hnn]; exact hr.2) fun cA kA comp f1 f2 f3 f4 => ?_
  obtain ⟨-, -, -, -, -, r4⟩ := (c6.2 12 (by omega) (by omega)).2
  cases r4.symm.trans f1
  rw [hnn]
  generalize hH1 : H.push ({ cls := D.1 12, slots := Array.replicate z.toNat .null, vm := .none } : Cell) = H1
  have e1 : H1[H.size]? = some (arrV (D.1 12) z.toNat (fun _ => .null)) := by rw [← hH1, Array.getElem?_push_size, ← arrV_new]
  have o1 : ∀ q : Nat, q < H.size → H1[q]? = H[q]? := fun q hq => by rw [← hH1, Array.getElem?_push, if_neg (Nat.ne_of_lt hq)]
  have z1 : H1.size = H.size + 1 := by rw [← hH1, Array.size_push]
  exact kk H.size h2.new (by omega) H1 locs ls h1 (wI_newA h2 ⟨by omega, by omega⟩ (c9 _ h3.1) e1 o1) ⟨Nat.le_trans h3.1 (by omega), fun x g1 g2 => (o1 x (Nat.lt_of_lt_of_le g1 h3.1)).trans (h3.2.1 x g1 g2), h3.2.2⟩
theorem wI_putR {H H' : Heap} {a kd : Nat} {f : Nat → Value} (h2 : wI D A S H) (hk : sK S a = kd) (h9 : 9 ≤ kd) (e1 : H'[a]? = some (arrV (D.1 kd) (sN S a) f)) (e3 : ∀ q, q ≠ a → H'[q]? = H[q]?) : wI D A (sPutR S kd a f) H' := by
  intro b hb
  obtain ⟨w1, w2, w3⟩ := h2 b hb
  refine ⟨w1, ?_, w3⟩
  by_cases e : b = a
  · subst e
    refine ⟨fun q => absurd (show sK S b ≤ 8 from q) (by omega), fun q => ?_⟩
    show H'[b]? = some (arrV (D.1 (sK S b)) (sN S b) (fun j => if (sK S b = kd ∧ b = b) then f j else sE S (sK S b) b j))
    rw [e1, hk]
    congr 2
    funext j
    simp
  · refine ⟨fun q => (w2.1 q).kept (e3 b e), fun q => ?_⟩
    show H'[b]? = some (arrV (D.1 (sK S b)) (sN S b) (fun j => if (sK S b = kd ∧ b = a) then f j else sE S (sK S b) b j))
    rw [e3 b e, w2.2 q]
    congr 2
    funext j
    rw [if_neg (fun z => e z.2)]
/-- System.arraycopy of Object rows -/
theorem j_copyq (C : Cx p l s m args meth c cc nL own D A) {idx a0 a : Nat} {sp dp z : Int} (hl : Cond.methodLink own idx arraycopyName ∈ WALL) (hk0 : sK S a0 = 12) (hk : sK S a = 12) (h1' : 0 ≤ sp ∧ 0 ≤ dp ∧ 0 ≤ z) (h4 : sp + z ≤ (sN S a0 : Int)) (h5 : dp + z ≤ (sN S a : Int)) (h6 : sp < 100000 ∧ dp < 100000 ∧ z < 100000)
    (hel : ∀ i : Nat, (i : Int) < z → sE S 12 a0 (sp.toNat + i) = .null ∨ ∃ y kd : Nat, sE S 12 a0 (sp.toNat + i) = .ref y ∧ sK S y = kd ∧ 1 ≤ kd ∧ kd ≤ 5)
    (hR : 1 ≤ R.frames ∧ (st.map fun v => v.category).sum + 40 ≤ R.locals) (d : decode cc pc = .ok (.invokestatic idx, 3))
    (kk : J p l e R s m args below meth c nL D A Q (pc + 3) lv st (sPutR S 12 a (va_cpy (fun i => sE S 12 a0 i) (fun i => sE S 12 a i) sp.toNat dp.toNat z.toNat)) k n) : J p l e R s m args below meth c nL D A Q pc lv (.int (iN z) :: .int (iN dp) :: .ref a :: .int (iN sp) :: .ref a0 :: st) S k n := by
  intro H locs ls h1 h2 h3 T hT X
  obtain ⟨c1, c2, c3, c4, c5, c6, c7, c8, c9, -⟩ := C
  have nn : ∀ x : Int, 0 ≤ x → x < 100000 → (iN x).toInt = x := fun x g1 g2 => iN_T (by unfold rg; omega)
  have nc : ∀ x : Int, 0 ≤ x → x < 100000 → (iN x).toNatClampNeg = x.toNat := fun x g1 g2 => iN_nat g1 (by omega)
  have ng : ∀ x : Int, 0 ≤ x → x < 100000 → ¬ iN x < 0 := fun x g1 g2 => by rw [iN_lt0 (show rg x by unfold rg; omega)]; omega
  obtain ⟨-, w2, -⟩ := h2 a0 (by omega)
  have hc0 := w2.2 (by omega)
  rw [hk0] at hc0
  obtain ⟨-, w2', w3⟩ := h2 a (by omega)
  have hc1 := w2'.2 (by omega)
  rw [hk] at hc1
  obtain ⟨-, k0, hk0', cm0, hkk0⟩ := (c6.2 12 (by omega) (by omega)).1 (sN S a0) (fun j => sE S 12 a0 j)
  obtain ⟨kA, comp, r1, r2, r3, -⟩ := (c6.2 12 (by omega) (by omega)).2
  obtain ⟨vm', X', step⟩ := X.arraycopy c1 c4 (c5 _ hl) (c5 _ na_cp) (c5 _ st_cp) (c5 _ ini_Sy) (src := a0) (dst := a) (cs := arrV (D.1 12) (sN S a0) (fun j => sE S 12 a0 j)) (cd := arrV (D.1 12) (sN S a) (fun j => sE S 12 a j)) (srcPos := iN sp) (destPos := iN dp) (n := iN z) (by rw [hT]; exact hc0) (by rw [hT]; exact hc1)
    (fun _ h => by cases h) (fun _ h => by cases h) (fun h => by cases h) (fun h => by cases h) hk0' hk0' hkk0 hkk0 rfl (ng _ h1'.1 h6.1) (ng _ h1'.2.1 h6.2.1) (ng _ h1'.2.2 h6.2.2)
    (by rw [nn sp h1'.1 h6.1, nn z h1'.2.2 h6.2.2, arrV_size]; omega)
    (by rw [nn dp h1'.2.1 h6.2.1, nn z h1'.2.2 h6.2.2, arrV_size]; omega)
    (fun vm₁ hal i hi => by
      rw [nc z h1'.2.2 h6.2.2] at hi
      have e9 : (arrV (D.1 12) (sN S a0) (fun j => sE S 12 a0 j)).slots.getD ((iN sp).toNatClampNeg + i) .null = sE S 12 a0 (sp.toNat + i) := by
        rw [nc sp h1'.1 h6.1, Array.getD_eq_getD_getElem?, arrV_read _ _ (by omega)]
        rfl
      rw [e9]
      rcases hel i (by omega) with hy | ⟨y, kd, hy, g1, g2, g3⟩
      · rw [hy]; exact ⟨rfl, trivial⟩
      · rw [hy]
        obtain ⟨-, v2, -⟩ := h2 y (by omega)
        obtain ⟨cellV, q1, q2, q3, -⟩ := v2.1 (by omega)
        rw [g1] at q2
        have hcl : s.vm.findClass (kC kd).1 = some (D.1 kd) := (c6.1 kd (by omega) (by omega)).2.1
        obtain ⟨c0, t1, f1, f2, f3⟩ := Cond.castable_spec (va_Nw.use (A := args) rfl (c8.1 _ (wCas_at ⟨g2, g3⟩)))
        cases hcl.symm.trans f1
        cases r3.symm.trans f2
        cases hk0'.symm.trans r1
        cases hkk0.symm.trans r2
        obtain ⟨kC9, hkC, -⟩ := Vm.findClass_spec hcl
        obtain ⟨kE, hkE, -⟩ := Vm.findClass_spec r3
        obtain ⟨kC', hkC', -⟩ := hal.2.2 _ _ hkC
        obtain ⟨kE', hkE', -⟩ := hal.2.2 _ _ hkE
        refine ⟨rfl, cellV, (show T.heap[y]? = some cellV by rw [hT]; exact q1), (fun q h => by rw [q3] at h; cases h), ⟨kC', by rw [q2]; exact hkC'⟩, ?_, ?_⟩
        · exact ⟨kE', hkE'⟩
        · show vm₁.assignable _ _ = true
          rw [hal.assignable, q2]
          exact f3)
    (g := F0 m pc ls (.int (iN z) :: .int (iN dp) :: .ref a :: .int (iN sp) :: .ref a0 :: st)) rfl (by rw [c3]; exact h1.1) (rest := st) rfl (by rw [c2]; exact d) hR.1 (by have hw : nativeFrameWords "java/lang/System" "arraycopy" 5 ≤ 20 := (by decide); show 2 * 0 + _ + _ ≤ _; omega)
  have e1 : copied (arrV (D.1 12) (sN S a0) (fun j => sE S 12 a0 j)) (arrV (D.1 12) (sN S a) (fun j => sE S 12 a j)) (iN sp) (iN dp) (iN z) = arrV (D.1 12) (sN S a) (va_cpy (fun i => sE S 12 a0 i) (fun i => sE S 12 a i) sp.toNat dp.toNat z.toNat) := by
    show Cell.storeRun _ _ (Cell.stretch _ _ _) = _
    rw [nc sp h1'.1 h6.1, nc dp h1'.2.1 h6.2.1, nc z h1'.2.2 h6.2.2]
    exact va_copied (fun v : Value => v) (D.1 12) (D.1 12) (fun i => sE S 12 a0 i) (fun i => sE S 12 a i) (by omega)
  rw [e1] at X' step
  generalize hf : va_cpy (fun i => sE S 12 a0 i) (fun i => sE S 12 a i) sp.toNat dp.toNat z.toNat = f at X' step kk
  have hl9 : a < H.size := (Array.getElem?_eq_some_iff.mp hc1).1
  have hheap : ((T.setVm vm').setCell a (arrV (D.1 12) (sN S a) f)).heap = H.setIfInBounds a (arrV (D.1 12) (sN S a) f) := by rw [← hT]; rfl
  have oq : ∀ q : Nat, q ≠ a → (H.setIfInBounds a (arrV (D.1 12) (sN S a) f))[q]? = H[q]? := fun q hq => by simp [Array.getElem?_setIfInBounds, Ne.symm hq]
  obtain ⟨t, a1, b1⟩ := kk _ _ ls h1 (wI_putR h2 hk (by omega) (show (H.setIfInBounds a _)[a]? = some _ by simp [Array.getElem?_setIfInBounds, hl9]) oq) ⟨by simp; exact h3.1, fun q g1 g2 => by
      rw [oq q (fun e => g2 (by rw [e]; exact w3))]
      exact h3.2.1 q g1 g2, fun q hq => by
      rcases List.mem_append.mp hq with h | h
      · exact h3.2.2 q h
      · obtain ⟨x, -, hx⟩ := List.mem_map.mp h
        rw [← hx]
        exact w3⟩ _ hheap X'
  exact ⟨t, step t a1, b1⟩
theorem j_getC (C : Cx p l s m args meth c cc nL own D A) {idx a : Nat} (hl : Cond.methodLink own idx (⟨"java/lang/Object", "getClass", "()Ljava/lang/Class;"⟩ : MethodName) ∈ WALL) (hk : sK S a = 12) (hR : 1 ≤ R.frames ∧ (st.map fun v => v.category).sum + 14 ≤ R.locals) (d : decode cc pc = .ok (.invokevirtual idx, 3))
    (kk : J p l e R s m args below meth c nL D A Q (pc + 3) lv (.ref D.2.2.2 :: st) S k n) : J p l e R s m args below meth c nL D A Q pc lv (.ref a :: st) S k n := by
  intro H locs ls h1 h2 h3
  obtain ⟨c1, c2, c3, c4, c5, c6, c7, c8, -⟩ := C
  obtain ⟨-, w2, -⟩ := h2 a (by omega)
  have hc := w2.2 (by omega)
  rw [hk] at hc
  exact va_getC c1 c2 (by rw [c3]; exact h1.1.symm) c4 (c5 _ hl) (va_Dc.use c8.2.2.2.1) (c5 _ gc_se) (c5 _ gc_in) (c5 _ gc_na) c8.2.2.1 ⟨_, hc, rfl, va_nmO (c6.2 12 (by omega) (by omega)).2 (by decide)⟩ hR.1 hR.2 d (kk H locs ls h1 h2 h3)
theorem j_ldcC (C : Cx p l s m args meth c cc nL own D A) {idx : Nat} (hl : Cond.classLink own idx "[Ljava/lang/Object;" ∈ WALL) (d : decode cc pc = .ok (.ldc idx, 2))
    (kk : J p l e R s m args below meth c nL D A Q (pc + 2) lv (.ref D.2.2.2 :: st) S k n) : J p l e R s m args below meth c nL D A Q pc lv st S k n := by
  intro H locs ls h1 h2 h3
  obtain ⟨c1, c2, c3, c4, c5, c6, c7, c8, -⟩ := C
  exact va_ldcM c1 c2 c4 (c5 _ hl) c8.2.2.1 d (kk H locs ls h1 h2 h3)
end QROWS
