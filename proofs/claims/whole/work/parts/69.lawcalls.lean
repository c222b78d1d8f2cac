/-! THE LAW's calls: the class's number M', the reference's number M, the two rows of one element. -/
/-- both at the numbers M -/
def LwI (D : wD) (S : wS) (q o la da : Nat) (B : Nat → Nat) (M : wM) : Prop := Jn D.2.2.1 S q M ∧ RM S o B M ∧ (sK S la = 10 ∧ sN S la = 1) ∧ (sK S da = 13 ∧ sN S da = 1)
/-- the class at M', the reference still at M -/
def LwK (D : wD) (S : wS) (q o la da : Nat) (B : Nat → Nat) (M M' : wM) : Prop := Jn D.2.2.1 S q M' ∧ RM S o B M ∧ (sK S la = 10 ∧ sN S la = 1) ∧ (sK S da = 13 ∧ sN S da = 1)
theorem LwI.cF {D : wD} {S S' : wS} {q o la da : Nat} {B : Nat → Nat} {M M' : wM} (I : LwI D S q o la da B M) (f : cF S S') (h : Jn D.2.2.1 S' q M') : LwK D S' q o la da B M M' := by
  obtain ⟨-, hR, hl, hd⟩ := I
  have f1 := f la (by rw [hl.1]; decide)
  have f2 := f da (by rw [hd.1]; decide)
  exact ⟨h, hR.cF f, ⟨f1.1.trans hl.1, f1.2.1.trans hl.2⟩, ⟨f2.1.trans hd.1, f2.2.1.trans hd.2⟩⟩
theorem LwK.put10 {D : wD} {S : wS} {q o la da : Nat} {B : Nat → Nat} {M M' : wM} {v : Value} (I : LwK D S q o la da B M M') : LwK D (sPutE S 10 la 0 v) q o la da B M M' :=
  ⟨I.1.put10 I.2.2.1.2, I.2.1.putO (Or.inl rfl), I.2.2.1, I.2.2.2⟩
theorem LwK.put13 {D : wD} {S : wS} {q o la da : Nat} {B : Nat → Nat} {M M' : wM} {v : Value} (I : LwK D S q o la da B M M') : LwK D (sPutE S 13 da 0 v) q o la da B M M' :=
  ⟨I.1.put13, I.2.1.putO (Or.inr rfl), I.2.2.1, I.2.2.2⟩
theorem LwK.ref {D : wD} {S S' : wS} {q o la da : Nat} {B : Nat → Nat} {M M' M2 : wM} (I : LwK D S q o la da B M M') (f : RMF S S' o B M2) : LwK D S' q o la da B M2 M' := by
  obtain ⟨hJ, hR, hl, hd⟩ := I
  have e1 : sK S' = sK S := f.2.1
  have e2 : sN S' = sN S := f.2.2.1
  exact ⟨hJ.mF f.2, f.1, by rw [e1, e2]; exact hl, by rw [e1, e2]; exact hd⟩
theorem mF.sE {S S' : wS} (f : mF S S') {kd : Nat} (h : kd = 10 ∨ kd = 13) : sE S' kd = sE S kd := f.2.2.2 kd (by omega) (by omega)
theorem sE_putS {S : wS} {kd a i : Nat} {v : Value} : sE (sPutE S kd a i v) kd a i = v := by
  show (if (kd = kd ∧ a = a ∧ i = i) then v else _) = v
  rw [if_pos ⟨rfl, rfl, rfl⟩]
section LAW69
variable {p : Program} {l : Launch} {e : Env} {s : State} {m : MethodId} {args : Array Value} {below : List Frame} {meth : Method} {c : Code} {D : wD} {Q : State → Prop}
variable {pc : Nat} {lv : List (Nat × Value)} {st0 As : List Value} {S : wS} {k n : Nat} {A : Nat → Prop}
variable {q o la da : Nat} {B : Nat → Nat} {M M' : wM} {y : MethodName} {bc : ByteArray} {nc np idx ms : Nat} {hh : HT} {xc v : Int} {V : Value}
/-- a wrapper, its code into local 6 -/
theorem j_wcall (C : Cx p l s m args meth c cL_law 9 RL D A) (hs : hN s) {kd a : Nat} (hkd : (kd = 10 ∧ a = la) ∨ (kd = 13 ∧ a = da)) (I : LwI D S q o la da B M) (hM : CtH l D y bc nc (some .int) hh 21 100 ms As S (wrP D.2.2.1 S q kd a xc V M')) (hc : CalH y bc nc (some .int) hh np) (hv : Cond.static y ∈ WALL) (hl : Cond.methodLink RL idx y ∈ WALL)
    (hn : As.length = np) (hst : st0 = As.reverse) (hnc : nc ≤ 20) (hms : ms ≤ 10000) (hR : k + 100 ≤ 603072 ∧ n + 10000 ≤ 7215209) (d0 : decode cL_law pc = .ok (.invokestatic idx, 3)) (d3 : decode cL_law (pc + 3) = .ok (.istore 6, 2))
    (kk : ∀ S', LwK D S' q o la da B M M' → (xc = 0 → sE S' kd a 0 = V) → J p l e room_1 s m args below meth c 9 D A Q (pc + 5) (lvp lv 6 (.int (iN xc))) [] S' (k + 100) (n + 10000)) : J p l e room_1 s m args below meth c 9 D A Q pc lv st0 S k n := by
  refine j_callSH (rest := []) C hs hM hc hv hl hn (by rw [hst, List.append_nil]) (Nat.le_of_ble_eq_true rfl) ⟨Nat.le_of_ble_eq_true rfl, by show 8 + (nc + 11) + 200 * 21 ≤ 94400; omega⟩ ⟨hR.1, by show n + ms ≤ 7215209; omega⟩ d0 (fun E S9 h => ?_) (fun v9 S9 h => ?_)
  · obtain ⟨S1, -, -, h3, -⟩ := h
    exact nomatch h3
  · obtain ⟨S1, h1, h2, h3, h4⟩ := h
    cases h3
    refine J.widen (k' := k + 100) (n' := n + 10000) (Nat.le_refl _) (by omega) ?_
    refine j_istore C d3 (by decide) ?_
    have K := I.cF h1 h2
    rcases h4 with ⟨h4, rfl⟩ | ⟨h4, rfl⟩
    · refine kk _ ?_ (fun _ => ?_)
      · rcases hkd with ⟨rfl, rfl⟩ | ⟨rfl, rfl⟩
        · exact K.put10
        · exact K.put13
      · rcases hkd with ⟨rfl, rfl⟩ | ⟨rfl, rfl⟩ <;> exact sE_putS
    · exact kk _ K (fun z => absurd z h4)
/-- a method of the reference -/
theorem j_rcall (C : Cx p l s m args meth c cL_law 9 RL D A) {kd a : Nat} (hkd : kd = 10 ∨ kd = 13) {rc : Option FieldType} {w : Value} {M2 : wM} {dd : Nat} (I : LwK D S q o la da B M M') (hm : MC l y bc nc rc dd As M (.inl (some w)) M2) (hc : Cal y bc nc rc np) (hv : Cond.instanceMethod y ∈ WALL ∧ Cond.selects y.cls y y ∈ WALL) (hy : RX6 = y.cls) (hl : Cond.methodLink RL idx y ∈ WALL)
    (hn : As.length = np) {rest : List Value} (hst : st0 = As.reverse ++ .ref o :: rest) (hw : (rest.map fun v => v.category).sum ≤ 8) (hnc : nc ≤ 20 ∧ dd ≤ 20) (hR : k ≤ 603072 ∧ n ≤ 7215209) (d0 : decode cL_law pc = .ok (.invokevirtual idx, 3))
    (kk : ∀ S', LwK D S' q o la da B M2 M' → sE S' kd a 0 = sE S kd a 0 → J p l e room_1 s m args below meth c 9 D A Q (pc + 3) lv (w :: rest) S' k n) : J p l e room_1 s m args below meth c 9 D A Q pc lv st0 S k n := by
  refine j_mcall C (S0 := S) ⟨I.2.1, mF.rf⟩ hm hc hv hy hl hn hst hw ⟨by show 20 * dd + 1 ≤ 2048; omega, by show 8 + (nc + 11) + 200 * dd ≤ 94400; omega⟩ hR d0 (fun S' h => ?_)
  exact kk S' (I.ref h) (by rw [h.2.sE hkd])
/-- the codes must be equal -/
theorem j_codes (l : Launch) (hfl : l.stackTraces = false) (C : Cx p l s m args meth c cL_law 9 RL D A) {kd a : Nat} (hkd : kd = 10 ∨ kd = 13) (I : LwK D S q o la da B M' M') (hx : M' 0 0 = xc) (hr : rg xc) (l2 : lvg lv 2 = some (.ref o)) (l6 : lvg lv 6 = some (.int (iN xc))) (hR : k ≤ 603072 ∧ n ≤ 7215209)
    (d0 : decode cL_law pc = .ok (.aload_n 2, 1)) (d1 : decode cL_law (pc + 1) = .ok (.invokevirtual 135, 3)) (d4 : decode cL_law (pc + 4) = .ok (.iload 6, 2)) (d6 : decode cL_law (pc + 6) = .ok (.if_icmp .eq 5, 3)) (d11 : decode cL_law (pc + 11) = .ok (.iload 6, 2))
    (kk : ∀ S', LwI D S' q o la da B M' → sE S' kd a 0 = sE S kd a 0 → J p l e room_1 s m args below meth c 9 D A Q (pc + 13) lv [.int (iN xc)] S' k n) : J p l e room_1 s m args below meth c 9 D A Q pc lv [] S k n := by
  subst hx
  refine j_aload_n C d0 l2 ?_
  refine j_rcall C (kd := kd) (a := a) (rest := []) hkd I (c_thrown l hfl) cal_X6_thrown vi_X6_thrown rfl ml_La_135 rfl rfl (Nat.le_of_ble_eq_true rfl) ⟨Nat.le_of_ble_eq_true rfl, Nat.le_of_ble_eq_true rfl⟩ hR d1 (fun S' K hE => ?_)
  refine j_iload C d4 l6 ?_
  refine j_icmp_eq (tgt := pc + 11) C d6 (by omega) hr hr (fun _ => ?_) (fun z => absurd rfl z)
  refine j_iload C d11 l6 ?_
  exact kk S' K hE
/-- the end of a call that answers an int -/
theorem j_tail (l : Launch) (hfl : l.stackTraces = false) (C : Cx p l s m args meth c cL_law 9 RL D A) (I : LwK D S q o la da B M' M') (hx : M' 0 0 = xc) (hr : rg xc) (hv : xc = 0 → sE S 10 la 0 = .long (iN v).toInt64) (l2 : lvg lv 2 = some (.ref o)) (l3 : lvg lv 3 = some (.ref la)) (l6 : lvg lv 6 = some (.int (iN xc))) (l7 : lvg lv 7 = some (.int (iN (if xc = 0 then v else 0)))) (hR : k ≤ 603072 ∧ n ≤ 7215209) {off : Int}
    (d0 : decode cL_law pc = .ok (.aload_n 2, 1)) (d1 : decode cL_law (pc + 1) = .ok (.invokevirtual 135, 3)) (d4 : decode cL_law (pc + 4) = .ok (.iload 6, 2)) (d6 : decode cL_law (pc + 6) = .ok (.if_icmp .eq 5, 3)) (d11 : decode cL_law (pc + 11) = .ok (.iload 6, 2)) (d13 : decode cL_law (pc + 13) = .ok (.ifCond .ne 15, 3))
    (d16 : decode cL_law (pc + 16) = .ok (.aload_n 3, 1)) (d17 : decode cL_law (pc + 17) = .ok (.iconst 0, 1)) (d18 : decode cL_law (pc + 18) = .ok (.laload, 1)) (d19 : decode cL_law (pc + 19) = .ok (.iload 7, 2)) (d21 : decode cL_law (pc + 21) = .ok (.i2l, 1)) (d22 : decode cL_law (pc + 22) = .ok (.lcmp, 1)) (d23 : decode cL_law (pc + 23) = .ok (.ifCond .eq 5, 3)) (d28 : decode cL_law (pc + 28) = .ok (.goto off, 3)) (ho : ((pc + 28 : Nat) : Int) + off = 2278)
    (kk : ∀ S', LwI D S' q o la da B M' → J p l e room_1 s m args below meth c 9 D A Q 2278 lv [] S' k n) : J p l e room_1 s m args below meth c 9 D A Q pc lv [] S k n := by
  refine j_codes l hfl C (kd := 10) (a := la) (Or.inl rfl) I hx hr l2 l6 hR d0 d1 d4 d6 d11 (fun S' K hE => ?_)
  refine j_if_ne (tgt := pc + 28) C d13 (by omega) hr (fun _ => ?_) (fun z => ?_)
  · refine j_goto (tgt := 2278) C d28 ho ?_
    exact kk S' K
  · rw [if_pos z] at l7
    refine j_aload_n C d16 l3 ?_
    refine j_iconst C d17 ?_
    refine j_lald C K.2.2.1.1 ⟨by decide, by rw [K.2.2.1.2]; decide, by decide⟩ (hE.trans (hv z)) d18 ?_
    refine j_iload C d19 l7 ?_
    refine j_i2lx C d21 ?_
    refine j_lcmpS C d22 ?_
    refine j_if_eq (tgt := pc + 28) C d23 (by omega) rg_0 (fun _ => ?_) (fun z => absurd rfl z)
    refine j_goto (tgt := 2278) C d28 ho ?_
    exact kk S' K
end LAW69
