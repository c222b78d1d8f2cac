/-! METHODS WITH HANDLERS: the wrappers of the law's class. -/
def xI : String := "java/lang/IndexOutOfBoundsException"
def xA : String := "java/lang/IllegalArgumentException"
def xU : String := "java/lang/UnsupportedOperationException"
def xS : String := "java/lang/IllegalStateException"
def xN : String := "java/util/NoSuchElementException"
def wNc : List (String × String) := [(xA, xI), (xU, xI), (xU, xA), (xS, xI), (xS, xA), (xS, xU), (xN, xI)]
def hN (U : State) : Prop := va_Nw nestX U ∧ ∀ q ∈ wNc, va_Nc q.1 q.2 U
theorem hN.warm {s U : State} (hW : s.WarmedH U.vm) (h : hN s) : hN U := ⟨va_Nw.warmM hW h.1, fun q hq => va_Nc.moved hW.alike (h.2 q hq)⟩
theorem hN.call {U : State} {g : JFrame} {mk : MethodId} {a : Array Value} (h : hN U) : hN (U.calling g mk a) := ⟨va_Nw.same (u := U) (U := U.calling g mk a) rfl rfl h.1, fun q hq => va_Nc.moved (u := U) (U := U.calling g mk a) (Vm.Alike.refl U.vm) (h.2 q hq)⟩
abbrev HT : Type := List (Nat × Nat × Nat × Nat)
def CalH (y : MethodName) (cc : ByteArray) (nL : Nat) (ret : Option FieldType) (hh : HT) (np : Nat) : Prop :=
  plainName y.cls = true ∧ (y.cls ≠ "java/lang/invoke/MethodHandle" ∧ y.cls ≠ "java/lang/invoke/VarHandle" ∧ (parseMethodDescriptor y.desc).map (fun d => d.parameters.length) = some np) ∧ Cond.codeWith y cc nL ret hh ∈ WALL ∧ Cond.initialized y.cls ∈ WALL
def MeH (meth : Method) (c : Code) (nm : String) (ret : Option FieldType) (hh : HT) : Prop := meth.name = nm ∧ meth.sig.returnType = ret ∧ c.exceptionTable.toList = tableOf hh
def CtH (l : Launch) (D : wD) (y : MethodName) (cc : ByteArray) (nL : Nat) (ret : Option FieldType) (hh : HT) (d mc ms : Nat) (av : List Value) (S : wS) (Post : wR → wS → Prop) : Prop :=
  ∀ (sz : Nat), vx_Met l y (Cond.codeWith y cc nL ret hh :: WALL) { frames := 20 * d, cells := mc, slots := ms, locals := 200 * d } (va_Pc av (fun U => wPre D sz S U ∧ hN U)) (wQc D sz S Post) (wXC D sz S Post) mc ms (wA S sz)
theorem CtH.of {l : Launch} {D : wD} {y : MethodName} {cc : ByteArray} {nL : Nat} {ret : Option FieldType} {hh : HT} {d mc ms np : Nat} {av : List Value} {S : wS} {Post : wR → wS → Prop} (hc : CalH y cc nL ret hh np) (hfl : l.stackTraces = false) (hav : (lg_sl av).length ≤ nL)
    (body : ∀ (p : Program) (e : Env) (s : State) (m : MethodId) (args : Array Value) (below : List Frame) (meth : Method) (c : Code) (sz : Nat), hN s → Cx p l s m args meth c cc nL y.cls D (wA S sz) → MeH meth c y.name ret hh →
      J p l e { frames := 20 * d, cells := mc, slots := ms, locals := 200 * d } s m args below meth c nL D (wA S sz) (wQ below D sz S Post args s mc ms) 0 (lv_args 0 av) [] S 0 0) : CtH l D y cc nL ret hh d mc ms av S Post := by
  intro sz
  refine vx_ofWH (cc := cc) (maxL := nL) (ret := ret) (hh := hh) hc.1 rfl ?_
  intro p e s m args below meth c s₁ B hml hv
  obtain ⟨hargs, ⟨hsz, hI, hK, hZ, hU⟩, hN⟩ := hv
  have hts := atoms_spec (ws := Cond.codeWith y cc nL ret hh :: WALL) B.pre
  have C : Cx p l s m args meth c cc nL y.cls D (wA S sz) := ⟨B.exec, B.bytes, hml, findClass_of_methodNamed B.named, fun w h => hts w (List.mem_cons_of_mem _ h), hK, hZ, hU, fun q h => Or.inr (by rw [← hsz]; exact h), B.notSynchronized, hfl⟩
  have M : MeH meth c y.name ret hh := ⟨(name_of_methodNamed B.named B.method).1, B.returns, vx_table (x := y) B (hts _ List.mem_cons_self)⟩
  have hl := lv_entry av hav
  have hb := body p e s m args below meth c sz hN C M
  rw [hargs, lg_entry_eq]
  rw [← hargs]
  exact hb s.heap [] _ hl hI va_S.rf
theorem hPre.frame {D : wD} {sz : Nat} {S : wS} {av : List Value} : FrameBlind (va_Pc av (fun U => wPre D sz S U ∧ hN U)) := by
  intro a U g mk h
  obtain ⟨h0, ⟨h1, h2, h3, h4, h5⟩, h6⟩ := h
  exact ⟨h0, ⟨h1, h2, wKn.moved (u := U) (U := U.calling g mk a) (Vm.Alike.refl U.vm) h3, wZ.moved (u := U) (U := U.calling g mk a) (Vm.Alike.refl U.vm) h4, wU.warm (s := U) (U := U.calling g mk a) (State.WarmedH.refl U) h5⟩, h6.call⟩
section CALLH
variable {p : Program} {l : Launch} {e : Env} {R : Room} {s : State} {m : MethodId} {args : Array Value} {below : List Frame} {meth : Method} {c : Code} {nL : Nat} {D : wD} {Q : State → Prop}
variable {cc : ByteArray} {own : String} {pc : Nat} {lv : List (Nat × Value)} {st : List Value} {S0 S : wS} {k n sz mc ms : Nat} {Post : wR → wS → Prop} {A : Nat → Prop}
variable {y : MethodName} {bc : ByteArray} {nc np d mcc msc idx : Nat} {rc : Option FieldType} {PostC : wR → wS → Prop} {As rest st0 : List Value} {b : Nat}
variable {hh : HT}
/-- a static method with handlers -/
theorem j_callSH (C : Cx p l s m args meth c cc nL own D A) (hs : hN s) (hM : CtH l D y bc nc rc hh d mcc msc As S PostC) (hc : CalH y bc nc rc hh np) (hv : Cond.static y ∈ WALL) (hl : Cond.methodLink own idx y ∈ WALL)
    (hn : As.length = np) (hst : st0 = As.reverse ++ rest) (hw : (rest.map fun v => v.category).sum ≤ 8) (hR : 20 * d + 1 ≤ R.frames ∧ 8 + (nc + 11) + 200 * d ≤ R.locals) (hR2 : k + mcc ≤ R.cells ∧ n + msc ≤ R.slots) (dg : decode cc pc = .ok (.invokestatic idx, 3))
    (kx : ∀ (E : String) (S' : wS), PostC (.inr E) S' → JX p l e R s m args below meth c nL D A Q pc lv rest S' (k + mcc) (n + msc) E)
    (kk : ∀ (v : Option Value) (S' : wS), PostC (.inl v) S' → J p l e R s m args below meth c nL D A Q (pc + 3) lv (v.toList ++ rest) S' (k + mcc) (n + msc)) : J p l e R s m args below meth c nL D A Q pc lv st0 S k n := by
  refine j_ran (a := As.toArray) C (fun H locs ls h1 h2 h3 => ?_) kx kk
  have hws : ∀ w ∈ Cond.codeWith y bc nc rc hh :: WALL, ∀ (a' : Array Value) (U : State), s.WarmedH U.vm → w.before a' U = true := by
    intro w hw a' U hW
    have hw' : w ∈ WALL := (List.mem_cons.mp hw).elim (fun z => by rw [z]; exact hc.2.2.1) id
    exact WALL_warm hW hw' (C.2.2.2.2.1 _ hw')
  refine vx_runSX (S := ⟨C.1, C.2.1, C.2.2.1, C.2.2.2.1, C.2.2.2.2.1⟩) (hM H.size) ⟨⟨rfl, rfl, hR.1, hR.2, hws, List.mem_cons_self⟩, C.2.2.2.2.1 _ hc.2.2.1, C.2.2.2.2.1 _ hc.2.2.2, ⟨hc.2.1.1, hc.2.1.2.1⟩, ?_, C.2.2.2.2.1 _ hl, C.2.2.2.2.1 _ hv⟩ ⟨hPre.frame, fun U hU hW => ⟨rfl, wPre_at C h2 h3 hU hW, hs.warm hW⟩⟩ rfl hn h1.1 hst (lv_room hw) dg hR2
  intro sig h
  have h2 := hc.2.1.2.2
  rw [h] at h2
  exact (Option.some.inj h2).symm
theorem j_iretH (C : Cx p l s m args meth c cc nL own D (wA S0 sz)) {nm : String} (M : MeH meth c nm (some .int) hh) {x : Int32} (hP : Post (.inl (some (.int x))) S) (hk : k ≤ mc) (hn : n ≤ ms) (d : decode cc pc = .ok (.ireturn, 1)) : J p l e R s m args below meth c nL D (wA S0 sz) (wQ below D sz S0 Post args s mc ms) pc lv [.int x] S k n := by
  intro H locs ls h1 h2 h3
  refine W.widen hk hn (vx_ret ?_)
  exact W.iret C.1 C.2.1 M.2.1 (fun t ht hW => ⟨_, S, rfl, hP, by rw [ht]; exact h2, h3.F ht⟩) h3.2.2 d C.2.2.2.2.2.2.2.2.2.1
/-- a thrown exception caught -/
theorem j_catch (C : Cx p l s m args meth c cc nL own D A) {nm : String} {ret : Option FieldType} (M : MeH meth c nm ret hh) {E name : String} (pre : List ExceptionTableEntry) (x : ExceptionTableEntry) (suf : List ExceptionTableEntry) (hsplit : tableOf hh = pre ++ x :: suf)
    (hpass : ∀ z ∈ pre, covers z pc = false ∨ (z.catchType ≠ 0 ∧ ∃ nm : String, Cond.classLink own z.catchType nm ∈ WALL ∧ va_Nc E nm s)) (hx : covers x pc = true) (h0 : x.catchType ≠ 0) (hlink : Cond.classLink own x.catchType name ∈ WALL) (hcast : (E, name) ∈ wCas)
    (kk : ∀ q : Nat, J p l e R s m args below meth c nL D A Q x.handlerPc lv [.ref q] S k n) : JX p l e R s m args below meth c nL D A Q pc lv st S k n E := by
  intro H locs ls q ce h1 h2 h3 h4 h5 h6
  obtain ⟨c1, c2, c3, c4, c5, c6, c7, c8, c9, c10, c11⟩ := C
  refine vx_catch c4 pre x suf (M.2.2.trans hsplit) (fun z hz => (hpass z hz).imp id (fun ⟨a, nm, b, c⟩ => ⟨a, nm, c5 _ b, c⟩)) hx h0 (c5 _ hlink) (va_Nw.use (A := args) rfl (c8.1 _ hcast)) h4 h5 h6 (kk q H locs ls h1 h2 h3)
end CALLH
