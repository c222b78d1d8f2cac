/-! CALLS AT ONE D; the nest mate's constructor. -/
/-- a contract at one D -/
def CtD (l : Launch) (D : wD) (y : MethodName) (cc : ByteArray) (nL : Nat) (ret : Option FieldType) (d mc ms : Nat) (av : List Value) (S : wS) (Post : wR → wS → Prop) : Prop :=
  ∀ (sz : Nat), vx_Met l y (Cond.code y cc nL ret :: WALL) { frames := 20 * d, cells := mc, slots := ms, locals := 200 * d } (va_Pc av (fun U => wPre D sz S U)) (wQc D sz S Post) (wXC D sz S Post) mc ms (wA S sz)
theorem Ct.at {l : Launch} {y : MethodName} {cc : ByteArray} {nL : Nat} {ret : Option FieldType} {d mc ms : Nat} {av : List Value} {S : wS} {Post : wR → wS → Prop} (h : Ct l y cc nL ret d mc ms av S Post) (D : wD) : CtD l D y cc nL ret d mc ms av S Post := h D
theorem CtD.of {l : Launch} {D : wD} {y : MethodName} {cc : ByteArray} {nL : Nat} {ret : Option FieldType} {d mc ms np : Nat} {av : List Value} {S : wS} {Post : wR → wS → Prop} (hc : Cal y cc nL ret np) (hfl : l.stackTraces = false) (hav : (lg_sl av).length ≤ nL)
    (body : ∀ (p : Program) (e : Env) (s : State) (m : MethodId) (args : Array Value) (below : List Frame) (meth : Method) (c : Code) (sz : Nat), Cx p l s m args meth c cc nL y.cls D (wA S sz) → Me meth c y.name ret →
      J p l e { frames := 20 * d, cells := mc, slots := ms, locals := 200 * d } s m args below meth c nL D (wA S sz) (wQ below D sz S Post args s mc ms) 0 (lv_args 0 av) [] S 0 0) : CtD l D y cc nL ret d mc ms av S Post := by
  intro sz
  refine vx_ofW (cc := cc) (maxL := nL) (ret := ret) hc.1 rfl ?_
  intro p e s m args below meth c s₁ B hml ht hv
  obtain ⟨hargs, hsz, hI, hK, hZ, hU⟩ := hv
  have hts := atoms_spec (ws := Cond.code y cc nL ret :: WALL) B.pre
  have C : Cx p l s m args meth c cc nL y.cls D (wA S sz) := ⟨B.exec, B.bytes, hml, findClass_of_methodNamed B.named, fun w h => hts w (List.mem_cons_of_mem _ h), hK, hZ, hU, fun q h => Or.inr (by rw [← hsz]; exact h), B.notSynchronized, hfl⟩
  have M : Me meth c y.name ret := ⟨(name_of_methodNamed B.named B.method).1, B.returns, ht⟩
  have hl := lv_entry av hav
  have hb := body p e s m args below meth c sz C M
  rw [hargs, lg_entry_eq]
  rw [← hargs]
  exact hb s.heap [] _ hl hI va_S.rf
/-- the word for the nest mate's constructor -/
def nestX : Cond := .methodLinkNest RX5 52 yX0_init "Spliceroom"
def CtN (l : Launch) (D : wD) (y : MethodName) (cc : ByteArray) (nL : Nat) (ret : Option FieldType) (d mc ms : Nat) (av : List Value) (S : wS) (Post : wR → wS → Prop) : Prop :=
  ∀ (sz : Nat), vx_Met l y (Cond.code y cc nL ret :: WALL) { frames := 20 * d, cells := mc, slots := ms, locals := 200 * d } (va_Pc av (fun U => wPre D sz S U ∧ va_Nw nestX U)) (wQc D sz S Post) (wXC D sz S Post) mc ms (wA S sz)
theorem CtN.of {l : Launch} {D : wD} {y : MethodName} {cc : ByteArray} {nL : Nat} {ret : Option FieldType} {d mc ms np : Nat} {av : List Value} {S : wS} {Post : wR → wS → Prop} (hc : Cal y cc nL ret np) (hfl : l.stackTraces = false) (hav : (lg_sl av).length ≤ nL)
    (body : ∀ (p : Program) (e : Env) (s : State) (m : MethodId) (args : Array Value) (below : List Frame) (meth : Method) (c : Code) (sz : Nat), va_Nw nestX s → Cx p l s m args meth c cc nL y.cls D (wA S sz) → Me meth c y.name ret →
      J p l e { frames := 20 * d, cells := mc, slots := ms, locals := 200 * d } s m args below meth c nL D (wA S sz) (wQ below D sz S Post args s mc ms) 0 (lv_args 0 av) [] S 0 0) : CtN l D y cc nL ret d mc ms av S Post := by
  intro sz
  refine vx_ofW (cc := cc) (maxL := nL) (ret := ret) hc.1 rfl ?_
  intro p e s m args below meth c s₁ B hml ht hv
  obtain ⟨hargs, ⟨hsz, hI, hK, hZ, hU⟩, hN⟩ := hv
  have hts := atoms_spec (ws := Cond.code y cc nL ret :: WALL) B.pre
  have C : Cx p l s m args meth c cc nL y.cls D (wA S sz) := ⟨B.exec, B.bytes, hml, findClass_of_methodNamed B.named, fun w h => hts w (List.mem_cons_of_mem _ h), hK, hZ, hU, fun q h => Or.inr (by rw [← hsz]; exact h), B.notSynchronized, hfl⟩
  have M : Me meth c y.name ret := ⟨(name_of_methodNamed B.named B.method).1, B.returns, ht⟩
  have hl := lv_entry av hav
  have hb := body p e s m args below meth c sz hN C M
  rw [hargs, lg_entry_eq]
  rw [← hargs]
  exact hb s.heap [] _ hl hI va_S.rf
theorem nPre.frame {D : wD} {sz : Nat} {S : wS} {av : List Value} : FrameBlind (va_Pc av (fun U => wPre D sz S U ∧ va_Nw nestX U)) := by
  intro a U g mk h
  obtain ⟨h0, ⟨h1, h2, h3, h4, h5⟩, h6⟩ := h
  exact ⟨h0, ⟨h1, h2, wKn.moved (u := U) (U := U.calling g mk a) (Vm.Alike.refl U.vm) h3, wZ.moved (u := U) (U := U.calling g mk a) (Vm.Alike.refl U.vm) h4, wU.warm (s := U) (U := U.calling g mk a) (State.WarmedH.refl U) h5⟩, va_Nw.same (u := U) (U := U.calling g mk a) rfl rfl h6⟩
section CALLD
variable {p : Program} {l : Launch} {e : Env} {R : Room} {s : State} {m : MethodId} {args : Array Value} {below : List Frame} {meth : Method} {c : Code} {nL : Nat} {D : wD} {Q : State → Prop}
variable {cc : ByteArray} {own : String} {pc : Nat} {lv : List (Nat × Value)} {st : List Value} {S0 S : wS} {k n sz mc ms : Nat} {Post : wR → wS → Prop} {A : Nat → Prop}
variable {y : MethodName} {bc : ByteArray} {nc np d mcc msc idx : Nat} {rc : Option FieldType} {PostC : wR → wS → Prop} {As rest st0 : List Value} {b : Nat}
theorem j_callVD (C : Cx p l s m args meth c cc nL own D A) (hM : CtD l D y bc nc rc d mcc msc (.ref b :: As) S PostC) (hc : Cal y bc nc rc np) (hv : Cond.instanceMethod y ∈ WALL ∧ Cond.selects y.cls y y ∈ WALL) (hl : Cond.methodLink own idx y ∈ WALL)
    {kd : Nat} (hk : sK S b = kd) (h8 : 1 ≤ kd ∧ kd ≤ 8 ∧ (kC kd).1 = y.cls) (hn : As.length = np) (hst : st0 = As.reverse ++ .ref b :: rest) (hw : (rest.map fun v => v.category).sum ≤ 8) (hR : 20 * d + 1 ≤ R.frames ∧ 8 + (nc + 11) + 200 * d ≤ R.locals) (hR2 : k + mcc ≤ R.cells ∧ n + msc ≤ R.slots) (dg : decode cc pc = .ok (.invokevirtual idx, 3))
    (kx : ∀ (E : String) (S' : wS), PostC (.inr E) S' → JX p l e R s m args below meth c nL D A Q pc lv rest S' (k + mcc) (n + msc) E)
    (kk : ∀ (v : Option Value) (S' : wS), PostC (.inl v) S' → J p l e R s m args below meth c nL D A Q (pc + 3) lv (v.toList ++ rest) S' (k + mcc) (n + msc)) : J p l e R s m args below meth c nL D A Q pc lv st0 S k n := by
  refine j_ran (a := (Value.ref b :: As).toArray) C (fun H locs ls h1 h2 h3 => ?_) kx kk
  have hrecv : ∃ cell : Cell, H[b]? = some cell ∧ cell.vm.isStatics = false ∧ s.vm.findClass y.cls = some cell.cls := by
    rw [← h8.2.2]
    exact wI_recv h2 C.2.2.2.2.2.1 hk ⟨h8.1, h8.2.1⟩
  exact vx_runV (S := ⟨C.1, C.2.1, C.2.2.1, C.2.2.2.1, C.2.2.2.2.1⟩) (hM H.size) ⟨callB_at C hc hl hR, C.2.2.2.2.1 _ hv.1, C.2.2.2.2.1 _ hv.2⟩ ⟨wPre.frame, hrecv, fun U hU hW => ⟨rfl, wPre_at C h2 h3 hU hW⟩⟩ rfl hn h1.1 hst (lv_room hw) dg hR2
theorem j_callSD (C : Cx p l s m args meth c cc nL own D A) (hM : CtD l D y bc nc rc d mcc msc As S PostC) (hc : Cal y bc nc rc np) (hv : Cond.static y ∈ WALL) (hl : Cond.methodLink own idx y ∈ WALL)
    (hn : As.length = np) (hst : st0 = As.reverse ++ rest) (hw : (rest.map fun v => v.category).sum ≤ 8) (hR : 20 * d + 1 ≤ R.frames ∧ 8 + (nc + 11) + 200 * d ≤ R.locals) (hR2 : k + mcc ≤ R.cells ∧ n + msc ≤ R.slots) (dg : decode cc pc = .ok (.invokestatic idx, 3))
    (kx : ∀ (E : String) (S' : wS), PostC (.inr E) S' → JX p l e R s m args below meth c nL D A Q pc lv rest S' (k + mcc) (n + msc) E)
    (kk : ∀ (v : Option Value) (S' : wS), PostC (.inl v) S' → J p l e R s m args below meth c nL D A Q (pc + 3) lv (v.toList ++ rest) S' (k + mcc) (n + msc)) : J p l e R s m args below meth c nL D A Q pc lv st0 S k n := by
  refine j_ran (a := As.toArray) C (fun H locs ls h1 h2 h3 => ?_) kx kk
  exact vx_runS (S := ⟨C.1, C.2.1, C.2.2.1, C.2.2.2.1, C.2.2.2.2.1⟩) (hM H.size) ⟨callB_at C hc hl hR, C.2.2.2.2.1 _ hv⟩ ⟨wPre.frame, fun U hU hW => ⟨rfl, wPre_at C h2 h3 hU hW⟩⟩ rfl hn h1.1 hst (lv_room hw) dg hR2
theorem j_callID (C : Cx p l s m args meth c cc nL own D A) (hM : CtD l D y bc nc none d mcc msc (.ref b :: As) S PostC) (hc : Cal y bc nc none np) (hv : Cond.instanceMethod y ∈ WALL) (hl : Cond.methodLink own idx y ∈ WALL) (hin : y.name = "<init>")
    (hn : As.length = np) (hst : st0 = As.reverse ++ .ref b :: rest) (hw : (rest.map fun v => v.category).sum ≤ 8) (hR : 20 * d + 1 ≤ R.frames ∧ 8 + (nc + 11) + 200 * d ≤ R.locals) (hR2 : k + mcc ≤ R.cells ∧ n + msc ≤ R.slots) (dg : decode cc pc = .ok (.invokespecial idx, 3))
    (kx : ∀ (E : String) (S' : wS), PostC (.inr E) S' → JX p l e R s m args below meth c nL D A Q pc lv rest S' (k + mcc) (n + msc) E)
    (kk : ∀ (v : Option Value) (S' : wS), PostC (.inl v) S' → J p l e R s m args below meth c nL D A Q (pc + 3) lv (v.toList ++ rest) S' (k + mcc) (n + msc)) : J p l e R s m args below meth c nL D A Q pc lv st0 S k n := by
  refine j_ran (a := (Value.ref b :: As).toArray) C (fun H locs ls h1 h2 h3 => ?_) kx kk
  exact vx_runI (S := ⟨C.1, C.2.1, C.2.2.1, C.2.2.2.1, C.2.2.2.2.1⟩) (hM H.size) ⟨callB_at C hc hl hR, hin, C.2.2.2.2.1 _ hv⟩ ⟨wPre.frame, fun U hU hW => ⟨rfl, wPre_at C h2 h3 hU hW⟩⟩ rfl hn h1.1 hst (lv_room hw) dg hR2
/-- a nest mate's constructor without arguments -/
theorem j_callIND (C : Cx p l s m args meth c cc nL own D A) {host : String} (hN : va_Nw (.methodLinkNest own idx y host) s) (hM : CtD l D y bc nc none d mcc msc [.ref b] S PostC) (hc : Cal y bc nc none 0) (hv : Cond.instanceMethod y ∈ WALL) (hin : y.name = "<init>")
    (hst : st0 = .ref b :: rest) (hw : (rest.map fun v => v.category).sum ≤ 8) (hR : 20 * d + 1 ≤ R.frames ∧ 8 + (nc + 11) + 200 * d ≤ R.locals) (hR2 : k + mcc ≤ R.cells ∧ n + msc ≤ R.slots) (dg : decode cc pc = .ok (.invokespecial idx, 3))
    (kx : ∀ (E : String) (S' : wS), PostC (.inr E) S' → JX p l e R s m args below meth c nL D A Q pc lv rest S' (k + mcc) (n + msc) E)
    (kk : ∀ (v : Option Value) (S' : wS), PostC (.inl v) S' → J p l e R s m args below meth c nL D A Q (pc + 3) lv (v.toList ++ rest) S' (k + mcc) (n + msc)) : J p l e R s m args below meth c nL D A Q pc lv st0 S k n := by
  refine j_ran (a := ([Value.ref b]).toArray) C (fun H locs ls h1 h2 h3 => ?_) kx kk
  have hws : ∀ w ∈ Cond.code y bc nc none :: WALL, ∀ (a' : Array Value) (U : State), s.WarmedH U.vm → w.before a' U = true := by
    intro w hw a' U hW
    have hw' : w ∈ WALL := (List.mem_cons.mp hw).elim (fun z => by rw [z]; exact hc.2.2.1) id
    exact WALL_warm hW hw' (C.2.2.2.2.1 _ hw')
  refine vx_runIN (S := ⟨C.1, C.2.1, C.2.2.1, C.2.2.2.1, C.2.2.2.2.1⟩) (hM H.size) ⟨⟨⟨rfl, rfl, hR.1, hR.2, hws, List.mem_cons_self⟩, C.2.2.2.2.1 _ hc.2.2.1, C.2.2.2.2.1 _ hc.2.2.2, ⟨hc.2.1.1, hc.2.1.2.1⟩, ?_, va_Nw.use rfl hN⟩, hin, C.2.2.2.2.1 _ hv⟩ ⟨wPre.frame, fun U hU hW => ⟨rfl, wPre_at C h2 h3 hU hW⟩⟩ rfl (n := 0) rfl h1.1 hst (lv_room hw) dg hR2
  intro sig h
  have h2 := hc.2.1.2.2
  rw [h] at h2
  exact (Option.some.inj h2).symm
theorem j_callVN (C : Cx p l s m args meth c cc nL own D A) (hN : va_Nw nestX s) (hM : CtN l D y bc nc rc d mcc msc (.ref b :: As) S PostC) (hc : Cal y bc nc rc np) (hv : Cond.instanceMethod y ∈ WALL ∧ Cond.selects y.cls y y ∈ WALL) (hl : Cond.methodLink own idx y ∈ WALL)
    {kd : Nat} (hk : sK S b = kd) (h8 : 1 ≤ kd ∧ kd ≤ 8 ∧ (kC kd).1 = y.cls) (hn : As.length = np) (hst : st0 = As.reverse ++ .ref b :: rest) (hw : (rest.map fun v => v.category).sum ≤ 8) (hR : 20 * d + 1 ≤ R.frames ∧ 8 + (nc + 11) + 200 * d ≤ R.locals) (hR2 : k + mcc ≤ R.cells ∧ n + msc ≤ R.slots) (dg : decode cc pc = .ok (.invokevirtual idx, 3))
    (kx : ∀ (E : String) (S' : wS), PostC (.inr E) S' → JX p l e R s m args below meth c nL D A Q pc lv rest S' (k + mcc) (n + msc) E)
    (kk : ∀ (v : Option Value) (S' : wS), PostC (.inl v) S' → J p l e R s m args below meth c nL D A Q (pc + 3) lv (v.toList ++ rest) S' (k + mcc) (n + msc)) : J p l e R s m args below meth c nL D A Q pc lv st0 S k n := by
  refine j_ran (a := (Value.ref b :: As).toArray) C (fun H locs ls h1 h2 h3 => ?_) kx kk
  have hrecv : ∃ cell : Cell, H[b]? = some cell ∧ cell.vm.isStatics = false ∧ s.vm.findClass y.cls = some cell.cls := by
    rw [← h8.2.2]
    exact wI_recv h2 C.2.2.2.2.2.1 hk ⟨h8.1, h8.2.1⟩
  exact vx_runV (S := ⟨C.1, C.2.1, C.2.2.1, C.2.2.2.1, C.2.2.2.2.1⟩) (hM H.size) ⟨callB_at C hc hl hR, C.2.2.2.2.1 _ hv.1, C.2.2.2.2.1 _ hv.2⟩ ⟨nPre.frame, hrecv, fun U hU hW => ⟨rfl, wPre_at C h2 h3 hU hW, va_Nw.warmM hW hN⟩⟩ rfl hn h1.1 hst (lv_room hw) dg hR2
end CALLD
