/-! CORE 3: a method's entry and its ends, throws, calls. -/
def wQ (below : List Frame) (D : wD) (sz : Nat) (S : wS) (Post : wR → wS → Prop) (args : Array Value) (s : State) (mc ms : Nat) : State → Prop :=
  vx_MQ below (wQc D sz S Post) (wXC D sz S Post) args s mc ms (wA S sz)
/-- what else stands in a method without handlers -/
def Me (meth : Method) (c : Code) (nm : String) (ret : Option FieldType) : Prop := meth.name = nm ∧ meth.sig.returnType = ret ∧ ∀ x ∈ c.exceptionTable.toList, False
theorem wPre.frame {D : wD} {sz : Nat} {S : wS} {av : List Value} : FrameBlind (va_Pc av (fun U => wPre D sz S U)) := by
  intro a U g mk h
  obtain ⟨h0, h1, h2, h3, h4, h5⟩ := h
  exact ⟨h0, h1, h2, wKn.moved (u := U) (U := U.calling g mk a) (Vm.Alike.refl U.vm) h3, wZ.moved (u := U) (U := U.calling g mk a) (Vm.Alike.refl U.vm) h4, wU.warm (s := U) (U := U.calling g mk a) (State.WarmedH.refl U) h5⟩
theorem Ct.of {l : Launch} {y : MethodName} {cc : ByteArray} {nL : Nat} {ret : Option FieldType} {d mc ms np : Nat} {av : List Value} {S : wS} {Post : wR → wS → Prop} (hc : Cal y cc nL ret np) (hfl : l.stackTraces = false) (hav : (lg_sl av).length ≤ nL)
    (body : ∀ (p : Program) (e : Env) (s : State) (m : MethodId) (args : Array Value) (below : List Frame) (meth : Method) (c : Code) (D : wD) (sz : Nat), Cx p l s m args meth c cc nL y.cls D (wA S sz) → Me meth c y.name ret →
      J p l e { frames := 20 * d, cells := mc, slots := ms, locals := 200 * d } s m args below meth c nL D (wA S sz) (wQ below D sz S Post args s mc ms) 0 (lv_args 0 av) [] S 0 0) : Ct l y cc nL ret d mc ms av S Post := by
  intro D sz
  refine vx_ofW (cc := cc) (maxL := nL) (ret := ret) hc.1 rfl ?_
  intro p e s m args below meth c s₁ B hml ht hv
  obtain ⟨hargs, hsz, hI, hK, hZ, hU⟩ := hv
  have hts := atoms_spec (ws := Cond.code y cc nL ret :: WALL) B.pre
  have C : Cx p l s m args meth c cc nL y.cls D (wA S sz) := ⟨B.exec, B.bytes, hml, findClass_of_methodNamed B.named, fun w h => hts w (List.mem_cons_of_mem _ h), hK, hZ, hU, fun q h => Or.inr (by rw [← hsz]; exact h), B.notSynchronized, hfl⟩
  have M : Me meth c y.name ret := ⟨(name_of_methodNamed B.named B.method).1, B.returns, ht⟩
  have hl := lv_entry av hav
  have hb := body p e s m args below meth c D sz C M
  rw [hargs, lg_entry_eq]
  rw [← hargs]
  exact hb s.heap [] _ hl hI va_S.rf
theorem wI.kept {D : wD} {A : Nat → Prop} {S : wS} {H H1 : Heap} (h : wI D A S H) (hq : ∀ q : Nat, q < H.size → H1[q]? = H[q]?) : wI D A S H1 := fun a ha => ⟨(h a ha).1, (h a ha).2.1.kept (hq a (h a ha).2.1.lt), (h a ha).2.2⟩
section CORE3
variable {p : Program} {l : Launch} {e : Env} {R : Room} {s : State} {m : MethodId} {args : Array Value} {below : List Frame} {meth : Method} {c : Code} {nL : Nat} {D : wD} {Q : State → Prop}
variable {cc : ByteArray} {own : String} {pc : Nat} {lv : List (Nat × Value)} {st : List Value} {S0 S : wS} {k n sz mc ms : Nat} {Post : wR → wS → Prop} {A : Nat → Prop}
theorem j_iret (C : Cx p l s m args meth c cc nL own D (wA S0 sz)) {nm : String} (M : Me meth c nm (some .int)) {x : Int32} (hP : Post (.inl (some (.int x))) S) (hk : k ≤ mc) (hn : n ≤ ms) (d : decode cc pc = .ok (.ireturn, 1)) : J p l e R s m args below meth c nL D (wA S0 sz) (wQ below D sz S0 Post args s mc ms) pc lv [.int x] S k n := by
  intro H locs ls h1 h2 h3
  refine W.widen hk hn (vx_ret ?_)
  exact W.iret C.1 C.2.1 M.2.1 (fun t ht hW => ⟨_, S, rfl, hP, by rw [ht]; exact h2, h3.F ht⟩) h3.2.2 d C.2.2.2.2.2.2.2.2.2.1
theorem j_zret (C : Cx p l s m args meth c cc nL own D (wA S0 sz)) {nm : String} (M : Me meth c nm (some .boolean)) {z : Int} (hz : z = 0 ∨ z = 1) (hP : Post (.inl (some (.int (iN z)))) S) (hk : k ≤ mc) (hn : n ≤ ms) (d : decode cc pc = .ok (.ireturn, 1)) : J p l e R s m args below meth c nL D (wA S0 sz) (wQ below D sz S0 Post args s mc ms) pc lv [.int (iN z)] S k n := by
  intro H locs ls h1 h2 h3
  refine W.widen hk hn (vx_ret ?_)
  exact W.zret C.1 C.2.1 M.2.1 (by rcases hz with rfl | rfl <;> decide) (fun t ht hW => ⟨_, S, rfl, hP, by rw [ht]; exact h2, h3.F ht⟩) h3.2.2 d C.2.2.2.2.2.2.2.2.2.1
theorem j_lret (C : Cx p l s m args meth c cc nL own D (wA S0 sz)) {nm : String} (M : Me meth c nm (some .long)) {x : Int64} (hP : Post (.inl (some (.long x))) S) (hk : k ≤ mc) (hn : n ≤ ms) (d : decode cc pc = .ok (.lreturn, 1)) : J p l e R s m args below meth c nL D (wA S0 sz) (wQ below D sz S0 Post args s mc ms) pc lv [.long x] S k n := by
  intro H locs ls h1 h2 h3
  refine W.widen hk hn (vx_ret ?_)
  exact W.lret C.1 C.2.1 M.2.1 (fun t ht hW => ⟨_, S, rfl, hP, by rw [ht]; exact h2, h3.F ht⟩) h3.2.2 d C.2.2.2.2.2.2.2.2.2.1
theorem j_fret (C : Cx p l s m args meth c cc nL own D (wA S0 sz)) {nm : String} (M : Me meth c nm (some .float)) {x : UInt32} (hP : Post (.inl (some (.float x))) S) (hk : k ≤ mc) (hn : n ≤ ms) (d : decode cc pc = .ok (.freturn, 1)) : J p l e R s m args below meth c nL D (wA S0 sz) (wQ below D sz S0 Post args s mc ms) pc lv [.float x] S k n := by
  intro H locs ls h1 h2 h3
  refine W.widen hk hn (vx_ret ?_)
  exact W.fret C.1 C.2.1 M.2.1 (fun t ht hW => ⟨_, S, rfl, hP, by rw [ht]; exact h2, h3.F ht⟩) h3.2.2 d C.2.2.2.2.2.2.2.2.2.1
theorem j_dret (C : Cx p l s m args meth c cc nL own D (wA S0 sz)) {nm : String} (M : Me meth c nm (some .double)) {x : UInt64} (hP : Post (.inl (some (.double x))) S) (hk : k ≤ mc) (hn : n ≤ ms) (d : decode cc pc = .ok (.dreturn, 1)) : J p l e R s m args below meth c nL D (wA S0 sz) (wQ below D sz S0 Post args s mc ms) pc lv [.double x] S k n := by
  intro H locs ls h1 h2 h3
  refine W.widen hk hn (vx_ret ?_)
  exact W.dret C.1 C.2.1 M.2.1 (fun t ht hW => ⟨_, S, rfl, hP, by rw [ht]; exact h2, h3.F ht⟩) h3.2.2 d C.2.2.2.2.2.2.2.2.2.1
theorem j_vret (C : Cx p l s m args meth c cc nL own D (wA S0 sz)) {nm : String} (M : Me meth c nm none) (hP : Post (.inl none) S) (hk : k ≤ mc) (hn : n ≤ ms) (d : decode cc pc = .ok (.return_, 1)) : J p l e R s m args below meth c nL D (wA S0 sz) (wQ below D sz S0 Post args s mc ms) pc lv [] S k n := by
  intro H locs ls h1 h2 h3
  refine W.widen hk hn (vx_ret ?_)
  exact W.vret C.1 C.2.1 M.2.1 (fun t ht hW => ⟨_, S, rfl, hP, by rw [ht]; exact h2, h3.F ht⟩) h3.2.2 d C.2.2.2.2.2.2.2.2.2.1
theorem j_aret (C : Cx p l s m args meth c cc nL own D (wA S0 sz)) {nm : String} {rt : FieldType} (M : Me meth c nm (some rt)) (hrt : (∃ n, rt = .object n) ∨ ∃ t, rt = .array t) {v : Value} (hv : v = .null ∨ ∃ a, v = .ref a) (hP : Post (.inl (some v)) S) (hk : k ≤ mc) (hn : n ≤ ms) (d : decode cc pc = .ok (.areturn, 1)) : J p l e R s m args below meth c nL D (wA S0 sz) (wQ below D sz S0 Post args s mc ms) pc lv [v] S k n := by
  intro H locs ls h1 h2 h3
  refine W.widen hk hn (vx_ret ?_)
  exact W.aret C.1 C.2.1 M.2.1 hrt hv (fun t ht hW => ⟨_, S, rfl, hP, by rw [ht]; exact h2, h3.F ht⟩) h3.2.2 d C.2.2.2.2.2.2.2.2.2.1
/-- an exception of class E leaves the frame at pc -/
def JX (p : Program) (l : Launch) (e : Env) (R : Room) (s : State) (m : MethodId) (args : Array Value) (below : List Frame) (meth : Method) (c : Code) (nL : Nat) (D : wD) (A : Nat → Prop) (Q : State → Prop) (pc : Nat) (lv : List (Nat × Value)) (st : List Value) (S : wS) (k n : Nat) (E : String) : Prop :=
  ∀ (H : Heap) (locs : List Loc) (ls : Array Slot) (q : Addr) (ce : Cell), lv_has ls nL lv → wI D A S H → va_S A s.heap H locs → H[q]? = some ce → ce.vm = .none → s.vm.findClass E = some ce.cls → vx_W p l e R s m args below meth c H locs k n Q (F0 m pc ls st) q
theorem j_out (C : Cx p l s m args meth c cc nL own D (wA S0 sz)) {nm : String} {ret : Option FieldType} (M : Me meth c nm ret) {E : String} (hP : Post (.inr E) S) (hk : k ≤ mc) (hn : n ≤ ms) : JX p l e R s m args below meth c nL D (wA S0 sz) (wQ below D sz S0 Post args s mc ms) pc lv st S k n E := by
  intro H locs ls q ce h1 h2 h3 h4 h5 h6
  exact vx_out (fun x hx => (M.2.2 x hx).elim) C.2.2.2.2.2.2.2.2.2.1 h4 h5 h6 (fun t ht hW => ⟨S, hP, by rw [ht]; exact h2, h3.F ht⟩) h3.2.2 hk hn
/-- the names above each exception class -/
def xNm : List String := ["java/lang/RuntimeException", "java/lang/Exception"]
def Thr (ic : Nat) (X : String) : Prop := Bundle.fit X = true ∧ (∀ w ∈ vx_atS RX5 ic X xNm, (w ∈ lw_tbl ∧ goodWord w = true) ∨ w = Cond.castable X X ∨ ∃ y ∈ wDec, w = .declares y) ∧ (∀ w ∈ vx_atS RX5 ic X xNm, vx_ot w = true) ∧ (X, X) ∈ wCas
theorem xNm_fit : ∀ n ∈ xNm, Bundle.fit n = true := by decide +kernel
/-- throw new X("text") in the class's own methods -/
theorem j_throwS (C : Cx p l s m args meth c cc nL RX5 D (wA S0 sz)) {nm : String} {ret : Option FieldType} (M : Me meth c nm ret) {ik is ic : Nat} {X text : String} (T : Thr ic X) (hik : Cond.classLink RX5 ik X ∈ WALL) (hini : Cond.initialized X ∈ WALL) (his : ("Spliceroom", is, text) ∈ wStr) (hP : Post (.inr X) S)
    (d0 : decode cc pc = .ok (.new ik, 3)) (d3 : decode cc (pc + 3) = .ok (.dup, 1)) (d4 : decode cc (pc + 4) = .ok (.ldc is, 2)) (d6 : decode cc (pc + 6) = .ok (.invokespecial ic, 3)) (d9 : decode cc (pc + 9) = .ok (.athrow, 1))
    (hR : 5 < R.frames ∧ (st.map fun v => v.category).sum + 82 ≤ R.locals ∧ k + 1 ≤ R.cells ∧ n + 6 ≤ R.slots) (hk : k + 1 ≤ mc) (hn : n + 6 ≤ ms) : J p l e R s m args below meth c nL D (wA S0 sz) (wQ below D sz S0 Post args s mc ms) pc lv st S k n := by
  intro H locs ls h1 h2 h3
  obtain ⟨c1, c2, c3, c4, c5, c6, c7, c8, c9, c10, c11⟩ := C
  obtain ⟨t1, t2, t3, t4⟩ := T
  obtain ⟨sa, hsa⟩ := c8.2.2.2.2.2 _ his
  have hcs := va_Nw.use (A := args) rfl (c8.1 _ t4)
  refine vx_throwS (names := xNm) c1 c2 c11 c4 t1 xNm_fit (c5 _ hik) (c5 _ hini) hsa ?_ ?_ c7.1 c7.2.1 h3 (by rw [c3]; exact h1.1) d0 d3 d4 d6 d9 (fun x hx => (M.2.2 x hx).elim) (show 2 + 3 < R.frames from hR.1) (by show _ + (13 * (2 + 1) + 43) ≤ _; omega) hR.2.2.1 hR.2.2.2 c10 ?_ h3.2.2 hk hn
  · intro w hw
    rcases t2 w hw with ⟨g1, g2⟩ | g | ⟨y9, g1, g⟩
    · exact c5 _ (WALL_of g1 g2)
    · rw [g]; exact hcs
    · rw [g]; exact va_Nw.use (A := args) rfl (c8.2.1 _ g1)
  · intro w hw
    rcases List.mem_cons.mp hw with rfl | hw
    · rfl
    · rcases List.mem_cons.mp hw with rfl | hw
      · rfl
      · exact t3 w hw
  · intro t hal hz hq
    exact ⟨S, hP, h2.kept hq, ⟨Nat.le_trans h3.1 hz, fun q g1 g2 => (hq q (Nat.lt_of_lt_of_le g1 h3.1)).trans (h3.2.1 q g1 g2)⟩⟩
theorem j_throwSW (C : Cx p l s m args meth c cc nL RX5 D (wA S0 sz)) {nm : String} {ret : Option FieldType} (M : Me meth c nm ret) {ik is ic : Nat} {X text : String} (T : Thr ic X) (hik : Cond.classLink RX5 ik X ∈ WALL) (hini : Cond.initialized X ∈ WALL) (his : ("Spliceroom", is, text) ∈ wStr) (hP : Post (.inr X) S)
    (d0 : decode cc pc = .ok (.new ik, 3)) (d3 : decode cc (pc + 3) = .ok (.dup, 1)) (d4 : decode cc (pc + 4) = .ok (.ldc_w is, 3)) (d6 : decode cc (pc + 7) = .ok (.invokespecial ic, 3)) (d9 : decode cc (pc + 10) = .ok (.athrow, 1))
    (hR : 5 < R.frames ∧ (st.map fun v => v.category).sum + 82 ≤ R.locals ∧ k + 1 ≤ R.cells ∧ n + 6 ≤ R.slots) (hk : k + 1 ≤ mc) (hn : n + 6 ≤ ms) : J p l e R s m args below meth c nL D (wA S0 sz) (wQ below D sz S0 Post args s mc ms) pc lv st S k n := by
  intro H locs ls h1 h2 h3
  obtain ⟨c1, c2, c3, c4, c5, c6, c7, c8, c9, c10, c11⟩ := C
  obtain ⟨t1, t2, t3, t4⟩ := T
  obtain ⟨sa, hsa⟩ := c8.2.2.2.2.2 _ his
  have hcs := va_Nw.use (A := args) rfl (c8.1 _ t4)
  refine vx_throwSW (names := xNm) c1 c2 c11 c4 t1 xNm_fit (c5 _ hik) (c5 _ hini) hsa ?_ ?_ c7.1 c7.2.1 h3 (by rw [c3]; exact h1.1) d0 d3 d4 d6 d9 (fun x hx => (M.2.2 x hx).elim) (show 2 + 3 < R.frames from hR.1) (by show _ + (13 * (2 + 1) + 43) ≤ _; omega) hR.2.2.1 hR.2.2.2 c10 ?_ h3.2.2 hk hn
  · intro w hw
    rcases t2 w hw with ⟨g1, g2⟩ | g | ⟨y9, g1, g⟩
    · exact c5 _ (WALL_of g1 g2)
    · rw [g]; exact hcs
    · rw [g]; exact va_Nw.use (A := args) rfl (c8.2.1 _ g1)
  · intro w hw
    rcases List.mem_cons.mp hw with rfl | hw
    · rfl
    · rcases List.mem_cons.mp hw with rfl | hw
      · rfl
      · exact t3 w hw
  · intro t hal hz hq
    exact ⟨S, hP, h2.kept hq, ⟨Nat.le_trans h3.1 hz, fun q g1 g2 => (hq q (Nat.lt_of_lt_of_le g1 h3.1)).trans (h3.2.1 q g1 g2)⟩⟩
/-! calls -/
variable {y : MethodName} {bc : ByteArray} {nc np d mcc msc idx : Nat} {rc : Option FieldType} {PostC : wR → wS → Prop} {As rest st0 : List Value} {b : Nat}
theorem wA_sub {H : Heap} {locs : List Loc} (hA : ∀ q, s.heap.size ≤ q → A q) (h2 : wI D A S H) (h3 : va_S A s.heap H locs) : ∀ q, wA S H.size q → A q := by
  intro q h
  rcases h with h | h
  · exact (h2 q h).2.2
  · exact hA q (Nat.le_trans h3.1 h)
theorem wPre_at (C : Cx p l s m args meth c cc nL own D A) {H : Heap} {locs : List Loc} (h2 : wI D A S H) (h3 : va_S A s.heap H locs) {U : State} (hU : U.heap = H) (hW : s.WarmedH U.vm) : wPre D H.size S U := by
  obtain ⟨c1, c2, c3, c4, c5, c6, c7, c8, c9, c10, c11⟩ := C
  have hsub := wA_sub c9 h2 h3
  refine ⟨by rw [hU], ?_, c6.moved hW.alike, ?_, c8.warm hW⟩
  · rw [hU]
    exact fun a ha => ⟨(h2 a ha).1, (h2 a ha).2.1, Or.inl ha⟩
  · rw [hU]
    exact ((c7.kept h3.2.1).narrow hsub).moved hW.alike
theorem callB_at (C : Cx p l s m args meth c cc nL own D A) (hc : Cal y bc nc rc np) (hl : Cond.methodLink own idx y ∈ WALL) (hR : 20 * d + 1 ≤ R.frames ∧ 8 + (nc + 11) + 200 * d ≤ R.locals) : CallB R s args own idx y bc nc rc (Cond.code y bc nc rc :: WALL) { frames := 20 * d, cells := mcc, slots := msc, locals := 200 * d } mcc msc np := by
  obtain ⟨c1, c2, c3, c4, c5, -⟩ := C
  refine ⟨rfl, rfl, hR.1, hR.2, ?_, List.mem_cons_self, c5 _ hc.2.2.1, c5 _ hc.2.2.2, ⟨hc.2.1.1, hc.2.1.2.1⟩, ?_, c5 _ hl⟩
  · intro w hw a' U hW
    have hw' : w ∈ WALL := (List.mem_cons.mp hw).elim (fun z => by rw [z]; exact hc.2.2.1) id
    exact WALL_warm hW hw' (c5 _ hw')
  · intro sig h
    have h2 := hc.2.1.2.2
    rw [h] at h2
    exact (Option.some.inj h2).symm
/-- behind a call: the run's two ends -/
theorem j_ran (C : Cx p l s m args meth c cc nL own D A) {a : Array Value} (hr : ∀ (H : Heap) (locs : List Loc) (ls : Array Slot), lv_has ls nL lv → wI D A S H → va_S A s.heap H locs → vx_Run p l e R s m args below meth c H locs k n mcc msc (F0 m pc ls st0) rest (wQc D H.size S PostC a) (wXC D H.size S PostC) (wA S H.size))
    (kx : ∀ (E : String) (S' : wS), PostC (.inr E) S' → JX p l e R s m args below meth c nL D A Q pc lv rest S' (k + mcc) (n + msc) E)
    (kk : ∀ (v : Option Value) (S' : wS), PostC (.inl v) S' → J p l e R s m args below meth c nL D A Q (pc + 3) lv (v.toList ++ rest) S' (k + mcc) (n + msc)) : J p l e R s m args below meth c nL D A Q pc lv st0 S k n := by
  intro H locs ls h1 h2 h3 T hT X
  have hsub := wA_sub C.2.2.2.2.2.2.2.2.1 h2 h3
  have nar : ∀ {S' : wS} {H' : Heap}, wI D (wA S H.size) S' H' → wI D A S' H' := fun hI a ha => ⟨(hI a ha).1, (hI a ha).2.1, hsub a (hI a ha).2.2⟩
  rcases hr H locs ls h1 h2 h3 T hT X with ⟨v, st₀, t, T', L, h0, X', hL, e1, e2, ⟨v', S', hv, hP, hI, hF⟩, hst⟩ | ⟨q, st₀, t, T', L, E, ce, h0, X', hL, e1, e2, ⟨S', hP, hI, hF⟩, hce, hcv, hcl, hst⟩
  · cases hv
    obtain ⟨k1, k2, k3⟩ := vx_keep h0 e1 h3 (fun q _ h => hsub q h) hsub hL hF
    obtain ⟨t2, a1, b1⟩ := kk v S' hP T'.heap (locs ++ L) ls h1 (by rw [e1]; exact nar hI) k3 T' rfl X'
    exact ⟨t2, hst t2 a1, b1⟩
  · obtain ⟨k1, k2, k3⟩ := vx_keep h0 e1 h3 (fun q _ h => hsub q h) hsub hL hF
    obtain ⟨t2, a1, b1⟩ := kx E S' hP T'.heap (locs ++ L) ls q ce h1 (by rw [e1]; exact nar hI) k3 (by rw [e1]; exact hce) hcv hcl T' rfl X'
    exact ⟨t2, hst.trans a1, b1⟩
theorem j_callV (C : Cx p l s m args meth c cc nL own D A) (hM : Ct l y bc nc rc d mcc msc (.ref b :: As) S PostC) (hc : Cal y bc nc rc np) (hv : Cond.instanceMethod y ∈ WALL ∧ Cond.selects y.cls y y ∈ WALL) (hl : Cond.methodLink own idx y ∈ WALL)
    {kd : Nat} (hk : sK S b = kd) (h8 : 1 ≤ kd ∧ kd ≤ 8 ∧ (kC kd).1 = y.cls) (hn : As.length = np) (hst : st0 = As.reverse ++ .ref b :: rest) (hw : (rest.map fun v => v.category).sum ≤ 8) (hR : 20 * d + 1 ≤ R.frames ∧ 8 + (nc + 11) + 200 * d ≤ R.locals) (hR2 : k + mcc ≤ R.cells ∧ n + msc ≤ R.slots) (dg : decode cc pc = .ok (.invokevirtual idx, 3))
    (kx : ∀ (E : String) (S' : wS), PostC (.inr E) S' → JX p l e R s m args below meth c nL D A Q pc lv rest S' (k + mcc) (n + msc) E)
    (kk : ∀ (v : Option Value) (S' : wS), PostC (.inl v) S' → J p l e R s m args below meth c nL D A Q (pc + 3) lv (v.toList ++ rest) S' (k + mcc) (n + msc)) : J p l e R s m args below meth c nL D A Q pc lv st0 S k n := by
  refine j_ran (a := (Value.ref b :: As).toArray) C (fun H locs ls h1 h2 h3 => ?_) kx kk
  have hrecv : ∃ cell : Cell, H[b]? = some cell ∧ cell.vm.isStatics = false ∧ s.vm.findClass y.cls = some cell.cls := by
    rw [← h8.2.2]
    exact wI_recv h2 C.2.2.2.2.2.1 hk ⟨h8.1, h8.2.1⟩
  exact vx_runV (S := ⟨C.1, C.2.1, C.2.2.1, C.2.2.2.1, C.2.2.2.2.1⟩) (hM D H.size) ⟨callB_at C hc hl hR, C.2.2.2.2.1 _ hv.1, C.2.2.2.2.1 _ hv.2⟩ ⟨wPre.frame, hrecv, fun U hU hW => ⟨rfl, wPre_at C h2 h3 hU hW⟩⟩ rfl hn h1.1 hst (lv_room hw) dg hR2
theorem j_callS (C : Cx p l s m args meth c cc nL own D A) (hM : Ct l y bc nc rc d mcc msc As S PostC) (hc : Cal y bc nc rc np) (hv : Cond.static y ∈ WALL) (hl : Cond.methodLink own idx y ∈ WALL)
    (hn : As.length = np) (hst : st0 = As.reverse ++ rest) (hw : (rest.map fun v => v.category).sum ≤ 8) (hR : 20 * d + 1 ≤ R.frames ∧ 8 + (nc + 11) + 200 * d ≤ R.locals) (hR2 : k + mcc ≤ R.cells ∧ n + msc ≤ R.slots) (dg : decode cc pc = .ok (.invokestatic idx, 3))
    (kx : ∀ (E : String) (S' : wS), PostC (.inr E) S' → JX p l e R s m args below meth c nL D A Q pc lv rest S' (k + mcc) (n + msc) E)
    (kk : ∀ (v : Option Value) (S' : wS), PostC (.inl v) S' → J p l e R s m args below meth c nL D A Q (pc + 3) lv (v.toList ++ rest) S' (k + mcc) (n + msc)) : J p l e R s m args below meth c nL D A Q pc lv st0 S k n := by
  refine j_ran (a := As.toArray) C (fun H locs ls h1 h2 h3 => ?_) kx kk
  exact vx_runS (S := ⟨C.1, C.2.1, C.2.2.1, C.2.2.2.1, C.2.2.2.2.1⟩) (hM D H.size) ⟨callB_at C hc hl hR, C.2.2.2.2.1 _ hv⟩ ⟨wPre.frame, fun U hU hW => ⟨rfl, wPre_at C h2 h3 hU hW⟩⟩ rfl hn h1.1 hst (lv_room hw) dg hR2
theorem j_callI (C : Cx p l s m args meth c cc nL own D A) (hM : Ct l y bc nc none d mcc msc (.ref b :: As) S PostC) (hc : Cal y bc nc none np) (hv : Cond.instanceMethod y ∈ WALL) (hl : Cond.methodLink own idx y ∈ WALL) (hin : y.name = "<init>")
    (hn : As.length = np) (hst : st0 = As.reverse ++ .ref b :: rest) (hw : (rest.map fun v => v.category).sum ≤ 8) (hR : 20 * d + 1 ≤ R.frames ∧ 8 + (nc + 11) + 200 * d ≤ R.locals) (hR2 : k + mcc ≤ R.cells ∧ n + msc ≤ R.slots) (dg : decode cc pc = .ok (.invokespecial idx, 3))
    (kx : ∀ (E : String) (S' : wS), PostC (.inr E) S' → JX p l e R s m args below meth c nL D A Q pc lv rest S' (k + mcc) (n + msc) E)
    (kk : ∀ (v : Option Value) (S' : wS), PostC (.inl v) S' → J p l e R s m args below meth c nL D A Q (pc + 3) lv (v.toList ++ rest) S' (k + mcc) (n + msc)) : J p l e R s m args below meth c nL D A Q pc lv st0 S k n := by
  refine j_ran (a := (Value.ref b :: As).toArray) C (fun H locs ls h1 h2 h3 => ?_) kx kk
  exact vx_runI (S := ⟨C.1, C.2.1, C.2.2.1, C.2.2.2.1, C.2.2.2.2.1⟩) (hM D H.size) ⟨callB_at C hc hl hR, hin, C.2.2.2.2.1 _ hv⟩ ⟨wPre.frame, fun U hU hW => ⟨rfl, wPre_at C h2 h3 hU hW⟩⟩ rfl hn h1.1 hst (lv_room hw) dg hR2
/-- java.lang.Object's constructor -/
theorem j_objInit (C : Cx p l s m args meth c cc nL own D A) {a : Nat} (hl : Cond.methodLink own idx objectInit ∈ WALL) (hR : 1 ≤ R.frames ∧ (st.map fun v => v.category).sum + 12 ≤ R.locals) (dg : decode cc pc = .ok (.invokespecial idx, 3)) (kk : J p l e R s m args below meth c nL D A Q (pc + 3) lv st S k n) : J p l e R s m args below meth c nL D A Q pc lv (.ref a :: st) S k n := by
  intro H locs ls h1 h2 h3
  obtain ⟨c1, c2, c3, c4, c5, -⟩ := C
  exact W.objInit c1 c2 c4 (c5 _ hl) (c5 _ in_Oj) (c5 _ co_Oj) rfl (by rw [c3]; exact h1.1) rfl dg hR.1 (by show 2 * 0 + _ + 12 ≤ _; omega) (kk H locs ls h1 h2 h3)
end CORE3
theorem thr_ISE : Thr 47 "java/lang/IllegalStateException" := ⟨by decide +kernel, by decide +kernel, by decide +kernel, by decide +kernel⟩
theorem thr_IOB : Thr 132 "java/lang/IndexOutOfBoundsException" := ⟨by decide +kernel, by decide +kernel, by decide +kernel, by decide +kernel⟩
theorem thr_IAE : Thr 105 "java/lang/IllegalArgumentException" := ⟨by decide +kernel, by decide +kernel, by decide +kernel, by decide +kernel⟩
theorem thr_UOE : Thr 118 "java/lang/UnsupportedOperationException" := ⟨by decide +kernel, by decide +kernel, by decide +kernel, by decide +kernel⟩
theorem thr_ARE : Thr 338 "java/lang/ArithmeticException" := ⟨by decide +kernel, by decide +kernel, by decide +kernel, by decide +kernel⟩
