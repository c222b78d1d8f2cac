/-! CORE 1: the memory of the run as one value, what it says of the heap, the walk over it. -/
/-- the tables' words that hold in every state of a run -/
def WALL : List Cond := lw_tbl.filter goodWord
theorem WALL_of {w : Cond} (h : w ∈ lw_tbl) (g : goodWord w = true) : w ∈ WALL := List.mem_filter.mpr ⟨h, g⟩
theorem WALL_at {w : Cond} (i : Nat) (h : lw_tbl[i]? = some w) (g : goodWord w = true) : w ∈ WALL := WALL_of (List.mem_of_getElem? h) g
theorem WALL_good {w : Cond} (h : w ∈ WALL) : (w.onTables && w.keeps) = true ∨ ∃ ty, w = .arrayClass ty := good_of_word (List.mem_filter.mp h).2
theorem WALL_warm {args a' : Array Value} {s U : State} (hW : s.WarmedH U.vm) {w : Cond} (hw : w ∈ WALL) (h : w.before args s = true) : w.before a' U = true := word_at hW (WALL_good hw) h
/-- the memory: the kind of each cell (0: not ours), an array's length, the fields by their numbers (64 * kind + place), the elements by kind -/
abbrev wS : Type := (Nat → Nat) × (Nat → Nat) × (Nat → Nat → Value) × (Nat → Nat → Nat → Value)
def sK (S : wS) : Nat → Nat := S.1
def sN (S : wS) : Nat → Nat := S.2.1
def sG (S : wS) : Nat → Nat → Value := S.2.2.1
def sE (S : wS) : Nat → Nat → Nat → Value := S.2.2.2
def sPut (S : wS) (f a : Nat) (v : Value) : wS := (S.1, S.2.1, fun g b => if g = f ∧ b = a then v else S.2.2.1 g b, S.2.2.2)
def sPutE (S : wS) (k a j : Nat) (v : Value) : wS := (S.1, S.2.1, S.2.2.1, fun g b i => if g = k ∧ b = a ∧ i = j then v else S.2.2.2 g b i)
/-- all elements of one array anew -/
def sPutR (S : wS) (k a : Nat) (f : Nat → Value) : wS := (S.1, S.2.1, S.2.2.1, fun g b i => if g = k ∧ b = a then f i else S.2.2.2 g b i)
/-- a new object -/
def sNew (S : wS) (k a : Nat) (f : Nat → Value) : wS := (fun b => if b = a then k else S.1 b, S.2.1, fun g b => if b = a ∧ 64 * k ≤ g ∧ g < 64 * k + 64 then f (g - 64 * k) else S.2.2.1 g b, S.2.2.2)
/-- a new array -/
def sNewA (S : wS) (k a n : Nat) (f : Nat → Value) : wS := (fun b => if b = a then k else S.1 b, fun b => if b = a then n else S.2.1 b, S.2.2.1, fun g b i => if g = k ∧ b = a then f i else S.2.2.2 g b i)
/-- class ids by kind, slots by kind and place, the address of ArrayList's empty row, the Class object of Object[] -/
abbrev wD : Type := (Nat → ClassId) × (Nat → Nat → Nat) × Nat × Nat
def kC : Nat → String × u_T × Nat
  | 1 => (RX0, TX0, 2)
  | 2 => (RX1, TX1, 5)
  | 3 => (RX2, TX2, 3)
  | 4 => (RX3, TX3, 10)
  | 5 => (RX4, TX4, 3)
  | 6 => (RX5, TX5, 8)
  | 7 => (RX6, TX6, 31)
  | _ => (RJx4a65c, TJx4a65c, 3)
def kT : Nat → Nat → FieldType
  | 1 => tyX0
  | 2 => tyX1
  | 3 => tyX2
  | 4 => tyX3
  | 5 => tyX4
  | 6 => tyX5
  | 7 => tyX6
  | _ => tyJx4a65c
def kA : Nat → FieldType
  | 9 => .int
  | 10 => .long
  | 11 => .boolean
  | 12 => .object "java/lang/Object"
  | _ => .double
theorem kC_ty (k : Nat) (h1 : 1 ≤ k) (h2 : k ≤ 8) : ∀ j, j < (kC k).2.2 → parseFieldDescriptor ((kC k).2.1 j).2.2.1 = some (kT k j) := by
  rcases (show k = 1 ∨ k = 2 ∨ k = 3 ∨ k = 4 ∨ k = 5 ∨ k = 6 ∨ k = 7 ∨ k = 8 by omega) with rfl | rfl | rfl | rfl | rfl | rfl | rfl | rfl
  · exact tyX0_ok
  · exact tyX1_ok
  · exact tyX2_ok
  · exact tyX3_ok
  · exact tyX4_ok
  · exact tyX5_ok
  · exact tyX6_ok
  · exact tyJx4a65c_ok
theorem kC_nm (k : Nat) (h1 : 1 ≤ k) (h2 : k ≤ 8) : ∀ a, a < (kC k).2.2 → ∀ b, b < (kC k).2.2 → a ≠ b → ((kC k).2.1 a).2.1 ≠ ((kC k).2.1 b).2.1 := by
  rcases (show k = 1 ∨ k = 2 ∨ k = 3 ∨ k = 4 ∨ k = 5 ∨ k = 6 ∨ k = 7 ∨ k = 8 by omega) with rfl | rfl | rfl | rfl | rfl | rfl | rfl | rfl
  · exact nmX0
  · exact nmX1
  · exact nmX2
  · exact nmX3
  · exact nmX4
  · exact nmX5
  · exact nmX6
  · exact nmJx4a65c
theorem kC_64 (k : Nat) (h1 : 1 ≤ k) (h2 : k ≤ 8) : (kC k).2.2 ≤ 64 := by
  rcases (show k = 1 ∨ k = 2 ∨ k = 3 ∨ k = 4 ∨ k = 5 ∨ k = 6 ∨ k = 7 ∨ k = 8 by omega) with rfl | rfl | rfl | rfl | rfl | rfl | rfl | rfl <;> decide
def wIn (k : Nat) : Bool := (u_ws (kC k).1 (kC k).2.1 (kC k).2.2).all (fun w => decide (w ∈ lw_tbl) && goodWord w)
theorem wIn_all : wIn 1 = true ∧ wIn 2 = true ∧ wIn 3 = true ∧ wIn 4 = true ∧ wIn 5 = true ∧ wIn 6 = true ∧ wIn 7 = true ∧ wIn 8 = true := by
  refine ⟨?_, ?_, ?_, ?_, ?_, ?_, ?_, ?_⟩ <;> decide +kernel
theorem kC_in (k : Nat) (h1 : 1 ≤ k) (h2 : k ≤ 8) : ∀ w ∈ u_ws (kC k).1 (kC k).2.1 (kC k).2.2, w ∈ WALL := by
  have h : wIn k = true := by
    rcases (show k = 1 ∨ k = 2 ∨ k = 3 ∨ k = 4 ∨ k = 5 ∨ k = 6 ∨ k = 7 ∨ k = 8 by omega) with rfl | rfl | rfl | rfl | rfl | rfl | rfl | rfl
    · exact wIn_all.1
    · exact wIn_all.2.1
    · exact wIn_all.2.2.1
    · exact wIn_all.2.2.2.1
    · exact wIn_all.2.2.2.2.1
    · exact wIn_all.2.2.2.2.2.1
    · exact wIn_all.2.2.2.2.2.2.1
    · exact wIn_all.2.2.2.2.2.2.2
  intro w hw
  have h3 := List.all_eq_true.mp h w hw
  simp only [Bool.and_eq_true, decide_eq_true_eq] at h3
  exact WALL_of h3.1 h3.2
/-- what the memory says of the heap at a cell of ours -/
def wat (D : wD) (S : wS) (H : Heap) (a : Nat) : Prop :=
  (sK S a ≤ 8 → t_OB a (D.1 (sK S a)) (kC (sK S a)).2.2 (D.2.1 (sK S a)) H (fun j => sG S (64 * sK S a + j) a)) ∧
  (9 ≤ sK S a → H[a]? = some (arrV (D.1 (sK S a)) (sN S a) (fun j => sE S (sK S a) a j)))
def wI (D : wD) (A : Nat → Prop) (S : wS) (H : Heap) : Prop := ∀ a, sK S a ≠ 0 → sK S a ≤ 13 ∧ wat D S H a ∧ A a
theorem wat.lt {D : wD} {S : wS} {H : Heap} {a : Nat} (h : wat D S H a) : a < H.size := by
  rcases Nat.lt_or_ge (sK S a) 9 with q | q
  · obtain ⟨cell, h2, -⟩ := h.1 (by omega)
    exact (Array.getElem?_eq_some_iff.mp h2).1
  · exact (Array.getElem?_eq_some_iff.mp (h.2 q)).1
theorem wat.kept {D : wD} {S : wS} {H H1 : Heap} {a : Nat} (h : wat D S H a) (e : H1[a]? = H[a]?) : wat D S H1 a :=
  ⟨fun q => (h.1 q).kept e, fun q => by rw [e]; exact h.2 q⟩
theorem wI.new {D : wD} {A : Nat → Prop} {S : wS} {H : Heap} (h : wI D A S H) : sK S H.size = 0 := by
  rcases Nat.eq_zero_or_pos (sK S H.size) with q | q
  · exact q
  · exact absurd (h H.size (by omega)).2.1.lt (Nat.lt_irrefl _)
theorem wI.new' {D : wD} {A : Nat → Prop} {S : wS} {H : Heap} (h : wI D A S H) {a : Nat} (ha : H.size ≤ a) : sK S a = 0 := by
  rcases Nat.eq_zero_or_pos (sK S a) with q | q
  · exact q
  · have := (h a (by omega)).2.1.lt
    omega
/-- which cells a method may change -/
def wA (S : wS) (sz : Nat) : Nat → Prop := fun q => sK S q ≠ 0 ∨ sz ≤ q
/-- the tables' class ids -/
def wKn (D : wD) (U : State) : Prop := (∀ k, 1 ≤ k → k ≤ 8 → u_Kn U (kC k).1 (kC k).2.1 (kC k).2.2 (D.1 k) (D.2.1 k)) ∧ ∀ k, 9 ≤ k → k ≤ 13 → ArrOfT U (D.1 k) (kA k) ∧ va_RA U (D.1 k) (kA k)
theorem wKn.moved {D : wD} {u U : State} (hvm : u.vm.Alike U.vm) (h : wKn D u) : wKn D U := ⟨fun k h1 h2 => u_Kn_moved hvm (h.1 k h1 h2), fun k h1 h2 => ⟨arrOfT_moved hvm (h.2 k h1 h2).1, (h.2 k h1 h2).2.moved hvm⟩⟩
/-- the JDK's statics that are read -/
def wZ (D : wD) (A : Nat → Prop) (U : State) (H : Heap) : Prop :=
  vx_Zq Bundle.tN "UNASSIGNED_STACK" Bundle.steD A U H ∧ vx_Zq Bundle.tN "SUPPRESSED_SENTINEL" Bundle.listD A U H ∧
  va_Z "java/util/ArrayList" "DEFAULTCAPACITY_EMPTY_ELEMENTDATA" "[Ljava/lang/Object;" (.ref D.2.2.1) A U H ∧
  (∃ cell : Cell, H[D.2.2.1]? = some cell ∧ U.isArrayOf cell (.object "java/lang/Object") ∧ cell.vm ≠ .unknown ∧ cell.slots.size = 0) ∧ ¬ A D.2.2.1
theorem wZ.moved {D : wD} {A : Nat → Prop} {u U : State} {H : Heap} (hvm : u.vm.Alike U.vm) (h : wZ D A u H) : wZ D A U H := by
  obtain ⟨h1, h2, h3, ⟨cell, h4, h5, h6⟩, h7⟩ := h
  exact ⟨vx_Zq.moved hvm h1, vx_Zq.moved hvm h2, va_Z.moved hvm h3, ⟨cell, h4, State.isArrayOf_alike hvm h5, h6⟩, h7⟩
theorem wZ.kept {D : wD} {A : Nat → Prop} {U : State} {H H1 : Heap} (h : wZ D A U H) (hq : ∀ a : Nat, a < H.size → ¬ A a → H1[a]? = H[a]?) : wZ D A U H1 := by
  obtain ⟨h1, h2, h3, ⟨cell, h4, h5, h6⟩, h7⟩ := h
  exact ⟨h1.kept hq, h2.kept hq, h3.kept hq, ⟨cell, by rw [hq _ (Array.getElem?_eq_some_iff.mp h4).1 h7]; exact h4, h5, h6⟩, h7⟩
theorem wZ.narrow {D : wD} {A B : Nat → Prop} {U : State} {H : Heap} (h : wZ D A U H) (hAB : ∀ q, B q → A q) : wZ D B U H := by
  obtain ⟨h1, h2, h3, h4, h7⟩ := h
  exact ⟨h1.narrow hAB, h2.narrow hAB, h3.narrow hAB, h4, fun z => h7 (hAB _ z)⟩
/-- the String constants that a throw loads -/
def wStr : List (String × Nat × String) := [("Spliceroom", 45, "no room for a film"), ("Spliceroom", 353, "no such film"), ("Spliceroom", 295, "a number is out of range"), ("Spliceroom", 65, "no room for a shot"), ("Spliceroom", 79, "no room for a reel"), ("Spliceroom", 357, "no such reel"), ("Spliceroom", 355, "no such shot"), ("Spliceroom", 103, "of two films"), ("Spliceroom", 116, "not missing, or out of order"), ("Spliceroom", 365, "the film is lent"), ("Spliceroom", 130, "no such place"), ("Spliceroom", 133, "no room for a shot or its reel"), ("Spliceroom", 138, "the same reel, or of two films"), ("Spliceroom", 144, "empty, or out of order"), ("Spliceroom", 158, "the shot is missing"), ("Spliceroom", 169, "no such frame"), ("Spliceroom", 178, "no such limit"), ("Spliceroom", 187, "a splice has more, or a film is lent"), ("Spliceroom", 193, "a splice would be worn beyond the limit"), ("Spliceroom", 363, "no such splice"), ("Spliceroom", 209, "the shot ahead has one frame"), ("Spliceroom", 214, "no such size"), ("Spliceroom", 219, "the reel is empty"), ("Spliceroom", 234, "no such grade"), ("Spliceroom", 239, "no grade of its own"), ("Spliceroom", 254, "no such country"), ("Spliceroom", 260, "the country has a version"), ("Spliceroom", 262, "no room for a version"), ("Spliceroom", 359, "no such version"), ("Spliceroom", 277, "no such frames"), ("Spliceroom", 300, "no room for a loan"), ("Spliceroom", 361, "no such loan"), ("Spliceroom", 321, "given back, or no run left"), ("Spliceroom", 327, "given back before"), ("Spliceroom", 332, "no such number of days"), ("Spliceroom", 336, "no shots"), ("Spliceroom", 345, "no splices")]
/-- pairs of classes, the first assignable to the second -/
def wCas : List (String × String) := [("java/lang/IllegalStateException", "java/lang/IllegalStateException"), ("java/lang/IndexOutOfBoundsException", "java/lang/IndexOutOfBoundsException"), ("java/lang/IllegalArgumentException", "java/lang/IllegalArgumentException"), ("java/lang/UnsupportedOperationException", "java/lang/UnsupportedOperationException"), ("java/util/NoSuchElementException", "java/util/NoSuchElementException"), ("java/lang/ArithmeticException", "java/lang/ArithmeticException"), (RX0, "java/lang/Object"), (RX1, "java/lang/Object"), (RX2, "java/lang/Object"), (RX3, "java/lang/Object"), (RX4, "java/lang/Object")]
def wDec : List MethodName := [⟨"java/lang/RuntimeException", "<init>", "(Ljava/lang/String;)V"⟩, ⟨"java/lang/Exception", "<init>", "(Ljava/lang/String;)V"⟩, ⟨"java/lang/Throwable", "<init>", "(Ljava/lang/String;)V"⟩]
def wU (D : wD) (U : State) : Prop := (∀ q ∈ wCas, va_Nw (.castable q.1 q.2) U) ∧ (∀ y ∈ wDec, va_Nw (.declares y) U) ∧ va_Mi "[Ljava/lang/Object;" D.2.2.2 U ∧ va_Dc U ∧ va_AO "java/lang/Object" U ∧ ∀ q ∈ wStr, ∃ a, vk_R q.1 q.2.1 q.2.2 a U
theorem wU.warm {D : wD} {s U : State} (hW : s.WarmedH U.vm) (h : wU D s) : wU D U := by
  obtain ⟨h0, h9, h1, h2, h3, h4⟩ := h
  refine ⟨fun q hq => va_Nw.warmC hW (h0 q hq), fun y hy => va_Nw.warmD hW (h9 y hy), h1.moved hW.alike, h2.moved hW.alike, h3.moved hW.alike, fun q hq => ?_⟩
  obtain ⟨a, ha⟩ := h4 q hq
  exact ⟨a, vk_R.warm hW ha⟩
/-- what a method is entered with -/
def wPre (D : wD) (sz : Nat) (S : wS) (U : State) : Prop := U.heap.size = sz ∧ wI D (wA S sz) S U.heap ∧ wKn D U ∧ wZ D (wA S sz) U U.heap ∧ wU D U
/-- a result: a value (or none), or the name of the class that is thrown -/
abbrev wR : Type := Option Value ⊕ String
def wQc (D : wD) (sz : Nat) (S : wS) (Post : wR → wS → Prop) : Array Value → State → Outcome → State → Prop := fun _ st o t => ∃ (v : Option Value) (S' : wS), o = .returned v ∧ Post (.inl v) S' ∧ wI D (wA S sz) S' t.heap ∧ va_F (wA S sz) st t
def wXC (D : wD) (sz : Nat) (S : wS) (Post : wR → wS → Prop) : String → State → State → Prop := fun E st t => ∃ S' : wS, Post (.inr E) S' ∧ wI D (wA S sz) S' t.heap ∧ va_F (wA S sz) st t
/-- facts of a method's name -/
def Cal (y : MethodName) (cc : ByteArray) (nL : Nat) (ret : Option FieldType) (np : Nat) : Prop :=
  plainName y.cls = true ∧ (y.cls ≠ "java/lang/invoke/MethodHandle" ∧ y.cls ≠ "java/lang/invoke/VarHandle" ∧ (parseMethodDescriptor y.desc).map (fun d => d.parameters.length) = some np) ∧ Cond.code y cc nL ret ∈ WALL ∧ Cond.initialized y.cls ∈ WALL
/-- THE CONTRACT: from memory S with the arguments av the method ends with Post; d: its depth, mc cells of ms slots at most are new -/
def Ct (l : Launch) (y : MethodName) (cc : ByteArray) (nL : Nat) (ret : Option FieldType) (d mc ms : Nat) (av : List Value) (S : wS) (Post : wR → wS → Prop) : Prop :=
  ∀ (D : wD) (sz : Nat), vx_Met l y (Cond.code y cc nL ret :: WALL) { frames := 20 * d, cells := mc, slots := ms, locals := 200 * d } (va_Pc av (fun U => wPre D sz S U)) (wQc D sz S Post) (wXC D sz S Post) mc ms (wA S sz)
/-- locals by their numbers -/
def lvg : List (Nat × Value) → Nat → Option Value
  | [], _ => none
  | (j, v) :: r, i => match Nat.beq j i with
    | true => some v
    | false => lvg r i
theorem lvg_mem : ∀ {lv : List (Nat × Value)} {i : Nat} {v : Value}, lvg lv i = some v → (i, v) ∈ lv
  | [], _, _, h => by cases h
  | (j, w) :: r, i, v, h => by
    unfold lvg at h
    cases e : Nat.beq j i with
    | true =>
      rw [e] at h
      cases h
      rw [Nat.eq_of_beq_eq_true e]
      exact List.mem_cons_self
    | false =>
      rw [e] at h
      exact List.mem_cons_of_mem _ (lvg_mem h)
theorem lvg_at {ls : Array Slot} {nL : Nat} {lv : List (Nat × Value)} (h : lv_has ls nL lv) {i : Nat} {v : Value} (hk : lvg lv i = some v) : ls[i]? = some (.val v) := h.2.2 (i, v) (lvg_mem hk)
theorem lvg_sub {ls : Array Slot} {nL : Nat} {lv lv' : List (Nat × Value)} (h : lv_has ls nL lv) (hs : ∀ q ∈ lv', lvg lv q.1 = some q.2) : lv_has ls nL lv' := ⟨h.1, h.2.1, fun q hq => lvg_at h (hs q hq)⟩
/-- a value put into a local of one word -/
def lvp (lv : List (Nat × Value)) (i : Nat) (v : Value) : List (Nat × Value) := (i, v) :: lv.filter (fun q => !(q.1 == i) && !(q.1 + 1 == i && q.2.category == 2))
/-- the walk's judgement -/
def J (p : Program) (l : Launch) (e : Env) (R : Room) (s : State) (m : MethodId) (args : Array Value) (below : List Frame) (meth : Method) (c : Code) (nL : Nat) (D : wD) (A : Nat → Prop) (Q : State → Prop) (pc : Nat) (lv : List (Nat × Value)) (st : List Value) (S : wS) (k n : Nat) : Prop :=
  ∀ (H : Heap) (locs : List Loc) (ls : Array Slot), lv_has ls nL lv → wI D A S H → va_S A s.heap H locs → W p l e R s m args below meth c H locs k n Q (F0 m pc ls st)
/-- what stands through a method's walk -/
def Cx (p : Program) (l : Launch) (s : State) (m : MethodId) (args : Array Value) (meth : Method) (c : Code) (cc : ByteArray) (nL : Nat) (own : String) (D : wD) (A : Nat → Prop) : Prop :=
  p.tables.exec = Jvm.exec ∧ c.code = cc ∧ c.maxLocals = nL ∧ s.vm.findClass own = some m.cls ∧ (∀ w ∈ WALL, w.before args s = true) ∧ wKn D s ∧ wZ D A s s.heap ∧ wU D s ∧ (∀ q, s.heap.size ≤ q → A q) ∧ meth.locks = false ∧ l.stackTraces = false
def FL (own : String) (idx k j : Nat) : Prop := ∃ ref : String, Cond.fieldLink own idx ref ((kC k).2.1 j).2.1 ((kC k).2.1 j).2.2.1 ∈ WALL ∧ (((kC k).2.1 j).1 = ref ∨ Cond.sameField ref ((kC k).2.1 j).1 ((kC k).2.1 j).2.1 ((kC k).2.1 j).2.2.1 ∈ WALL)
theorem FL_of {own ref : String} {idx k j : Nat} (h : Cond.fieldLink own idx ref ((kC k).2.1 j).2.1 ((kC k).2.1 j).2.2.1 ∈ WALL) (e : ((kC k).2.1 j).1 = ref) : FL own idx k j := ⟨ref, h, Or.inl e⟩
theorem FL_of2 {own ref o : String} {idx k j : Nat} (h : Cond.fieldLink own idx ref ((kC k).2.1 j).2.1 ((kC k).2.1 j).2.2.1 ∈ WALL) (h2 : Cond.sameField ref o ((kC k).2.1 j).2.1 ((kC k).2.1 j).2.2.1 ∈ WALL) (e : ((kC k).2.1 j).1 = o) : FL own idx k j := ⟨ref, h, Or.inr (by rw [e]; exact h2)⟩
