/-! THE START: what the tables and the premises give. -/
theorem ld_at {args : Array Value} {s : State} (hts : ∀ w ∈ lw_tbl, w.before args s = true) {w : Cond} (i : Nat) (h : lw_tbl[i]? = some w) : w.before args s = true := hts w (List.mem_of_getElem? h)
theorem lg_at {args : Array Value} {s : State} (hgv : (Jvm.Cond.and given_1 narrow_1).before args s = true) {w : Cond} (i : Nat) (h : (flatC (Jvm.Cond.and given_1 narrow_1))[i]? = some w) : w.before args s = true := flat_of_before _ hgv w (List.mem_of_getElem? h)
theorem ld_arr {args : Array Value} {s : State} {ty : FieldType} (h : (Cond.arrayClass ty).before args s = true) : ∃ cA : ClassId, ArrOfT s cA ty ∧ s.vm.findClass ("[" ++ ty.toString) = some cA := by
  obtain ⟨c, k, comp, h1, h2, h3⟩ := Cond.arrayClass_spec h
  exact ⟨c, fun n z => ⟨fun k h => (by cases h), k, h2, comp, h3⟩, h1⟩
theorem ld_arrO {args : Array Value} {s : State} {C : String} (h : (Cond.arrayOver (.object C)).before args s = true) : ∃ cA : ClassId, ArrOfT s cA (.object C) ∧ va_RA s cA (.object C) := by
  obtain ⟨comp, c, k, h1, h2, h3, h4, h5⟩ := Cond.arrayOver_spec h
  exact ⟨c, fun n z => ⟨fun k h => (by cases h), k, h3, comp, h4⟩, k, comp, h3, h4, h1, h5⟩
theorem ld_known {args : Array Value} {s : State} (hts : ∀ w ∈ WALL, w.before args s = true) (k : Nat) (h1 : 1 ≤ k) (h2 : k ≤ 8) (hi : Cond.instantiable (kC k).1 (kC k).2.2 ∈ WALL) : ∃ (cC : ClassId) (iS : Nat → Nat), u_Kn s (kC k).1 (kC k).2.1 (kC k).2.2 cC iS := u_known hts (kC_in k h1 h2) (hts _ hi)
def pick8 {α : Type} (a1 a2 a3 a4 a5 a6 a7 a8 : α) : Nat → α
  | 1 => a1
  | 2 => a2
  | 3 => a3
  | 4 => a4
  | 5 => a5
  | 6 => a6
  | 7 => a7
  | _ => a8
def pickC (a1 a2 a3 a4 a5 a6 a7 a8 a9 a10 a11 a12 a13 : ClassId) : Nat → ClassId
  | 1 => a1
  | 2 => a2
  | 3 => a3
  | 4 => a4
  | 5 => a5
  | 6 => a6
  | 7 => a7
  | 8 => a8
  | 9 => a9
  | 10 => a10
  | 11 => a11
  | 12 => a12
  | _ => a13
/-- the classes of the tables, the row that an empty list holds, a Class object: any of these -/
theorem ld_kn {args : Array Value} {s : State} (hts : ∀ w ∈ lw_tbl, w.before args s = true) (e mi : Nat) : ∃ D : wD, D.2.2 = (e, mi) ∧ wKn D s := by
  have hw : ∀ w ∈ WALL, w.before args s = true := fun w h => hts w ((List.mem_filter.mp h).1)
  obtain ⟨c1, i1, k1⟩ := ld_known hw 1 (by decide) (by decide) nw_Fi.1
  obtain ⟨c2, i2, k2⟩ := ld_known hw 2 (by decide) (by decide) nw_Lo.1
  obtain ⟨c3, i3, k3⟩ := ld_known hw 3 (by decide) (by decide) nw_Re.1
  obtain ⟨c4, i4, k4⟩ := ld_known hw 4 (by decide) (by decide) nw_Sh.1
  obtain ⟨c5, i5, k5⟩ := ld_known hw 5 (by decide) (by decide) nw_Ve.1
  obtain ⟨c6, i6, k6⟩ := ld_known hw 6 (by decide) (by decide) nw_Sp.1
  obtain ⟨c7, i7, k7⟩ := ld_known hw 7 (by decide) (by decide) nw_Mo.1
  obtain ⟨c8, i8, k8⟩ := ld_known hw 8 (by decide) (by decide) nw_AL.1
  obtain ⟨c9, a9, f9⟩ := ld_arr (hw _ ac_int)
  obtain ⟨c10, a10, f10⟩ := ld_arr (hw _ ac_long)
  obtain ⟨c11, a11, f11⟩ := ld_arr (hw _ ac_boolean)
  obtain ⟨c13, a13, f13⟩ := ld_arr (hw _ ac_double)
  obtain ⟨c12, a12, f12⟩ := ld_arrO (C := "java/lang/Object") (ld_at hts 380 (by decide +kernel))
  refine ⟨(pickC c1 c2 c3 c4 c5 c6 c7 c8 c9 c10 c11 c12 c13, pick8 i1 i2 i3 i4 i5 i6 i7 i8, e, mi), rfl, fun k h1 h2 => ?_, fun k h1 h2 => ?_⟩
  · rcases (show k = 1 ∨ k = 2 ∨ k = 3 ∨ k = 4 ∨ k = 5 ∨ k = 6 ∨ k = 7 ∨ k = 8 by omega) with rfl | rfl | rfl | rfl | rfl | rfl | rfl | rfl
    · exact k1
    · exact k2
    · exact k3
    · exact k4
    · exact k5
    · exact k6
    · exact k7
    · exact k8
  · rcases (show k = 9 ∨ k = 10 ∨ k = 11 ∨ k = 12 ∨ k = 13 by omega) with rfl | rfl | rfl | rfl | rfl
    · exact ⟨a9, f9⟩
    · exact ⟨a10, f10⟩
    · exact ⟨a11, f11⟩
    · exact ⟨a12, f12⟩
    · exact ⟨a13, f13⟩
theorem ld_str {args : Array Value} {s : State} {own tx : String} {k : Nat} (h1 : (Cond.stringRef own k tx).before args s = true) (h2 : (Cond.exactly (Jvm.Term.string own k) "java/lang/String").before args s = true) : ∃ a, vk_R own k tx a s := by
  obtain ⟨a, c, cell, kk, e, -⟩ := Cond.exactly_spec h2
  exact ⟨a, vk_R.of (A := args) h1 e⟩
/-- the row that an empty list holds -/
theorem ld_empty {args : Array Value} {s : State} {t : Jvm.Term} (h5 : (Cond.arrayOf t (.object "java/lang/Object")).before args s = true) (h6 : (Cond.exactly t "[Ljava/lang/Object;").before args s = true) (h7 : (Cond.eq (.length t) (.int 0)).before args s = true) :
    ∃ e : Nat, t.eval args s none [] s = some (.ref e) ∧ ∃ cell : Cell, s.heap[e]? = some cell ∧ s.isArrayOf cell (.object "java/lang/Object") ∧ cell.vm ≠ .unknown ∧ cell.slots.size = 0 := by
  obtain ⟨a, c, cell, kk, e, -, hc, hk, hst, hcls, -⟩ := Cond.exactly_spec h6
  obtain ⟨hA, hkn⟩ := Cond.arrayOf_spec h5 e hc
  refine ⟨a, e, cell, hc, hA, hkn, ?_⟩
  obtain ⟨k9, g1, comp, g2⟩ := hA.2
  have harr : s.arrayAt? a = some cell := by simp [State.arrayAt?, hc, g1, g2, hkn, hst]
  by_cases hz : cell.slots.size < 2 ^ 31
  · have hl : (Term.length t).eval args s none [] s = some (.int cell.slots.size.toInt32) := by simp [Term.eval, e, harr, hz]
    have hv := Cond.eq_ints hl (show (Term.int 0).eval args s none [] s = some (.int 0) from rfl)
    have hd : cell.slots.size.toInt32 = 0 := by simpa [Cond.before, Cond.holds, hv] using h7
    have hz' : cell.slots.size < 2147483648 := hz
    have h1 : iN (cell.slots.size : Int) = iN 0 := by
      rw [← iN_ofNat, ← iN_0]
      exact hd
    have h2 := (iN_eq (by unfold rg; omega) rg_0).mp h1
    omega
  · have hl : (Term.length t).eval args s none [] s = none := by simp [Term.eval, e, harr, hz]
    simp [Cond.before, Cond.holds, Cond.value, hl] at h7

theorem ld_strs {args : Array Value} {s : State} (hts : ∀ w ∈ lw_tbl, w.before args s = true) (hgv : (Jvm.Cond.and given_1 narrow_1).before args s = true) : ∀ q ∈ wStr, ∃ a, vk_R q.1 q.2.1 q.2.2 a s := by
  intro q hq
  unfold wStr at hq
  simp only [List.mem_cons, List.not_mem_nil, or_false] at hq
  rcases hq with rfl | rfl | rfl | rfl | rfl | rfl | rfl | rfl | rfl | rfl | rfl | rfl | rfl | rfl | rfl | rfl | rfl | rfl | rfl | rfl | rfl | rfl | rfl | rfl | rfl | rfl | rfl | rfl | rfl | rfl | rfl | rfl | rfl | rfl | rfl | rfl | rfl
  · exact ld_str (ld_at hts 282 (by decide +kernel)) (lg_at hgv 317 (by decide +kernel))
  · exact ld_str (ld_at hts 435 (by decide +kernel)) (lg_at hgv 339 (by decide +kernel))
  · exact ld_str (ld_at hts 452 (by decide +kernel)) (lg_at hgv 355 (by decide +kernel))
  · exact ld_str (ld_at hts 459 (by decide +kernel)) (lg_at hgv 383 (by decide +kernel))
  · exact ld_str (ld_at hts 521 (by decide +kernel)) (lg_at hgv 405 (by decide +kernel))
  · exact ld_str (ld_at hts 558 (by decide +kernel)) (lg_at hgv 427 (by decide +kernel))
  · exact ld_str (ld_at hts 563 (by decide +kernel)) (lg_at hgv 443 (by decide +kernel))
  · exact ld_str (ld_at hts 564 (by decide +kernel)) (lg_at hgv 459 (by decide +kernel))
  · exact ld_str (ld_at hts 588 (by decide +kernel)) (lg_at hgv 475 (by decide +kernel))
  · exact ld_str (ld_at hts 599 (by decide +kernel)) (lg_at hgv 507 (by decide +kernel))
  · exact ld_str (ld_at hts 612 (by decide +kernel)) (lg_at hgv 527 (by decide +kernel))
  · exact ld_str (ld_at hts 613 (by decide +kernel)) (lg_at hgv 544 (by decide +kernel))
  · exact ld_str (ld_at hts 862 (by decide +kernel)) (lg_at hgv 608 (by decide +kernel))
  · exact ld_str (ld_at hts 871 (by decide +kernel)) (lg_at hgv 642 (by decide +kernel))
  · exact ld_str (ld_at hts 914 (by decide +kernel)) (lg_at hgv 668 (by decide +kernel))
  · exact ld_str (ld_at hts 934 (by decide +kernel)) (lg_at hgv 691 (by decide +kernel))
  · exact ld_str (ld_at hts 950 (by decide +kernel)) (lg_at hgv 708 (by decide +kernel))
  · exact ld_str (ld_at hts 955 (by decide +kernel)) (lg_at hgv 725 (by decide +kernel))
  · exact ld_str (ld_at hts 963 (by decide +kernel)) (lg_at hgv 765 (by decide +kernel))
  · exact ld_str (ld_at hts 996 (by decide +kernel)) (lg_at hgv 808 (by decide +kernel))
  · exact ld_str (ld_at hts 1004 (by decide +kernel)) (lg_at hgv 826 (by decide +kernel))
  · exact ld_str (ld_at hts 1027 (by decide +kernel)) (lg_at hgv 858 (by decide +kernel))
  · exact ld_str (ld_at hts 1028 (by decide +kernel)) (lg_at hgv 874 (by decide +kernel))
  · exact ld_str (ld_at hts 1062 (by decide +kernel)) (lg_at hgv 895 (by decide +kernel))
  · exact ld_str (ld_at hts 1063 (by decide +kernel)) (lg_at hgv 912 (by decide +kernel))
  · exact ld_str (ld_at hts 1097 (by decide +kernel)) (lg_at hgv 935 (by decide +kernel))
  · exact ld_str (ld_at hts 1102 (by decide +kernel)) (lg_at hgv 954 (by decide +kernel))
  · exact ld_str (ld_at hts 1103 (by decide +kernel)) (lg_at hgv 983 (by decide +kernel))
  · exact ld_str (ld_at hts 1133 (by decide +kernel)) (lg_at hgv 1008 (by decide +kernel))
  · exact ld_str (ld_at hts 1139 (by decide +kernel)) (lg_at hgv 1027 (by decide +kernel))
  · exact ld_str (ld_at hts 1159 (by decide +kernel)) (lg_at hgv 1045 (by decide +kernel))
  · exact ld_str (ld_at hts 1197 (by decide +kernel)) (lg_at hgv 1067 (by decide +kernel))
  · exact ld_str (ld_at hts 1198 (by decide +kernel)) (lg_at hgv 1083 (by decide +kernel))
  · exact ld_str (ld_at hts 1206 (by decide +kernel)) (lg_at hgv 1113 (by decide +kernel))
  · exact ld_str (ld_at hts 1214 (by decide +kernel)) (lg_at hgv 1134 (by decide +kernel))
  · exact ld_str (ld_at hts 1237 (by decide +kernel)) (lg_at hgv 1160 (by decide +kernel))
  · exact ld_str (ld_at hts 1250 (by decide +kernel)) (lg_at hgv 1172 (by decide +kernel))
theorem ld_hN {args : Array Value} {s : State} (hts : ∀ w ∈ lw_tbl, w.before args s = true) (hgv : (Jvm.Cond.and given_1 narrow_1).before args s = true) : hN s := by
  refine ⟨va_Nw.of (A := args) rfl (ld_at hts 311 (by decide +kernel)), fun q hq => ?_⟩
  unfold wNc at hq
  simp only [List.mem_cons, List.not_mem_nil, or_false] at hq
  rcases hq with rfl | rfl | rfl | rfl | rfl | rfl | rfl
  · exact va_Nc.of (args := args) (lg_at hgv 242 (by decide +kernel))
  · exact va_Nc.of (args := args) (lg_at hgv 245 (by decide +kernel))
  · exact va_Nc.of (args := args) (lg_at hgv 261 (by decide +kernel))
  · exact va_Nc.of (args := args) (lg_at hgv 240 (by decide +kernel))
  · exact va_Nc.of (args := args) (lg_at hgv 255 (by decide +kernel))
  · exact va_Nc.of (args := args) (lg_at hgv 271 (by decide +kernel))
  · exact va_Nc.of (args := args) (lg_at hgv 248 (by decide +kernel))
theorem ld_cas {args : Array Value} {s : State} (hts : ∀ w ∈ lw_tbl, w.before args s = true) : ∀ q ∈ wCas, va_Nw (.castable q.1 q.2) s := by
  intro q hq
  unfold wCas at hq
  simp only [List.mem_cons, List.not_mem_nil, or_false] at hq
  rcases hq with rfl | rfl | rfl | rfl | rfl | rfl | rfl | rfl | rfl | rfl | rfl
  · exact va_Nw.of (A := args) rfl (ld_at hts 239 (by decide +kernel))
  · exact va_Nw.of (A := args) rfl (ld_at hts 428 (by decide +kernel))
  · exact va_Nw.of (A := args) rfl (ld_at hts 445 (by decide +kernel))
  · exact va_Nw.of (A := args) rfl (ld_at hts 581 (by decide +kernel))
  · exact va_Nw.of (A := args) rfl (ld_at hts 907 (by decide +kernel))
  · exact va_Nw.of (A := args) rfl (ld_at hts 1230 (by decide +kernel))
  · exact va_Nw.of (A := args) rfl (ld_at hts 1602 (by decide +kernel))
  · exact va_Nw.of (A := args) rfl (ld_at hts 1613 (by decide +kernel))
  · exact va_Nw.of (A := args) rfl (ld_at hts 1607 (by decide +kernel))
  · exact va_Nw.of (A := args) rfl (ld_at hts 1606 (by decide +kernel))
  · exact va_Nw.of (A := args) rfl (ld_at hts 1612 (by decide +kernel))
theorem ld_dec {args : Array Value} {s : State} (hts : ∀ w ∈ lw_tbl, w.before args s = true) : ∀ y ∈ wDec, va_Nw (.declares y) s := by
  intro q hq
  unfold wDec at hq
  simp only [List.mem_cons, List.not_mem_nil, or_false] at hq
  rcases hq with rfl | rfl | rfl
  · exact va_Nw.of (A := args) rfl (ld_at hts 241 (by decide +kernel))
  · exact va_Nw.of (A := args) rfl (ld_at hts 243 (by decide +kernel))
  · exact va_Nw.of (A := args) rfl (ld_at hts 245 (by decide +kernel))
/-- THE WORLD at the law's entry -/
theorem ld_world {args : Array Value} {s : State} {A : Nat → Prop} (hts : ∀ w ∈ lw_tbl, w.before args s = true) (hgv : (Jvm.Cond.and given_1 narrow_1).before args s = true) (hA : ∀ a : Nat, a < s.heap.size → ¬ A a) : ∃ D : wD, wKn D s ∧ wZ D A s s.heap ∧ wU D s ∧ hN s := by
  obtain ⟨e, he, hcell⟩ := ld_empty (t := Jvm.Term.static "java/util/ArrayList" "DEFAULTCAPACITY_EMPTY_ELEMENTDATA" "[Ljava/lang/Object;") (lg_at hgv 5 (by decide +kernel)) (lg_at hgv 6 (by decide +kernel)) (lg_at hgv 7 (by decide +kernel))
  obtain ⟨mi, hmi⟩ := va_Mi.of (C := "[Ljava/lang/Object;") (lg_at hgv 316 (by decide +kernel))
  obtain ⟨D, hD, hK⟩ := ld_kn hts e mi
  have he' : D.2.2.1 = e := by rw [hD]
  have hm' : D.2.2.2 = mi := by rw [hD]
  refine ⟨D, hK, ⟨?_, ?_, ?_, ?_, ?_⟩, ⟨ld_cas hts, ld_dec hts, ?_, ?_, ?_, ld_strs hts hgv⟩, ld_hN hts hgv⟩
  · exact vx_Zqof (ld_at hts 264 (by decide +kernel)) (ld_at hts 56 (by decide +kernel)) (lg_at hgv 8 (by decide +kernel)) hA
  · exact vx_Zqof (ld_at hts 266 (by decide +kernel)) (ld_at hts 56 (by decide +kernel)) (lg_at hgv 9 (by decide +kernel)) hA
  · rw [he']
    exact va_Zref (ld_at hts 106 (by decide +kernel)) (ld_at hts 54 (by decide +kernel)) he hA
  · rw [he']
    exact hcell
  · rw [he']
    obtain ⟨cell, hc, -⟩ := hcell
    exact hA _ (Array.getElem?_eq_some_iff.mp hc).1
  · rw [hm']
    exact hmi
  · exact va_Dc.of (ld_at hts 1618 (by decide +kernel))
  · exact va_AO.of (ld_at hts 380 (by decide +kernel))
