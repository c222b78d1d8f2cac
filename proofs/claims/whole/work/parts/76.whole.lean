-- ===== YOUR PART BEGINS =====
/-- nothing is ours -/
def wS0 : wS := (fun _ => 0, fun _ => 0, fun _ _ => .null, fun _ _ _ => .null)
set_option maxHeartbeats 1000000 in
/-- THE LAW, from its entry -/
theorem whole_start {p : Program} {e : Env} {s : State} {m : MethodId} {below : List Frame} {meth : Method} {c : Code} (l : Launch) (hflags : l.flags = flags0) {b L : Nat} {xs : Nat → Int32} (hL : L ≤ 2560) (C0 : lw_At p s m meth c b L xs) : W p l e room_1 s m #[Value.ref b] below meth c s.heap [] 0 0 (lw_Z below #[Value.ref b] s) (entryFrame m ([Value.ref b] : List Value).toArray 9) := by
  obtain ⟨hx, hbd, hr, hml, hown, hts, hX, hbl, hlocks, hgv⟩ := id C0
  have hfl : l.stackTraces = false := by
    unfold Launch.stackTraces
    rw [hflags]
    first | decide +kernel | simp [flags0]
  obtain ⟨D, hK, hZ, hU, hs⟩ := ld_world (A := fun q => s.heap.size ≤ q) hts hgv (fun a h => Nat.not_le.mpr h)
  have C : Cx p l s m #[Value.ref b] meth c cL_law 9 RL D (fun q => s.heap.size ≤ q) := ⟨hx, hbd, hml, hown, fun w h => hts w ((List.mem_filter.mp h).1), hK, hZ, hU, fun _ h => h, hlocks, hfl⟩
  have hl := lv_entry ([.ref b]) (n := 9) (Nat.le_of_ble_eq_true rfl)
  rw [lg_entry_eq]
  have key : J p l e room_1 s m #[Value.ref b] below meth c 9 D (fun q => s.heap.size ≤ q) (lw_Z below #[Value.ref b] s) 0 [(0, .ref b)] [] wS0 0 0 := by
    refine j_new C (kd := 6) ⟨by decide, by decide⟩ cl_La_8 nw_Sp ⟨Nat.le_of_ble_eq_true rfl, Nat.le_of_ble_eq_true rfl⟩ dL_law_0 (fun q hq hqE => ?_)
    refine j_dup C dL_law_3 rfl ?_
    refine j_callID C (p_new5 l hfl sK_new) cal_X5_init in_X5_init ml_La_125 (by decide) rfl rfl (Nat.le_of_ble_eq_true rfl) ⟨Nat.le_of_ble_eq_true rfl, Nat.le_of_ble_eq_true rfl⟩ ⟨Nat.le_of_ble_eq_true rfl, Nat.le_of_ble_eq_true rfl⟩ dL_law_4 (fun E S9 h => nomatch h.1) (fun v9 S1 h => ?_)
    obtain ⟨h9, ⟨G, rfl, hC1⟩, -⟩ := h
    cases h9
    refine j_astore_n C dL_law_7 (by decide) ?_
    refine j_new C (kd := 7) ⟨by decide, by decide⟩ cl_La_126 nw_Mo ⟨Nat.le_of_ble_eq_true rfl, Nat.le_of_ble_eq_true rfl⟩ dL_law_8 (fun o ho hoE => ?_)
    refine j_dup C dL_law_11 rfl ?_
    have f0 : ∀ j, j < 30 → mLen j = 0 → kT 7 j = .int := by decide
    refine j_callI C (p_new6 l hfl sK_new (fun j h1 h2 => ?_) ?_) cal_X6_init in_X6_init ml_La_128 (by decide) rfl rfl (Nat.le_of_ble_eq_true rfl) ⟨Nat.le_of_ble_eq_true rfl, Nat.le_of_ble_eq_true rfl⟩ ⟨Nat.le_of_ble_eq_true rfl, Nat.le_of_ble_eq_true rfl⟩ dL_law_12 (fun E S9 h => nomatch h.1) (fun v9 S2 h => ?_)
    · refine (sG_new (k := 7) (j := j) (by omega)).trans ?_
      rw [f0 j h1 h2]
      rfl
    · exact sG_new (k := 7) (j := 30) (by decide)
    obtain ⟨h9, ⟨B, hM2⟩, hf2⟩ := h
    cases h9
    have n2 : nE S1 S2 := fun c hc => by
      have hne : c ≠ o := fun z => hc (by rw [z]; exact ho)
      exact (nE.rf.new ho c hc).tr (hf2 c (by rw [sK_new' hne]; exact hc) hne)
    refine j_astore_n C dL_law_15 (by decide) ?_
    refine j_iconst C dL_law_16 ?_
    refine j_newa C (kd := 10) (ty := .long) ⟨by decide, by decide⟩ rfl rfl ac_long (fun U cA h h2 => Option.some.inj (h2.symm.trans h)) ⟨by decide, by decide⟩ (by decide) ⟨Nat.le_of_ble_eq_true rfl, Nat.le_of_ble_eq_true rfl⟩ dL_law_17 (fun la hla hlaE => ?_)
    refine j_astore_n C dL_law_19 (by decide) ?_
    refine j_iconst C dL_law_20 ?_
    refine j_newa C (kd := 13) (ty := .double) ⟨by decide, by decide⟩ rfl rfl ac_double (fun U cA h h2 => Option.some.inj (h2.symm.trans h)) ⟨by decide, by decide⟩ (by decide) ⟨Nat.le_of_ble_eq_true rfl, Nat.le_of_ble_eq_true rfl⟩ dL_law_21 (fun da hda hdaE => ?_)
    refine j_astore C dL_law_23 (by decide) ?_
    refine j_iconst C dL_law_25 ?_
    refine j_istore C dL_law_26 (by decide) ?_
    have n3 : nE S2 (sNewA (sNewA S2 10 la (Int.toNat 1) (fun _ => defaultValue .long)) 13 da (Int.toNat 1) (fun _ => defaultValue .double)) := (nE.rf.newA hla).newA hda
    have hne : la ≠ da := fun z => by
      rw [← z, sK_newA] at hda
      exact absurd hda (by decide)
    have I : LwI D (sNewA (sNewA S2 10 la (Int.toNat 1) (fun _ => defaultValue .long)) 13 da (Int.toNat 1) (fun _ => defaultValue .double)) (G 6 0) o la da B M0 := by
      refine ⟨Jn_M0 ((hC1.ne n2).ne n3), hM2.cF n3.cF, ⟨?_, ?_⟩, sK_newA, sN_newA⟩
      · rw [sK_newA' hne]; exact sK_newA
      · rw [sN_newA' hne]; exact sN_newA
    have h3 := law_loop (below := below) (e := e) l hfl C hr hs hX hbl hL (L + 1) 0 _ _ I (by show (0 : Int) ≤ 99 * ((0 : Nat) : Int); omega) (by omega) (by omega)
    refine J.lvs ?_ (J.widen (Nat.le_of_ble_eq_true rfl) (Nat.le_of_ble_eq_true rfl) h3)
    intro r hr
    simp only [L0, List.mem_cons, List.not_mem_nil, or_false] at hr
    rcases hr with rfl | rfl | rfl | rfl | rfl | rfl <;> rfl
  exact key s.heap [] _ hl (fun a ha => absurd rfl ha) va_S.rf
-- ===== YOUR PART ENDS =====
set_option maxHeartbeats 4000000 in
theorem lw_walk (l : Launch) (hflags : l.flags = flags0) (b : Addr) (xs : List Int32) : MetFree l x (headSpec (Jvm.Cond.code x code maxLocals ret :: tables_1) room_1) (lw_P b xs) (fun _ _ _ _ _ => True) lw_Q := by
  refine MetFree.of_bodyS (code := code) (maxLocals := maxLocals) (ret := ret) (by decide) ?_ ?_
  · intro args s m h hn
    obtain ⟨meth, c, h1, h2, h3, h4, h5, h6, -, -⟩ := Cond.code_spec hn (atoms_spec (ws := Jvm.Cond.code x code maxLocals ret :: tables_1) h _ List.mem_cons_self)
    exact ⟨meth, c, h1, h2, h3, h4, h5, h6⟩
  · intro p e s m args below meth c s₁ B hml0 hP _
    obtain ⟨rfl, hx, hbd, hgv⟩ := hP
    obtain ⟨scr, harrAt, hlist, hof, hsmall⟩ := hx
    obtain ⟨hcb, hkn, -, -⟩ := State.arrayAt?_spec harrAt
    have hown : s.vm.findClass R_law = some m.cls := findClass_of_methodNamed B.named
    have hts0 : ∀ c ∈ (Jvm.Cond.code x code maxLocals ret :: tables_1), c.before #[Value.ref b] s = true := atoms_spec (ws := Jvm.Cond.code x code maxLocals ret :: tables_1) B.pre
    have hts : ∀ w ∈ lw_tbl, w.before #[Value.ref b] s = true := k2_hts_sels lw_privs (fun w hw => hts0 w (List.mem_cons_of_mem _ hw)) lw_privs_ok
    have hml : c.maxLocals = 9 := B.maxLocals_eq (hts0 _ List.mem_cons_self)
    have X₀ : Stand p l e room_1 s m #[Value.ref b] below meth c s₁ [] 0 0 := Stand.of_body B
    have hh0 : s₁.heap = s.heap := by rw [B.state]; rfl
    have hsz : scr.slots.size = xs.length := by rw [← Array.length_toList, hlist, List.length_map]
    have hval : ∀ j : Nat, j < xs.length → scr.slots[j]? = some (.int (xs.getD j 0)) := fun j hj => by
      rw [← Array.getElem?_toList, hlist]
      simp [hj]
    have hbl : b < s.heap.size := (Array.getElem?_eq_some_iff.mp hcb).1
    have hX : va_X b xs.length (fun j => xs.getD j 0) s s.heap := ⟨scr, hcb, hof, hkn, hsz, hval⟩
    have K : W p l e room_1 s m #[Value.ref b] below meth c s₁.heap [] 0 0 (lw_Z below #[Value.ref b] s) (entryFrame m ([Value.ref b] : List Value).toArray 9) := by
      rw [hh0]
      exact whole_start l hflags hbd ⟨B.exec, B.bytes, B.returns, hml, hown, hts, hX, hbl, B.notSynchronized, hgv⟩
    obtain ⟨t, a1, o, b1, b2, b3⟩ := K s₁ rfl X₀
    exact ⟨t, o, a1, b1, b2, b3⟩
theorem lw_pre_spec {args : Array Value} {s : State} (h : (Jvm.Cond.and given_1 narrow_1).before args s = true) (hr : rest_1_c.before args s = true) : ∃ (b : Addr) (xs : List Int32), lw_P b xs args s := by
  have hs := flat_of_before _ h
  have hq := flat_of_before _ hr
  have hc : (Cond.count 1).before args s = true := hs _ (by decide +kernel)
  have harr : (Cond.arrayOf (.arg 0) .int).before args s = true := hs _ (by decide +kernel)
  have hle : (Cond.le (.length (.arg 0)) (.int 2560)).before args s = true := hs _ (by decide +kernel)
  have hlen : (Cond.isInt (.length (.arg 0))).before args s = true := hq _ (by decide +kernel)
  have hall : (Cond.all (.arg 0) (.isInt (.elem (.arg 0) (.index 0)))).before args s = true := hq _ (by decide +kernel)
  obtain ⟨b, xs, hb, hx⟩ := State.ints_of_pre rfl harr hlen hall
  have hsm : xs.length < 2 ^ 31 := hx.choose_spec.2.2.2
  have hev : (Term.length (.arg 0)).eval args s none [] s = some (.int xs.length.toInt32) := hx.length_eval hb
  have hv := Cond.le_ints hev (show (Term.int 2560).eval args s none [] s = some (.int 2560) from rfl)
  have hd : xs.length.toInt32 ≤ 2560 := by
    simpa [Cond.before, Cond.holds, hv] using hle
  have hN : xs.length ≤ 2560 := (Int32.ofNat_le_ofNat hsm (by decide)).mp (show Int32.ofNat xs.length ≤ Int32.ofNat 2560 from hd)
  exact ⟨b, xs, Cond.one_arg hc (show args[0]? = some (.ref b) from hb), hx, hN, h⟩
theorem lw_comes (l : Launch) (hflags : l.flags = flags0) : Comes l x (Jvm.Cond.code x code maxLocals ret :: tables_1) room_1 (fun tb e args s => Calls_1 tb e args s ∧ rest_1 tb e args s ∧ Pre_1 tb e args s)
    (fun _ _ args s o t => lw_Q args s o t) := by
  intro p e ha hc hk s m args below hf hfit hheap happ hpre
  obtain ⟨b, xs, hP⟩ := lw_pre_spec hpre.2.2 hpre.2.1
  obtain ⟨k, o, h1, h2, h3, hQ⟩ := lw_walk l hflags b xs p e ha hc hk s m args below hf ((Spec.applies_iff_loose hf).mp happ).1 hP trivial
  exact ⟨k, o, h1, h2, h3, hQ⟩
theorem lw_frame {s t : State} {o : Outcome} {args : Array Value} (h : State.butDraws s t lw_cs (fun t1 => Framed s o t1 [] 603072 7215209)) :
    State.butDraws s t [Jvm.Choice.named "NaN.bits"] (fun t1 => Framed s o t1 (fieldLocs frame_1_writes args s ++ arrayLocs frame_1_arrays args s ++ staticLocs frame_1_statics s) 603072 7215209) := h
theorem lw_limb (L : Cond) (hL : ∀ (args : Array Value) (s t : State), L.after args s (.returned (some (.int 1))) t = true) :
    ArmFor flags0 classFile x code maxLocals ret World_1 tables_1 room_1 Calls_1 rest_1 Pre_1
      (fun tb e a s o t => postC L tb e a s o t ∧ State.butDraws s t [Jvm.Choice.named "NaN.bits"] (fun t1 => Framed s o t1 (fieldLocs frame_1_writes a s ++ arrayLocs frame_1_arrays a s ++ staticLocs frame_1_statics s) 603072 7215209)) := by
  intro l hflags _ _ p e ha hc hk s m args below hf hfit hheap happ hpre
  obtain ⟨k, o, h1, h2, h3, rfl, hF⟩ := lw_comes l hflags p e ha hc hk s m args below hf hfit hheap happ hpre
  exact ⟨k, _, h1, h2, h3, hL args s _, lw_frame hF⟩
theorem i_vc : Claimed_1_1 ∧ Claimed_1_2 := ⟨lw_limb limb_1_1 (fun args s t => by simp [limb_1_1, Cond.after, Cond.holds, Cond.value]), lw_limb limb_1_2 (fun args s t => Cond.after_iff.mpr (by
  first | (rw [show limb_1_2 = Cond.eq .result (.int 1) from rfl, Cond.eq_ints (x := 1) (y := 1) rfl rfl]; simp; done) | (simp [limb_1_2, Cond.value, Term.eval]; done)))⟩
