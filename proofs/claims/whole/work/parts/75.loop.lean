/-! THE CLAIM OUT OF ONE WALK OF THE LAW'S BODY. Your part is whole_start (and what it stands on); all else here is the same for every law, but numbers. -/
def R_law : String := "SpliceroomLaw"
def lw_P (b : Addr) (xs : List Int32) (args : Array Value) (s : State) : Prop := args = #[.ref b] ∧ s.IntsAt b xs ∧ xs.length ≤ 2560 ∧ (Jvm.Cond.and given_1 narrow_1).before args s = true
/-- what a walk over the start with the record d0 says of its end, said of the start itself -/
theorem lw_closed {s t : State} {o : Outcome} {d0 : Drawn} {L : List Loc} {k n : Nat} (hd0 : s.drawn.sameBut d0 lw_cs) (hv : ∃ v, o = .returned v) (hW : (s.setDrawn d0).WarmedH t.vm) (hs : (s.setDrawn d0).sameButNew ({ t with vm := s.vm } : State) L k n) : State.butDraws s t lw_cs (fun t1 => Framed s o t1 L k n) := by
  have h2 : t.drawn = d0 := congrArg State.drawn hs.1
  refine ⟨⟨hv, hW, State.sameButNew.setDrawn hs s.drawn⟩, ?_, by decide⟩
  rw [h2]
  exact hd0
def lw_Q (_ : Array Value) (s : State) (o : Outcome) (t : State) : Prop := o = .returned (some (.int 1)) ∧ State.butDraws s t lw_cs (fun t1 => Framed s o t1 [] 603072 7215209)
def lw_Z (below : List Frame) (a : Array Value) (s : State) : State → Prop := fun t => ∃ o, t.status = .running ∧ Ended t below o ∧ lw_Q a s o t
/-- the law's own end, with 1 on the stack, nothing written that was there before, its room as the claim has it; d0: the record of draws at this point (at the entry s.drawn: begin with 'refine W.base ?_' and 'have hd0 := Drawn.sameBut.refl s.drawn lw_cs') -/
theorem lw_ret {p : Program} {l : Launch} {e : Env} {s : State} {m : MethodId} {below : List Frame} {meth : Method} {c : Code} {b : Nat} {d0 : Drawn} (hd0 : s.drawn.sameBut d0 lw_cs) (hx : p.tables.exec = Jvm.exec) (hb : c.code = code) (hr : meth.sig.returnType = ret) (hlocks : meth.locks = false) {pc : Nat} {H : Heap} {ls : Array Slot} (hdg : decode code pc = .ok (.ireturn, 1)) : W p l e room_1 (s.setDrawn d0) m #[Value.ref b] below meth c H [] 603072 7215209 (lw_Z below #[Value.ref b] s) (F0 m pc ls [.int 1]) := by
  intro T hT X
  obtain ⟨fs, hret, hrun, hended, hW, hframe⟩ := X.leave (v := some (.int 1)) (hlocks := hlocks) (fun h => by rw [hr] at h; cases h)
  have hmeth' : T.vm.method? m = some meth := X.method'
  refine ⟨T.setFrames fs, ?_, .returned (some (.int 1)), hrun, hended, rfl, lw_closed hd0 ⟨_, rfl⟩ hW hframe⟩
  jvm_step X.here [X.here.top, hx, hb, hdg, hmeth', hr, ret, narrow_b1]
  (try refine ⟨rfl, ?_⟩); (try refine ⟨rfl, ?_⟩)
  first | (intro acts; rw [hret _ acts rfl rfl rfl]) | rw [hret _ _ rfl rfl rfl]
  exact Steps.refl _
/-- what holds at the law's entry: the machine, the code, the tables' words (any of lw_tbl by 'hts w (by decide +kernel)'), the script of L ints xs at the cell b, what the Statement gives of the start (any of its parts by flat_of_before) -/
def lw_At (p : Program) (s : State) (m : MethodId) (meth : Method) (c : Code) (b L : Nat) (xs : Nat → Int32) : Prop :=
  p.tables.exec = Jvm.exec ∧ c.code = code ∧ meth.sig.returnType = ret ∧ c.maxLocals = 9 ∧ s.vm.findClass R_law = some m.cls ∧ (∀ w ∈ lw_tbl, w.before #[Value.ref b] s = true) ∧ va_X b L xs s s.heap ∧ b < s.heap.size ∧ meth.locks = false ∧ (Jvm.Cond.and given_1 narrow_1).before #[Value.ref b] s = true
def tabO : Array Int := #[152, 196, 276, 332, 400, 492, 560, 616, 684, 740, 796, 864, 920, 976, 1032, 1100, 1168, 1236, 1292, 1348, 1416, 1472, 1528, 1584, 1652, 1760, 1816, 1908, 1964, 2020, 2076, 2090, 2156, 2221]
def tabT : List Nat := [196, 240, 320, 376, 444, 536, 604, 660, 728, 784, 840, 908, 964, 1020, 1076, 1144, 1212, 1280, 1336, 1392, 1460, 1516, 1572, 1628, 1696, 1804, 1860, 1952, 2008, 2064, 2120, 2134, 2200, 2265]
theorem tab_ok : ∀ z : Fin 34, tabO[z.val]? = some (tabO.getD z.val 0) ∧ (44 : Int) + tabO.getD z.val 0 = ((tabT.getD z.val 0 : Nat) : Int) := by decide
section LAW75
variable {p : Program} {l : Launch} {e : Env} {R : Room} {s : State} {m : MethodId} {args : Array Value} {below : List Frame} {meth : Method} {c : Code} {nL : Nat} {D : wD} {Q : State → Prop}
variable {cc : ByteArray} {own : String} {pc : Nat} {lv : List (Nat × Value)} {st : List Value} {S : wS} {k n : Nat} {A : Nat → Prop}
theorem j_xld0 (C : Cx p l s m args meth c cc nL own D A) {b L : Nat} {xs : Nat → Int32} (hX : va_X b L xs s s.heap) (hb : b < s.heap.size ∧ ¬ A b) {z : Int} (hz : 0 ≤ z ∧ z < (L : Int) ∧ L ≤ 2560) (d : decode cc pc = .ok (.iaload, 1)) (kk : J p l e R s m args below meth c nL D A Q (pc + 1) lv (.int (xs z.toNat) :: st) S k n) : J p l e R s m args below meth c nL D A Q pc lv (.int (iN z) :: .ref b :: st) S k n := by
  intro H locs ls h1 h2 h3
  refine va_sld C.1 C.2.1 hX hb.1 hb.2 h3 (iN_in hz.1 hz.2.1 (by omega)) d ?_
  rw [iN_nat hz.1 (by omega)]
  exact kk H locs ls h1 h2 h3
theorem j_iandX (C : Cx p l s m args meth c cc nL own D A) {x y : Int32} (d : decode cc pc = .ok (.iand, 1)) (kk : J p l e R s m args below meth c nL D A Q (pc + 1) lv (.int (x &&& y) :: st) S k n) : J p l e R s m args below meth c nL D A Q pc lv (.int y :: .int x :: st) S k n :=
  fun H locs ls h1 h2 h3 => lv_iand C.1 C.2.1 d (kk H locs ls h1 h2 h3)
theorem j_sw (C : Cx p l s m args meth c cL_law nL own D A) {x : Int32} (kd : J p l e R s m args below meth c nL D A Q 2278 lv st S k n) (k0 : ∀ z : Nat, z < 34 → J p l e R s m args below meth c nL D A Q (tabT.getD z 0) lv st S k n) : J p l e R s m args below meth c nL D A Q 44 lv (.int x :: st) S k n := by
  intro H locs ls h1 h2 h3
  by_cases h : x.toInt < 0 ∨ 33 < x.toInt
  · exact lv_tableOut C.1 C.2.1 dL_law_44 h (by decide) (kd H locs ls h1 h2 h3)
  · have hz : x.toInt.toNat < 34 := by omega
    obtain ⟨ho1, ho2⟩ := tab_ok ⟨x.toInt.toNat, hz⟩
    exact lv_tableIn C.1 C.2.1 dL_law_44 (fun z => h (Or.inl z)) (fun z => h (Or.inr z)) (off := tabO.getD x.toInt.toNat 0) (tgt := tabT.getD x.toInt.toNat 0) (by rw [Int.sub_zero]; exact ho1) ho2 (k0 _ hz H locs ls h1 h2 h3)
end LAW75
section LAW75L
variable {p : Program} {e : Env} {s : State} {m : MethodId} {args : Array Value} {below : List Frame} {meth : Method} {c : Code} {D : wD} {Q : State → Prop}
variable {A : Nat → Prop} {q o la da b L : Nat} {B : Nat → Nat} {xs : Nat → Int32}
/-- one call: from the switch to the loop's end -/
theorem law_call (l : Launch) (hfl : l.stackTraces = false) (C : Cx p l s m args meth c cL_law 9 RL D A) (hs : hN s) (hX : va_X b L xs s s.heap) (hb : b < s.heap.size ∧ ¬ A b) {S : wS} {k n : Nat} {M : wM} {i : Int} {x : Int32} (hi : 0 ≤ i ∧ i + 5 ≤ (L : Int) ∧ L ≤ 2560) (I : LwI D S q o la da B M) (hR : k + 100 ≤ 603072 ∧ n + 10000 ≤ 7215209) (hd : M 29 0 + 99 ≤ 50688)
    (kk : ∀ (S' : wS) (M' : wM), LwI D S' q o la da B M' → M' 29 0 ≤ M 29 0 + 99 → J p l e room_1 s m args below meth c 9 D A Q 2278 (L0 b q o la da i) [] S' (k + 100) (n + 10000)) : J p l e room_1 s m args below meth c 9 D A Q 44 (L0 b q o la da i) [.int x] S k n := by
  refine j_sw C ?_ (fun z hz => ?_)
  · exact J.widen (Nat.le_add_right _ _) (Nat.le_add_right _ _) (kk S M I (by omega))
  · match z, hz with
    | 0, _ => exact b_addFilm l hfl C hs hX hb hi I hR hd kk
    | 1, _ => exact b_addShot l hfl C hs hX hb hi I hR hd kk
    | 2, _ => exact b_addReel l hfl C hs hX hb hi I hR hd kk
    | 3, _ => exact b_put l hfl C hs hX hb hi I hR hd kk
    | 4, _ => exact b_found l hfl C hs hX hb hi I hR hd kk
    | 5, _ => exact b_join l hfl C hs hX hb hi I hR hd kk
    | 6, _ => exact b_shots l hfl C hs hX hb hi I hR hd kk
    | 7, _ => exact b_shotOf l hfl C hs hX hb hi I hR hd kk
    | 8, _ => exact b_lengthOf l hfl C hs hX hb hi I hR hd kk
    | 9, _ => exact b_frameOf l hfl C hs hX hb hi I hR hd kk
    | 10, _ => exact b_shotAt l hfl C hs hX hb hi I hR hd kk
    | 11, _ => exact b_reelOf l hfl C hs hX hb hi I hR hd kk
    | 12, _ => exact b_setLimit l hfl C hs hX hb hi I hR hd kk
    | 13, _ => exact b_run l hfl C hs hX hb hi I hR hd kk
    | 14, _ => exact b_wear l hfl C hs hX hb hi I hR hd kk
    | 15, _ => exact b_mend l hfl C hs hX hb hi I hR hd kk
    | 16, _ => exact b_scan l hfl C hs hX hb hi I hR hd kk
    | 17, _ => exact b_scanned l hfl C hs hX hb hi I hR hd kk
    | 18, _ => exact b_missed l hfl C hs hX hb hi I hR hd kk
    | 19, _ => exact b_grade l hfl C hs hX hb hi I hR hd kk
    | 20, _ => exact b_passOn l hfl C hs hX hb hi I hR hd kk
    | 21, _ => exact b_gradeOf l hfl C hs hX hb hi I hR hd kk
    | 22, _ => exact b_gradeFrom l hfl C hs hX hb hi I hR hd kk
    | 23, _ => exact b_addVersion l hfl C hs hX hb hi I hR hd kk
    | 24, _ => exact b_leaveOut l hfl C hs hX hb hi I hR hd kk
    | 25, _ => exact b_frames l hfl C hs hX hb hi I hR hd kk
    | 26, _ => exact b_lend l hfl C hs hX hb hi I hR hd kk
    | 27, _ => exact b_show l hfl C hs hX hb hi I hR hd kk
    | 28, _ => exact b_giveBack l hfl C hs hX hb hi I hR hd kk
    | 29, _ => exact b_advance l hfl C hs hX hb hi I hR hd kk
    | 30, _ => exact b_shown l hfl C I hR kk
    | 31, _ => exact b_keptShare l hfl C hs I hR kk
    | 32, _ => exact b_meanWear l hfl C hs I hR kk
    | 33, _ => exact b_isSound l hfl C I hR kk
    | z + 34, hz => exact absurd hz (by omega)
/-- THE LAW'S LOOP: t calls done -/
theorem law_loop (l : Launch) (hfl : l.stackTraces = false) {s : State} {b : Nat} {D : wD} (C : Cx p l s m #[Value.ref b] meth c cL_law 9 RL D (fun q => s.heap.size ≤ q)) (hr : meth.sig.returnType = ret) (hs : hN s) (hX : va_X b L xs s s.heap) (hb : b < s.heap.size) (hL : L ≤ 2560) {q o la da : Nat} {B : Nat → Nat} :
    ∀ (f t : Nat) (S : wS) (M : wM), LwI D S q o la da B M → M 29 0 ≤ 99 * (t : Int) → 5 * t ≤ L → L < 5 * t + 5 * f → J p l e room_1 s m #[Value.ref b] below meth c 9 D (fun q => s.heap.size ≤ q) (lw_Z below #[Value.ref b] s) 28 (L0 b q o la da (5 * (t : Int))) [] S (60 + 100 * t) (27000 + 10000 * t) := by
  have hb' : b < s.heap.size ∧ ¬ s.heap.size ≤ b := ⟨hb, by omega⟩
  intro f
  induction f with
  | zero => intro t S M I hd h1 h2; omega
  | succ f ih =>
    intro t S M I hd h1 h2
    refine j_iload C dL_law_28 rfl ?_
    refine j_aload_n C dL_law_30 rfl ?_
    refine j_xlen C hX hb' dL_law_31 ?_
    refine j_iconst C dL_law_32 ?_
    refine j_isub C dL_law_33 ?_
    refine j_icmp_gt (tgt := 2284) C dL_law_34 (by decide) (by unfold rg; omega) (by unfold rg; omega) (fun h => ?_) (fun h => ?_)
    · refine j_iconst C dL_law_2284 ?_
      refine J.widen (k' := 603072) (n' := 7215209) (by omega) (by omega) ?_
      intro H locs ls g1 g2 g3
      refine va_forget (fun q hq => g3.2.2 q hq) ?_
      rw [show iN 1 = 1 by decide]
      exact W.base (lw_ret (Drawn.sameBut.refl s.drawn lw_cs) C.1 C.2.1 hr C.2.2.2.2.2.2.2.2.2.1 dL_law_2285)
    · refine j_aload_n C dL_law_37 rfl ?_
      refine j_iload C dL_law_38 rfl ?_
      refine j_xld0 C hX hb' ⟨by omega, by omega, hL⟩ dL_law_40 ?_
      refine j_bipush C dL_law_41 (by decide) ?_
      refine j_iandX C dL_law_43 ?_
      refine law_call l hfl C hs hX hb' ⟨by omega, by omega, hL⟩ I ⟨by omega, by omega⟩ (by omega) (fun S' M' I' hd' => ?_)
      refine j_iinc C dL_law_2278 rfl (by decide) ?_
      refine j_goto (tgt := 28) C dL_law_2281 (by decide) ?_
      have h3 := ih (t + 1) S' M' I' (by omega) (by omega) (by omega)
      have e : 5 * ((t + 1 : Nat) : Int) = 5 * (t : Int) + 5 := by omega
      rw [e] at h3
      refine J.lvs ?_ (J.widen (by omega) (by omega) h3)
      intro r hr
      simp only [L0, List.mem_cons, List.not_mem_nil, or_false] at hr
      rcases hr with rfl | rfl | rfl | rfl | rfl | rfl <;> rfl
end LAW75L
