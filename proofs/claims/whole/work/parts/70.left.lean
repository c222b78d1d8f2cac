/-! THE LAW's calls: what a call leaves of the last code and of the day. -/
theorem Jn.inv {E : Nat} {S : wS} {q : Nat} {M : wM} (h : Jn E S q M) : Inv M := by
  obtain ⟨G, Y, -, -, -, hI, -⟩ := h
  exact hI
abbrev L0 (b q o la da : Nat) (i : Int) : List (Nat × Value) := [(0, .ref b), (1, .ref q), (2, .ref o), (3, .ref la), (4, .ref da), (5, .int (iN i))]
theorem L0_67 {b q o la da : Nat} {i : Int} {u : Int32} {w : Value} : ∀ r ∈ L0 b q o la da i, lvg (lvp (lvp (L0 b q o la da i) 6 (.int u)) 7 w) r.1 = some r.2 := by
  intro r hr
  simp only [L0, List.mem_cons, List.not_mem_nil, or_false] at hr
  rcases hr with rfl | rfl | rfl | rfl | rfl | rfl <;> rfl
theorem L0_67d {b q o la da : Nat} {i : Int} {u : Int32} {w : Value} : ∀ r ∈ L0 b q o la da i, lvg (lvp2 (lvp (L0 b q o la da i) 6 (.int u)) 7 w) r.1 = some r.2 := by
  intro r hr
  simp only [L0, List.mem_cons, List.not_mem_nil, or_false] at hr
  rcases hr with rfl | rfl | rfl | rfl | rfl | rfl <;> rfl
theorem mean_ok {M : wM} (I : Inv M) (h : x_meanWear M = 0) : vf_n64 (v_meanWear M) := by
  unfold x_meanWear at h
  obtain ⟨h1, -⟩ := ite0 h (by decide)
  obtain ⟨i1, i2, i3, i3e, i4, i4e, i5, i6, i7, i8, i10, i11⟩ := I
  obtain ⟨-, -, a3, -⟩ := id i1
  have w := mean_rg (k := (M 17 0).toNat) i1 i4 (by omega)
  exact fp_ddiv (by omega) (by omega)
theorem qx_addFilm {M : wM} : n_addFilm M 0 0 = x_addFilm M := by
  unfold n_addFilm
  split <;> rfl
theorem qd_addFilm {M : wM} : n_addFilm M 29 0 ≤ M 29 0 + 99 := by
  have e : n_addFilm M 29 0 = M 29 0 := by
    unfold n_addFilm
    split <;> rfl
  omega
theorem qr_addFilm {M : wM} : rg (x_addFilm M) := by
  unfold x_addFilm
  (repeat' split) <;> (unfold rg; omega)
theorem qx_addShot {M : wM} {f a b : Int} : n_addShot M f a b 0 0 = x_addShot M f a b := by
  unfold n_addShot
  split <;> rfl
theorem qd_addShot {M : wM} {f a b : Int} : n_addShot M f a b 29 0 ≤ M 29 0 + 99 := by
  have e : n_addShot M f a b 29 0 = M 29 0 := by
    unfold n_addShot
    split <;> rfl
  omega
theorem qr_addShot {M : wM} {f a b : Int} : rg (x_addShot M f a b) := by
  unfold x_addShot
  (repeat' split) <;> (unfold rg; omega)
theorem qx_addReel {M : wM} {f : Int} : n_addReel M f 0 0 = x_addReel M f := by
  unfold n_addReel
  split <;> rfl
theorem qd_addReel {M : wM} {f : Int} : n_addReel M f 29 0 ≤ M 29 0 + 99 := by
  have e : n_addReel M f 29 0 = M 29 0 := by
    unfold n_addReel
    split <;> rfl
  omega
theorem qr_addReel {M : wM} {f : Int} : rg (x_addReel M f) := by
  unfold x_addReel
  (repeat' split) <;> (unfold rg; omega)
theorem qx_put {M : wM} {r z : Int} : n_put M r z 0 0 = x_put M r z := by
  unfold n_put
  split <;> rfl
theorem qd_put {M : wM} {r z : Int} : n_put M r z 29 0 ≤ M 29 0 + 99 := by
  have e : n_put M r z 29 0 = M 29 0 := by
    unfold n_put
    split <;> rfl
  omega
theorem qr_put {M : wM} {r z : Int} : rg (x_put M r z) := by
  unfold x_put
  (repeat' split) <;> (unfold rg; omega)
theorem qx_found {M : wM} {f z a b : Int} : n_found M f z a b 0 0 = x_found M f z a b := by
  unfold n_found
  split <;> rfl
theorem qd_found {M : wM} {f z a b : Int} : n_found M f z a b 29 0 ≤ M 29 0 + 99 := by
  have e : n_found M f z a b 29 0 = M 29 0 := by
    unfold n_found
    split <;> rfl
  omega
theorem qr_found {M : wM} {f z a b : Int} : rg (x_found M f z a b) := by
  unfold x_found
  (repeat' split) <;> (unfold rg; omega)
theorem qx_join {M : wM} {r q : Int} : n_join M r q 0 0 = x_join M r q := by
  unfold n_join
  split <;> rfl
theorem qd_join {M : wM} {r q : Int} : n_join M r q 29 0 ≤ M 29 0 + 99 := by
  have e : n_join M r q 29 0 = M 29 0 := by
    unfold n_join
    split <;> rfl
  omega
theorem qr_join {M : wM} {r q : Int} : rg (x_join M r q) := by
  unfold x_join
  (repeat' split) <;> (unfold rg; omega)
theorem qx_shots {M : wM} {f : Int} : n_shots M f 0 0 = x_shots M f := by
  unfold n_shots
  split <;> rfl
theorem qd_shots {M : wM} {f : Int} : n_shots M f 29 0 ≤ M 29 0 + 99 := by
  have e : n_shots M f 29 0 = M 29 0 := by
    unfold n_shots
    split <;> rfl
  omega
theorem qr_shots {M : wM} {f : Int} : rg (x_shots M f) := by
  unfold x_shots
  (repeat' split) <;> (unfold rg; omega)
theorem qx_shotOf {M : wM} {f z : Int} : n_shotOf M f z 0 0 = x_shotOf M f z := by
  unfold n_shotOf
  split <;> rfl
theorem qd_shotOf {M : wM} {f z : Int} : n_shotOf M f z 29 0 ≤ M 29 0 + 99 := by
  have e : n_shotOf M f z 29 0 = M 29 0 := by
    unfold n_shotOf
    split <;> rfl
  omega
theorem qr_shotOf {M : wM} {f z : Int} : rg (x_shotOf M f z) := by
  unfold x_shotOf
  (repeat' split) <;> (unfold rg; omega)
theorem qx_lengthOf {M : wM} {z : Int} : n_lengthOf M z 0 0 = x_lengthOf M z := by
  unfold n_lengthOf
  split <;> rfl
theorem qd_lengthOf {M : wM} {z : Int} : n_lengthOf M z 29 0 ≤ M 29 0 + 99 := by
  have e : n_lengthOf M z 29 0 = M 29 0 := by
    unfold n_lengthOf
    split <;> rfl
  omega
theorem qr_lengthOf {M : wM} {z : Int} : rg (x_lengthOf M z) := by
  unfold x_lengthOf
  (repeat' split) <;> (unfold rg; omega)
theorem qx_frameOf {M : wM} {z : Int} : n_frameOf M z 0 0 = x_frameOf M z := by
  unfold n_frameOf
  split <;> rfl
theorem qd_frameOf {M : wM} {z : Int} : n_frameOf M z 29 0 ≤ M 29 0 + 99 := by
  have e : n_frameOf M z 29 0 = M 29 0 := by
    unfold n_frameOf
    split <;> rfl
  omega
theorem qr_frameOf {M : wM} {z : Int} : rg (x_frameOf M z) := by
  unfold x_frameOf
  (repeat' split) <;> (unfold rg; omega)
theorem qx_shotAt {M : wM} {f z : Int} : n_shotAt M f z 0 0 = x_shotAt M f z := by
  unfold n_shotAt
  split <;> rfl
theorem qd_shotAt {M : wM} {f z : Int} : n_shotAt M f z 29 0 ≤ M 29 0 + 99 := by
  have e : n_shotAt M f z 29 0 = M 29 0 := by
    unfold n_shotAt
    split <;> rfl
  omega
theorem qr_shotAt {M : wM} {f z : Int} : rg (x_shotAt M f z) := by
  unfold x_shotAt
  (repeat' split) <;> (unfold rg; omega)
theorem qx_reelOf {M : wM} {z : Int} : n_reelOf M z 0 0 = x_reelOf M z := by
  unfold n_reelOf
  split <;> rfl
theorem qd_reelOf {M : wM} {z : Int} : n_reelOf M z 29 0 ≤ M 29 0 + 99 := by
  have e : n_reelOf M z 29 0 = M 29 0 := by
    unfold n_reelOf
    split <;> rfl
  omega
theorem qr_reelOf {M : wM} {z : Int} : rg (x_reelOf M z) := by
  unfold x_reelOf
  (repeat' split) <;> (unfold rg; omega)
theorem qx_setLimit {M : wM} {a : Int} : n_setLimit M a 0 0 = x_setLimit M a := by
  unfold n_setLimit
  split <;> rfl
theorem qd_setLimit {M : wM} {a : Int} : n_setLimit M a 29 0 ≤ M 29 0 + 99 := by
  have e : n_setLimit M a 29 0 = M 29 0 := by
    unfold n_setLimit
    split <;> rfl
  omega
theorem qr_setLimit {M : wM} {a : Int} : rg (x_setLimit M a) := by
  unfold x_setLimit
  (repeat' split) <;> (unfold rg; omega)
theorem qx_run {M : wM} {r : Int} : n_run M r 0 0 = x_run M r := by
  unfold n_run
  split <;> rfl
theorem qd_run {M : wM} {r : Int} : n_run M r 29 0 ≤ M 29 0 + 99 := by
  have e : n_run M r 29 0 = M 29 0 := by
    unfold n_run
    split <;> rfl
  omega
theorem qr_run {M : wM} {r : Int} : rg (x_run M r) := by
  unfold x_run
  (repeat' split) <;> (unfold rg; omega)
theorem qx_wear {M : wM} {r z : Int} : n_wear M r z 0 0 = x_wear M r z := by
  unfold n_wear
  split <;> rfl
theorem qd_wear {M : wM} {r z : Int} : n_wear M r z 29 0 ≤ M 29 0 + 99 := by
  have e : n_wear M r z 29 0 = M 29 0 := by
    unfold n_wear
    split <;> rfl
  omega
theorem qr_wear {M : wM} {r z : Int} : rg (x_wear M r z) := by
  unfold x_wear
  (repeat' split) <;> (unfold rg; omega)
theorem qx_mend {M : wM} {r z : Int} : n_mend M r z 0 0 = x_mend M r z := by
  unfold n_mend
  split <;> rfl
theorem qd_mend {M : wM} {r z : Int} : n_mend M r z 29 0 ≤ M 29 0 + 99 := by
  have e : n_mend M r z 29 0 = M 29 0 := by
    unfold n_mend
    split <;> rfl
  omega
theorem qr_mend {M : wM} {r z : Int} : rg (x_mend M r z) := by
  unfold x_mend
  (repeat' split) <;> (unfold rg; omega)
theorem qx_scan {M : wM} {r z : Int} : n_scan M r z 0 0 = x_scan M r z := by
  unfold n_scan
  split <;> rfl
theorem qd_scan {M : wM} {r z : Int} : n_scan M r z 29 0 ≤ M 29 0 + 99 := by
  have e : n_scan M r z 29 0 = M 29 0 := by
    unfold n_scan
    split <;> rfl
  omega
theorem qr_scan {M : wM} {r z : Int} : rg (x_scan M r z) := by
  unfold x_scan
  (repeat' split) <;> (unfold rg; omega)
theorem qx_scanned {M : wM} {z : Int} : n_scanned M z 0 0 = x_scanned M z := by
  unfold n_scanned
  split <;> rfl
theorem qd_scanned {M : wM} {z : Int} : n_scanned M z 29 0 ≤ M 29 0 + 99 := by
  have e : n_scanned M z 29 0 = M 29 0 := by
    unfold n_scanned
    split <;> rfl
  omega
theorem qr_scanned {M : wM} {z : Int} : rg (x_scanned M z) := by
  unfold x_scanned
  (repeat' split) <;> (unfold rg; omega)
theorem qx_missed {M : wM} {z : Int} : n_missed M z 0 0 = x_missed M z := by
  unfold n_missed
  split <;> rfl
theorem qd_missed {M : wM} {z : Int} : n_missed M z 29 0 ≤ M 29 0 + 99 := by
  have e : n_missed M z 29 0 = M 29 0 := by
    unfold n_missed
    split <;> rfl
  omega
theorem qr_missed {M : wM} {z : Int} : rg (x_missed M z) := by
  unfold x_missed
  (repeat' split) <;> (unfold rg; omega)
theorem qx_grade {M : wM} {z g : Int} : n_grade M z g 0 0 = x_grade M z g := by
  unfold n_grade
  split <;> rfl
theorem qd_grade {M : wM} {z g : Int} : n_grade M z g 29 0 ≤ M 29 0 + 99 := by
  have e : n_grade M z g 29 0 = M 29 0 := by
    unfold n_grade
    split <;> rfl
  omega
theorem qr_grade {M : wM} {z g : Int} : rg (x_grade M z g) := by
  unfold x_grade
  (repeat' split) <;> (unfold rg; omega)
theorem qx_passOn {M : wM} {z : Int} : n_passOn M z 0 0 = x_passOn M z := by
  unfold n_passOn
  split <;> rfl
theorem qd_passOn {M : wM} {z : Int} : n_passOn M z 29 0 ≤ M 29 0 + 99 := by
  have e : n_passOn M z 29 0 = M 29 0 := by
    unfold n_passOn
    split <;> rfl
  omega
theorem qr_passOn {M : wM} {z : Int} : rg (x_passOn M z) := by
  unfold x_passOn
  (repeat' split) <;> (unfold rg; omega)
theorem qx_gradeOf {M : wM} {z : Int} : n_gradeOf M z 0 0 = x_gradeOf M z := by
  unfold n_gradeOf
  split <;> rfl
theorem qd_gradeOf {M : wM} {z : Int} : n_gradeOf M z 29 0 ≤ M 29 0 + 99 := by
  have e : n_gradeOf M z 29 0 = M 29 0 := by
    unfold n_gradeOf
    split <;> rfl
  omega
theorem qr_gradeOf {M : wM} {z : Int} : rg (x_gradeOf M z) := by
  unfold x_gradeOf
  (repeat' split) <;> (unfold rg; omega)
theorem qx_gradeFrom {M : wM} {z : Int} : n_gradeFrom M z 0 0 = x_gradeFrom M z := by
  unfold n_gradeFrom
  split <;> rfl
theorem qd_gradeFrom {M : wM} {z : Int} : n_gradeFrom M z 29 0 ≤ M 29 0 + 99 := by
  have e : n_gradeFrom M z 29 0 = M 29 0 := by
    unfold n_gradeFrom
    split <;> rfl
  omega
theorem qr_gradeFrom {M : wM} {z : Int} : rg (x_gradeFrom M z) := by
  unfold x_gradeFrom
  (repeat' split) <;> (unfold rg; omega)
theorem qx_addVersion {M : wM} {f a : Int} : n_addVersion M f a 0 0 = x_addVersion M f a := by
  unfold n_addVersion
  split <;> rfl
theorem qd_addVersion {M : wM} {f a : Int} : n_addVersion M f a 29 0 ≤ M 29 0 + 99 := by
  have e : n_addVersion M f a 29 0 = M 29 0 := by
    unfold n_addVersion
    split <;> rfl
  omega
theorem qr_addVersion {M : wM} {f a : Int} : rg (x_addVersion M f a) := by
  unfold x_addVersion
  (repeat' split) <;> (unfold rg; omega)
theorem qx_leaveOut {M : wM} {f a b : Int} {w : Bool} : n_leaveOut M f a b w 0 0 = x_leaveOut M f a b w := by
  unfold n_leaveOut
  split <;> rfl
theorem qd_leaveOut {M : wM} {f a b : Int} {w : Bool} : n_leaveOut M f a b w 29 0 ≤ M 29 0 + 99 := by
  have e : n_leaveOut M f a b w 29 0 = M 29 0 := by
    unfold n_leaveOut
    split <;> rfl
  omega
theorem qr_leaveOut {M : wM} {f a b : Int} {w : Bool} : rg (x_leaveOut M f a b w) := by
  unfold x_leaveOut
  (repeat' split) <;> (unfold rg; omega)
theorem qx_frames {M : wM} {z : Int} : n_frames M z 0 0 = x_frames M z := by
  unfold n_frames
  split <;> rfl
theorem qd_frames {M : wM} {z : Int} : n_frames M z 29 0 ≤ M 29 0 + 99 := by
  have e : n_frames M z 29 0 = M 29 0 := by
    unfold n_frames
    split <;> rfl
  omega
theorem qr_frames {M : wM} {z : Int} : rg (x_frames M z) := by
  unfold x_frames
  (repeat' split) <;> (unfold rg; omega)
theorem qx_lend {M : wM} {f a b g : Int} : n_lend M f a b g 0 0 = x_lend M f a b g := by
  unfold n_lend
  split <;> rfl
theorem qd_lend {M : wM} {f a b g : Int} : n_lend M f a b g 29 0 ≤ M 29 0 + 99 := by
  have e : n_lend M f a b g 29 0 = M 29 0 := by
    unfold n_lend
    split <;> rfl
  omega
theorem qr_lend {M : wM} {f a b g : Int} : rg (x_lend M f a b g) := by
  unfold x_lend
  (repeat' split) <;> (unfold rg; omega)
theorem qx_show {M : wM} {z : Int} : n_show M z 0 0 = x_show M z := by
  unfold n_show
  split <;> rfl
theorem qd_show {M : wM} {z : Int} : n_show M z 29 0 ≤ M 29 0 + 99 := by
  have e : n_show M z 29 0 = M 29 0 := by
    unfold n_show
    split <;> rfl
  omega
theorem qr_show {M : wM} {z : Int} : rg (x_show M z) := by
  unfold x_show
  (repeat' split) <;> (unfold rg; omega)
theorem qx_giveBack {M : wM} {z : Int} : n_giveBack M z 0 0 = x_giveBack M z := by
  unfold n_giveBack
  split <;> rfl
theorem qd_giveBack {M : wM} {z : Int} : n_giveBack M z 29 0 ≤ M 29 0 + 99 := by
  have e : n_giveBack M z 29 0 = M 29 0 := by
    unfold n_giveBack
    split <;> rfl
  omega
theorem qr_giveBack {M : wM} {z : Int} : rg (x_giveBack M z) := by
  unfold x_giveBack
  (repeat' split) <;> (unfold rg; omega)
theorem qx_advance {M : wM} {a : Int} : n_advance M a 0 0 = x_advance M a := by
  unfold n_advance
  split <;> rfl
theorem qd_advance {M : wM} {a : Int} : n_advance M a 29 0 ≤ M 29 0 + 99 := by
  unfold n_advance
  split
  · rename_i h
    show M 29 0 + a ≤ M 29 0 + 99
    unfold x_advance at h
    split at h <;> omega
  · show M 29 0 ≤ M 29 0 + 99
    omega
theorem qr_advance {M : wM} {a : Int} : rg (x_advance M a) := by
  unfold x_advance
  (repeat' split) <;> (unfold rg; omega)
theorem qx_keptShare {M : wM} : n_keptShare M 0 0 = x_keptShare M := by
  unfold n_keptShare
  split <;> rfl
theorem qd_keptShare {M : wM} : n_keptShare M 29 0 ≤ M 29 0 + 99 := by
  have e : n_keptShare M 29 0 = M 29 0 := by
    unfold n_keptShare
    split <;> rfl
  omega
theorem qr_keptShare {M : wM} : rg (x_keptShare M) := by
  unfold x_keptShare
  (repeat' split) <;> (unfold rg; omega)
theorem qx_meanWear {M : wM} : n_meanWear M 0 0 = x_meanWear M := by
  unfold n_meanWear
  split <;> rfl
theorem qd_meanWear {M : wM} : n_meanWear M 29 0 ≤ M 29 0 + 99 := by
  have e : n_meanWear M 29 0 = M 29 0 := by
    unfold n_meanWear
    split <;> rfl
  omega
theorem qr_meanWear {M : wM} : rg (x_meanWear M) := by
  unfold x_meanWear
  (repeat' split) <;> (unfold rg; omega)
