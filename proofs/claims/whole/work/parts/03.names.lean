def RX0 : String := "Spliceroom$Film"
def TX0 : u_T := fun k => match k with
  | 0 => ("Spliceroom$Film", "row", "Ljava/util/ArrayList;", true)
  | _ => ("Spliceroom$Film", "isLent", "Z", false)
def tyX0 : Nat → FieldType := fun k => match k with
  | 0 => .object "java/util/ArrayList"
  | _ => .boolean
abbrev wsX00 : List Cond := u_ws RX0 TX0 2
theorem nmX0 : ∀ a, a < 2 → ∀ b, b < 2 → a ≠ b → (TX0 a).2.1 ≠ (TX0 b).2.1 := by decide +kernel
theorem tyX0_ok : ∀ k, k < 2 → parseFieldDescriptor (TX0 k).2.2.1 = some (tyX0 k) := by decide +kernel
abbrev cX0_init : ByteArray := prog_2_method_1_code
def yX0_init : MethodName := ⟨RX0, "<init>", "()V"⟩
abbrev cX0_placeOf : ByteArray := prog_2_method_2_code
def yX0_placeOf : MethodName := ⟨RX0, "placeOf", "(LSpliceroom$Shot;)I"⟩
abbrev cX0_framesBefore : ByteArray := prog_2_method_3_code
def yX0_framesBefore : MethodName := ⟨RX0, "framesBefore", "(I)I"⟩
abbrev cX0_frameCount : ByteArray := prog_2_method_4_code
def yX0_frameCount : MethodName := ⟨RX0, "frameCount", "()I"⟩
abbrev cX0_dropGradesFrom : ByteArray := prog_2_method_5_code
def yX0_dropGradesFrom : MethodName := ⟨RX0, "dropGradesFrom", "(LSpliceroom$Shot;)V"⟩
def RX1 : String := "Spliceroom$Loan"
def TX1 : u_T := fun k => match k with
  | 0 => ("Spliceroom$Loan", "film", "LSpliceroom$Film;", true)
  | 1 => ("Spliceroom$Loan", "wearPerRun", "I", true)
  | 2 => ("Spliceroom$Loan", "dueDay", "I", true)
  | 3 => ("Spliceroom$Loan", "runsLeft", "I", false)
  | _ => ("Spliceroom$Loan", "isBack", "Z", false)
def tyX1 : Nat → FieldType := fun k => match k with
  | 0 => .object "Spliceroom$Film"
  | 1 => .int
  | 2 => .int
  | 3 => .int
  | _ => .boolean
abbrev wsX10 : List Cond := u_ws RX1 TX1 5
theorem nmX1 : ∀ a, a < 5 → ∀ b, b < 5 → a ≠ b → (TX1 a).2.1 ≠ (TX1 b).2.1 := by decide +kernel
theorem tyX1_ok : ∀ k, k < 5 → parseFieldDescriptor (TX1 k).2.2.1 = some (tyX1 k) := by decide +kernel
abbrev cX1_init : ByteArray := prog_3_method_1_code
def yX1_init : MethodName := ⟨RX1, "<init>", "(LSpliceroom$Film;III)V"⟩
def RX2 : String := "Spliceroom$Reel"
def TX2 : u_T := fun k => match k with
  | 0 => ("Spliceroom$Reel", "film", "LSpliceroom$Film;", true)
  | 1 => ("Spliceroom$Reel", "number", "I", true)
  | _ => ("Spliceroom$Reel", "row", "Ljava/util/ArrayList;", true)
def tyX2 : Nat → FieldType := fun k => match k with
  | 0 => .object "Spliceroom$Film"
  | 1 => .int
  | _ => .object "java/util/ArrayList"
abbrev wsX20 : List Cond := u_ws RX2 TX2 3
theorem nmX2 : ∀ a, a < 3 → ∀ b, b < 3 → a ≠ b → (TX2 a).2.1 ≠ (TX2 b).2.1 := by decide +kernel
theorem tyX2_ok : ∀ k, k < 3 → parseFieldDescriptor (TX2 k).2.2.1 = some (tyX2 k) := by decide +kernel
abbrev cX2_init : ByteArray := prog_4_method_1_code
def yX2_init : MethodName := ⟨RX2, "<init>", "(LSpliceroom$Film;I)V"⟩
abbrev cX2_append : ByteArray := prog_4_method_2_code
def yX2_append : MethodName := ⟨RX2, "append", "(LSpliceroom$Shot;)V"⟩
abbrev cX2_spliceCount : ByteArray := prog_4_method_3_code
def yX2_spliceCount : MethodName := ⟨RX2, "spliceCount", "()I"⟩
abbrev cX2_frameCount : ByteArray := prog_4_method_4_code
def yX2_frameCount : MethodName := ⟨RX2, "frameCount", "()I"⟩
abbrev cX2_canTake : ByteArray := prog_4_method_5_code
def yX2_canTake : MethodName := ⟨RX2, "canTake", "(II)Z"⟩
abbrev cX2_addWear : ByteArray := prog_4_method_6_code
def yX2_addWear : MethodName := ⟨RX2, "addWear", "(I)V"⟩
abbrev cX2_greatestWear : ByteArray := prog_4_method_7_code
def yX2_greatestWear : MethodName := ⟨RX2, "greatestWear", "()I"⟩
abbrev cX2_wearSum : ByteArray := prog_4_method_8_code
def yX2_wearSum : MethodName := ⟨RX2, "wearSum", "()I"⟩
def RX3 : String := "Spliceroom$Shot"
def TX3 : u_T := fun k => match k with
  | 0 => ("Spliceroom$Shot", "film", "LSpliceroom$Film;", true)
  | 1 => ("Spliceroom$Shot", "number", "I", true)
  | 2 => ("Spliceroom$Shot", "scene", "I", true)
  | 3 => ("Spliceroom$Shot", "length", "I", false)
  | 4 => ("Spliceroom$Shot", "reel", "LSpliceroom$Reel;", false)
  | 5 => ("Spliceroom$Shot", "wearBehind", "I", false)
  | 6 => ("Spliceroom$Shot", "scanSize", "I", false)
  | 7 => ("Spliceroom$Shot", "missedFrames", "I", false)
  | 8 => ("Spliceroom$Shot", "ownGrade", "I", false)
  | _ => ("Spliceroom$Shot", "gradeSource", "LSpliceroom$Shot;", false)
def tyX3 : Nat → FieldType := fun k => match k with
  | 0 => .object "Spliceroom$Film"
  | 1 => .int
  | 2 => .int
  | 3 => .int
  | 4 => .object "Spliceroom$Reel"
  | 5 => .int
  | 6 => .int
  | 7 => .int
  | 8 => .int
  | _ => .object "Spliceroom$Shot"
abbrev wsX30 : List Cond := u_ws RX3 TX3 10
theorem nmX3 : ∀ a, a < 10 → ∀ b, b < 10 → a ≠ b → (TX3 a).2.1 ≠ (TX3 b).2.1 := by decide +kernel
theorem tyX3_ok : ∀ k, k < 10 → parseFieldDescriptor (TX3 k).2.2.1 = some (tyX3 k) := by decide +kernel
abbrev cX3_init : ByteArray := prog_5_method_1_code
def yX3_init : MethodName := ⟨RX3, "<init>", "(LSpliceroom$Film;III)V"⟩
abbrev cX3_isMissing : ByteArray := prog_5_method_2_code
def yX3_isMissing : MethodName := ⟨RX3, "isMissing", "()Z"⟩
abbrev cX3_keptFrames : ByteArray := prog_5_method_3_code
def yX3_keptFrames : MethodName := ⟨RX3, "keptFrames", "()I"⟩
abbrev cX3_takeScan : ByteArray := prog_5_method_4_code
def yX3_takeScan : MethodName := ⟨RX3, "takeScan", "(II)V"⟩
abbrev cX3_currentGrade : ByteArray := prog_5_method_5_code
def yX3_currentGrade : MethodName := ⟨RX3, "currentGrade", "()I"⟩
abbrev cX3_canHavePassedTo : ByteArray := prog_5_method_6_code
def yX3_canHavePassedTo : MethodName := ⟨RX3, "canHavePassedTo", "(LSpliceroom$Shot;)Z"⟩
def RX4 : String := "Spliceroom$Version"
def TX4 : u_T := fun k => match k with
  | 0 => ("Spliceroom$Version", "film", "LSpliceroom$Film;", true)
  | 1 => ("Spliceroom$Version", "country", "I", true)
  | _ => ("Spliceroom$Version", "out", "[J", true)
def tyX4 : Nat → FieldType := fun k => match k with
  | 0 => .object "Spliceroom$Film"
  | 1 => .int
  | _ => .array .long
abbrev wsX40 : List Cond := u_ws RX4 TX4 3
theorem nmX4 : ∀ a, a < 3 → ∀ b, b < 3 → a ≠ b → (TX4 a).2.1 ≠ (TX4 b).2.1 := by decide +kernel
theorem tyX4_ok : ∀ k, k < 3 → parseFieldDescriptor (TX4 k).2.2.1 = some (tyX4 k) := by decide +kernel
abbrev cX4_init : ByteArray := prog_6_method_1_code
def yX4_init : MethodName := ⟨RX4, "<init>", "(LSpliceroom$Film;I)V"⟩
abbrev cX4_mark : ByteArray := prog_6_method_2_code
def yX4_mark : MethodName := ⟨RX4, "mark", "(LSpliceroom$Shot;IIZ)I"⟩
abbrev cX4_bitsBetween : ByteArray := prog_6_method_3_code
def yX4_bitsBetween : MethodName := ⟨RX4, "bitsBetween", "(II)J"⟩
abbrev cX4_leftOutOf : ByteArray := prog_6_method_4_code
def yX4_leftOutOf : MethodName := ⟨RX4, "leftOutOf", "(LSpliceroom$Shot;)I"⟩
abbrev cX4_isLeftOut : ByteArray := prog_6_method_5_code
def yX4_isLeftOut : MethodName := ⟨RX4, "isLeftOut", "(LSpliceroom$Shot;I)Z"⟩
abbrev cX4_lengthByShots : ByteArray := prog_6_method_6_code
def yX4_lengthByShots : MethodName := ⟨RX4, "lengthByShots", "()I"⟩
abbrev cX4_lengthByFrames : ByteArray := prog_6_method_7_code
def yX4_lengthByFrames : MethodName := ⟨RX4, "lengthByFrames", "()I"⟩
def RX5 : String := "Spliceroom"
def TX5 : u_T := fun k => match k with
  | 0 => ("Spliceroom", "films", "Ljava/util/ArrayList;", true)
  | 1 => ("Spliceroom", "allShots", "Ljava/util/ArrayList;", true)
  | 2 => ("Spliceroom", "reels", "Ljava/util/ArrayList;", true)
  | 3 => ("Spliceroom", "versions", "Ljava/util/ArrayList;", true)
  | 4 => ("Spliceroom", "loans", "Ljava/util/ArrayList;", true)
  | 5 => ("Spliceroom", "limit", "I", false)
  | 6 => ("Spliceroom", "day", "I", false)
  | _ => ("Spliceroom", "framesShown", "J", false)
def tyX5 : Nat → FieldType := fun k => match k with
  | 0 => .object "java/util/ArrayList"
  | 1 => .object "java/util/ArrayList"
  | 2 => .object "java/util/ArrayList"
  | 3 => .object "java/util/ArrayList"
  | 4 => .object "java/util/ArrayList"
  | 5 => .int
  | 6 => .int
  | _ => .long
abbrev wsX50 : List Cond := u_ws RX5 TX5 8
theorem nmX5 : ∀ a, a < 8 → ∀ b, b < 8 → a ≠ b → (TX5 a).2.1 ≠ (TX5 b).2.1 := by decide +kernel
theorem tyX5_ok : ∀ k, k < 8 → parseFieldDescriptor (TX5 k).2.2.1 = some (tyX5 k) := by decide +kernel
abbrev cX5_init : ByteArray := prog_1_method_1_code
def yX5_init : MethodName := ⟨RX5, "<init>", "()V"⟩
abbrev cX5_addFilm : ByteArray := prog_1_method_2_code
def yX5_addFilm : MethodName := ⟨RX5, "addFilm", "()I"⟩
abbrev cX5_addShot : ByteArray := prog_1_method_3_code
def yX5_addShot : MethodName := ⟨RX5, "addShot", "(III)I"⟩
abbrev cX5_addReel : ByteArray := prog_1_method_4_code
def yX5_addReel : MethodName := ⟨RX5, "addReel", "(I)I"⟩
abbrev cX5_put : ByteArray := prog_1_method_5_code
def yX5_put : MethodName := ⟨RX5, "put", "(II)I"⟩
abbrev cX5_found : ByteArray := prog_1_method_6_code
def yX5_found : MethodName := ⟨RX5, "found", "(IIII)I"⟩
abbrev cX5_join : ByteArray := prog_1_method_7_code
def yX5_join : MethodName := ⟨RX5, "join", "(II)I"⟩
abbrev cX5_shots : ByteArray := prog_1_method_8_code
def yX5_shots : MethodName := ⟨RX5, "shots", "(I)I"⟩
abbrev cX5_shotOf : ByteArray := prog_1_method_9_code
def yX5_shotOf : MethodName := ⟨RX5, "shotOf", "(II)I"⟩
abbrev cX5_lengthOf : ByteArray := prog_1_method_10_code
def yX5_lengthOf : MethodName := ⟨RX5, "lengthOf", "(I)I"⟩
abbrev cX5_frameOf : ByteArray := prog_1_method_11_code
def yX5_frameOf : MethodName := ⟨RX5, "frameOf", "(I)I"⟩
abbrev cX5_shotAt : ByteArray := prog_1_method_12_code
def yX5_shotAt : MethodName := ⟨RX5, "shotAt", "(II)I"⟩
abbrev cX5_reelOf : ByteArray := prog_1_method_13_code
def yX5_reelOf : MethodName := ⟨RX5, "reelOf", "(I)I"⟩
abbrev cX5_setLimit : ByteArray := prog_1_method_14_code
def yX5_setLimit : MethodName := ⟨RX5, "setLimit", "(I)I"⟩
abbrev cX5_run : ByteArray := prog_1_method_15_code
def yX5_run : MethodName := ⟨RX5, "run", "(I)I"⟩
abbrev cX5_wear : ByteArray := prog_1_method_16_code
def yX5_wear : MethodName := ⟨RX5, "wear", "(II)I"⟩
abbrev cX5_mend : ByteArray := prog_1_method_17_code
def yX5_mend : MethodName := ⟨RX5, "mend", "(II)I"⟩
abbrev cX5_scan : ByteArray := prog_1_method_18_code
def yX5_scan : MethodName := ⟨RX5, "scan", "(II)I"⟩
abbrev cX5_scanned : ByteArray := prog_1_method_19_code
def yX5_scanned : MethodName := ⟨RX5, "scanned", "(I)I"⟩
abbrev cX5_missed : ByteArray := prog_1_method_20_code
def yX5_missed : MethodName := ⟨RX5, "missed", "(I)I"⟩
abbrev cX5_grade : ByteArray := prog_1_method_21_code
def yX5_grade : MethodName := ⟨RX5, "grade", "(II)I"⟩
abbrev cX5_passOn : ByteArray := prog_1_method_22_code
def yX5_passOn : MethodName := ⟨RX5, "passOn", "(I)I"⟩
abbrev cX5_gradeOf : ByteArray := prog_1_method_23_code
def yX5_gradeOf : MethodName := ⟨RX5, "gradeOf", "(I)I"⟩
abbrev cX5_gradeFrom : ByteArray := prog_1_method_24_code
def yX5_gradeFrom : MethodName := ⟨RX5, "gradeFrom", "(I)I"⟩
abbrev cX5_addVersion : ByteArray := prog_1_method_25_code
def yX5_addVersion : MethodName := ⟨RX5, "addVersion", "(II)I"⟩
abbrev cX5_leaveOut : ByteArray := prog_1_method_26_code
def yX5_leaveOut : MethodName := ⟨RX5, "leaveOut", "(IIIZ)I"⟩
abbrev cX5_frames : ByteArray := prog_1_method_27_code
def yX5_frames : MethodName := ⟨RX5, "frames", "(I)I"⟩
abbrev cX5_lend : ByteArray := prog_1_method_28_code
def yX5_lend : MethodName := ⟨RX5, "lend", "(IIII)I"⟩
abbrev cX5_show : ByteArray := prog_1_method_29_code
def yX5_show : MethodName := ⟨RX5, "show", "(I)I"⟩
abbrev cX5_giveBack : ByteArray := prog_1_method_30_code
def yX5_giveBack : MethodName := ⟨RX5, "giveBack", "(I)I"⟩
abbrev cX5_advance : ByteArray := prog_1_method_31_code
def yX5_advance : MethodName := ⟨RX5, "advance", "(I)I"⟩
abbrev cX5_shown : ByteArray := prog_1_method_32_code
def yX5_shown : MethodName := ⟨RX5, "shown", "()J"⟩
abbrev cX5_keptShare : ByteArray := prog_1_method_33_code
def yX5_keptShare : MethodName := ⟨RX5, "keptShare", "()F"⟩
abbrev cX5_meanWear : ByteArray := prog_1_method_34_code
def yX5_meanWear : MethodName := ⟨RX5, "meanWear", "()D"⟩
abbrev cX5_isSound : ByteArray := prog_1_method_35_code
def yX5_isSound : MethodName := ⟨RX5, "isSound", "()Z"⟩
abbrev cX5_filmNumbered : ByteArray := prog_1_method_36_code
def yX5_filmNumbered : MethodName := ⟨RX5, "filmNumbered", "(I)LSpliceroom$Film;"⟩
abbrev cX5_shotNumbered : ByteArray := prog_1_method_37_code
def yX5_shotNumbered : MethodName := ⟨RX5, "shotNumbered", "(I)LSpliceroom$Shot;"⟩
abbrev cX5_reelNumbered : ByteArray := prog_1_method_38_code
def yX5_reelNumbered : MethodName := ⟨RX5, "reelNumbered", "(I)LSpliceroom$Reel;"⟩
abbrev cX5_versionNumbered : ByteArray := prog_1_method_39_code
def yX5_versionNumbered : MethodName := ⟨RX5, "versionNumbered", "(I)LSpliceroom$Version;"⟩
abbrev cX5_loanNumbered : ByteArray := prog_1_method_40_code
def yX5_loanNumbered : MethodName := ⟨RX5, "loanNumbered", "(I)LSpliceroom$Loan;"⟩
abbrev cX5_shotAheadOfSplice : ByteArray := prog_1_method_41_code
def yX5_shotAheadOfSplice : MethodName := ⟨RX5, "shotAheadOfSplice", "(LSpliceroom$Reel;I)LSpliceroom$Shot;"⟩
abbrev cX5_requireLengthAndScene : ByteArray := prog_1_method_42_code
def yX5_requireLengthAndScene : MethodName := ⟨RX5, "requireLengthAndScene", "(II)V"⟩
abbrev cX5_requireNotLent : ByteArray := prog_1_method_43_code
def yX5_requireNotLent : MethodName := ⟨RX5, "requireNotLent", "(LSpliceroom$Film;)V"⟩
abbrev cX5_isAnyFilmLent : ByteArray := prog_1_method_44_code
def yX5_isAnyFilmLent : MethodName := ⟨RX5, "isAnyFilmLent", "()Z"⟩
abbrev cX5_isAheadOfEnd : ByteArray := prog_1_method_45_code
def yX5_isAheadOfEnd : MethodName := ⟨RX5, "isAheadOfEnd", "(LSpliceroom$Shot;LSpliceroom$Reel;)Z"⟩
abbrev cX5_canBeJoined : ByteArray := prog_1_method_46_code
def yX5_canBeJoined : MethodName := ⟨RX5, "canBeJoined", "(LSpliceroom$Reel;LSpliceroom$Reel;)Z"⟩
abbrev cX5_canFilmTake : ByteArray := prog_1_method_47_code
def yX5_canFilmTake : MethodName := ⟨RX5, "canFilmTake", "(LSpliceroom$Film;I)Z"⟩
abbrev cX5_hasVersion : ByteArray := prog_1_method_48_code
def yX5_hasVersion : MethodName := ⟨RX5, "hasVersion", "(LSpliceroom$Film;I)Z"⟩
abbrev cX5_newShot : ByteArray := prog_1_method_49_code
def yX5_newShot : MethodName := ⟨RX5, "newShot", "(LSpliceroom$Film;II)LSpliceroom$Shot;"⟩
abbrev cX5_newReel : ByteArray := prog_1_method_50_code
def yX5_newReel : MethodName := ⟨RX5, "newReel", "(LSpliceroom$Film;)LSpliceroom$Reel;"⟩
abbrev cX5_play : ByteArray := prog_1_method_51_code
def yX5_play : MethodName := ⟨RX5, "play", "(LSpliceroom$Reel;I)V"⟩
abbrev cX5_takeLastFrame : ByteArray := prog_1_method_52_code
def yX5_takeLastFrame : MethodName := ⟨RX5, "takeLastFrame", "(LSpliceroom$Shot;)V"⟩
abbrev cX5_framesLostAt : ByteArray := prog_1_method_53_code
def yX5_framesLostAt : MethodName := ⟨RX5, "framesLostAt", "(LSpliceroom$Reel;I)I"⟩
abbrev cX5_isWorn : ByteArray := prog_1_method_54_code
def yX5_isWorn : MethodName := ⟨RX5, "isWorn", "(LSpliceroom$Reel;I)Z"⟩
abbrev cX5_isWearWithin : ByteArray := prog_1_method_55_code
def yX5_isWearWithin : MethodName := ⟨RX5, "isWearWithin", "(I)Z"⟩
abbrev cX5_arePassedGradesSound : ByteArray := prog_1_method_56_code
def yX5_arePassedGradesSound : MethodName := ⟨RX5, "arePassedGradesSound", "()Z"⟩
abbrev cX5_areVersionLengthsSound : ByteArray := prog_1_method_57_code
def yX5_areVersionLengthsSound : MethodName := ⟨RX5, "areVersionLengthsSound", "()Z"⟩
def RX6 : String := "SpliceroomModel"
def TX6 : u_T := fun k => match k with
  | 0 => ("SpliceroomModel", "thrown", "I", false)
  | 1 => ("SpliceroomModel", "films", "I", false)
  | 2 => ("SpliceroomModel", "row", "[I", true)
  | 3 => ("SpliceroomModel", "rowMany", "[I", true)
  | 4 => ("SpliceroomModel", "film", "[I", true)
  | 5 => ("SpliceroomModel", "length", "[I", true)
  | 6 => ("SpliceroomModel", "scene", "[I", true)
  | 7 => ("SpliceroomModel", "reel", "[I", true)
  | 8 => ("SpliceroomModel", "size", "[I", true)
  | 9 => ("SpliceroomModel", "missed", "[I", true)
  | 10 => ("SpliceroomModel", "own", "[I", true)
  | 11 => ("SpliceroomModel", "passed", "[I", true)
  | 12 => ("SpliceroomModel", "shots", "I", false)
  | 13 => ("SpliceroomModel", "reelFilm", "[I", true)
  | 14 => ("SpliceroomModel", "reelShot", "[I", true)
  | 15 => ("SpliceroomModel", "reelWear", "[I", true)
  | 16 => ("SpliceroomModel", "reelMany", "[I", true)
  | 17 => ("SpliceroomModel", "reels", "I", false)
  | 18 => ("SpliceroomModel", "limit", "I", false)
  | 19 => ("SpliceroomModel", "versionFilm", "[I", true)
  | 20 => ("SpliceroomModel", "country", "[I", true)
  | 21 => ("SpliceroomModel", "versions", "I", false)
  | 22 => ("SpliceroomModel", "out", "[I", true)
  | 23 => ("SpliceroomModel", "loanVersion", "[I", true)
  | 24 => ("SpliceroomModel", "loanRuns", "[I", true)
  | 25 => ("SpliceroomModel", "loanHeat", "[I", true)
  | 26 => ("SpliceroomModel", "loanDue", "[I", true)
  | 27 => ("SpliceroomModel", "isBack", "[Z", true)
  | 28 => ("SpliceroomModel", "loans", "I", false)
  | 29 => ("SpliceroomModel", "day", "I", false)
  | _ => ("SpliceroomModel", "shown", "J", false)
def tyX6 : Nat → FieldType := fun k => match k with
  | 0 => .int
  | 1 => .int
  | 2 => .array .int
  | 3 => .array .int
  | 4 => .array .int
  | 5 => .array .int
  | 6 => .array .int
  | 7 => .array .int
  | 8 => .array .int
  | 9 => .array .int
  | 10 => .array .int
  | 11 => .array .int
  | 12 => .int
  | 13 => .array .int
  | 14 => .array .int
  | 15 => .array .int
  | 16 => .array .int
  | 17 => .int
  | 18 => .int
  | 19 => .array .int
  | 20 => .array .int
  | 21 => .int
  | 22 => .array .int
  | 23 => .array .int
  | 24 => .array .int
  | 25 => .array .int
  | 26 => .array .int
  | 27 => .array .boolean
  | 28 => .int
  | 29 => .int
  | _ => .long
abbrev wsX60 : List Cond := u_ws RX6 TX6 31
theorem nmX6 : ∀ a, a < 31 → ∀ b, b < 31 → a ≠ b → (TX6 a).2.1 ≠ (TX6 b).2.1 := by decide +kernel
theorem tyX6_ok : ∀ k, k < 31 → parseFieldDescriptor (TX6 k).2.2.1 = some (tyX6 k) := by decide +kernel
abbrev cX6_init : ByteArray := prog_8_method_1_code
def yX6_init : MethodName := ⟨RX6, "<init>", "()V"⟩
abbrev cX6_thrown : ByteArray := prog_8_method_2_code
def yX6_thrown : MethodName := ⟨RX6, "thrown", "()I"⟩
abbrev cX6_in : ByteArray := prog_8_method_3_code
def yX6_in : MethodName := ⟨RX6, "in", "(III)Z"⟩
abbrev cX6_goesOn : ByteArray := prog_8_method_4_code
def yX6_goesOn : MethodName := ⟨RX6, "goesOn", "(I)Z"⟩
abbrev cX6_isFilm : ByteArray := prog_8_method_5_code
def yX6_isFilm : MethodName := ⟨RX6, "isFilm", "(I)Z"⟩
abbrev cX6_isShot : ByteArray := prog_8_method_6_code
def yX6_isShot : MethodName := ⟨RX6, "isShot", "(I)Z"⟩
abbrev cX6_isReel : ByteArray := prog_8_method_7_code
def yX6_isReel : MethodName := ⟨RX6, "isReel", "(I)Z"⟩
abbrev cX6_isVersion : ByteArray := prog_8_method_8_code
def yX6_isVersion : MethodName := ⟨RX6, "isVersion", "(I)Z"⟩
abbrev cX6_isLent : ByteArray := prog_8_method_9_code
def yX6_isLent : MethodName := ⟨RX6, "isLent", "(I)Z"⟩
abbrev cX6_addFilm : ByteArray := prog_8_method_10_code
def yX6_addFilm : MethodName := ⟨RX6, "addFilm", "()I"⟩
abbrev cX6_makes : ByteArray := prog_8_method_11_code
def yX6_makes : MethodName := ⟨RX6, "makes", "(IIII)I"⟩
abbrev cX6_areFine : ByteArray := prog_8_method_12_code
def yX6_areFine : MethodName := ⟨RX6, "areFine", "(II)Z"⟩
abbrev cX6_addShot : ByteArray := prog_8_method_13_code
def yX6_addShot : MethodName := ⟨RX6, "addShot", "(III)I"⟩
abbrev cX6_addReel : ByteArray := prog_8_method_14_code
def yX6_addReel : MethodName := ⟨RX6, "addReel", "(I)I"⟩
abbrev cX6_placeOf : ByteArray := prog_8_method_15_code
def yX6_placeOf : MethodName := ⟨RX6, "placeOf", "(I)I"⟩
abbrev cX6_lastOf : ByteArray := prog_8_method_16_code
def yX6_lastOf : MethodName := ⟨RX6, "lastOf", "(I)I"⟩
abbrev cX6_adds : ByteArray := prog_8_method_17_code
def yX6_adds : MethodName := ⟨RX6, "adds", "(III)V"⟩
abbrev cX6_put : ByteArray := prog_8_method_18_code
def yX6_put : MethodName := ⟨RX6, "put", "(II)I"⟩
abbrev cX6_found : ByteArray := prog_8_method_19_code
def yX6_found : MethodName := ⟨RX6, "found", "(IIII)I"⟩
abbrev cX6_join : ByteArray := prog_8_method_20_code
def yX6_join : MethodName := ⟨RX6, "join", "(II)I"⟩
abbrev cX6_shots : ByteArray := prog_8_method_21_code
def yX6_shots : MethodName := ⟨RX6, "shots", "(I)I"⟩
abbrev cX6_shotOf : ByteArray := prog_8_method_22_code
def yX6_shotOf : MethodName := ⟨RX6, "shotOf", "(II)I"⟩
abbrev cX6_lengthOf : ByteArray := prog_8_method_23_code
def yX6_lengthOf : MethodName := ⟨RX6, "lengthOf", "(I)I"⟩
abbrev cX6_framesAhead : ByteArray := prog_8_method_24_code
def yX6_framesAhead : MethodName := ⟨RX6, "framesAhead", "(II)I"⟩
abbrev cX6_frameOf : ByteArray := prog_8_method_25_code
def yX6_frameOf : MethodName := ⟨RX6, "frameOf", "(I)I"⟩
abbrev cX6_shotWith : ByteArray := prog_8_method_26_code
def yX6_shotWith : MethodName := ⟨RX6, "shotWith", "(II)I"⟩
abbrev cX6_shotAt : ByteArray := prog_8_method_27_code
def yX6_shotAt : MethodName := ⟨RX6, "shotAt", "(II)I"⟩
abbrev cX6_reelOf : ByteArray := prog_8_method_28_code
def yX6_reelOf : MethodName := ⟨RX6, "reelOf", "(I)I"⟩
abbrev cX6_greatest : ByteArray := prog_8_method_29_code
def yX6_greatest : MethodName := ⟨RX6, "greatest", "(I)I"⟩
abbrev cX6_hasLoan : ByteArray := prog_8_method_30_code
def yX6_hasLoan : MethodName := ⟨RX6, "hasLoan", "()Z"⟩
abbrev cX6_setLimit : ByteArray := prog_8_method_31_code
def yX6_setLimit : MethodName := ⟨RX6, "setLimit", "(I)I"⟩
abbrev cX6_framesOn : ByteArray := prog_8_method_32_code
def yX6_framesOn : MethodName := ⟨RX6, "framesOn", "(I)I"⟩
abbrev cX6_bears : ByteArray := prog_8_method_33_code
def yX6_bears : MethodName := ⟨RX6, "bears", "(II)Z"⟩
abbrev cX6_wears : ByteArray := prog_8_method_34_code
def yX6_wears : MethodName := ⟨RX6, "wears", "(II)V"⟩
abbrev cX6_run : ByteArray := prog_8_method_35_code
def yX6_run : MethodName := ⟨RX6, "run", "(I)I"⟩
abbrev cX6_isSplice : ByteArray := prog_8_method_36_code
def yX6_isSplice : MethodName := ⟨RX6, "isSplice", "(II)Z"⟩
abbrev cX6_wear : ByteArray := prog_8_method_37_code
def yX6_wear : MethodName := ⟨RX6, "wear", "(II)I"⟩
abbrev cX6_mend : ByteArray := prog_8_method_38_code
def yX6_mend : MethodName := ⟨RX6, "mend", "(II)I"⟩
abbrev cX6_isWorn : ByteArray := prog_8_method_39_code
def yX6_isWorn : MethodName := ⟨RX6, "isWorn", "(II)Z"⟩
abbrev cX6_scan : ByteArray := prog_8_method_40_code
def yX6_scan : MethodName := ⟨RX6, "scan", "(II)I"⟩
abbrev cX6_scanned : ByteArray := prog_8_method_41_code
def yX6_scanned : MethodName := ⟨RX6, "scanned", "(I)I"⟩
abbrev cX6_missed : ByteArray := prog_8_method_42_code
def yX6_missed : MethodName := ⟨RX6, "missed", "(I)I"⟩
abbrev cX6_gradeNow : ByteArray := prog_8_method_43_code
def yX6_gradeNow : MethodName := ⟨RX6, "gradeNow", "(I)I"⟩
abbrev cX6_grade : ByteArray := prog_8_method_44_code
def yX6_grade : MethodName := ⟨RX6, "grade", "(II)I"⟩
abbrev cX6_passOn : ByteArray := prog_8_method_45_code
def yX6_passOn : MethodName := ⟨RX6, "passOn", "(I)I"⟩
abbrev cX6_gradeOf : ByteArray := prog_8_method_46_code
def yX6_gradeOf : MethodName := ⟨RX6, "gradeOf", "(I)I"⟩
abbrev cX6_gradeFrom : ByteArray := prog_8_method_47_code
def yX6_gradeFrom : MethodName := ⟨RX6, "gradeFrom", "(I)I"⟩
abbrev cX6_addVersion : ByteArray := prog_8_method_48_code
def yX6_addVersion : MethodName := ⟨RX6, "addVersion", "(II)I"⟩
abbrev cX6_isOutOf : ByteArray := prog_8_method_49_code
def yX6_isOutOf : MethodName := ⟨RX6, "isOutOf", "(III)Z"⟩
abbrev cX6_leaveOut : ByteArray := prog_8_method_50_code
def yX6_leaveOut : MethodName := ⟨RX6, "leaveOut", "(IIIZ)I"⟩
abbrev cX6_frames : ByteArray := prog_8_method_51_code
def yX6_frames : MethodName := ⟨RX6, "frames", "(I)I"⟩
abbrev cX6_lend : ByteArray := prog_8_method_52_code
def yX6_lend : MethodName := ⟨RX6, "lend", "(IIII)I"⟩
abbrev cX6_isLoan : ByteArray := prog_8_method_53_code
def yX6_isLoan : MethodName := ⟨RX6, "isLoan", "(I)Z"⟩
abbrev cX6_show : ByteArray := prog_8_method_54_code
def yX6_show : MethodName := ⟨RX6, "show", "(I)I"⟩
abbrev cX6_giveBack : ByteArray := prog_8_method_55_code
def yX6_giveBack : MethodName := ⟨RX6, "giveBack", "(I)I"⟩
abbrev cX6_advance : ByteArray := prog_8_method_56_code
def yX6_advance : MethodName := ⟨RX6, "advance", "(I)I"⟩
abbrev cX6_shown : ByteArray := prog_8_method_57_code
def yX6_shown : MethodName := ⟨RX6, "shown", "()J"⟩
abbrev cX6_keptShare : ByteArray := prog_8_method_58_code
def yX6_keptShare : MethodName := ⟨RX6, "keptShare", "()F"⟩
abbrev cX6_meanWear : ByteArray := prog_8_method_59_code
def yX6_meanWear : MethodName := ⟨RX6, "meanWear", "()D"⟩
abbrev cX6_isSound : ByteArray := prog_8_method_60_code
def yX6_isSound : MethodName := ⟨RX6, "isSound", "()Z"⟩
def RJx145de : String := "java/io/Serializable"
def TJx145de : u_T := fun k => match k with
  | _ => ("", "", "", false)
def tyJx145de : Nat → FieldType := fun k => match k with
  | _ => .int
abbrev wsJx145de0 : List Cond := u_ws RJx145de TJx145de 0
theorem nmJx145de : ∀ a, a < 0 → ∀ b, b < 0 → a ≠ b → (TJx145de a).2.1 ≠ (TJx145de b).2.1 := by decide +kernel
theorem tyJx145de_ok : ∀ k, k < 0 → parseFieldDescriptor (TJx145de k).2.2.1 = some (tyJx145de k) := by decide +kernel
def RJ5 : String := "java/lang/AbstractStringBuilder"
def TJ5 : u_T := fun k => match k with
  | _ => ("", "", "", false)
def tyJ5 : Nat → FieldType := fun k => match k with
  | _ => .int
abbrev wsJ50 : List Cond := u_ws RJ5 TJ5 0
theorem nmJ5 : ∀ a, a < 0 → ∀ b, b < 0 → a ≠ b → (TJ5 a).2.1 ≠ (TJ5 b).2.1 := by decide +kernel
theorem tyJ5_ok : ∀ k, k < 0 → parseFieldDescriptor (TJ5 k).2.2.1 = some (tyJ5 k) := by decide +kernel
abbrev cJ5_init_d00df : ByteArray := prog_10_method_2_code
def yJ5_init_d00df : MethodName := ⟨RJ5, "<init>", "(I)V"⟩
abbrev cJ5_length_8abf5 : ByteArray := prog_10_method_6_code
def yJ5_length_8abf5 : MethodName := ⟨RJ5, "length", "()I"⟩
abbrev cJ5_ensureCapacityInternal_d00df : ByteArray := prog_10_method_9_code
def yJ5_ensureCapacityInternal_d00df : MethodName := ⟨RJ5, "ensureCapacityInternal", "(I)V"⟩
abbrev cJ5_newCapacity_0f7a4 : ByteArray := prog_10_method_10_code
def yJ5_newCapacity_0f7a4 : MethodName := ⟨RJ5, "newCapacity", "(I)I"⟩
abbrev cJ5_inflate_da8c8 : ByteArray := prog_10_method_11_code
def yJ5_inflate_da8c8 : MethodName := ⟨RJ5, "inflate", "()V"⟩
abbrev cJ5_append_cf1ce : ByteArray := prog_10_method_22_code
def yJ5_append_cf1ce : MethodName := ⟨RJ5, "append", "(Ljava/lang/String;)Ljava/lang/AbstractStringBuilder;"⟩
abbrev cJ5_appendNull_278bc : ByteArray := prog_10_method_26_code
def yJ5_appendNull_278bc : MethodName := ⟨RJ5, "appendNull", "()Ljava/lang/AbstractStringBuilder;"⟩
abbrev cJ5_append_c97b9 : ByteArray := prog_10_method_32_code
def yJ5_append_c97b9 : MethodName := ⟨RJ5, "append", "(I)Ljava/lang/AbstractStringBuilder;"⟩
abbrev cJ5_getValue_6d5f1 : ByteArray := prog_10_method_64_code
def yJ5_getValue_6d5f1 : MethodName := ⟨RJ5, "getValue", "()[B"⟩
abbrev cJ5_isLatin1_aae02 : ByteArray := prog_10_method_68_code
def yJ5_isLatin1_aae02 : MethodName := ⟨RJ5, "isLatin1", "()Z"⟩
abbrev cJ5_inflateIfNeededFor_a7421 : ByteArray := prog_10_method_71_code
def yJ5_inflateIfNeededFor_a7421 : MethodName := ⟨RJ5, "inflateIfNeededFor", "(Ljava/lang/String;)V"⟩
abbrev cJ5_putStringAt_47b60 : ByteArray := prog_10_method_73_code
def yJ5_putStringAt_47b60 : MethodName := ⟨RJ5, "putStringAt", "(ILjava/lang/String;)V"⟩
def RJx2cfe8 : String := "java/lang/Appendable"
def TJx2cfe8 : u_T := fun k => match k with
  | _ => ("", "", "", false)
def tyJx2cfe8 : Nat → FieldType := fun k => match k with
  | _ => .int
abbrev wsJx2cfe80 : List Cond := u_ws RJx2cfe8 TJx2cfe8 0
theorem nmJx2cfe8 : ∀ a, a < 0 → ∀ b, b < 0 → a ≠ b → (TJx2cfe8 a).2.1 ≠ (TJx2cfe8 b).2.1 := by decide +kernel
theorem tyJx2cfe8_ok : ∀ k, k < 0 → parseFieldDescriptor (TJx2cfe8 k).2.2.1 = some (tyJx2cfe8 k) := by decide +kernel
def RJx00060 : String := "java/lang/ArrayIndexOutOfBoundsException"
def TJx00060 : u_T := fun k => match k with
  | 0 => ("java/lang/Throwable", "backtrace", "Ljava/lang/Object;", false)
  | 1 => ("java/lang/Throwable", "detailMessage", "Ljava/lang/String;", false)
  | 2 => ("java/lang/Throwable", "cause", "Ljava/lang/Throwable;", false)
  | 3 => ("java/lang/Throwable", "stackTrace", "[Ljava/lang/StackTraceElement;", false)
  | 4 => ("java/lang/Throwable", "depth", "I", false)
  | _ => ("java/lang/Throwable", "suppressedExceptions", "Ljava/util/List;", false)
def tyJx00060 : Nat → FieldType := fun k => match k with
  | 0 => .object "java/lang/Object"
  | 1 => .object "java/lang/String"
  | 2 => .object "java/lang/Throwable"
  | 3 => .array (.object "java/lang/StackTraceElement")
  | 4 => .int
  | _ => .object "java/util/List"
abbrev wsJx000600 : List Cond := u_ws RJx00060 TJx00060 6
theorem nmJx00060 : ∀ a, a < 6 → ∀ b, b < 6 → a ≠ b → (TJx00060 a).2.1 ≠ (TJx00060 b).2.1 := by decide +kernel
theorem tyJx00060_ok : ∀ k, k < 6 → parseFieldDescriptor (TJx00060 k).2.2.1 = some (tyJx00060 k) := by decide +kernel
abbrev cJx00060_init_a7421 : ByteArray := prog_13_method_2_code
def yJx00060_init_a7421 : MethodName := ⟨RJx00060, "<init>", "(Ljava/lang/String;)V"⟩
def RJx9f9b0 : String := "java/lang/CharSequence"
def TJx9f9b0 : u_T := fun k => match k with
  | _ => ("", "", "", false)
def tyJx9f9b0 : Nat → FieldType := fun k => match k with
  | _ => .int
abbrev wsJx9f9b00 : List Cond := u_ws RJx9f9b0 TJx9f9b0 0
theorem nmJx9f9b0 : ∀ a, a < 0 → ∀ b, b < 0 → a ≠ b → (TJx9f9b0 a).2.1 ≠ (TJx9f9b0 b).2.1 := by decide +kernel
theorem tyJx9f9b0_ok : ∀ k, k < 0 → parseFieldDescriptor (TJx9f9b0 k).2.2.1 = some (tyJx9f9b0 k) := by decide +kernel
def RJx8e188 : String := "java/lang/Cloneable"
def TJx8e188 : u_T := fun k => match k with
  | _ => ("", "", "", false)
def tyJx8e188 : Nat → FieldType := fun k => match k with
  | _ => .int
abbrev wsJx8e1880 : List Cond := u_ws RJx8e188 TJx8e188 0
theorem nmJx8e188 : ∀ a, a < 0 → ∀ b, b < 0 → a ≠ b → (TJx8e188 a).2.1 ≠ (TJx8e188 b).2.1 := by decide +kernel
theorem tyJx8e188_ok : ∀ k, k < 0 → parseFieldDescriptor (TJx8e188 k).2.2.1 = some (tyJx8e188 k) := by decide +kernel
def RJxb160c : String := "java/lang/Comparable"
def TJxb160c : u_T := fun k => match k with
  | _ => ("", "", "", false)
def tyJxb160c : Nat → FieldType := fun k => match k with
  | _ => .int
abbrev wsJxb160c0 : List Cond := u_ws RJxb160c TJxb160c 0
theorem nmJxb160c : ∀ a, a < 0 → ∀ b, b < 0 → a ≠ b → (TJxb160c a).2.1 ≠ (TJxb160c b).2.1 := by decide +kernel
theorem tyJxb160c_ok : ∀ k, k < 0 → parseFieldDescriptor (TJxb160c k).2.2.1 = some (tyJxb160c k) := by decide +kernel
def RJ6 : String := "java/lang/Integer"
def TJ6 : u_T := fun k => match k with
  | _ => ("", "", "", false)
def tyJ6 : Nat → FieldType := fun k => match k with
  | _ => .int
abbrev wsJ60 : List Cond := u_ws RJ6 TJ6 0
theorem nmJ6 : ∀ a, a < 0 → ∀ b, b < 0 → a ≠ b → (TJ6 a).2.1 ≠ (TJ6 b).2.1 := by decide +kernel
theorem tyJ6_ok : ∀ k, k < 0 → parseFieldDescriptor (TJ6 k).2.2.1 = some (tyJ6 k) := by decide +kernel
abbrev cJ6_getChars_ba4f3 : ByteArray := prog_21_method_12_code
def yJ6_getChars_ba4f3 : MethodName := ⟨RJ6, "getChars", "(II[B)I"⟩
abbrev cJ6_stringSize_0f7a4 : ByteArray := prog_21_method_13_code
def yJ6_stringSize_0f7a4 : MethodName := ⟨RJ6, "stringSize", "(I)I"⟩
def RJxab1ab : String := "java/lang/Iterable"
def TJxab1ab : u_T := fun k => match k with
  | _ => ("", "", "", false)
def tyJxab1ab : Nat → FieldType := fun k => match k with
  | _ => .int
abbrev wsJxab1ab0 : List Cond := u_ws RJxab1ab TJxab1ab 0
theorem nmJxab1ab : ∀ a, a < 0 → ∀ b, b < 0 → a ≠ b → (TJxab1ab a).2.1 ≠ (TJxab1ab b).2.1 := by decide +kernel
theorem tyJxab1ab_ok : ∀ k, k < 0 → parseFieldDescriptor (TJxab1ab k).2.2.1 = some (tyJxab1ab k) := by decide +kernel
def RJ13 : String := "java/lang/Long"
def TJ13 : u_T := fun k => match k with
  | _ => ("", "", "", false)
def tyJ13 : Nat → FieldType := fun k => match k with
  | _ => .int
abbrev wsJ130 : List Cond := u_ws RJ13 TJ13 0
theorem nmJ13 : ∀ a, a < 0 → ∀ b, b < 0 → a ≠ b → (TJ13 a).2.1 ≠ (TJ13 b).2.1 := by decide +kernel
theorem tyJ13_ok : ∀ k, k < 0 → parseFieldDescriptor (TJ13 k).2.2.1 = some (tyJ13 k) := by decide +kernel
abbrev cJ13_bitCount_95d88 : ByteArray := prog_23_method_50_code
def yJ13_bitCount_95d88 : MethodName := ⟨RJ13, "bitCount", "(J)I"⟩
def RJ9 : String := "java/lang/Math"
def TJ9 : u_T := fun k => match k with
  | _ => ("", "", "", false)
def tyJ9 : Nat → FieldType := fun k => match k with
  | _ => .int
abbrev wsJ90 : List Cond := u_ws RJ9 TJ9 0
theorem nmJ9 : ∀ a, a < 0 → ∀ b, b < 0 → a ≠ b → (TJ9 a).2.1 ≠ (TJ9 b).2.1 := by decide +kernel
theorem tyJ9_ok : ∀ k, k < 0 → parseFieldDescriptor (TJ9 k).2.2.1 = some (tyJ9 k) := by decide +kernel
abbrev cJ9_max_7cf53 : ByteArray := prog_24_method_65_code
def yJ9_max_7cf53 : MethodName := ⟨RJ9, "max", "(II)I"⟩
abbrev cJ9_min_7cf53 : ByteArray := prog_24_method_69_code
def yJ9_min_7cf53 : MethodName := ⟨RJ9, "min", "(II)I"⟩
def RJxd2413 : String := "java/lang/Number"
def TJxd2413 : u_T := fun k => match k with
  | _ => ("", "", "", false)
def tyJxd2413 : Nat → FieldType := fun k => match k with
  | _ => .int
abbrev wsJxd24130 : List Cond := u_ws RJxd2413 TJxd2413 0
theorem nmJxd2413 : ∀ a, a < 0 → ∀ b, b < 0 → a ≠ b → (TJxd2413 a).2.1 ≠ (TJxd2413 b).2.1 := by decide +kernel
theorem tyJxd2413_ok : ∀ k, k < 0 → parseFieldDescriptor (TJxd2413 k).2.2.1 = some (tyJxd2413 k) := by decide +kernel
def RJ0 : String := "java/lang/String"
def TJ0 : u_T := fun k => match k with
  | 0 => ("java/lang/String", "value", "[B", true)
  | 1 => ("java/lang/String", "coder", "B", true)
  | 2 => ("java/lang/String", "hash", "I", false)
  | _ => ("java/lang/String", "hashIsZero", "Z", false)
def tyJ0 : Nat → FieldType := fun k => match k with
  | 0 => .array .byte
  | 1 => .byte
  | 2 => .int
  | _ => .boolean
abbrev wsJ00 : List Cond := u_ws RJ0 TJ0 4
theorem nmJ0 : ∀ a, a < 4 → ∀ b, b < 4 → a ≠ b → (TJ0 a).2.1 ≠ (TJ0 b).2.1 := by decide +kernel
theorem tyJ0_ok : ∀ k, k < 4 → parseFieldDescriptor (TJ0 k).2.2.1 = some (tyJ0 k) := by decide +kernel
abbrev cJ0_init_81219 : ByteArray := prog_27_method_53_code
def yJ0_init_81219 : MethodName := ⟨RJ0, "<init>", "(Ljava/lang/StringBuilder;)V"⟩
abbrev cJ0_length_8abf5 : ByteArray := prog_27_method_54_code
def yJ0_length_8abf5 : MethodName := ⟨RJ0, "length", "()I"⟩
abbrev cJ0_getBytes_840e7 : ByteArray := prog_27_method_147_code
def yJ0_getBytes_840e7 : MethodName := ⟨RJ0, "getBytes", "([BIB)V"⟩
abbrev cJ0_init_db425 : ByteArray := prog_27_method_150_code
def yJ0_init_db425 : MethodName := ⟨RJ0, "<init>", "(Ljava/lang/AbstractStringBuilder;Ljava/lang/Void;)V"⟩
abbrev cJ0_coder_7d493 : ByteArray := prog_27_method_152_code
def yJ0_coder_7d493 : MethodName := ⟨RJ0, "coder", "()B"⟩
abbrev cJ0_checkBoundsOffCount_cabcc : ByteArray := prog_27_method_157_code
def yJ0_checkBoundsOffCount_cabcc : MethodName := ⟨RJ0, "checkBoundsOffCount", "(III)I"⟩
abbrev cJ0_checkBoundsBeginEnd_23922 : ByteArray := prog_27_method_158_code
def yJ0_checkBoundsBeginEnd_23922 : MethodName := ⟨RJ0, "checkBoundsBeginEnd", "(III)V"⟩
def RJ4 : String := "java/lang/StringBuilder"
def TJ4 : u_T := fun k => match k with
  | 0 => ("java/lang/AbstractStringBuilder", "value", "[B", false)
  | 1 => ("java/lang/AbstractStringBuilder", "coder", "B", false)
  | 2 => ("java/lang/AbstractStringBuilder", "maybeLatin1", "Z", false)
  | _ => ("java/lang/AbstractStringBuilder", "count", "I", false)
def tyJ4 : Nat → FieldType := fun k => match k with
  | 0 => .array .byte
  | 1 => .byte
  | 2 => .boolean
  | _ => .int
abbrev wsJ40 : List Cond := u_ws RJ4 TJ4 4
theorem nmJ4 : ∀ a, a < 4 → ∀ b, b < 4 → a ≠ b → (TJ4 a).2.1 ≠ (TJ4 b).2.1 := by decide +kernel
theorem tyJ4_ok : ∀ k, k < 4 → parseFieldDescriptor (TJ4 k).2.2.1 = some (tyJ4 k) := by decide +kernel
abbrev cJ4_init_da8c8 : ByteArray := prog_28_method_1_code
def yJ4_init_da8c8 : MethodName := ⟨RJ4, "<init>", "()V"⟩
abbrev cJ4_append_15ec4 : ByteArray := prog_28_method_7_code
def yJ4_append_15ec4 : MethodName := ⟨RJ4, "append", "(Ljava/lang/String;)Ljava/lang/StringBuilder;"⟩
abbrev cJ4_append_bf812 : ByteArray := prog_28_method_15_code
def yJ4_append_bf812 : MethodName := ⟨RJ4, "append", "(I)Ljava/lang/StringBuilder;"⟩
abbrev cJ4_toString_0e30d : ByteArray := prog_28_method_42_code
def yJ4_toString_0e30d : MethodName := ⟨RJ4, "toString", "()Ljava/lang/String;"⟩
abbrev cJ4_length_8abf5 : ByteArray := prog_28_method_93_code
def yJ4_length_8abf5 : MethodName := ⟨RJ4, "length", "()I"⟩
def RJ1 : String := "java/lang/StringLatin1"
def TJ1 : u_T := fun k => match k with
  | _ => ("", "", "", false)
def tyJ1 : Nat → FieldType := fun k => match k with
  | _ => .int
abbrev wsJ10 : List Cond := u_ws RJ1 TJ1 0
theorem nmJ1 : ∀ a, a < 0 → ∀ b, b < 0 → a ≠ b → (TJ1 a).2.1 ≠ (TJ1 b).2.1 := by decide +kernel
theorem tyJ1_ok : ∀ k, k < 0 → parseFieldDescriptor (TJ1 k).2.2.1 = some (tyJ1 k) := by decide +kernel
abbrev cJ1_inflate_0e8fd : ByteArray := prog_29_method_50_code
def yJ1_inflate_0e8fd : MethodName := ⟨RJ1, "inflate", "([BI[BII)V"⟩
def RJ2 : String := "java/lang/StringUTF16"
def TJ2 : u_T := fun k => match k with
  | _ => ("", "", "", false)
def tyJ2 : Nat → FieldType := fun k => match k with
  | _ => .int
abbrev wsJ20 : List Cond := u_ws RJ2 TJ2 0
theorem nmJ2 : ∀ a, a < 0 → ∀ b, b < 0 → a ≠ b → (TJ2 a).2.1 ≠ (TJ2 b).2.1 := by decide +kernel
theorem tyJ2_ok : ∀ k, k < 0 → parseFieldDescriptor (TJ2 k).2.2.1 = some (tyJ2 k) := by decide +kernel
abbrev cJ2_newBytesFor_77867 : ByteArray := prog_30_method_2_code
def yJ2_newBytesFor_77867 : MethodName := ⟨RJ2, "newBytesFor", "(I)[B"⟩
abbrev cJ2_newBytesLength_0f7a4 : ByteArray := prog_30_method_3_code
def yJ2_newBytesLength_0f7a4 : MethodName := ⟨RJ2, "newBytesLength", "(I)I"⟩
abbrev cJ2_putChar_b72d1 : ByteArray := prog_30_method_4_code
def yJ2_putChar_b72d1 : MethodName := ⟨RJ2, "putChar", "([BII)V"⟩
abbrev cJ2_getChar_3b067 : ByteArray := prog_30_method_5_code
def yJ2_getChar_3b067 : MethodName := ⟨RJ2, "getChar", "([BI)C"⟩
abbrev cJ2_length_9d52b : ByteArray := prog_30_method_6_code
def yJ2_length_9d52b : MethodName := ⟨RJ2, "length", "([B)I"⟩
abbrev cJ2_coderFromArrayLen_85cad : ByteArray := prog_30_method_15_code
def yJ2_coderFromArrayLen_85cad : MethodName := ⟨RJ2, "coderFromArrayLen", "([BI)B"⟩
abbrev cJ2_compress_39247 : ByteArray := prog_30_method_17_code
def yJ2_compress_39247 : MethodName := ⟨RJ2, "compress", "([BII)[B"⟩
abbrev cJ2_compress_5af95 : ByteArray := prog_30_method_22_code
def yJ2_compress_5af95 : MethodName := ⟨RJ2, "compress", "([BI[BII)I"⟩
abbrev cJ2_getChars_46870 : ByteArray := prog_30_method_77_code
def yJ2_getChars_46870 : MethodName := ⟨RJ2, "getChars", "(III[B)I"⟩
abbrev cJ2_putCharsAt_cd4e5 : ByteArray := prog_30_method_81_code
def yJ2_putCharsAt_cd4e5 : MethodName := ⟨RJ2, "putCharsAt", "([BICCCC)I"⟩
abbrev cJ2_inflate_0e8fd : ByteArray := prog_30_method_86_code
def yJ2_inflate_0e8fd : MethodName := ⟨RJ2, "inflate", "([BI[BII)V"⟩
abbrev cJ2_getChars_ba4f3 : ByteArray := prog_30_method_89_code
def yJ2_getChars_ba4f3 : MethodName := ⟨RJ2, "getChars", "(II[B)I"⟩
abbrev cJ2_checkBoundsBeginEnd_d044e : ByteArray := prog_30_method_93_code
def yJ2_checkBoundsBeginEnd_d044e : MethodName := ⟨RJ2, "checkBoundsBeginEnd", "(II[B)V"⟩
abbrev cJ2_checkBoundsOffCount_d044e : ByteArray := prog_30_method_94_code
def yJ2_checkBoundsOffCount_d044e : MethodName := ⟨RJ2, "checkBoundsOffCount", "(II[B)V"⟩
def RJ10 : String := "java/lang/System"
def TJ10 : u_T := fun k => match k with
  | _ => ("", "", "", false)
def tyJ10 : Nat → FieldType := fun k => match k with
  | _ => .int
abbrev wsJ100 : List Cond := u_ws RJ10 TJ10 0
theorem nmJ10 : ∀ a, a < 0 → ∀ b, b < 0 → a ≠ b → (TJ10 a).2.1 ≠ (TJ10 b).2.1 := by decide +kernel
theorem tyJ10_ok : ∀ k, k < 0 → parseFieldDescriptor (TJ10 k).2.2.1 = some (tyJ10 k) := by decide +kernel
def RJxfd54e : String := "java/lang/constant/Constable"
def TJxfd54e : u_T := fun k => match k with
  | _ => ("", "", "", false)
def tyJxfd54e : Nat → FieldType := fun k => match k with
  | _ => .int
abbrev wsJxfd54e0 : List Cond := u_ws RJxfd54e TJxfd54e 0
theorem nmJxfd54e : ∀ a, a < 0 → ∀ b, b < 0 → a ≠ b → (TJxfd54e a).2.1 ≠ (TJxfd54e b).2.1 := by decide +kernel
theorem tyJxfd54e_ok : ∀ k, k < 0 → parseFieldDescriptor (TJxfd54e k).2.2.1 = some (tyJxfd54e k) := by decide +kernel
def RJx3cf43 : String := "java/lang/constant/ConstantDesc"
def TJx3cf43 : u_T := fun k => match k with
  | _ => ("", "", "", false)
def tyJx3cf43 : Nat → FieldType := fun k => match k with
  | _ => .int
abbrev wsJx3cf430 : List Cond := u_ws RJx3cf43 TJx3cf43 0
theorem nmJx3cf43 : ∀ a, a < 0 → ∀ b, b < 0 → a ≠ b → (TJx3cf43 a).2.1 ≠ (TJx3cf43 b).2.1 := by decide +kernel
theorem tyJx3cf43_ok : ∀ k, k < 0 → parseFieldDescriptor (TJx3cf43 k).2.2.1 = some (tyJx3cf43 k) := by decide +kernel
def RJxa1e45 : String := "java/util/AbstractCollection"
def TJxa1e45 : u_T := fun k => match k with
  | _ => ("", "", "", false)
def tyJxa1e45 : Nat → FieldType := fun k => match k with
  | _ => .int
abbrev wsJxa1e450 : List Cond := u_ws RJxa1e45 TJxa1e45 0
theorem nmJxa1e45 : ∀ a, a < 0 → ∀ b, b < 0 → a ≠ b → (TJxa1e45 a).2.1 ≠ (TJxa1e45 b).2.1 := by decide +kernel
theorem tyJxa1e45_ok : ∀ k, k < 0 → parseFieldDescriptor (TJxa1e45 k).2.2.1 = some (tyJxa1e45 k) := by decide +kernel
abbrev cJxa1e45_init_da8c8 : ByteArray := prog_36_method_1_code
def yJxa1e45_init_da8c8 : MethodName := ⟨RJxa1e45, "<init>", "()V"⟩
def RJxc12de : String := "java/util/AbstractList"
def TJxc12de : u_T := fun k => match k with
  | _ => ("", "", "", false)
def tyJxc12de : Nat → FieldType := fun k => match k with
  | _ => .int
abbrev wsJxc12de0 : List Cond := u_ws RJxc12de TJxc12de 0
theorem nmJxc12de : ∀ a, a < 0 → ∀ b, b < 0 → a ≠ b → (TJxc12de a).2.1 ≠ (TJxc12de b).2.1 := by decide +kernel
theorem tyJxc12de_ok : ∀ k, k < 0 → parseFieldDescriptor (TJxc12de k).2.2.1 = some (tyJxc12de k) := by decide +kernel
abbrev cJxc12de_init_da8c8 : ByteArray := prog_37_method_1_code
def yJxc12de_init_da8c8 : MethodName := ⟨RJxc12de, "<init>", "()V"⟩
def RJx4a65c : String := "java/util/ArrayList"
def TJx4a65c : u_T := fun k => match k with
  | 0 => ("java/util/AbstractList", "modCount", "I", false)
  | 1 => ("java/util/ArrayList", "elementData", "[Ljava/lang/Object;", false)
  | _ => ("java/util/ArrayList", "size", "I", false)
def tyJx4a65c : Nat → FieldType := fun k => match k with
  | 0 => .int
  | 1 => .array (.object "java/lang/Object")
  | _ => .int
abbrev wsJx4a65c0 : List Cond := u_ws RJx4a65c TJx4a65c 3
theorem nmJx4a65c : ∀ a, a < 3 → ∀ b, b < 3 → a ≠ b → (TJx4a65c a).2.1 ≠ (TJx4a65c b).2.1 := by decide +kernel
theorem tyJx4a65c_ok : ∀ k, k < 3 → parseFieldDescriptor (TJx4a65c k).2.2.1 = some (tyJx4a65c k) := by decide +kernel
abbrev cJx4a65c_init_da8c8 : ByteArray := prog_38_method_2_code
def yJx4a65c_init_da8c8 : MethodName := ⟨RJx4a65c, "<init>", "()V"⟩
abbrev cJx4a65c_grow_92f84 : ByteArray := prog_38_method_6_code
def yJx4a65c_grow_92f84 : MethodName := ⟨RJx4a65c, "grow", "(I)[Ljava/lang/Object;"⟩
abbrev cJx4a65c_grow_d5877 : ByteArray := prog_38_method_7_code
def yJx4a65c_grow_d5877 : MethodName := ⟨RJx4a65c, "grow", "()[Ljava/lang/Object;"⟩
abbrev cJx4a65c_size_8abf5 : ByteArray := prog_38_method_8_code
def yJx4a65c_size_8abf5 : MethodName := ⟨RJx4a65c, "size", "()I"⟩
abbrev cJx4a65c_isEmpty_aae02 : ByteArray := prog_38_method_9_code
def yJx4a65c_isEmpty_aae02 : MethodName := ⟨RJx4a65c, "isEmpty", "()Z"⟩
abbrev cJx4a65c_elementData_915e3 : ByteArray := prog_38_method_18_code
def yJx4a65c_elementData_915e3 : MethodName := ⟨RJx4a65c, "elementData", "(I)Ljava/lang/Object;"⟩
abbrev cJx4a65c_get_915e3 : ByteArray := prog_38_method_20_code
def yJx4a65c_get_915e3 : MethodName := ⟨RJx4a65c, "get", "(I)Ljava/lang/Object;"⟩
abbrev cJx4a65c_add_72be8 : ByteArray := prog_38_method_24_code
def yJx4a65c_add_72be8 : MethodName := ⟨RJx4a65c, "add", "(Ljava/lang/Object;[Ljava/lang/Object;I)V"⟩
abbrev cJx4a65c_add_9ea2d : ByteArray := prog_38_method_25_code
def yJx4a65c_add_9ea2d : MethodName := ⟨RJx4a65c, "add", "(Ljava/lang/Object;)Z"⟩
abbrev cJx4a65c_add_7a177 : ByteArray := prog_38_method_26_code
def yJx4a65c_add_7a177 : MethodName := ⟨RJx4a65c, "add", "(ILjava/lang/Object;)V"⟩
abbrev cJx4a65c_clear_da8c8 : ByteArray := prog_38_method_40_code
def yJx4a65c_clear_da8c8 : MethodName := ⟨RJx4a65c, "clear", "()V"⟩
abbrev cJx4a65c_rangeCheckForAdd_d00df : ByteArray := prog_38_method_45_code
def yJx4a65c_rangeCheckForAdd_d00df : MethodName := ⟨RJx4a65c, "rangeCheckForAdd", "(I)V"⟩
abbrev cJx4a65c_outOfBoundsMsg_b52d3 : ByteArray := prog_38_method_46_code
def yJx4a65c_outOfBoundsMsg_b52d3 : MethodName := ⟨RJx4a65c, "outOfBoundsMsg", "(I)Ljava/lang/String;"⟩
def RJ7 : String := "java/util/Arrays"
def TJ7 : u_T := fun k => match k with
  | _ => ("", "", "", false)
def tyJ7 : Nat → FieldType := fun k => match k with
  | _ => .int
abbrev wsJ70 : List Cond := u_ws RJ7 TJ7 0
theorem nmJ7 : ∀ a, a < 0 → ∀ b, b < 0 → a ≠ b → (TJ7 a).2.1 ≠ (TJ7 b).2.1 := by decide +kernel
theorem tyJ7_ok : ∀ k, k < 0 → parseFieldDescriptor (TJ7 k).2.2.1 = some (tyJ7 k) := by decide +kernel
abbrev cJ7_copyOf_1904c : ByteArray := prog_39_method_119_code
def yJ7_copyOf_1904c : MethodName := ⟨RJ7, "copyOf", "([Ljava/lang/Object;I)[Ljava/lang/Object;"⟩
abbrev cJ7_copyOf_6403c : ByteArray := prog_39_method_120_code
def yJ7_copyOf_6403c : MethodName := ⟨RJ7, "copyOf", "([Ljava/lang/Object;ILjava/lang/Class;)[Ljava/lang/Object;"⟩
abbrev cJ7_copyOf_9075b : ByteArray := prog_39_method_121_code
def yJ7_copyOf_9075b : MethodName := ⟨RJ7, "copyOf", "([BI)[B"⟩
abbrev cJ7_checkLength_df160 : ByteArray := prog_39_method_131_code
def yJ7_checkLength_df160 : MethodName := ⟨RJ7, "checkLength", "(II)V"⟩
abbrev cJ7_copyOfRange_39247 : ByteArray := prog_39_method_132_code
def yJ7_copyOfRange_39247 : MethodName := ⟨RJ7, "copyOfRange", "([BII)[B"⟩
abbrev cJ7_copyOfRangeByte_39247 : ByteArray := prog_39_method_133_code
def yJ7_copyOfRangeByte_39247 : MethodName := ⟨RJ7, "copyOfRangeByte", "([BII)[B"⟩
def RJx5ef63 : String := "java/util/Collection"
def TJx5ef63 : u_T := fun k => match k with
  | _ => ("", "", "", false)
def tyJx5ef63 : Nat → FieldType := fun k => match k with
  | _ => .int
abbrev wsJx5ef630 : List Cond := u_ws RJx5ef63 TJx5ef63 0
theorem nmJx5ef63 : ∀ a, a < 0 → ∀ b, b < 0 → a ≠ b → (TJx5ef63 a).2.1 ≠ (TJx5ef63 b).2.1 := by decide +kernel
theorem tyJx5ef63_ok : ∀ k, k < 0 → parseFieldDescriptor (TJx5ef63 k).2.2.1 = some (tyJx5ef63 k) := by decide +kernel
def RJxbd725 : String := "java/util/List"
def TJxbd725 : u_T := fun k => match k with
  | _ => ("", "", "", false)
def tyJxbd725 : Nat → FieldType := fun k => match k with
  | _ => .int
abbrev wsJxbd7250 : List Cond := u_ws RJxbd725 TJxbd725 0
theorem nmJxbd725 : ∀ a, a < 0 → ∀ b, b < 0 → a ≠ b → (TJxbd725 a).2.1 ≠ (TJxbd725 b).2.1 := by decide +kernel
theorem tyJxbd725_ok : ∀ k, k < 0 → parseFieldDescriptor (TJxbd725 k).2.2.1 = some (tyJxbd725 k) := by decide +kernel
def RJ15 : String := "java/util/Objects"
def TJ15 : u_T := fun k => match k with
  | _ => ("", "", "", false)
def tyJ15 : Nat → FieldType := fun k => match k with
  | _ => .int
abbrev wsJ150 : List Cond := u_ws RJ15 TJ15 0
theorem nmJ15 : ∀ a, a < 0 → ∀ b, b < 0 → a ≠ b → (TJ15 a).2.1 ≠ (TJ15 b).2.1 := by decide +kernel
theorem tyJ15_ok : ∀ k, k < 0 → parseFieldDescriptor (TJ15 k).2.2.1 = some (tyJ15 k) := by decide +kernel
abbrev cJ15_checkIndex_7cf53 : ByteArray := prog_43_method_17_code
def yJ15_checkIndex_7cf53 : MethodName := ⟨RJ15, "checkIndex", "(II)I"⟩
def RJxf0a74 : String := "java/util/RandomAccess"
def TJxf0a74 : u_T := fun k => match k with
  | _ => ("", "", "", false)
def tyJxf0a74 : Nat → FieldType := fun k => match k with
  | _ => .int
abbrev wsJxf0a740 : List Cond := u_ws RJxf0a74 TJxf0a74 0
theorem nmJxf0a74 : ∀ a, a < 0 → ∀ b, b < 0 → a ≠ b → (TJxf0a74 a).2.1 ≠ (TJxf0a74 b).2.1 := by decide +kernel
theorem tyJxf0a74_ok : ∀ k, k < 0 → parseFieldDescriptor (TJxf0a74 k).2.2.1 = some (tyJxf0a74 k) := by decide +kernel
def RJxa66e6 : String := "java/util/SequencedCollection"
def TJxa66e6 : u_T := fun k => match k with
  | _ => ("", "", "", false)
def tyJxa66e6 : Nat → FieldType := fun k => match k with
  | _ => .int
abbrev wsJxa66e60 : List Cond := u_ws RJxa66e6 TJxa66e6 0
theorem nmJxa66e6 : ∀ a, a < 0 → ∀ b, b < 0 → a ≠ b → (TJxa66e6 a).2.1 ≠ (TJxa66e6 b).2.1 := by decide +kernel
theorem tyJxa66e6_ok : ∀ k, k < 0 → parseFieldDescriptor (TJxa66e6 k).2.2.1 = some (tyJxa66e6 k) := by decide +kernel
def RJ8 : String := "jdk/internal/util/ArraysSupport"
def TJ8 : u_T := fun k => match k with
  | _ => ("", "", "", false)
def tyJ8 : Nat → FieldType := fun k => match k with
  | _ => .int
abbrev wsJ80 : List Cond := u_ws RJ8 TJ8 0
theorem nmJ8 : ∀ a, a < 0 → ∀ b, b < 0 → a ≠ b → (TJ8 a).2.1 ≠ (TJ8 b).2.1 := by decide +kernel
theorem tyJ8_ok : ∀ k, k < 0 → parseFieldDescriptor (TJ8 k).2.2.1 = some (tyJ8 k) := by decide +kernel
abbrev cJ8_newLength_cabcc : ByteArray := prog_46_method_27_code
def yJ8_newLength_cabcc : MethodName := ⟨RJ8, "newLength", "(III)I"⟩
abbrev cJ8_hugeLength_7cf53 : ByteArray := prog_46_method_28_code
def yJ8_hugeLength_7cf53 : MethodName := ⟨RJ8, "hugeLength", "(II)I"⟩
def RJ3 : String := "jdk/internal/util/Preconditions"
def TJ3 : u_T := fun k => match k with
  | _ => ("", "", "", false)
def tyJ3 : Nat → FieldType := fun k => match k with
  | _ => .int
abbrev wsJ30 : List Cond := u_ws RJ3 TJ3 0
theorem nmJ3 : ∀ a, a < 0 → ∀ b, b < 0 → a ≠ b → (TJ3 a).2.1 ≠ (TJ3 b).2.1 := by decide +kernel
theorem tyJ3_ok : ∀ k, k < 0 → parseFieldDescriptor (TJ3 k).2.2.1 = some (tyJ3 k) := by decide +kernel
abbrev cJ3_checkIndex_8e157 : ByteArray := prog_47_method_11_code
def yJ3_checkIndex_8e157 : MethodName := ⟨RJ3, "checkIndex", "(IILjava/util/function/BiFunction;)I"⟩
abbrev cJ3_checkFromToIndex_8c36e : ByteArray := prog_47_method_12_code
def yJ3_checkFromToIndex_8c36e : MethodName := ⟨RJ3, "checkFromToIndex", "(IIILjava/util/function/BiFunction;)I"⟩
abbrev cJ3_checkFromIndexSize_8c36e : ByteArray := prog_47_method_13_code
def yJ3_checkFromIndexSize_8c36e : MethodName := ⟨RJ3, "checkFromIndexSize", "(IIILjava/util/function/BiFunction;)I"⟩
def RL : String := "SpliceroomLaw"
abbrev cL_addFilm : ByteArray := method_3_code
def yL_addFilm : MethodName := ⟨RL, "addFilm", "(LSpliceroom;[J)I"⟩
abbrev cL_addShot : ByteArray := method_4_code
def yL_addShot : MethodName := ⟨RL, "addShot", "(LSpliceroom;III[J)I"⟩
abbrev cL_addReel : ByteArray := method_5_code
def yL_addReel : MethodName := ⟨RL, "addReel", "(LSpliceroom;I[J)I"⟩
abbrev cL_put : ByteArray := method_6_code
def yL_put : MethodName := ⟨RL, "put", "(LSpliceroom;II[J)I"⟩
abbrev cL_found : ByteArray := method_7_code
def yL_found : MethodName := ⟨RL, "found", "(LSpliceroom;IIII[J)I"⟩
abbrev cL_join : ByteArray := method_8_code
def yL_join : MethodName := ⟨RL, "join", "(LSpliceroom;II[J)I"⟩
abbrev cL_shots : ByteArray := method_9_code
def yL_shots : MethodName := ⟨RL, "shots", "(LSpliceroom;I[J)I"⟩
abbrev cL_shotOf : ByteArray := method_10_code
def yL_shotOf : MethodName := ⟨RL, "shotOf", "(LSpliceroom;II[J)I"⟩
abbrev cL_lengthOf : ByteArray := method_11_code
def yL_lengthOf : MethodName := ⟨RL, "lengthOf", "(LSpliceroom;I[J)I"⟩
abbrev cL_frameOf : ByteArray := method_12_code
def yL_frameOf : MethodName := ⟨RL, "frameOf", "(LSpliceroom;I[J)I"⟩
abbrev cL_shotAt : ByteArray := method_13_code
def yL_shotAt : MethodName := ⟨RL, "shotAt", "(LSpliceroom;II[J)I"⟩
abbrev cL_reelOf : ByteArray := method_14_code
def yL_reelOf : MethodName := ⟨RL, "reelOf", "(LSpliceroom;I[J)I"⟩
abbrev cL_setLimit : ByteArray := method_15_code
def yL_setLimit : MethodName := ⟨RL, "setLimit", "(LSpliceroom;I[J)I"⟩
abbrev cL_run : ByteArray := method_16_code
def yL_run : MethodName := ⟨RL, "run", "(LSpliceroom;I[J)I"⟩
abbrev cL_wear : ByteArray := method_17_code
def yL_wear : MethodName := ⟨RL, "wear", "(LSpliceroom;II[J)I"⟩
abbrev cL_mend : ByteArray := method_18_code
def yL_mend : MethodName := ⟨RL, "mend", "(LSpliceroom;II[J)I"⟩
abbrev cL_scan : ByteArray := method_19_code
def yL_scan : MethodName := ⟨RL, "scan", "(LSpliceroom;II[J)I"⟩
abbrev cL_scanned : ByteArray := method_20_code
def yL_scanned : MethodName := ⟨RL, "scanned", "(LSpliceroom;I[J)I"⟩
abbrev cL_missed : ByteArray := method_21_code
def yL_missed : MethodName := ⟨RL, "missed", "(LSpliceroom;I[J)I"⟩
abbrev cL_grade : ByteArray := method_22_code
def yL_grade : MethodName := ⟨RL, "grade", "(LSpliceroom;II[J)I"⟩
abbrev cL_passOn : ByteArray := method_23_code
def yL_passOn : MethodName := ⟨RL, "passOn", "(LSpliceroom;I[J)I"⟩
abbrev cL_gradeOf : ByteArray := method_24_code
def yL_gradeOf : MethodName := ⟨RL, "gradeOf", "(LSpliceroom;I[J)I"⟩
abbrev cL_gradeFrom : ByteArray := method_25_code
def yL_gradeFrom : MethodName := ⟨RL, "gradeFrom", "(LSpliceroom;I[J)I"⟩
abbrev cL_addVersion : ByteArray := method_26_code
def yL_addVersion : MethodName := ⟨RL, "addVersion", "(LSpliceroom;II[J)I"⟩
abbrev cL_leaveOut : ByteArray := method_27_code
def yL_leaveOut : MethodName := ⟨RL, "leaveOut", "(LSpliceroom;IIIZ[J)I"⟩
abbrev cL_frames : ByteArray := method_28_code
def yL_frames : MethodName := ⟨RL, "frames", "(LSpliceroom;I[J)I"⟩
abbrev cL_lend : ByteArray := method_29_code
def yL_lend : MethodName := ⟨RL, "lend", "(LSpliceroom;IIII[J)I"⟩
abbrev cL_show : ByteArray := method_30_code
def yL_show : MethodName := ⟨RL, "show", "(LSpliceroom;I[J)I"⟩
abbrev cL_giveBack : ByteArray := method_31_code
def yL_giveBack : MethodName := ⟨RL, "giveBack", "(LSpliceroom;I[J)I"⟩
abbrev cL_advance : ByteArray := method_32_code
def yL_advance : MethodName := ⟨RL, "advance", "(LSpliceroom;I[J)I"⟩
abbrev cL_keptShare : ByteArray := method_33_code
def yL_keptShare : MethodName := ⟨RL, "keptShare", "(LSpliceroom;[D)I"⟩
abbrev cL_meanWear : ByteArray := method_34_code
def yL_meanWear : MethodName := ⟨RL, "meanWear", "(LSpliceroom;[D)I"⟩
abbrev cL_law : ByteArray := code
def yL_law : MethodName := ⟨RL, "law", "([I)Z"⟩
