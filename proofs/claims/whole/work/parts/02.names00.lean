/-! ===== BEGIN words of one list among another's, by their places ===== -/
theorem goodIn_r {big : List Cond} (ws : List Cond) (ps : List Nat) (hp : ws = ps.filterMap (fun i => big[i]?)) (h : ws.all goodWord = true) : GoodIn big ws := by
  intro w hw
  have h1 := List.all_eq_true.mp h w hw
  rw [hp] at hw
  obtain ⟨i, -, hi⟩ := List.mem_filterMap.mp hw
  have hm : w ∈ big := by first | exact List.mem_of_getElem? hi | exact List.getElem?_mem hi
  exact ⟨hm, good_of_word h1⟩
theorem goodIn_app {big a b : List Cond} (ha : GoodIn big a) (hb : GoodIn big b) : GoodIn big (a ++ b) := fun w h => (List.mem_append.mp h).elim (ha w) (hb w)
theorem goodIn_ca {big a b : List Cond} {c : Cond} (ha : GoodIn big (c :: a)) (hb : GoodIn big b) : GoodIn big (c :: (a ++ b)) := fun w h => (List.mem_cons.mp h).elim (fun e => ha w (List.mem_cons.mpr (Or.inl e))) (fun h => (List.mem_append.mp h).elim (fun h => ha w (List.mem_cons.mpr (Or.inr h))) (hb w))
theorem goodIn_sub {big ws : List Cond} (hm : ∀ w ∈ ws, w ∈ big) (h : ws.all goodWord = true) : GoodIn big ws := fun w hw => ⟨hm w hw, good_of_word (List.all_eq_true.mp h w hw)⟩
/-! ===== END ===== -/

/-! ===== BEGIN printed: names, fields, word lists, decode rows ===== -/
def RX0 : String := "RotaFathers$Abbot"
def TX0 : u_T := fun k => match k with
  | 0 => ("RotaFathers$Father", "flaw", "I", true)
  | _ => ("RotaFathers$Father", "strength", "I", true)
def tyX0 : Nat → FieldType := fun k => match k with
  | 0 => .int
  | _ => .int
abbrev wsX00 : List Cond := u_ws RX0 TX0 2
theorem nmX0 : ∀ a, a < 2 → ∀ b, b < 2 → a ≠ b → (TX0 a).2.1 ≠ (TX0 b).2.1 := by decide +kernel
theorem tyX0_ok : ∀ k, k < 2 → parseFieldDescriptor (TX0 k).2.2.1 = some (tyX0 k) := by decide +kernel
abbrev cX0_init : ByteArray := prog_2_method_1_code
def yX0_init : MethodName := ⟨RX0, "<init>", "(II)V"⟩
abbrev cX0_kind : ByteArray := prog_2_method_2_code
def yX0_kind : MethodName := ⟨RX0, "kind", "()I"⟩
abbrev cX0_bears : ByteArray := prog_2_method_3_code
def yX0_bears : MethodName := ⟨RX0, "bears", "(I)I"⟩
def RX1 : String := "RotaFathers$Copt"
def TX1 : u_T := fun k => match k with
  | 0 => ("RotaFathers$Father", "flaw", "I", true)
  | _ => ("RotaFathers$Father", "strength", "I", true)
def tyX1 : Nat → FieldType := fun k => match k with
  | 0 => .int
  | _ => .int
abbrev wsX10 : List Cond := u_ws RX1 TX1 2
theorem nmX1 : ∀ a, a < 2 → ∀ b, b < 2 → a ≠ b → (TX1 a).2.1 ≠ (TX1 b).2.1 := by decide +kernel
theorem tyX1_ok : ∀ k, k < 2 → parseFieldDescriptor (TX1 k).2.2.1 = some (tyX1 k) := by decide +kernel
abbrev cX1_init : ByteArray := prog_3_method_1_code
def yX1_init : MethodName := ⟨RX1, "<init>", "(II)V"⟩
abbrev cX1_kind : ByteArray := prog_3_method_2_code
def yX1_kind : MethodName := ⟨RX1, "kind", "()I"⟩
abbrev cX1_bears : ByteArray := prog_3_method_3_code
def yX1_bears : MethodName := ⟨RX1, "bears", "(I)I"⟩
def RX2 : String := "RotaFathers$Father"
def TX2 : u_T := fun k => match k with
  | 0 => ("RotaFathers$Father", "flaw", "I", true)
  | _ => ("RotaFathers$Father", "strength", "I", true)
def tyX2 : Nat → FieldType := fun k => match k with
  | 0 => .int
  | _ => .int
abbrev wsX20 : List Cond := u_ws RX2 TX2 2
theorem nmX2 : ∀ a, a < 2 → ∀ b, b < 2 → a ≠ b → (TX2 a).2.1 ≠ (TX2 b).2.1 := by decide +kernel
theorem tyX2_ok : ∀ k, k < 2 → parseFieldDescriptor (TX2 k).2.2.1 = some (tyX2 k) := by decide +kernel
abbrev cX2_init : ByteArray := prog_4_method_1_code
def yX2_init : MethodName := ⟨RX2, "<init>", "(II)V"⟩
abbrev cX2_kind : ByteArray := prog_4_method_2_code
def yX2_kind : MethodName := ⟨RX2, "kind", "()I"⟩
abbrev cX2_bears : ByteArray := prog_4_method_3_code
def yX2_bears : MethodName := ⟨RX2, "bears", "(I)I"⟩
abbrev cX2_letsItSleep : ByteArray := prog_4_method_4_code
def yX2_letsItSleep : MethodName := ⟨RX2, "letsItSleep", "()Z"⟩
abbrev cX2_fitterByStanding : ByteArray := prog_4_method_5_code
def yX2_fitterByStanding : MethodName := ⟨RX2, "fitterByStanding", "()I"⟩
def RX3 : String := "RotaFathers$Lived"
def TX3 : u_T := fun k => match k with
  | 0 => ("RotaFathers$Lived", "rota", "[I", true)
  | 1 => ("RotaFathers$Lived", "merits", "[I", true)
  | 2 => ("RotaFathers$Lived", "falls", "[I", true)
  | 3 => ("RotaFathers$Lived", "foundShifts", "[I", true)
  | 4 => ("RotaFathers$Lived", "foundFits", "[I", true)
  | 5 => ("RotaFathers$Lived", "foundCount", "I", false)
  | 6 => ("RotaFathers$Lived", "fit", "I", false)
  | 7 => ("RotaFathers$Lived", "known", "I", false)
  | _ => ("RotaFathers$Lived", "days", "I", false)
def tyX3 : Nat → FieldType := fun k => match k with
  | 0 => .array .int
  | 1 => .array .int
  | 2 => .array .int
  | 3 => .array .int
  | 4 => .array .int
  | 5 => .int
  | 6 => .int
  | 7 => .int
  | _ => .int
abbrev wsX30 : List Cond := u_ws RX3 TX3 9
theorem nmX3 : ∀ a, a < 9 → ∀ b, b < 9 → a ≠ b → (TX3 a).2.1 ≠ (TX3 b).2.1 := by decide +kernel
theorem tyX3_ok : ∀ k, k < 9 → parseFieldDescriptor (TX3 k).2.2.1 = some (tyX3 k) := by decide +kernel
abbrev cX3_init : ByteArray := prog_5_method_1_code
def yX3_init : MethodName := ⟨RX3, "<init>", "()V"⟩
abbrev cX3_begin : ByteArray := prog_5_method_2_code
def yX3_begin : MethodName := ⟨RX3, "begin", "(I)V"⟩
abbrev cX3_takeOver : ByteArray := prog_5_method_3_code
def yX3_takeOver : MethodName := ⟨RX3, "takeOver", "(LRotaFathers$Lived;)V"⟩
abbrev cX3_addFound : ByteArray := prog_5_method_4_code
def yX3_addFound : MethodName := ⟨RX3, "addFound", "(II)V"⟩
abbrev cX3_isAsFound : ByteArray := prog_5_method_5_code
def yX3_isAsFound : MethodName := ⟨RX3, "isAsFound", "([I)Z"⟩
def RX4 : String := "RotaFathers$Page"
def TX4 : u_T := fun k => match k with
  | 0 => ("RotaFathers$Page", "codes", "[I", true)
  | _ => ("RotaFathers$Page", "length", "I", false)
def tyX4 : Nat → FieldType := fun k => match k with
  | 0 => .array .int
  | _ => .int
abbrev wsX40 : List Cond := u_ws RX4 TX4 2
theorem nmX4 : ∀ a, a < 2 → ∀ b, b < 2 → a ≠ b → (TX4 a).2.1 ≠ (TX4 b).2.1 := by decide +kernel
theorem tyX4_ok : ∀ k, k < 2 → parseFieldDescriptor (TX4 k).2.2.1 = some (tyX4 k) := by decide +kernel
abbrev cX4_init : ByteArray := prog_6_method_1_code
def yX4_init : MethodName := ⟨RX4, "<init>", "()V"⟩
abbrev cX4_add : ByteArray := prog_6_method_2_code
def yX4_add : MethodName := ⟨RX4, "add", "(I)V"⟩
abbrev cX4_clear : ByteArray := prog_6_method_3_code
def yX4_clear : MethodName := ⟨RX4, "clear", "()V"⟩
abbrev cX4_code : ByteArray := prog_6_method_4_code
def yX4_code : MethodName := ⟨RX4, "code", "(I)I"⟩
abbrev cX4_rightLetters : ByteArray := prog_6_method_5_code
def yX4_rightLetters : MethodName := ⟨RX4, "rightLetters", "()I"⟩
abbrev cX4_isWhole : ByteArray := prog_6_method_6_code
def yX4_isWhole : MethodName := ⟨RX4, "isWhole", "()Z"⟩
abbrev cX4_fathers : ByteArray := prog_6_method_7_code
def yX4_fathers : MethodName := ⟨RX4, "fathers", "()I"⟩
abbrev cX4_father : ByteArray := prog_6_method_8_code
def yX4_father : MethodName := ⟨RX4, "father", "(I)LRotaFathers$Father;"⟩
abbrev cX4_fit : ByteArray := prog_6_method_9_code
def yX4_fit : MethodName := ⟨RX4, "fit", "()I"⟩
abbrev cX4_digit : ByteArray := prog_6_method_10_code
def yX4_digit : MethodName := ⟨RX4, "digit", "(I)I"⟩
abbrev cX4_closing : ByteArray := prog_6_method_11_code
def yX4_closing : MethodName := ⟨RX4, "closing", "()I"⟩
abbrev cX4_isRight : ByteArray := prog_6_method_12_code
def yX4_isRight : MethodName := ⟨RX4, "isRight", "(II)Z"⟩
abbrev cX4_isDigit : ByteArray := prog_6_method_13_code
def yX4_isDigit : MethodName := ⟨RX4, "isDigit", "(III)Z"⟩
abbrev cX4_isKind : ByteArray := prog_6_method_14_code
def yX4_isKind : MethodName := ⟨RX4, "isKind", "(I)Z"⟩
abbrev cX4_endsFather : ByteArray := prog_6_method_15_code
def yX4_endsFather : MethodName := ⟨RX4, "endsFather", "(II)Z"⟩
def RX5 : String := "RotaFathers$Spoiler"
def TX5 : u_T := fun k => match k with
  | 0 => ("RotaFathers$Father", "flaw", "I", true)
  | _ => ("RotaFathers$Father", "strength", "I", true)
def tyX5 : Nat → FieldType := fun k => match k with
  | 0 => .int
  | _ => .int
abbrev wsX50 : List Cond := u_ws RX5 TX5 2
theorem nmX5 : ∀ a, a < 2 → ∀ b, b < 2 → a ≠ b → (TX5 a).2.1 ≠ (TX5 b).2.1 := by decide +kernel
theorem tyX5_ok : ∀ k, k < 2 → parseFieldDescriptor (TX5 k).2.2.1 = some (tyX5 k) := by decide +kernel
abbrev cX5_init : ByteArray := prog_7_method_1_code
def yX5_init : MethodName := ⟨RX5, "<init>", "(II)V"⟩
abbrev cX5_kind : ByteArray := prog_7_method_2_code
def yX5_kind : MethodName := ⟨RX5, "kind", "()I"⟩
abbrev cX5_fitterByStanding : ByteArray := prog_7_method_3_code
def yX5_fitterByStanding : MethodName := ⟨RX5, "fitterByStanding", "()I"⟩
def RX6 : String := "RotaFathers$Syrian"
def TX6 : u_T := fun k => match k with
  | 0 => ("RotaFathers$Father", "flaw", "I", true)
  | _ => ("RotaFathers$Father", "strength", "I", true)
def tyX6 : Nat → FieldType := fun k => match k with
  | 0 => .int
  | _ => .int
abbrev wsX60 : List Cond := u_ws RX6 TX6 2
theorem nmX6 : ∀ a, a < 2 → ∀ b, b < 2 → a ≠ b → (TX6 a).2.1 ≠ (TX6 b).2.1 := by decide +kernel
theorem tyX6_ok : ∀ k, k < 2 → parseFieldDescriptor (TX6 k).2.2.1 = some (tyX6 k) := by decide +kernel
abbrev cX6_init : ByteArray := prog_8_method_1_code
def yX6_init : MethodName := ⟨RX6, "<init>", "(II)V"⟩
abbrev cX6_kind : ByteArray := prog_8_method_2_code
def yX6_kind : MethodName := ⟨RX6, "kind", "()I"⟩
abbrev cX6_letsItSleep : ByteArray := prog_8_method_3_code
def yX6_letsItSleep : MethodName := ⟨RX6, "letsItSleep", "()Z"⟩
def RX7 : String := "RotaFathers$TrialDay"
def TX7 : u_T := fun k => match k with
  | 0 => ("RotaFathers$TrialDay", "fitAhead", "[I", true)
  | 1 => ("RotaFathers$TrialDay", "weights", "[I", true)
  | 2 => ("RotaFathers$TrialDay", "gains", "[I", true)
  | 3 => ("RotaFathers$TrialDay", "fell", "[I", true)
  | 4 => ("RotaFathers$TrialDay", "known", "I", false)
  | 5 => ("RotaFathers$TrialDay", "merit", "I", false)
  | _ => ("RotaFathers$TrialDay", "falls", "I", false)
def tyX7 : Nat → FieldType := fun k => match k with
  | 0 => .array .int
  | 1 => .array .int
  | 2 => .array .int
  | 3 => .array .int
  | 4 => .int
  | 5 => .int
  | _ => .int
abbrev wsX70 : List Cond := u_ws RX7 TX7 7
theorem nmX7 : ∀ a, a < 7 → ∀ b, b < 7 → a ≠ b → (TX7 a).2.1 ≠ (TX7 b).2.1 := by decide +kernel
theorem tyX7_ok : ∀ k, k < 7 → parseFieldDescriptor (TX7 k).2.2.1 = some (tyX7 k) := by decide +kernel
abbrev cX7_init : ByteArray := prog_9_method_1_code
def yX7_init : MethodName := ⟨RX7, "<init>", "()V"⟩
abbrev cX7_live : ByteArray := prog_9_method_2_code
def yX7_live : MethodName := ⟨RX7, "live", "([LRotaFathers$Father;[III)V"⟩
abbrev cX7_meet : ByteArray := prog_9_method_3_code
def yX7_meet : MethodName := ⟨RX7, "meet", "(ILRotaFathers$Father;I)I"⟩
def RX8 : String := "RotaFathers"
def TX8 : u_T := fun k => match k with
  | 0 => ("RotaFathers", "page", "LRotaFathers$Page;", true)
  | 1 => ("RotaFathers", "fathers", "[LRotaFathers$Father;", true)
  | 2 => ("RotaFathers", "now", "LRotaFathers$Lived;", true)
  | 3 => ("RotaFathers", "kept", "LRotaFathers$Lived;", true)
  | 4 => ("RotaFathers", "trial", "LRotaFathers$TrialDay;", true)
  | 5 => ("RotaFathers", "plan", "[I", true)
  | 6 => ("RotaFathers", "bestWho", "[I", true)
  | 7 => ("RotaFathers", "tally", "[I", true)
  | 8 => ("RotaFathers", "bestMerit", "I", false)
  | 9 => ("RotaFathers", "fatherCount", "I", false)
  | 10 => ("RotaFathers", "cavesRead", "I", false)
  | 11 => ("RotaFathers", "bestsDone", "I", false)
  | _ => ("RotaFathers", "hasImage", "Z", false)
def tyX8 : Nat → FieldType := fun k => match k with
  | 0 => .object "RotaFathers$Page"
  | 1 => .array (.object "RotaFathers$Father")
  | 2 => .object "RotaFathers$Lived"
  | 3 => .object "RotaFathers$Lived"
  | 4 => .object "RotaFathers$TrialDay"
  | 5 => .array .int
  | 6 => .array .int
  | 7 => .array .int
  | 8 => .int
  | 9 => .int
  | 10 => .int
  | 11 => .int
  | _ => .boolean
abbrev wsX80 : List Cond := u_ws RX8 TX8 13
theorem nmX8 : ∀ a, a < 13 → ∀ b, b < 13 → a ≠ b → (TX8 a).2.1 ≠ (TX8 b).2.1 := by decide +kernel
theorem tyX8_ok : ∀ k, k < 13 → parseFieldDescriptor (TX8 k).2.2.1 = some (tyX8 k) := by decide +kernel
abbrev cX8_init : ByteArray := prog_1_method_1_code
def yX8_init : MethodName := ⟨RX8, "<init>", "()V"⟩
abbrev cX8_letter : ByteArray := prog_1_method_2_code
def yX8_letter : MethodName := ⟨RX8, "letter", "(I)I"⟩
abbrev cX8_blank : ByteArray := prog_1_method_3_code
def yX8_blank : MethodName := ⟨RX8, "blank", "()I"⟩
abbrev cX8_fault : ByteArray := prog_1_method_4_code
def yX8_fault : MethodName := ⟨RX8, "fault", "()I"⟩
abbrev cX8_cave : ByteArray := prog_1_method_5_code
def yX8_cave : MethodName := ⟨RX8, "cave", "()I"⟩
abbrev cX8_about : ByteArray := prog_1_method_6_code
def yX8_about : MethodName := ⟨RX8, "about", "(II)I"⟩
abbrev cX8_as : ByteArray := prog_1_method_7_code
def yX8_as : MethodName := ⟨RX8, "as", "(II)I"⟩
abbrev cX8_rota : ByteArray := prog_1_method_8_code
def yX8_rota : MethodName := ⟨RX8, "rota", "(II)I"⟩
abbrev cX8_shift : ByteArray := prog_1_method_9_code
def yX8_shift : MethodName := ⟨RX8, "shift", "(II)I"⟩
abbrev cX8_day : ByteArray := prog_1_method_10_code
def yX8_day : MethodName := ⟨RX8, "day", "()I"⟩
abbrev cX8_best : ByteArray := prog_1_method_11_code
def yX8_best : MethodName := ⟨RX8, "best", "(III)I"⟩
abbrev cX8_swaps : ByteArray := prog_1_method_12_code
def yX8_swaps : MethodName := ⟨RX8, "swaps", "()I"⟩
abbrev cX8_found : ByteArray := prog_1_method_13_code
def yX8_found : MethodName := ⟨RX8, "found", "(II)I"⟩
abbrev cX8_forget : ByteArray := prog_1_method_14_code
def yX8_forget : MethodName := ⟨RX8, "forget", "()I"⟩
abbrev cX8_months : ByteArray := prog_1_method_15_code
def yX8_months : MethodName := ⟨RX8, "months", "(III)I"⟩
abbrev cX8_image : ByteArray := prog_1_method_16_code
def yX8_image : MethodName := ⟨RX8, "image", "()I"⟩
abbrev cX8_restore : ByteArray := prog_1_method_17_code
def yX8_restore : MethodName := ⟨RX8, "restore", "()I"⟩
abbrev cX8_count : ByteArray := prog_1_method_18_code
def yX8_count : MethodName := ⟨RX8, "count", "(I)I"⟩
abbrev cX8_digest : ByteArray := prog_1_method_19_code
def yX8_digest : MethodName := ⟨RX8, "digest", "()J"⟩
abbrev cX8_hasCave : ByteArray := prog_1_method_20_code
def yX8_hasCave : MethodName := ⟨RX8, "hasCave", "()Z"⟩
abbrev cX8_isShift : ByteArray := prog_1_method_21_code
def yX8_isShift : MethodName := ⟨RX8, "isShift", "(I)Z"⟩
abbrev cX8_isFit : ByteArray := prog_1_method_22_code
def yX8_isFit : MethodName := ⟨RX8, "isFit", "(I)Z"⟩
abbrev cX8_readFathers : ByteArray := prog_1_method_23_code
def yX8_readFathers : MethodName := ⟨RX8, "readFathers", "()V"⟩
abbrev cX8_nextDay : ByteArray := prog_1_method_24_code
def yX8_nextDay : MethodName := ⟨RX8, "nextDay", "()LRotaFathers$TrialDay;"⟩
abbrev cX8_plannedDay : ByteArray := prog_1_method_25_code
def yX8_plannedDay : MethodName := ⟨RX8, "plannedDay", "()LRotaFathers$TrialDay;"⟩
abbrev cX8_shiftsOf : ByteArray := prog_1_method_26_code
def yX8_shiftsOf : MethodName := ⟨RX8, "shiftsOf", "(I)I"⟩
abbrev cX8_nextMeritOf : ByteArray := prog_1_method_27_code
def yX8_nextMeritOf : MethodName := ⟨RX8, "nextMeritOf", "(I)I"⟩
abbrev cX8_seekBest : ByteArray := prog_1_method_28_code
def yX8_seekBest : MethodName := ⟨RX8, "seekBest", "(II)V"⟩
abbrev cX8_weighPlan : ByteArray := prog_1_method_29_code
def yX8_weighPlan : MethodName := ⟨RX8, "weighPlan", "(II)V"⟩
abbrev cX8_swappedMerit : ByteArray := prog_1_method_30_code
def yX8_swappedMerit : MethodName := ⟨RX8, "swappedMerit", "(II)I"⟩
abbrev cX8_whoCanBe : ByteArray := prog_1_method_31_code
def yX8_whoCanBe : MethodName := ⟨RX8, "whoCanBe", "(I)I"⟩
abbrev cX8_canBe : ByteArray := prog_1_method_32_code
def yX8_canBe : MethodName := ⟨RX8, "canBe", "(II)Z"⟩
abbrev cX8_whereToLook : ByteArray := prog_1_method_33_code
def yX8_whereToLook : MethodName := ⟨RX8, "whereToLook", "(I)I"⟩
abbrev cX8_tallyTrial : ByteArray := prog_1_method_34_code
def yX8_tallyTrial : MethodName := ⟨RX8, "tallyTrial", "()V"⟩
abbrev cX8_leastWorstPlace : ByteArray := prog_1_method_35_code
def yX8_leastWorstPlace : MethodName := ⟨RX8, "leastWorstPlace", "()I"⟩
abbrev cX8_planByDraws : ByteArray := prog_1_method_36_code
def yX8_planByDraws : MethodName := ⟨RX8, "planByDraws", "(I)I"⟩
abbrev cX8_nextSeed : ByteArray := prog_1_method_37_code
def yX8_nextSeed : MethodName := ⟨RX8, "nextSeed", "(I)I"⟩
abbrev cX8_isOfKind : ByteArray := prog_1_method_38_code
def yX8_isOfKind : MethodName := ⟨RX8, "isOfKind", "(LRotaFathers$Father;I)Z"⟩
abbrev cX8_at : ByteArray := prog_1_method_39_code
def yX8_at : MethodName := ⟨RX8, "at", "([II)I"⟩
abbrev cX8_put : ByteArray := prog_1_method_40_code
def yX8_put : MethodName := ⟨RX8, "put", "([III)V"⟩
abbrev cX8_copy : ByteArray := prog_1_method_41_code
def yX8_copy : MethodName := ⟨RX8, "copy", "([I[I)V"⟩
abbrev cX8_clear : ByteArray := prog_1_method_42_code
def yX8_clear : MethodName := ⟨RX8, "clear", "([I)V"⟩
abbrev cX8_sum : ByteArray := prog_1_method_43_code
def yX8_sum : MethodName := ⟨RX8, "sum", "([I)I"⟩
abbrev cX8_fatherAt : ByteArray := prog_1_method_44_code
def yX8_fatherAt : MethodName := ⟨RX8, "fatherAt", "([LRotaFathers$Father;I)LRotaFathers$Father;"⟩
abbrev cX8_knows : ByteArray := prog_1_method_45_code
def yX8_knows : MethodName := ⟨RX8, "knows", "(II)Z"⟩
def RX9 : String := "RotaFathersModel"
def TX9 : u_T := fun k => match k with
  | 0 => ("RotaFathersModel", "caves", "I", false)
  | 1 => ("RotaFathersModel", "fathers", "I", false)
  | 2 => ("RotaFathersModel", "kindOf", "[I", true)
  | 3 => ("RotaFathersModel", "flawOf", "[I", true)
  | 4 => ("RotaFathersModel", "strengthOf", "[I", true)
  | 5 => ("RotaFathersModel", "meritOf", "[I", true)
  | 6 => ("RotaFathersModel", "fellOf", "[I", true)
  | 7 => ("RotaFathersModel", "rotaOf", "[I", true)
  | 8 => ("RotaFathersModel", "fit", "I", false)
  | 9 => ("RotaFathersModel", "knows", "I", false)
  | 10 => ("RotaFathersModel", "days", "I", false)
  | 11 => ("RotaFathersModel", "found", "I", false)
  | 12 => ("RotaFathersModel", "foundShift", "[I", true)
  | 13 => ("RotaFathersModel", "foundFit", "[I", true)
  | 14 => ("RotaFathersModel", "asks", "I", false)
  | 15 => ("RotaFathersModel", "pageLength", "I", false)
  | 16 => ("RotaFathersModel", "page", "[B", true)
  | 17 => ("RotaFathersModel", "isWhole", "Z", false)
  | 18 => ("RotaFathersModel", "newMany", "I", false)
  | 19 => ("RotaFathersModel", "fitAhead", "[I", true)
  | 20 => ("RotaFathersModel", "heavyIn", "[I", true)
  | 21 => ("RotaFathersModel", "gainOf", "[I", true)
  | 22 => ("RotaFathersModel", "fallOf", "[I", true)
  | 23 => ("RotaFathersModel", "fallsIn", "I", false)
  | 24 => ("RotaFathersModel", "nowFit", "I", false)
  | 25 => ("RotaFathersModel", "nowKnows", "I", false)
  | 26 => ("RotaFathersModel", "savedRota", "[I", true)
  | 27 => ("RotaFathersModel", "fitBy", "[I", true)
  | 28 => ("RotaFathersModel", "seedNow", "J", false)
  | 29 => ("RotaFathersModel", "isKept", "Z", false)
  | 30 => ("RotaFathersModel", "keptCave", "I", false)
  | 31 => ("RotaFathersModel", "keptFit", "I", false)
  | 32 => ("RotaFathersModel", "keptKnows", "I", false)
  | 33 => ("RotaFathersModel", "keptDays", "I", false)
  | 34 => ("RotaFathersModel", "keptFound", "I", false)
  | 35 => ("RotaFathersModel", "keptRota", "[I", true)
  | 36 => ("RotaFathersModel", "keptMerit", "[I", true)
  | 37 => ("RotaFathersModel", "keptFell", "[I", true)
  | 38 => ("RotaFathersModel", "keptShift", "[I", true)
  | 39 => ("RotaFathersModel", "keptFoundFit", "[I", true)
  | _ => ("RotaFathersModel", "h", "J", false)
