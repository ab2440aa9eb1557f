/-! ===== BEGIN words of one list among another's, by their places ===== -/
theorem goodIn_r {big : List Cond} (ws : List Cond) (ps : List Nat) (hp : ws = ps.filterMap (fun i => big[i]?)) (h : ws.all goodWord = true) : GoodIn big ws := by
  intro w hw
  have h1 := List.all_eq_true.mp h w hw
  rw [hp] at hw
  obtain ⟨i, -, hi⟩ := List.mem_filterMap.mp hw
  have hm : w ∈ big := by first | exact List.mem_of_getElem? hi | exact List.getElem?_mem hi
  exact ⟨hm, good_of_word h1⟩
theorem goodIn_app {big a b : List Cond} (ha : GoodIn big a) (hb : GoodIn big b) : GoodIn big (a ++ b) := fun w h => (List.mem_append.mp h).elim (ha w) (hb w)
theorem goodIn_ca {big a b : List Cond} {c : Cond} (ha : GoodIn big (c :: a)) (hb : GoodIn big b) : GoodIn big (c :: (a ++ b)) := fun w h => (List.mem_cons.mp h).elim (fun e => ha w (List.mem_cons.mpr (Or.inl e))) (fun h => (List.mem_append.mp h).elim (fun h => ha w (List.mem_cons.mpr (Or.inr h))) (hb w))
theorem goodIn_sub {big ws : List Cond} (hm : ∀ w ∈ ws, w ∈ big) (h : ws.all goodWord = true) : GoodIn big ws := fun w hw => ⟨hm w hw, good_of_word (List.all_eq_true.mp h w hw)⟩
/-! ===== END ===== -/
def RX0 : String := "SagGates$Formula"
def TX0 : u_T := fun k => match k with
  | 0 => ("SagGates$Formula", "tokens", "LSagGates$Tokens;", true)
  | 1 => ("SagGates$Formula", "held", "[I", true)
  | 2 => ("SagGates$Formula", "heldCount", "I", false)
  | 3 => ("SagGates$Formula", "open", "I", false)
  | 4 => ("SagGates$Formula", "names", "I", false)
  | 5 => ("SagGates$Formula", "wantsValue", "Z", false)
  | 6 => ("SagGates$Formula", "mayNot", "Z", false)
  | _ => ("SagGates$Formula", "plan", "LSagGates$Plan;", false)
def tyX0 : Nat → FieldType := fun k => match k with
  | 0 => .object "SagGates$Tokens"
  | 1 => .array .int
  | 2 => .int
  | 3 => .int
  | 4 => .int
  | 5 => .boolean
  | 6 => .boolean
  | _ => .object "SagGates$Plan"
abbrev wsX00 : List Cond := u_ws RX0 TX0 8
theorem nmX0 : ∀ a, a < 8 → ∀ b, b < 8 → a ≠ b → (TX0 a).2.1 ≠ (TX0 b).2.1 := by decide +kernel
theorem tyX0_ok : ∀ k, k < 8 → parseFieldDescriptor (TX0 k).2.2.1 = some (tyX0 k) := by decide +kernel
abbrev cX0_init : ByteArray := prog_2_method_1_code
def yX0_init : MethodName := ⟨RX0, "<init>", "(LSagGates$Tokens;LSagGates$Plan;)V"⟩
def RX1 : String := "SagGates$Gate"
def TX1 : u_T := fun k => match k with
  | 0 => ("SagGates$Gate", "told", "LSagGates$Told;", false)
  | 1 => ("SagGates$Gate", "lean", "I", false)
  | 2 => ("SagGates$Gate", "square", "I", false)
  | 3 => ("SagGates$Gate", "hooks", "I", false)
  | 4 => ("SagGates$Gate", "lift", "I", false)
  | 5 => ("SagGates$Gate", "deep", "I", false)
  | 6 => ("SagGates$Gate", "brace", "I", false)
  | 7 => ("SagGates$Gate", "wheel", "I", false)
  | 8 => ("SagGates$Gate", "stones", "I", false)
  | 9 => ("SagGates$Gate", "child", "I", false)
  | 10 => ("SagGates$Gate", "done", "I", false)
  | 11 => ("SagGates$Gate", "causes", "I", false)
  | 12 => ("SagGates$Gate", "leanMore", "I", false)
  | 13 => ("SagGates$Gate", "openMore", "I", false)
  | 14 => ("SagGates$Gate", "bendMore", "I", false)
  | 15 => ("SagGates$Gate", "out", "I", false)
  | _ => ("SagGates$Gate", "aside", "I", false)
def tyX1 : Nat → FieldType := fun k => match k with
  | 0 => .object "SagGates$Told"
  | 1 => .int
  | 2 => .int
  | 3 => .int
  | 4 => .int
  | 5 => .int
  | 6 => .int
  | 7 => .int
  | 8 => .int
  | 9 => .int
  | 10 => .int
  | 11 => .int
  | 12 => .int
  | 13 => .int
  | 14 => .int
  | 15 => .int
  | _ => .int
abbrev wsX10 : List Cond := u_ws RX1 TX1 17
theorem nmX1 : ∀ a, a < 17 → ∀ b, b < 17 → a ≠ b → (TX1 a).2.1 ≠ (TX1 b).2.1 := by decide +kernel
theorem tyX1_ok : ∀ k, k < 17 → parseFieldDescriptor (TX1 k).2.2.1 = some (tyX1 k) := by decide +kernel
abbrev cX1_init : ByteArray := prog_3_method_1_code
def yX1_init : MethodName := ⟨RX1, "<init>", "(LSagGates$Told;)V"⟩
abbrev cX1_begin : ByteArray := prog_3_method_2_code
def yX1_begin : MethodName := ⟨RX1, "begin", "(LSagGates$Plan;I)V"⟩
abbrev cX1_setCauses : ByteArray := prog_3_method_3_code
def yX1_setCauses : MethodName := ⟨RX1, "setCauses", "(LSagGates$Plan;I)V"⟩
abbrev cX1_copy : ByteArray := prog_3_method_4_code
def yX1_copy : MethodName := ⟨RX1, "copy", "(LSagGates$Gate;)V"⟩
def RX2 : String := "SagGates$Laws"
def TX2 : u_T := fun k => match k with
  | 0 => ("SagGates$Laws", "values", "[J", true)
  | 1 => ("SagGates$Laws", "stack", "[J", true)
  | 2 => ("SagGates$Laws", "growth", "[I", true)
  | 3 => ("SagGates$Laws", "stale", "I", false)
  | _ => ("SagGates$Laws", "error", "Z", false)
def tyX2 : Nat → FieldType := fun k => match k with
  | 0 => .array .long
  | 1 => .array .long
  | 2 => .array .int
  | 3 => .int
  | _ => .boolean
abbrev wsX20 : List Cond := u_ws RX2 TX2 5
theorem nmX2 : ∀ a, a < 5 → ∀ b, b < 5 → a ≠ b → (TX2 a).2.1 ≠ (TX2 b).2.1 := by decide +kernel
theorem tyX2_ok : ∀ k, k < 5 → parseFieldDescriptor (TX2 k).2.2.1 = some (tyX2 k) := by decide +kernel
abbrev cX2_init : ByteArray := prog_4_method_1_code
def yX2_init : MethodName := ⟨RX2, "<init>", "()V"⟩
abbrev cX2_forget : ByteArray := prog_4_method_2_code
def yX2_forget : MethodName := ⟨RX2, "forget", "()V"⟩
def RX3 : String := "SagGates$Notes"
def TX3 : u_T := fun k => match k with
  | 0 => ("SagGates$Notes", "gates", "[I", true)
  | 1 => ("SagGates$Notes", "weeks", "[I", true)
  | 2 => ("SagGates$Notes", "whats", "[I", true)
  | 3 => ("SagGates$Notes", "lows", "[I", true)
  | 4 => ("SagGates$Notes", "highs", "[I", true)
  | 5 => ("SagGates$Notes", "strikes", "[I", true)
  | 6 => ("SagGates$Notes", "struck", "[Z", true)
  | 7 => ("SagGates$Notes", "picked", "[I", true)
  | 8 => ("SagGates$Notes", "pickedCount", "I", false)
  | 9 => ("SagGates$Notes", "count", "I", false)
  | _ => ("SagGates$Notes", "knownBy", "I", false)
def tyX3 : Nat → FieldType := fun k => match k with
  | 0 => .array .int
  | 1 => .array .int
  | 2 => .array .int
  | 3 => .array .int
  | 4 => .array .int
  | 5 => .array .int
  | 6 => .array .boolean
  | 7 => .array .int
  | 8 => .int
  | 9 => .int
  | _ => .int
abbrev wsX30 : List Cond := u_ws RX3 TX3 11
theorem nmX3 : ∀ a, a < 11 → ∀ b, b < 11 → a ≠ b → (TX3 a).2.1 ≠ (TX3 b).2.1 := by decide +kernel
theorem tyX3_ok : ∀ k, k < 11 → parseFieldDescriptor (TX3 k).2.2.1 = some (tyX3 k) := by decide +kernel
abbrev cX3_init : ByteArray := prog_5_method_1_code
def yX3_init : MethodName := ⟨RX3, "<init>", "()V"⟩
abbrev cX3_clear : ByteArray := prog_5_method_2_code
def yX3_clear : MethodName := ⟨RX3, "clear", "()V"⟩
abbrev cX3_knownCount : ByteArray := prog_5_method_3_code
def yX3_knownCount : MethodName := ⟨RX3, "knownCount", "()I"⟩
def RX4 : String := "SagGates$Plan"
def TX4 : u_T := fun k => match k with
  | 0 => ("SagGates$Plan", "ground", "[I", true)
  | 1 => ("SagGates$Plan", "code", "[I", true)
  | 2 => ("SagGates$Plan", "coded", "I", false)
  | 3 => ("SagGates$Plan", "knots", "I", false)
  | 4 => ("SagGates$Plan", "lawFrom", "[I", true)
  | 5 => ("SagGates$Plan", "lawTo", "[I", true)
  | 6 => ("SagGates$Plan", "lawNames", "[I", true)
  | 7 => ("SagGates$Plan", "gates", "[LSagGates$Told;", true)
  | 8 => ("SagGates$Plan", "gateNames", "[I", true)
  | 9 => ("SagGates$Plan", "gateCount", "I", false)
  | 10 => ("SagGates$Plan", "workNames", "[I", true)
  | 11 => ("SagGates$Plan", "workCosts", "[I", true)
  | 12 => ("SagGates$Plan", "workKinds", "[I", true)
  | 13 => ("SagGates$Plan", "workNumbers", "[I", true)
  | 14 => ("SagGates$Plan", "workCount", "I", false)
  | 15 => ("SagGates$Plan", "causeNames", "[I", true)
  | 16 => ("SagGates$Plan", "causeWeights", "[I", true)
  | 17 => ("SagGates$Plan", "causeKinds", "[I", true)
  | 18 => ("SagGates$Plan", "causeNumbers", "[I", true)
  | _ => ("SagGates$Plan", "causeCount", "I", false)
def tyX4 : Nat → FieldType := fun k => match k with
  | 0 => .array .int
  | 1 => .array .int
  | 2 => .int
  | 3 => .int
  | 4 => .array .int
  | 5 => .array .int
  | 6 => .array .int
  | 7 => .array (.object "SagGates$Told")
  | 8 => .array .int
  | 9 => .int
  | 10 => .array .int
  | 11 => .array .int
  | 12 => .array .int
  | 13 => .array .int
  | 14 => .int
  | 15 => .array .int
  | 16 => .array .int
  | 17 => .array .int
  | 18 => .array .int
  | _ => .int
abbrev wsX40 : List Cond := u_ws RX4 TX4 20
theorem nmX4 : ∀ a, a < 20 → ∀ b, b < 20 → a ≠ b → (TX4 a).2.1 ≠ (TX4 b).2.1 := by decide +kernel
theorem tyX4_ok : ∀ k, k < 20 → parseFieldDescriptor (TX4 k).2.2.1 = some (tyX4 k) := by decide +kernel
abbrev cX4_init : ByteArray := prog_6_method_1_code
def yX4_init : MethodName := ⟨RX4, "<init>", "()V"⟩
abbrev cX4_clear : ByteArray := prog_6_method_2_code
def yX4_clear : MethodName := ⟨RX4, "clear", "()V"⟩
abbrev cX4_isWork : ByteArray := prog_6_method_3_code
def yX4_isWork : MethodName := ⟨RX4, "isWork", "(I)Z"⟩
abbrev cX4_firmIn : ByteArray := prog_6_method_6_code
def yX4_firmIn : MethodName := ⟨RX4, "firmIn", "(I)I"⟩
abbrev cX4_moreBy : ByteArray := prog_6_method_9_code
def yX4_moreBy : MethodName := ⟨RX4, "moreBy", "(II)I"⟩
def RX5 : String := "SagGates$Reader"
def TX5 : u_T := fun k => match k with
  | 0 => ("SagGates$Reader", "tokens", "LSagGates$Tokens;", true)
  | 1 => ("SagGates$Reader", "formula", "LSagGates$Formula;", true)
  | 2 => ("SagGates$Reader", "plan", "LSagGates$Plan;", false)
  | 3 => ("SagGates$Reader", "groundTold", "Z", false)
  | 4 => ("SagGates$Reader", "fault", "I", false)
  | _ => ("SagGates$Reader", "place", "I", false)
def tyX5 : Nat → FieldType := fun k => match k with
  | 0 => .object "SagGates$Tokens"
  | 1 => .object "SagGates$Formula"
  | 2 => .object "SagGates$Plan"
  | 3 => .boolean
  | 4 => .int
  | _ => .int
abbrev wsX50 : List Cond := u_ws RX5 TX5 6
theorem nmX5 : ∀ a, a < 6 → ∀ b, b < 6 → a ≠ b → (TX5 a).2.1 ≠ (TX5 b).2.1 := by decide +kernel
theorem tyX5_ok : ∀ k, k < 6 → parseFieldDescriptor (TX5 k).2.2.1 = some (tyX5 k) := by decide +kernel
abbrev cX5_init : ByteArray := prog_7_method_1_code
def yX5_init : MethodName := ⟨RX5, "<init>", "([BLSagGates$Plan;)V"⟩
abbrev cX5_readText : ByteArray := prog_7_method_2_code
def yX5_readText : MethodName := ⟨RX5, "readText", "(LSagGates$Plan;I)I"⟩
def RX6 : String := "SagGates$Tokens"
def TX6 : u_T := fun k => match k with
  | 0 => ("SagGates$Tokens", "bytes", "[B", true)
  | 1 => ("SagGates$Tokens", "words", "[I", true)
  | 2 => ("SagGates$Tokens", "length", "I", false)
  | 3 => ("SagGates$Tokens", "at", "I", false)
  | 4 => ("SagGates$Tokens", "kind", "I", false)
  | 5 => ("SagGates$Tokens", "place", "I", false)
  | _ => ("SagGates$Tokens", "value", "I", false)
def tyX6 : Nat → FieldType := fun k => match k with
  | 0 => .array .byte
  | 1 => .array .int
  | 2 => .int
  | 3 => .int
  | 4 => .int
  | 5 => .int
  | _ => .int
abbrev wsX60 : List Cond := u_ws RX6 TX6 7
theorem nmX6 : ∀ a, a < 7 → ∀ b, b < 7 → a ≠ b → (TX6 a).2.1 ≠ (TX6 b).2.1 := by decide +kernel
theorem tyX6_ok : ∀ k, k < 7 → parseFieldDescriptor (TX6 k).2.2.1 = some (tyX6 k) := by decide +kernel
abbrev cX6_init : ByteArray := prog_8_method_1_code
def yX6_init : MethodName := ⟨RX6, "<init>", "([B)V"⟩
abbrev cX6_letterBits : ByteArray := prog_8_method_2_code
def yX6_letterBits : MethodName := ⟨RX6, "letterBits", "(II)I"⟩
abbrev cX6_begin : ByteArray := prog_8_method_3_code
def yX6_begin : MethodName := ⟨RX6, "begin", "(I)V"⟩
abbrev cX6_step : ByteArray := prog_8_method_4_code
def yX6_step : MethodName := ⟨RX6, "step", "()V"⟩
def RX7 : String := "SagGates$Told"
def TX7 : u_T := fun k => match k with
  | 0 => ("SagGates$Told", "length", "I", false)
  | 1 => ("SagGates$Told", "height", "I", false)
  | 2 => ("SagGates$Told", "weight", "I", false)
  | 3 => ("SagGates$Told", "lower", "I", false)
  | 4 => ("SagGates$Told", "upper", "I", false)
  | 5 => ("SagGates$Told", "out", "I", false)
  | 6 => ("SagGates$Told", "aside", "I", false)
  | 7 => ("SagGates$Told", "deep", "I", false)
  | 8 => ("SagGates$Told", "thick", "I", false)
  | 9 => ("SagGates$Told", "brace", "I", false)
  | 10 => ("SagGates$Told", "mayRise", "I", false)
  | 11 => ("SagGates$Told", "mayDrop", "I", false)
  | 12 => ("SagGates$Told", "child", "I", false)
  | 13 => ("SagGates$Told", "gap", "I", false)
  | 14 => ("SagGates$Told", "causes", "I", false)
  | 15 => ("SagGates$Told", "parts", "I", false)
  | _ => ("SagGates$Told", "rise", "[I", true)
def tyX7 : Nat → FieldType := fun k => match k with
  | 0 => .int
  | 1 => .int
  | 2 => .int
  | 3 => .int
  | 4 => .int
  | 5 => .int
  | 6 => .int
  | 7 => .int
  | 8 => .int
  | 9 => .int
  | 10 => .int
  | 11 => .int
  | 12 => .int
  | 13 => .int
  | 14 => .int
  | 15 => .int
  | _ => .array .int
abbrev wsX70 : List Cond := u_ws RX7 TX7 17
theorem nmX7 : ∀ a, a < 17 → ∀ b, b < 17 → a ≠ b → (TX7 a).2.1 ≠ (TX7 b).2.1 := by decide +kernel
theorem tyX7_ok : ∀ k, k < 17 → parseFieldDescriptor (TX7 k).2.2.1 = some (tyX7 k) := by decide +kernel
abbrev cX7_init : ByteArray := prog_9_method_1_code
def yX7_init : MethodName := ⟨RX7, "<init>", "()V"⟩
abbrev cX7_clear : ByteArray := prog_9_method_2_code
def yX7_clear : MethodName := ⟨RX7, "clear", "()V"⟩
abbrev cX7_setHeight : ByteArray := prog_9_method_3_code
def yX7_setHeight : MethodName := ⟨RX7, "setHeight", "(I)V"⟩
def RX8 : String := "SagGates$Trials"
def TX8 : u_T := fun k => match k with
  | 0 => ("SagGates$Trials", "behind", "[I", true)
  | 1 => ("SagGates$Trials", "run", "LSagGates$Gate;", true)
  | _ => ("SagGates$Trials", "fitting", "I", false)
def tyX8 : Nat → FieldType := fun k => match k with
  | 0 => .array .int
  | 1 => .object "SagGates$Gate"
  | _ => .int
abbrev wsX80 : List Cond := u_ws RX8 TX8 3
theorem nmX8 : ∀ a, a < 3 → ∀ b, b < 3 → a ≠ b → (TX8 a).2.1 ≠ (TX8 b).2.1 := by decide +kernel
theorem tyX8_ok : ∀ k, k < 3 → parseFieldDescriptor (TX8 k).2.2.1 = some (tyX8 k) := by decide +kernel
abbrev cX8_init : ByteArray := prog_10_method_1_code
def yX8_init : MethodName := ⟨RX8, "<init>", "(LSagGates$Told;)V"⟩
def RX9 : String := "SagGates$Turns"
def TX9 : u_T := fun k => match k with
  | 0 => ("SagGates$Turns", "costs", "[I", true)
  | 1 => ("SagGates$Turns", "order", "[I", true)
  | 2 => ("SagGates$Turns", "best", "[I", true)
  | _ => ("SagGates$Turns", "leastSum", "I", false)
def tyX9 : Nat → FieldType := fun k => match k with
  | 0 => .array .int
  | 1 => .array .int
  | 2 => .array .int
  | _ => .int
abbrev wsX90 : List Cond := u_ws RX9 TX9 4
theorem nmX9 : ∀ a, a < 4 → ∀ b, b < 4 → a ≠ b → (TX9 a).2.1 ≠ (TX9 b).2.1 := by decide +kernel
theorem tyX9_ok : ∀ k, k < 4 → parseFieldDescriptor (TX9 k).2.2.1 = some (tyX9 k) := by decide +kernel
abbrev cX9_init : ByteArray := prog_11_method_1_code
def yX9_init : MethodName := ⟨RX9, "<init>", "()V"⟩
def RX10 : String := "SagGates$Undone"
def TX10 : u_T := fun k => match k with
  | 0 => ("SagGates$Undone", "before", "[LSagGates$Gate;", true)
  | 1 => ("SagGates$Undone", "numbers", "[I", true)
  | _ => ("SagGates$Undone", "count", "I", false)
def tyX10 : Nat → FieldType := fun k => match k with
  | 0 => .array (.object "SagGates$Gate")
  | 1 => .array .int
  | _ => .int
abbrev wsX100 : List Cond := u_ws RX10 TX10 3
theorem nmX10 : ∀ a, a < 3 → ∀ b, b < 3 → a ≠ b → (TX10 a).2.1 ≠ (TX10 b).2.1 := by decide +kernel
theorem tyX10_ok : ∀ k, k < 3 → parseFieldDescriptor (TX10 k).2.2.1 = some (tyX10 k) := by decide +kernel
abbrev cX10_init : ByteArray := prog_12_method_1_code
def yX10_init : MethodName := ⟨RX10, "<init>", "(LSagGates$Told;)V"⟩
abbrev cX10_clear : ByteArray := prog_12_method_2_code
def yX10_clear : MethodName := ⟨RX10, "clear", "()V"⟩
def RX11 : String := "SagGates"
def TX11 : u_T := fun k => match k with
  | 0 => ("SagGates", "tape", "[B", true)
  | 1 => ("SagGates", "taped", "I", false)
  | 2 => ("SagGates", "plan", "LSagGates$Plan;", false)
  | 3 => ("SagGates", "spare", "LSagGates$Plan;", false)
  | 4 => ("SagGates", "reader", "LSagGates$Reader;", true)
  | 5 => ("SagGates", "laws", "LSagGates$Laws;", true)
  | 6 => ("SagGates", "untold", "LSagGates$Told;", true)
  | 7 => ("SagGates", "gates", "[LSagGates$Gate;", true)
  | 8 => ("SagGates", "next", "I", false)
  | 9 => ("SagGates", "image", "[LSagGates$Gate;", true)
  | 10 => ("SagGates", "imageNext", "I", false)
  | 11 => ("SagGates", "undone", "LSagGates$Undone;", true)
  | 12 => ("SagGates", "notes", "LSagGates$Notes;", true)
  | 13 => ("SagGates", "trials", "LSagGates$Trials;", true)
  | 14 => ("SagGates", "trial", "LSagGates$Gate;", true)
  | _ => ("SagGates", "turns", "LSagGates$Turns;", true)
def tyX11 : Nat → FieldType := fun k => match k with
  | 0 => .array .byte
  | 1 => .int
  | 2 => .object "SagGates$Plan"
  | 3 => .object "SagGates$Plan"
  | 4 => .object "SagGates$Reader"
  | 5 => .object "SagGates$Laws"
  | 6 => .object "SagGates$Told"
  | 7 => .array (.object "SagGates$Gate")
  | 8 => .int
  | 9 => .array (.object "SagGates$Gate")
  | 10 => .int
  | 11 => .object "SagGates$Undone"
  | 12 => .object "SagGates$Notes"
  | 13 => .object "SagGates$Trials"
  | 14 => .object "SagGates$Gate"
  | _ => .object "SagGates$Turns"
abbrev wsX110 : List Cond := u_ws RX11 TX11 16
theorem nmX11 : ∀ a, a < 16 → ∀ b, b < 16 → a ≠ b → (TX11 a).2.1 ≠ (TX11 b).2.1 := by decide +kernel
theorem tyX11_ok : ∀ k, k < 16 → parseFieldDescriptor (TX11 k).2.2.1 = some (tyX11 k) := by decide +kernel
abbrev cX11_init : ByteArray := prog_1_method_1_code
def yX11_init : MethodName := ⟨RX11, "<init>", "()V"⟩
abbrev cX11_feed : ByteArray := prog_1_method_2_code
def yX11_feed : MethodName := ⟨RX11, "feed", "(IIIII)I"⟩
abbrev cX11_putOnTape : ByteArray := prog_1_method_3_code
def yX11_putOnTape : MethodName := ⟨RX11, "putOnTape", "(I)V"⟩
abbrev cX11_text : ByteArray := prog_1_method_4_code
def yX11_text : MethodName := ⟨RX11, "text", "(I)I"⟩
abbrev cX11_takeSpare : ByteArray := prog_1_method_5_code
def yX11_takeSpare : MethodName := ⟨RX11, "takeSpare", "()V"⟩
abbrev cX11_fault : ByteArray := prog_1_method_6_code
def yX11_fault : MethodName := ⟨RX11, "fault", "(I)I"⟩
abbrev cX11_named : ByteArray := prog_1_method_7_code
def yX11_named : MethodName := ⟨RX11, "named", "(II)I"⟩
abbrev cX11_placeOf : ByteArray := prog_1_method_8_code
def yX11_placeOf : MethodName := ⟨RX11, "placeOf", "(I[II)I"⟩
abbrev cX11_isGate : ByteArray := prog_1_method_9_code
def yX11_isGate : MethodName := ⟨RX11, "isGate", "(I)Z"⟩
abbrev cX11_isAhead : ByteArray := prog_1_method_11_code
def yX11_isAhead : MethodName := ⟨RX11, "isAhead", "(I)Z"⟩
abbrev cX11_isWeek : ByteArray := prog_1_method_13_code
def yX11_isWeek : MethodName := ⟨RX11, "isWeek", "(I)Z"⟩
abbrev cX11_look : ByteArray := prog_1_method_14_code
def yX11_look : MethodName := ⟨RX11, "look", "(II)I"⟩
abbrev cX11_works : ByteArray := prog_1_method_15_code
def yX11_works : MethodName := ⟨RX11, "works", "(II)I"⟩
abbrev cX11_firm : ByteArray := prog_1_method_16_code
def yX11_firm : MethodName := ⟨RX11, "firm", "(I)I"⟩
abbrev cX11_weeks : ByteArray := prog_1_method_17_code
def yX11_weeks : MethodName := ⟨RX11, "weeks", "(I)I"⟩
abbrev cX11_sags : ByteArray := prog_1_method_18_code
def yX11_sags : MethodName := ⟨RX11, "sags", "(II)I"⟩
abbrev cX11_latched : ByteArray := prog_1_method_19_code
def yX11_latched : MethodName := ⟨RX11, "latched", "(I)I"⟩
abbrev cX11_gives : ByteArray := prog_1_method_20_code
def yX11_gives : MethodName := ⟨RX11, "gives", "(I)I"⟩
abbrev cX11_work : ByteArray := prog_1_method_21_code
def yX11_work : MethodName := ⟨RX11, "work", "(II)Z"⟩
abbrev cX11_undo : ByteArray := prog_1_method_22_code
def yX11_undo : MethodName := ⟨RX11, "undo", "()I"⟩
abbrev cX11_lasts : ByteArray := prog_1_method_23_code
def yX11_lasts : MethodName := ⟨RX11, "lasts", "(II)I"⟩
abbrev cX11_least : ByteArray := prog_1_method_24_code
def yX11_least : MethodName := ⟨RX11, "least", "(IIII)I"⟩
abbrev cX11_way : ByteArray := prog_1_method_26_code
def yX11_way : MethodName := ⟨RX11, "way", "(II)I"⟩
abbrev cX11_enough : ByteArray := prog_1_method_28_code
def yX11_enough : MethodName := ⟨RX11, "enough", "(III)I"⟩
abbrev cX11_bears : ByteArray := prog_1_method_29_code
def yX11_bears : MethodName := ⟨RX11, "bears", "(III)I"⟩
abbrev cX11_knock : ByteArray := prog_1_method_30_code
def yX11_knock : MethodName := ⟨RX11, "knock", "(II)J"⟩
abbrev cX11_measure : ByteArray := prog_1_method_31_code
def yX11_measure : MethodName := ⟨RX11, "measure", "(IIIII)I"⟩
abbrev cX11_strike : ByteArray := prog_1_method_32_code
def yX11_strike : MethodName := ⟨RX11, "strike", "(I)I"⟩
abbrev cX11_known : ByteArray := prog_1_method_33_code
def yX11_known : MethodName := ⟨RX11, "known", "(I)Z"⟩
abbrev cX11_fits : ByteArray := prog_1_method_34_code
def yX11_fits : MethodName := ⟨RX11, "fits", "(I)I"⟩
abbrev cX11_odds : ByteArray := prog_1_method_35_code
def yX11_odds : MethodName := ⟨RX11, "odds", "(III)I"⟩
abbrev cX11_test : ByteArray := prog_1_method_36_code
def yX11_test : MethodName := ⟨RX11, "test", "(II)I"⟩
abbrev cX11_low : ByteArray := prog_1_method_37_code
def yX11_low : MethodName := ⟨RX11, "low", "(II)I"⟩
abbrev cX11_rest : ByteArray := prog_1_method_38_code
def yX11_rest : MethodName := ⟨RX11, "rest", "(I)I"⟩
abbrev cX11_shuts : ByteArray := prog_1_method_39_code
def yX11_shuts : MethodName := ⟨RX11, "shuts", "(I)I"⟩
abbrev cX11_above : ByteArray := prog_1_method_40_code
def yX11_above : MethodName := ⟨RX11, "above", "(II)I"⟩
abbrev cX11_opens : ByteArray := prog_1_method_41_code
def yX11_opens : MethodName := ⟨RX11, "opens", "(I)I"⟩
abbrev cX11_stand : ByteArray := prog_1_method_42_code
def yX11_stand : MethodName := ⟨RX11, "stand", "(III)I"⟩
abbrev cX11_first : ByteArray := prog_1_method_43_code
def yX11_first : MethodName := ⟨RX11, "first", "(II)I"⟩
abbrev cX11_wind : ByteArray := prog_1_method_45_code
def yX11_wind : MethodName := ⟨RX11, "wind", "(IIIII)I"⟩
abbrev cX11_keep : ByteArray := prog_1_method_46_code
def yX11_keep : MethodName := ⟨RX11, "keep", "()I"⟩
abbrev cX11_back : ByteArray := prog_1_method_47_code
def yX11_back : MethodName := ⟨RX11, "back", "()I"⟩
abbrev cX11_count : ByteArray := prog_1_method_48_code
def yX11_count : MethodName := ⟨RX11, "count", "(I)I"⟩
abbrev cX11_costOfAllDone : ByteArray := prog_1_method_49_code
def yX11_costOfAllDone : MethodName := ⟨RX11, "costOfAllDone", "()I"⟩
def RX12 : String := "SagGatesModel"
def TX12 : u_T := fun k => match k with
  | 0 => ("SagGatesModel", "tape", "[I", true)
  | 1 => ("SagGatesModel", "tapeSize", "I", false)
  | 2 => ("SagGatesModel", "thrown", "I", false)
  | 3 => ("SagGatesModel", "words", "[I", true)
  | 4 => ("SagGatesModel", "fault", "I", false)
  | 5 => ("SagGatesModel", "faultPlace", "I", false)
  | 6 => ("SagGatesModel", "stop", "I", false)
  | 7 => ("SagGatesModel", "next", "I", false)
  | 8 => ("SagGatesModel", "kind", "I", false)
  | 9 => ("SagGatesModel", "which", "I", false)
  | 10 => ("SagGatesModel", "at", "I", false)
  | 11 => ("SagGatesModel", "got", "I", false)
  | 12 => ("SagGatesModel", "gates", "I", false)
  | 13 => ("SagGatesModel", "works", "I", false)
  | 14 => ("SagGatesModel", "causes", "I", false)
  | 15 => ("SagGatesModel", "knots", "I", false)
  | 16 => ("SagGatesModel", "gatesRead", "I", false)
  | 17 => ("SagGatesModel", "worksRead", "I", false)
  | 18 => ("SagGatesModel", "causesRead", "I", false)
  | 19 => ("SagGatesModel", "knotsRead", "I", false)
  | 20 => ("SagGatesModel", "groundTold", "Z", false)
  | 21 => ("SagGatesModel", "ground", "[I", true)
  | 22 => ("SagGatesModel", "lawFirst", "[I", true)
  | 23 => ("SagGatesModel", "lawLast", "[I", true)
  | 24 => ("SagGatesModel", "lawTold", "[Z", true)
  | 25 => ("SagGatesModel", "gateName", "[I", true)
  | 26 => ("SagGatesModel", "gateHas", "[I", true)
  | 27 => ("SagGatesModel", "rise", "[I", true)
  | 28 => ("SagGatesModel", "workName", "[I", true)
  | 29 => ("SagGatesModel", "workHas", "[I", true)
  | 30 => ("SagGatesModel", "causeName", "[I", true)
  | 31 => ("SagGatesModel", "causeHas", "[I", true)
  | 32 => ("SagGatesModel", "knot", "[I", true)
  | 33 => ("SagGatesModel", "part", "[I", true)
  | 34 => ("SagGatesModel", "other", "[I", true)
  | 35 => ("SagGatesModel", "wait", "[I", true)
  | 36 => ("SagGatesModel", "held", "[I", true)
  | 37 => ("SagGatesModel", "waits", "I", false)
  | 38 => ("SagGatesModel", "helds", "I", false)
  | 39 => ("SagGatesModel", "brackets", "I", false)
  | 40 => ("SagGatesModel", "counted", "I", false)
  | 41 => ("SagGatesModel", "wants", "Z", false)
  | 42 => ("SagGatesModel", "mayNot", "Z", false)
  | 43 => ("SagGatesModel", "week", "I", false)
  | 44 => ("SagGatesModel", "state", "[I", true)
  | 45 => ("SagGatesModel", "now", "[I", true)
  | 46 => ("SagGatesModel", "names", "[J", true)
  | 47 => ("SagGatesModel", "value", "[J", true)
  | 48 => ("SagGatesModel", "isError", "Z", false)
  | 49 => ("SagGatesModel", "grows", "[J", true)
  | 50 => ("SagGatesModel", "undos", "I", false)
  | 51 => ("SagGatesModel", "undo", "[I", true)
  | 52 => ("SagGatesModel", "measures", "I", false)
  | 53 => ("SagGatesModel", "seenBy", "I", false)
  | 54 => ("SagGatesModel", "readGate", "[I", true)
  | 55 => ("SagGatesModel", "readWeek", "[I", true)
  | 56 => ("SagGatesModel", "readWhat", "[I", true)
  | 57 => ("SagGatesModel", "readLow", "[I", true)
  | 58 => ("SagGatesModel", "readHigh", "[I", true)
  | 59 => ("SagGatesModel", "counts", "[Z", true)
  | 60 => ("SagGatesModel", "tells", "[I", true)
  | 61 => ("SagGatesModel", "cosines", "[I", true)
  | 62 => ("SagGatesModel", "sines", "[I", true)
  | 63 => ("SagGatesModel", "order", "[I", true)
  | 64 => ("SagGatesModel", "bestOrder", "[I", true)
  | 65 => ("SagGatesModel", "tried", "[I", true)
  | 66 => ("SagGatesModel", "hasImage", "Z", false)
  | 67 => ("SagGatesModel", "keptWeek", "I", false)
  | _ => ("SagGatesModel", "keptState", "[I", true)
def tyX12 : Nat → FieldType := fun k => match k with
  | 0 => .array .int
  | 1 => .int
  | 2 => .int
  | 3 => .array .int
  | 4 => .int
  | 5 => .int
  | 6 => .int
  | 7 => .int
  | 8 => .int
  | 9 => .int
  | 10 => .int
  | 11 => .int
  | 12 => .int
  | 13 => .int
  | 14 => .int
  | 15 => .int
  | 16 => .int
  | 17 => .int
  | 18 => .int
  | 19 => .int
  | 20 => .boolean
  | 21 => .array .int
  | 22 => .array .int
  | 23 => .array .int
  | 24 => .array .boolean
  | 25 => .array .int
  | 26 => .array .int
  | 27 => .array .int
  | 28 => .array .int
  | 29 => .array .int
  | 30 => .array .int
  | 31 => .array .int
  | 32 => .array .int
  | 33 => .array .int
  | 34 => .array .int
  | 35 => .array .int
  | 36 => .array .int
  | 37 => .int
  | 38 => .int
  | 39 => .int
  | 40 => .int
  | 41 => .boolean
  | 42 => .boolean
  | 43 => .int
  | 44 => .array .int
  | 45 => .array .int
  | 46 => .array .long
  | 47 => .array .long
  | 48 => .boolean
  | 49 => .array .long
  | 50 => .int
  | 51 => .array .int
  | 52 => .int
  | 53 => .int
  | 54 => .array .int
  | 55 => .array .int
  | 56 => .array .int
  | 57 => .array .int
  | 58 => .array .int
  | 59 => .array .boolean
  | 60 => .array .int
  | 61 => .array .int
  | 62 => .array .int
  | 63 => .array .int
  | 64 => .array .int
  | 65 => .array .int
  | 66 => .boolean
  | 67 => .int
  | _ => .array .int
abbrev wsX120 : List Cond := u_ws RX12 TX12 69
theorem nmX12 : ∀ a, a < 69 → ∀ b, b < 69 → a ≠ b → (TX12 a).2.1 ≠ (TX12 b).2.1 := by decide +kernel
theorem tyX12_ok : ∀ k, k < 69 → parseFieldDescriptor (TX12 k).2.2.1 = some (tyX12 k) := by decide +kernel
abbrev cX12_init : ByteArray := prog_14_method_1_code
def yX12_init : MethodName := ⟨RX12, "<init>", "()V"⟩
abbrev cX12_thrown : ByteArray := prog_14_method_2_code
def yX12_thrown : MethodName := ⟨RX12, "thrown", "()I"⟩
abbrev cX12_feed : ByteArray := prog_14_method_3_code
def yX12_feed : MethodName := ⟨RX12, "feed", "(IIIII)I"⟩
abbrev cX12_isIn : ByteArray := prog_14_method_4_code
def yX12_isIn : MethodName := ⟨RX12, "isIn", "(III)Z"⟩
abbrev cX12_token : ByteArray := prog_14_method_11_code
def yX12_token : MethodName := ⟨RX12, "token", "()V"⟩
abbrev cX12_plain : ByteArray := prog_14_method_19_code
def yX12_plain : MethodName := ⟨RX12, "plain", "()V"⟩
abbrev cX12_copies : ByteArray := prog_14_method_20_code
def yX12_copies : MethodName := ⟨RX12, "copies", "([II)V"⟩
abbrev cX12_keepText : ByteArray := prog_14_method_21_code
def yX12_keepText : MethodName := ⟨RX12, "keepText", "()V"⟩
abbrev cX12_find : ByteArray := prog_14_method_22_code
def yX12_find : MethodName := ⟨RX12, "find", "([IIII)I"⟩
abbrev cX12_text : ByteArray := prog_14_method_36_code
def yX12_text : MethodName := ⟨RX12, "text", "(I)I"⟩
abbrev cX12_fault : ByteArray := prog_14_method_37_code
def yX12_fault : MethodName := ⟨RX12, "fault", "(I)I"⟩
abbrev cX12_named : ByteArray := prog_14_method_38_code
def yX12_named : MethodName := ⟨RX12, "named", "(II)I"⟩
abbrev cX12_lays : ByteArray := prog_14_method_48_code
def yX12_lays : MethodName := ⟨RX12, "lays", "([II[II)V"⟩
abbrev cX12_begins : ByteArray := prog_14_method_49_code
def yX12_begins : MethodName := ⟨RX12, "begins", "(I)V"⟩
abbrev cX12_firmOf : ByteArray := prog_14_method_55_code
def yX12_firmOf : MethodName := ⟨RX12, "firmOf", "(I)I"⟩
abbrev cX12_isGate : ByteArray := prog_14_method_64_code
def yX12_isGate : MethodName := ⟨RX12, "isGate", "(I)Z"⟩
abbrev cX12_fails : ByteArray := prog_14_method_65_code
def yX12_fails : MethodName := ⟨RX12, "fails", "(I)I"⟩
abbrev cX12_look : ByteArray := prog_14_method_66_code
def yX12_look : MethodName := ⟨RX12, "look", "(II)I"⟩
abbrev cX12_works : ByteArray := prog_14_method_67_code
def yX12_works : MethodName := ⟨RX12, "works", "(II)I"⟩
abbrev cX12_firm : ByteArray := prog_14_method_68_code
def yX12_firm : MethodName := ⟨RX12, "firm", "(I)I"⟩
abbrev cX12_weeks : ByteArray := prog_14_method_69_code
def yX12_weeks : MethodName := ⟨RX12, "weeks", "(I)I"⟩
abbrev cX12_sags : ByteArray := prog_14_method_70_code
def yX12_sags : MethodName := ⟨RX12, "sags", "(II)I"⟩
abbrev cX12_latched : ByteArray := prog_14_method_72_code
def yX12_latched : MethodName := ⟨RX12, "latched", "(I)I"⟩
abbrev cX12_gives : ByteArray := prog_14_method_73_code
def yX12_gives : MethodName := ⟨RX12, "gives", "(I)I"⟩
abbrev cX12_work : ByteArray := prog_14_method_75_code
def yX12_work : MethodName := ⟨RX12, "work", "(II)Z"⟩
abbrev cX12_undo : ByteArray := prog_14_method_76_code
def yX12_undo : MethodName := ⟨RX12, "undo", "()I"⟩
abbrev cX12_lasts : ByteArray := prog_14_method_78_code
def yX12_lasts : MethodName := ⟨RX12, "lasts", "(II)I"⟩
abbrev cX12_least : ByteArray := prog_14_method_80_code
def yX12_least : MethodName := ⟨RX12, "least", "(IIII)I"⟩
abbrev cX12_way : ByteArray := prog_14_method_82_code
def yX12_way : MethodName := ⟨RX12, "way", "(II)I"⟩
abbrev cX12_enough : ByteArray := prog_14_method_83_code
def yX12_enough : MethodName := ⟨RX12, "enough", "(III)I"⟩
abbrev cX12_bears : ByteArray := prog_14_method_84_code
def yX12_bears : MethodName := ⟨RX12, "bears", "(III)I"⟩
abbrev cX12_knock : ByteArray := prog_14_method_85_code
def yX12_knock : MethodName := ⟨RX12, "knock", "(II)J"⟩
abbrev cX12_measure : ByteArray := prog_14_method_86_code
def yX12_measure : MethodName := ⟨RX12, "measure", "(IIIII)I"⟩
abbrev cX12_strike : ByteArray := prog_14_method_87_code
def yX12_strike : MethodName := ⟨RX12, "strike", "(I)I"⟩
abbrev cX12_known : ByteArray := prog_14_method_88_code
def yX12_known : MethodName := ⟨RX12, "known", "(I)Z"⟩
abbrev cX12_knownMany : ByteArray := prog_14_method_89_code
def yX12_knownMany : MethodName := ⟨RX12, "knownMany", "()I"⟩
abbrev cX12_fits : ByteArray := prog_14_method_96_code
def yX12_fits : MethodName := ⟨RX12, "fits", "(I)I"⟩
abbrev cX12_odds : ByteArray := prog_14_method_99_code
def yX12_odds : MethodName := ⟨RX12, "odds", "(III)I"⟩
abbrev cX12_test : ByteArray := prog_14_method_101_code
def yX12_test : MethodName := ⟨RX12, "test", "(II)I"⟩
abbrev cX12_low : ByteArray := prog_14_method_104_code
def yX12_low : MethodName := ⟨RX12, "low", "(II)I"⟩
abbrev cX12_rest : ByteArray := prog_14_method_105_code
def yX12_rest : MethodName := ⟨RX12, "rest", "(I)I"⟩
abbrev cX12_shuts : ByteArray := prog_14_method_107_code
def yX12_shuts : MethodName := ⟨RX12, "shuts", "(I)I"⟩
abbrev cX12_above : ByteArray := prog_14_method_109_code
def yX12_above : MethodName := ⟨RX12, "above", "(II)I"⟩
abbrev cX12_opens : ByteArray := prog_14_method_111_code
def yX12_opens : MethodName := ⟨RX12, "opens", "(I)I"⟩
abbrev cX12_stand : ByteArray := prog_14_method_112_code
def yX12_stand : MethodName := ⟨RX12, "stand", "(III)I"⟩
abbrev cX12_first : ByteArray := prog_14_method_116_code
def yX12_first : MethodName := ⟨RX12, "first", "(II)I"⟩
abbrev cX12_wind : ByteArray := prog_14_method_117_code
def yX12_wind : MethodName := ⟨RX12, "wind", "(IIIII)I"⟩
abbrev cX12_keep : ByteArray := prog_14_method_118_code
def yX12_keep : MethodName := ⟨RX12, "keep", "()I"⟩
abbrev cX12_back : ByteArray := prog_14_method_119_code
def yX12_back : MethodName := ⟨RX12, "back", "()I"⟩
abbrev cX12_count : ByteArray := prog_14_method_120_code
def yX12_count : MethodName := ⟨RX12, "count", "(I)I"⟩
def RJx145de : String := "java/io/Serializable"
def TJx145de : u_T := fun k => match k with
  | _ => ("", "", "", false)
def tyJx145de : Nat → FieldType := fun k => match k with
  | _ => .int
theorem nmJx145de : ∀ a, a < 0 → ∀ b, b < 0 → a ≠ b → (TJx145de a).2.1 ≠ (TJx145de b).2.1 := by decide +kernel
theorem tyJx145de_ok : ∀ k, k < 0 → parseFieldDescriptor (TJx145de k).2.2.1 = some (tyJx145de k) := by decide +kernel
def RJx9f9b0 : String := "java/lang/CharSequence"
def TJx9f9b0 : u_T := fun k => match k with
  | _ => ("", "", "", false)
def tyJx9f9b0 : Nat → FieldType := fun k => match k with
  | _ => .int
theorem nmJx9f9b0 : ∀ a, a < 0 → ∀ b, b < 0 → a ≠ b → (TJx9f9b0 a).2.1 ≠ (TJx9f9b0 b).2.1 := by decide +kernel
theorem tyJx9f9b0_ok : ∀ k, k < 0 → parseFieldDescriptor (TJx9f9b0 k).2.2.1 = some (tyJx9f9b0 k) := by decide +kernel
def RJxb160c : String := "java/lang/Comparable"
def TJxb160c : u_T := fun k => match k with
  | _ => ("", "", "", false)
def tyJxb160c : Nat → FieldType := fun k => match k with
  | _ => .int
theorem nmJxb160c : ∀ a, a < 0 → ∀ b, b < 0 → a ≠ b → (TJxb160c a).2.1 ≠ (TJxb160c b).2.1 := by decide +kernel
theorem tyJxb160c_ok : ∀ k, k < 0 → parseFieldDescriptor (TJxb160c k).2.2.1 = some (tyJxb160c k) := by decide +kernel
def RJ6 : String := "java/lang/Integer"
def TJ6 : u_T := fun k => match k with
  | _ => ("", "", "", false)
def tyJ6 : Nat → FieldType := fun k => match k with
  | _ => .int
theorem nmJ6 : ∀ a, a < 0 → ∀ b, b < 0 → a ≠ b → (TJ6 a).2.1 ≠ (TJ6 b).2.1 := by decide +kernel
theorem tyJ6_ok : ∀ k, k < 0 → parseFieldDescriptor (TJ6 k).2.2.1 = some (tyJ6 k) := by decide +kernel
def RJ9 : String := "java/lang/Math"
def TJ9 : u_T := fun k => match k with
  | _ => ("", "", "", false)
def tyJ9 : Nat → FieldType := fun k => match k with
  | _ => .int
theorem nmJ9 : ∀ a, a < 0 → ∀ b, b < 0 → a ≠ b → (TJ9 a).2.1 ≠ (TJ9 b).2.1 := by decide +kernel
theorem tyJ9_ok : ∀ k, k < 0 → parseFieldDescriptor (TJ9 k).2.2.1 = some (tyJ9 k) := by decide +kernel
def RJ0 : String := "java/lang/String"
def TJ0 : u_T := fun k => match k with
  | _ => ("", "", "", false)
def tyJ0 : Nat → FieldType := fun k => match k with
  | _ => .int
theorem nmJ0 : ∀ a, a < 0 → ∀ b, b < 0 → a ≠ b → (TJ0 a).2.1 ≠ (TJ0 b).2.1 := by decide +kernel
theorem tyJ0_ok : ∀ k, k < 0 → parseFieldDescriptor (TJ0 k).2.2.1 = some (tyJ0 k) := by decide +kernel
abbrev cJ0_length_8abf5 : ByteArray := prog_23_method_54_code
def yJ0_length_8abf5 : MethodName := ⟨RJ0, "length", "()I"⟩
abbrev cJ0_charAt_5068e : ByteArray := prog_23_method_56_code
def yJ0_charAt_5068e : MethodName := ⟨RJ0, "charAt", "(I)C"⟩
abbrev cJ0_coder_7d493 : ByteArray := prog_23_method_152_code
def yJ0_coder_7d493 : MethodName := ⟨RJ0, "coder", "()B"⟩
abbrev cJ0_isLatin1_aae02 : ByteArray := prog_23_method_154_code
def yJ0_isLatin1_aae02 : MethodName := ⟨RJ0, "isLatin1", "()Z"⟩
abbrev cJ0_checkIndex_df160 : ByteArray := prog_23_method_155_code
def yJ0_checkIndex_df160 : MethodName := ⟨RJ0, "checkIndex", "(II)V"⟩
def RJ1 : String := "java/lang/StringLatin1"
def TJ1 : u_T := fun k => match k with
  | _ => ("", "", "", false)
def tyJ1 : Nat → FieldType := fun k => match k with
  | _ => .int
theorem nmJ1 : ∀ a, a < 0 → ∀ b, b < 0 → a ≠ b → (TJ1 a).2.1 ≠ (TJ1 b).2.1 := by decide +kernel
theorem tyJ1_ok : ∀ k, k < 0 → parseFieldDescriptor (TJ1 k).2.2.1 = some (tyJ1 k) := by decide +kernel
abbrev cJ1_charAt_3b067 : ByteArray := prog_24_method_2_code
def yJ1_charAt_3b067 : MethodName := ⟨RJ1, "charAt", "([BI)C"⟩
def RJ2 : String := "java/lang/StringUTF16"
def TJ2 : u_T := fun k => match k with
  | _ => ("", "", "", false)
def tyJ2 : Nat → FieldType := fun k => match k with
  | _ => .int
theorem nmJ2 : ∀ a, a < 0 → ∀ b, b < 0 → a ≠ b → (TJ2 a).2.1 ≠ (TJ2 b).2.1 := by decide +kernel
theorem tyJ2_ok : ∀ k, k < 0 → parseFieldDescriptor (TJ2 k).2.2.1 = some (tyJ2 k) := by decide +kernel
def RJxfd54e : String := "java/lang/constant/Constable"
def TJxfd54e : u_T := fun k => match k with
  | _ => ("", "", "", false)
def tyJxfd54e : Nat → FieldType := fun k => match k with
  | _ => .int
theorem nmJxfd54e : ∀ a, a < 0 → ∀ b, b < 0 → a ≠ b → (TJxfd54e a).2.1 ≠ (TJxfd54e b).2.1 := by decide +kernel
theorem tyJxfd54e_ok : ∀ k, k < 0 → parseFieldDescriptor (TJxfd54e k).2.2.1 = some (tyJxfd54e k) := by decide +kernel
def RJx3cf43 : String := "java/lang/constant/ConstantDesc"
def TJx3cf43 : u_T := fun k => match k with
  | _ => ("", "", "", false)
def tyJx3cf43 : Nat → FieldType := fun k => match k with
  | _ => .int
theorem nmJx3cf43 : ∀ a, a < 0 → ∀ b, b < 0 → a ≠ b → (TJx3cf43 a).2.1 ≠ (TJx3cf43 b).2.1 := by decide +kernel
theorem tyJx3cf43_ok : ∀ k, k < 0 → parseFieldDescriptor (TJx3cf43 k).2.2.1 = some (tyJx3cf43 k) := by decide +kernel
def RJ3 : String := "jdk/internal/util/Preconditions"
def TJ3 : u_T := fun k => match k with
  | _ => ("", "", "", false)
def tyJ3 : Nat → FieldType := fun k => match k with
  | _ => .int
theorem nmJ3 : ∀ a, a < 0 → ∀ b, b < 0 → a ≠ b → (TJ3 a).2.1 ≠ (TJ3 b).2.1 := by decide +kernel
theorem tyJ3_ok : ∀ k, k < 0 → parseFieldDescriptor (TJ3 k).2.2.1 = some (tyJ3 k) := by decide +kernel
abbrev cJ3_checkIndex_8e157 : ByteArray := prog_30_method_11_code
def yJ3_checkIndex_8e157 : MethodName := ⟨RJ3, "checkIndex", "(IILjava/util/function/BiFunction;)I"⟩
def RL : String := "SagGatesLaw"
abbrev cL_look : ByteArray := method_3_code
def yL_look : MethodName := ⟨RL, "look", "(LSagGates;II[J)I"⟩
abbrev cL_law : ByteArray := code
def yL_law : MethodName := ⟨RL, "law", "([I)Z"⟩
abbrev vwCl : List vw_C := [(RX0, TX0, 8), (RX1, TX1, 17), (RX2, TX2, 5), (RX3, TX3, 11), (RX4, TX4, 20), (RX5, TX5, 6), (RX6, TX6, 7), (RX7, TX7, 17), (RX8, TX8, 3), (RX9, TX9, 4), (RX10, TX10, 3), (RX11, TX11, 16), (RX12, TX12, 69)]
