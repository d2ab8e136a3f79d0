/-! ===== BEGIN words of one list among another's, by their places ===== -/
theorem goodIn_r {big : List Cond} (ws : List Cond) (ps : List Nat) (hp : ws = ps.filterMap (fun i => big[i]?)) (h : ws.all goodWord = true) : GoodIn big ws := by
  intro w hw
  have h1 := List.all_eq_true.mp h w hw
  rw [hp] at hw
  obtain ⟨i, -, hi⟩ := List.mem_filterMap.mp hw
  have hm : w ∈ big := by first | exact List.mem_of_getElem? hi | exact List.getElem?_mem hi
  exact ⟨hm, good_of_word h1⟩
theorem goodIn_app {big a b : List Cond} (ha : GoodIn big a) (hb : GoodIn big b) : GoodIn big (a ++ b) := fun w h => (List.mem_append.mp h).elim (ha w) (hb w)
theorem goodIn_ca {big a b : List Cond} {c : Cond} (ha : GoodIn big (c :: a)) (hb : GoodIn big b) : GoodIn big (c :: (a ++ b)) := fun w h => (List.mem_cons.mp h).elim (fun e => ha w (List.mem_cons.mpr (Or.inl e))) (fun h => (List.mem_append.mp h).elim (fun h => ha w (List.mem_cons.mpr (Or.inr h))) (hb w))
theorem goodIn_sub {big ws : List Cond} (hm : ∀ w ∈ ws, w ∈ big) (h : ws.all goodWord = true) : GoodIn big ws := fun w hw => ⟨hm w hw, good_of_word (List.all_eq_true.mp h w hw)⟩
/-! ===== END ===== -/

/-! ===== BEGIN printed: names, fields, word lists, decode rows ===== -/
def RX0 : String := "ShareGraph$Best"
def TX0 : u_T := fun k => match k with
  | 0 => ("ShareGraph$Best", "tried", "[I", true)
  | 1 => ("ShareGraph$Best", "chosen", "[I", true)
  | 2 => ("ShareGraph$Best", "partWeights", "[I", true)
  | 3 => ("ShareGraph$Best", "leastDebts", "I", false)
  | _ => ("ShareGraph$Best", "leastCut", "I", false)
def tyX0 : Nat → FieldType := fun k => match k with
  | 0 => .array .int
  | 1 => .array .int
  | 2 => .array .int
  | 3 => .int
  | _ => .int
abbrev wsX00 : List Cond := u_ws RX0 TX0 5
theorem nmX0 : ∀ a, a < 5 → ∀ b, b < 5 → a ≠ b → (TX0 a).2.1 ≠ (TX0 b).2.1 := by decide +kernel
theorem tyX0_ok : ∀ k, k < 5 → parseFieldDescriptor (TX0 k).2.2.1 = some (tyX0 k) := by decide +kernel
abbrev cX0_init : ByteArray := prog_2_method_1_code
def yX0_init : MethodName := ⟨RX0, "<init>", "()V"⟩
abbrev cX0_search : ByteArray := prog_2_method_2_code
def yX0_search : MethodName := ⟨RX0, "search", "(LShareGraph$Measures;LShareGraph$Pairs;)V"⟩
abbrev cX0_triedDebts : ByteArray := prog_2_method_3_code
def yX0_triedDebts : MethodName := ⟨RX0, "triedDebts", "(LShareGraph$Measures;)I"⟩
abbrev cX0_triedCut : ByteArray := prog_2_method_4_code
def yX0_triedCut : MethodName := ⟨RX0, "triedCut", "(ILShareGraph$Pairs;)I"⟩
abbrev cX0_advance : ByteArray := prog_2_method_5_code
def yX0_advance : MethodName := ⟨RX0, "advance", "(LShareGraph$Measures;)Z"⟩
abbrev cX0_highestBefore : ByteArray := prog_2_method_6_code
def yX0_highestBefore : MethodName := ⟨RX0, "highestBefore", "(I)I"⟩
def RX1 : String := "ShareGraph$Flows"
def TX1 : u_T := fun k => match k with
  | 0 => ("ShareGraph$Flows", "rooms", "[I", true)
  | 1 => ("ShareGraph$Flows", "waiting", "[I", true)
  | 2 => ("ShareGraph$Flows", "before", "[I", true)
  | 3 => ("ShareGraph$Flows", "vertices", "I", false)
  | 4 => ("ShareGraph$Flows", "total", "I", false)
  | _ => ("ShareGraph$Flows", "reached", "I", false)
def tyX1 : Nat → FieldType := fun k => match k with
  | 0 => .array .int
  | 1 => .array .int
  | 2 => .array .int
  | 3 => .int
  | 4 => .int
  | _ => .int
abbrev wsX10 : List Cond := u_ws RX1 TX1 6
theorem nmX1 : ∀ a, a < 6 → ∀ b, b < 6 → a ≠ b → (TX1 a).2.1 ≠ (TX1 b).2.1 := by decide +kernel
theorem tyX1_ok : ∀ k, k < 6 → parseFieldDescriptor (TX1 k).2.2.1 = some (tyX1 k) := by decide +kernel
abbrev cX1_init : ByteArray := prog_3_method_1_code
def yX1_init : MethodName := ⟨RX1, "<init>", "()V"⟩
abbrev cX1_run : ByteArray := prog_3_method_2_code
def yX1_run : MethodName := ⟨RX1, "run", "(LShareGraph$Graph;II)V"⟩
abbrev cX1_fillRooms : ByteArray := prog_3_method_3_code
def yX1_fillRooms : MethodName := ⟨RX1, "fillRooms", "(LShareGraph$Graph;)V"⟩
abbrev cX1_findWay : ByteArray := prog_3_method_4_code
def yX1_findWay : MethodName := ⟨RX1, "findWay", "(II)Z"⟩
abbrev cX1_useWay : ByteArray := prog_3_method_5_code
def yX1_useWay : MethodName := ⟨RX1, "useWay", "(II)I"⟩
def RX2 : String := "ShareGraph$Graph"
def TX2 : u_T := fun k => match k with
  | 0 => ("ShareGraph$Graph", "vertices", "I", false)
  | 1 => ("ShareGraph$Graph", "edges", "I", false)
  | 2 => ("ShareGraph$Graph", "parts", "I", false)
  | 3 => ("ShareGraph$Graph", "slack", "I", false)
  | 4 => ("ShareGraph$Graph", "credit", "I", false)
  | 5 => ("ShareGraph$Graph", "vertexSum", "I", false)
  | 6 => ("ShareGraph$Graph", "edgeSum", "I", false)
  | 7 => ("ShareGraph$Graph", "names", "[J", true)
  | 8 => ("ShareGraph$Graph", "weights", "[I", true)
  | 9 => ("ShareGraph$Graph", "firsts", "[I", true)
  | 10 => ("ShareGraph$Graph", "seconds", "[I", true)
  | _ => ("ShareGraph$Graph", "edgeWeights", "[I", true)
def tyX2 : Nat → FieldType := fun k => match k with
  | 0 => .int
  | 1 => .int
  | 2 => .int
  | 3 => .int
  | 4 => .int
  | 5 => .int
  | 6 => .int
  | 7 => .array .long
  | 8 => .array .int
  | 9 => .array .int
  | 10 => .array .int
  | _ => .array .int
abbrev wsX20 : List Cond := u_ws RX2 TX2 12
theorem nmX2 : ∀ a, a < 12 → ∀ b, b < 12 → a ≠ b → (TX2 a).2.1 ≠ (TX2 b).2.1 := by decide +kernel
theorem tyX2_ok : ∀ k, k < 12 → parseFieldDescriptor (TX2 k).2.2.1 = some (tyX2 k) := by decide +kernel
abbrev cX2_init : ByteArray := prog_4_method_1_code
def yX2_init : MethodName := ⟨RX2, "<init>", "()V"⟩
abbrev cX2_clear : ByteArray := prog_4_method_2_code
def yX2_clear : MethodName := ⟨RX2, "clear", "()V"⟩
abbrev cX2_copyFrom : ByteArray := prog_4_method_3_code
def yX2_copyFrom : MethodName := ⟨RX2, "copyFrom", "(LShareGraph$Graph;)V"⟩
abbrev cX2_addVertex : ByteArray := prog_4_method_4_code
def yX2_addVertex : MethodName := ⟨RX2, "addVertex", "(JI)V"⟩
abbrev cX2_addEdge : ByteArray := prog_4_method_5_code
def yX2_addEdge : MethodName := ⟨RX2, "addEdge", "(III)V"⟩
abbrev cX2_nameOf : ByteArray := prog_4_method_6_code
def yX2_nameOf : MethodName := ⟨RX2, "nameOf", "(I)J"⟩
abbrev cX2_vertexNamed : ByteArray := prog_4_method_7_code
def yX2_vertexNamed : MethodName := ⟨RX2, "vertexNamed", "(J)I"⟩
abbrev cX2_edgeOf : ByteArray := prog_4_method_8_code
def yX2_edgeOf : MethodName := ⟨RX2, "edgeOf", "(II)I"⟩
abbrev cX2_endsOf : ByteArray := prog_4_method_9_code
def yX2_endsOf : MethodName := ⟨RX2, "endsOf", "(I)I"⟩
abbrev cX2_limit : ByteArray := prog_4_method_10_code
def yX2_limit : MethodName := ⟨RX2, "limit", "()I"⟩
abbrev cX2_spread : ByteArray := prog_4_method_11_code
def yX2_spread : MethodName := ⟨RX2, "spread", "(II)I"⟩
abbrev cX2_pieces : ByteArray := prog_4_method_12_code
def yX2_pieces : MethodName := ⟨RX2, "pieces", "(I)I"⟩
abbrev cX2_largestPiece : ByteArray := prog_4_method_13_code
def yX2_largestPiece : MethodName := ⟨RX2, "largestPiece", "()I"⟩
def RX3 : String := "ShareGraph$History"
def TX3 : u_T := fun k => match k with
  | 0 => ("ShareGraph$History", "kept", "[LShareGraph$Sharing;", true)
  | 1 => ("ShareGraph$History", "newest", "I", false)
  | _ => ("ShareGraph$History", "count", "I", false)
def tyX3 : Nat → FieldType := fun k => match k with
  | 0 => .array (.object "ShareGraph$Sharing")
  | 1 => .int
  | _ => .int
abbrev wsX30 : List Cond := u_ws RX3 TX3 3
theorem nmX3 : ∀ a, a < 3 → ∀ b, b < 3 → a ≠ b → (TX3 a).2.1 ≠ (TX3 b).2.1 := by decide +kernel
theorem tyX3_ok : ∀ k, k < 3 → parseFieldDescriptor (TX3 k).2.2.1 = some (tyX3 k) := by decide +kernel
abbrev cX3_init : ByteArray := prog_5_method_1_code
def yX3_init : MethodName := ⟨RX3, "<init>", "()V"⟩
abbrev cX3_forget : ByteArray := prog_5_method_2_code
def yX3_forget : MethodName := ⟨RX3, "forget", "()V"⟩
abbrev cX3_keep : ByteArray := prog_5_method_3_code
def yX3_keep : MethodName := ⟨RX3, "keep", "(LShareGraph$Sharing;)V"⟩
abbrev cX3_takeBack : ByteArray := prog_5_method_4_code
def yX3_takeBack : MethodName := ⟨RX3, "takeBack", "(LShareGraph$Sharing;)Z"⟩
abbrev cX3_entry : ByteArray := prog_5_method_5_code
def yX3_entry : MethodName := ⟨RX3, "entry", "(I)LShareGraph$Sharing;"⟩
def RX4 : String := "ShareGraph$Measures"
def TX4 : u_T := fun k => match k with
  | 0 => ("ShareGraph$Measures", "groups", "I", false)
  | 1 => ("ShareGraph$Measures", "parts", "I", false)
  | 2 => ("ShareGraph$Measures", "limit", "I", false)
  | 3 => ("ShareGraph$Measures", "credit", "I", false)
  | 4 => ("ShareGraph$Measures", "debtSum", "I", false)
  | 5 => ("ShareGraph$Measures", "cutWeight", "I", false)
  | 6 => ("ShareGraph$Measures", "groupSets", "[I", true)
  | 7 => ("ShareGraph$Measures", "groupWeights", "[I", true)
  | 8 => ("ShareGraph$Measures", "groupParts", "[I", true)
  | 9 => ("ShareGraph$Measures", "partSets", "[I", true)
  | 10 => ("ShareGraph$Measures", "partWeights", "[I", true)
  | _ => ("ShareGraph$Measures", "pulls", "[I", true)
def tyX4 : Nat → FieldType := fun k => match k with
  | 0 => .int
  | 1 => .int
  | 2 => .int
  | 3 => .int
  | 4 => .int
  | 5 => .int
  | 6 => .array .int
  | 7 => .array .int
  | 8 => .array .int
  | 9 => .array .int
  | 10 => .array .int
  | _ => .array .int
abbrev wsX40 : List Cond := u_ws RX4 TX4 12
theorem nmX4 : ∀ a, a < 12 → ∀ b, b < 12 → a ≠ b → (TX4 a).2.1 ≠ (TX4 b).2.1 := by decide +kernel
theorem tyX4_ok : ∀ k, k < 12 → parseFieldDescriptor (TX4 k).2.2.1 = some (tyX4 k) := by decide +kernel
abbrev cX4_init : ByteArray := prog_6_method_1_code
def yX4_init : MethodName := ⟨RX4, "<init>", "()V"⟩
abbrev cX4_take : ByteArray := prog_6_method_2_code
def yX4_take : MethodName := ⟨RX4, "take", "(LShareGraph$Graph;LShareGraph$Sharing;)V"⟩
abbrev cX4_takeVertices : ByteArray := prog_6_method_3_code
def yX4_takeVertices : MethodName := ⟨RX4, "takeVertices", "(LShareGraph$Graph;LShareGraph$Sharing;)V"⟩
abbrev cX4_takeEdges : ByteArray := prog_6_method_4_code
def yX4_takeEdges : MethodName := ⟨RX4, "takeEdges", "(LShareGraph$Graph;LShareGraph$Sharing;)V"⟩
abbrev cX4_debtAt : ByteArray := prog_6_method_5_code
def yX4_debtAt : MethodName := ⟨RX4, "debtAt", "(I)I"⟩
abbrev cX4_pullOfAll : ByteArray := prog_6_method_7_code
def yX4_pullOfAll : MethodName := ⟨RX4, "pullOfAll", "(I)I"⟩
abbrev cX4_gainOf : ByteArray := prog_6_method_8_code
def yX4_gainOf : MethodName := ⟨RX4, "gainOf", "(II)I"⟩
abbrev cX4_debtsWith : ByteArray := prog_6_method_9_code
def yX4_debtsWith : MethodName := ⟨RX4, "debtsWith", "(II)I"⟩
abbrev cX4_reasonAgainst : ByteArray := prog_6_method_10_code
def yX4_reasonAgainst : MethodName := ⟨RX4, "reasonAgainst", "(II)I"⟩
abbrev cX4_isTooMuch : ByteArray := prog_6_method_11_code
def yX4_isTooMuch : MethodName := ⟨RX4, "isTooMuch", "(I)Z"⟩
abbrev cX4_chosenStep : ByteArray := prog_6_method_12_code
def yX4_chosenStep : MethodName := ⟨RX4, "chosenStep", "()I"⟩
abbrev cX4_greatestGain : ByteArray := prog_6_method_13_code
def yX4_greatestGain : MethodName := ⟨RX4, "greatestGain", "(Z)I"⟩
def RX5 : String := "ShareGraph$Pairs"
def TX5 : u_T := fun k => match k with
  | 0 => ("ShareGraph$Pairs", "joins", "[I", true)
  | 1 => ("ShareGraph$Pairs", "mates", "[I", true)
  | 2 => ("ShareGraph$Pairs", "mergedNumbers", "[I", true)
  | 3 => ("ShareGraph$Pairs", "mergedCount", "I", false)
  | _ => ("ShareGraph$Pairs", "hasMates", "Z", false)
def tyX5 : Nat → FieldType := fun k => match k with
  | 0 => .array .int
  | 1 => .array .int
  | 2 => .array .int
  | 3 => .int
  | _ => .boolean
abbrev wsX50 : List Cond := u_ws RX5 TX5 5
theorem nmX5 : ∀ a, a < 5 → ∀ b, b < 5 → a ≠ b → (TX5 a).2.1 ≠ (TX5 b).2.1 := by decide +kernel
theorem tyX5_ok : ∀ k, k < 5 → parseFieldDescriptor (TX5 k).2.2.1 = some (tyX5 k) := by decide +kernel
abbrev cX5_init : ByteArray := prog_7_method_1_code
def yX5_init : MethodName := ⟨RX5, "<init>", "()V"⟩
abbrev cX5_join : ByteArray := prog_7_method_2_code
def yX5_join : MethodName := ⟨RX5, "join", "(LShareGraph$Graph;LShareGraph$Sharing;)V"⟩
abbrev cX5_findMates : ByteArray := prog_7_method_3_code
def yX5_findMates : MethodName := ⟨RX5, "findMates", "(LShareGraph$Measures;)V"⟩
abbrev cX5_mateBehind : ByteArray := prog_7_method_4_code
def yX5_mateBehind : MethodName := ⟨RX5, "mateBehind", "(ILShareGraph$Measures;)I"⟩
abbrev cX5_numberMerged : ByteArray := prog_7_method_5_code
def yX5_numberMerged : MethodName := ⟨RX5, "numberMerged", "(LShareGraph$Measures;)V"⟩
def RX6 : String := "ShareGraph$Script"
def TX6 : u_T := fun k => match k with
  | 0 => ("ShareGraph$Script", "kinds", "[I", true)
  | 1 => ("ShareGraph$Script", "firsts", "[I", true)
  | 2 => ("ShareGraph$Script", "seconds", "[I", true)
  | 3 => ("ShareGraph$Script", "turnsLeft", "[I", true)
  | 4 => ("ShareGraph$Script", "size", "I", false)
  | _ => ("ShareGraph$Script", "commands", "I", false)
def tyX6 : Nat → FieldType := fun k => match k with
  | 0 => .array .int
  | 1 => .array .int
  | 2 => .array .int
  | 3 => .array .int
  | 4 => .int
  | _ => .int
abbrev wsX60 : List Cond := u_ws RX6 TX6 6
theorem nmX6 : ∀ a, a < 6 → ∀ b, b < 6 → a ≠ b → (TX6 a).2.1 ≠ (TX6 b).2.1 := by decide +kernel
theorem tyX6_ok : ∀ k, k < 6 → parseFieldDescriptor (TX6 k).2.2.1 = some (tyX6 k) := by decide +kernel
abbrev cX6_init : ByteArray := prog_8_method_1_code
def yX6_init : MethodName := ⟨RX6, "<init>", "()V"⟩
def RX7 : String := "ShareGraph$ScriptReader"
def TX7 : u_T := fun k => match k with
  | _ => ("ShareGraph$ScriptReader", "openRepeats", "[I", true)
def tyX7 : Nat → FieldType := fun k => match k with
  | _ => .array .int
abbrev wsX70 : List Cond := u_ws RX7 TX7 1
theorem nmX7 : ∀ a, a < 1 → ∀ b, b < 1 → a ≠ b → (TX7 a).2.1 ≠ (TX7 b).2.1 := by decide +kernel
theorem tyX7_ok : ∀ k, k < 1 → parseFieldDescriptor (TX7 k).2.2.1 = some (tyX7 k) := by decide +kernel
abbrev cX7_init : ByteArray := prog_9_method_1_code
def yX7_init : MethodName := ⟨RX7, "<init>", "()V"⟩
def RX8 : String := "ShareGraph$Sharing"
def TX8 : u_T := fun k => match k with
  | 0 => ("ShareGraph$Sharing", "level", "I", false)
  | 1 => ("ShareGraph$Sharing", "credit", "I", false)
  | 2 => ("ShareGraph$Sharing", "noted", "I", false)
  | 3 => ("ShareGraph$Sharing", "parts", "[I", true)
  | 4 => ("ShareGraph$Sharing", "groupCounts", "[I", true)
  | 5 => ("ShareGraph$Sharing", "groupRows", "[I", true)
  | _ => ("ShareGraph$Sharing", "eventRows", "[I", true)
def tyX8 : Nat → FieldType := fun k => match k with
  | 0 => .int
  | 1 => .int
  | 2 => .int
  | 3 => .array .int
  | 4 => .array .int
  | 5 => .array .int
  | _ => .array .int
abbrev wsX80 : List Cond := u_ws RX8 TX8 7
theorem nmX8 : ∀ a, a < 7 → ∀ b, b < 7 → a ≠ b → (TX8 a).2.1 ≠ (TX8 b).2.1 := by decide +kernel
theorem tyX8_ok : ∀ k, k < 7 → parseFieldDescriptor (TX8 k).2.2.1 = some (tyX8 k) := by decide +kernel
abbrev cX8_init : ByteArray := prog_10_method_1_code
def yX8_init : MethodName := ⟨RX8, "<init>", "()V"⟩
abbrev cX8_start : ByteArray := prog_10_method_2_code
def yX8_start : MethodName := ⟨RX8, "start", "(LShareGraph$Graph;)V"⟩
abbrev cX8_copyFrom : ByteArray := prog_10_method_3_code
def yX8_copyFrom : MethodName := ⟨RX8, "copyFrom", "(LShareGraph$Sharing;)V"⟩
abbrev cX8_groupCount : ByteArray := prog_10_method_4_code
def yX8_groupCount : MethodName := ⟨RX8, "groupCount", "()I"⟩
abbrev cX8_groupRow : ByteArray := prog_10_method_5_code
def yX8_groupRow : MethodName := ⟨RX8, "groupRow", "()I"⟩
abbrev cX8_raiseLevel : ByteArray := prog_10_method_6_code
def yX8_raiseLevel : MethodName := ⟨RX8, "raiseLevel", "(ILShareGraph$Pairs;)V"⟩
abbrev cX8_place : ByteArray := prog_10_method_7_code
def yX8_place : MethodName := ⟨RX8, "place", "(II)V"⟩
abbrev cX8_note : ByteArray := prog_10_method_8_code
def yX8_note : MethodName := ⟨RX8, "note", "(IIII)V"⟩
def RX9 : String := "ShareGraph$TextReader"
def TX9 : u_T := fun k => match k with
  | _ => ("ShareGraph$TextReader", "told", "I", false)
def tyX9 : Nat → FieldType := fun k => match k with
  | _ => .int
abbrev wsX90 : List Cond := u_ws RX9 TX9 1
theorem nmX9 : ∀ a, a < 1 → ∀ b, b < 1 → a ≠ b → (TX9 a).2.1 ≠ (TX9 b).2.1 := by decide +kernel
theorem tyX9_ok : ∀ k, k < 1 → parseFieldDescriptor (TX9 k).2.2.1 = some (tyX9 k) := by decide +kernel
abbrev cX9_init : ByteArray := prog_11_method_1_code
def yX9_init : MethodName := ⟨RX9, "<init>", "()V"⟩
abbrev cX9_read : ByteArray := prog_11_method_2_code
def yX9_read : MethodName := ⟨RX9, "read", "(LShareGraph$Tokens;LShareGraph$Graph;)Z"⟩
abbrev cX9_readStatement : ByteArray := prog_11_method_3_code
def yX9_readStatement : MethodName := ⟨RX9, "readStatement", "(LShareGraph$Tokens;LShareGraph$Graph;)Z"⟩
abbrev cX9_readVertex : ByteArray := prog_11_method_4_code
def yX9_readVertex : MethodName := ⟨RX9, "readVertex", "(LShareGraph$Tokens;LShareGraph$Graph;)Z"⟩
abbrev cX9_readEdge : ByteArray := prog_11_method_5_code
def yX9_readEdge : MethodName := ⟨RX9, "readEdge", "(LShareGraph$Tokens;LShareGraph$Graph;)Z"⟩
abbrev cX9_readParts : ByteArray := prog_11_method_6_code
def yX9_readParts : MethodName := ⟨RX9, "readParts", "(LShareGraph$Tokens;LShareGraph$Graph;)Z"⟩
abbrev cX9_readSlack : ByteArray := prog_11_method_7_code
def yX9_readSlack : MethodName := ⟨RX9, "readSlack", "(LShareGraph$Tokens;LShareGraph$Graph;)Z"⟩
abbrev cX9_readCredit : ByteArray := prog_11_method_8_code
def yX9_readCredit : MethodName := ⟨RX9, "readCredit", "(LShareGraph$Tokens;LShareGraph$Graph;)Z"⟩
abbrev cX9_takesOnce : ByteArray := prog_11_method_9_code
def yX9_takesOnce : MethodName := ⟨RX9, "takesOnce", "(LShareGraph$Tokens;I)Z"⟩
def RX10 : String := "ShareGraph$Tokens"
def TX10 : u_T := fun k => match k with
  | 0 => ("ShareGraph$Tokens", "bytes", "[I", true)
  | 1 => ("ShareGraph$Tokens", "length", "I", false)
  | 2 => ("ShareGraph$Tokens", "end", "I", false)
  | 3 => ("ShareGraph$Tokens", "start", "I", false)
  | 4 => ("ShareGraph$Tokens", "behind", "I", false)
  | 5 => ("ShareGraph$Tokens", "kind", "I", false)
  | 6 => ("ShareGraph$Tokens", "word", "J", false)
  | 7 => ("ShareGraph$Tokens", "number", "I", false)
  | 8 => ("ShareGraph$Tokens", "depth", "I", false)
  | 9 => ("ShareGraph$Tokens", "errorCode", "I", false)
  | 10 => ("ShareGraph$Tokens", "errorPosition", "I", false)
  | _ => ("ShareGraph$Tokens", "errorDepth", "I", false)
def tyX10 : Nat → FieldType := fun k => match k with
  | 0 => .array .int
  | 1 => .int
  | 2 => .int
  | 3 => .int
  | 4 => .int
  | 5 => .int
  | 6 => .long
  | 7 => .int
  | 8 => .int
  | 9 => .int
  | 10 => .int
  | _ => .int
abbrev wsX100 : List Cond := u_ws RX10 TX10 12
theorem nmX10 : ∀ a, a < 12 → ∀ b, b < 12 → a ≠ b → (TX10 a).2.1 ≠ (TX10 b).2.1 := by decide +kernel
theorem tyX10_ok : ∀ k, k < 12 → parseFieldDescriptor (TX10 k).2.2.1 = some (tyX10 k) := by decide +kernel
abbrev cX10_init : ByteArray := prog_12_method_1_code
def yX10_init : MethodName := ⟨RX10, "<init>", "()V"⟩
abbrev cX10_append : ByteArray := prog_12_method_2_code
def yX10_append : MethodName := ⟨RX10, "append", "(I)V"⟩
abbrev cX10_begin : ByteArray := prog_12_method_3_code
def yX10_begin : MethodName := ⟨RX10, "begin", "()V"⟩
abbrev cX10_advance : ByteArray := prog_12_method_4_code
def yX10_advance : MethodName := ⟨RX10, "advance", "()V"⟩
abbrev cX10_takeWord : ByteArray := prog_12_method_5_code
def yX10_takeWord : MethodName := ⟨RX10, "takeWord", "()V"⟩
abbrev cX10_takeNumber : ByteArray := prog_12_method_6_code
def yX10_takeNumber : MethodName := ⟨RX10, "takeNumber", "()V"⟩
abbrev cX10_signKind : ByteArray := prog_12_method_7_code
def yX10_signKind : MethodName := ⟨RX10, "signKind", "(I)I"⟩
abbrev cX10_isBlank : ByteArray := prog_12_method_8_code
def yX10_isBlank : MethodName := ⟨RX10, "isBlank", "(I)Z"⟩
abbrev cX10_isLetter : ByteArray := prog_12_method_9_code
def yX10_isLetter : MethodName := ⟨RX10, "isLetter", "(I)Z"⟩
abbrev cX10_isDigit : ByteArray := prog_12_method_10_code
def yX10_isDigit : MethodName := ⟨RX10, "isDigit", "(I)Z"⟩
abbrev cX10_withLetter : ByteArray := prog_12_method_11_code
def yX10_withLetter : MethodName := ⟨RX10, "withLetter", "(JI)J"⟩
abbrev cX10_isWord : ByteArray := prog_12_method_13_code
def yX10_isWord : MethodName := ⟨RX10, "isWord", "(Ljava/lang/String;)Z"⟩
abbrev cX10_fail : ByteArray := prog_12_method_14_code
def yX10_fail : MethodName := ⟨RX10, "fail", "(I)Z"⟩
abbrev cX10_takes : ByteArray := prog_12_method_15_code
def yX10_takes : MethodName := ⟨RX10, "takes", "(I)Z"⟩
abbrev cX10_takesNumber : ByteArray := prog_12_method_16_code
def yX10_takesNumber : MethodName := ⟨RX10, "takesNumber", "(II)Z"⟩
def RX11 : String := "ShareGraph"
def TX11 : u_T := fun k => match k with
  | 0 => ("ShareGraph", "tokens", "LShareGraph$Tokens;", true)
  | 1 => ("ShareGraph", "textReader", "LShareGraph$TextReader;", true)
  | 2 => ("ShareGraph", "scriptReader", "LShareGraph$ScriptReader;", true)
  | 3 => ("ShareGraph", "script", "LShareGraph$Script;", true)
  | 4 => ("ShareGraph", "graph", "LShareGraph$Graph;", true)
  | 5 => ("ShareGraph", "readGraph", "LShareGraph$Graph;", true)
  | 6 => ("ShareGraph", "savedGraph", "LShareGraph$Graph;", true)
  | 7 => ("ShareGraph", "sharing", "LShareGraph$Sharing;", true)
  | 8 => ("ShareGraph", "triedSharing", "LShareGraph$Sharing;", true)
  | 9 => ("ShareGraph", "savedSharing", "LShareGraph$Sharing;", true)
  | 10 => ("ShareGraph", "isSaved", "Z", false)
  | 11 => ("ShareGraph", "history", "LShareGraph$History;", true)
  | 12 => ("ShareGraph", "measures", "LShareGraph$Measures;", true)
  | 13 => ("ShareGraph", "pairs", "LShareGraph$Pairs;", true)
  | 14 => ("ShareGraph", "best", "LShareGraph$Best;", true)
  | 15 => ("ShareGraph", "flows", "LShareGraph$Flows;", true)
  | 16 => ("ShareGraph", "reportBytes", "[I", true)
  | _ => ("ShareGraph", "reportLength", "I", false)
def tyX11 : Nat → FieldType := fun k => match k with
  | 0 => .object "ShareGraph$Tokens"
  | 1 => .object "ShareGraph$TextReader"
  | 2 => .object "ShareGraph$ScriptReader"
  | 3 => .object "ShareGraph$Script"
  | 4 => .object "ShareGraph$Graph"
  | 5 => .object "ShareGraph$Graph"
  | 6 => .object "ShareGraph$Graph"
  | 7 => .object "ShareGraph$Sharing"
  | 8 => .object "ShareGraph$Sharing"
  | 9 => .object "ShareGraph$Sharing"
  | 10 => .boolean
  | 11 => .object "ShareGraph$History"
  | 12 => .object "ShareGraph$Measures"
  | 13 => .object "ShareGraph$Pairs"
  | 14 => .object "ShareGraph$Best"
  | 15 => .object "ShareGraph$Flows"
  | 16 => .array .int
  | _ => .int
abbrev wsX110 : List Cond := u_ws RX11 TX11 18
theorem nmX11 : ∀ a, a < 18 → ∀ b, b < 18 → a ≠ b → (TX11 a).2.1 ≠ (TX11 b).2.1 := by decide +kernel
theorem tyX11_ok : ∀ k, k < 18 → parseFieldDescriptor (TX11 k).2.2.1 = some (tyX11 k) := by decide +kernel
abbrev cX11_init : ByteArray := prog_1_method_1_code
def yX11_init : MethodName := ⟨RX11, "<init>", "()V"⟩
abbrev cX11_feed : ByteArray := prog_1_method_2_code
def yX11_feed : MethodName := ⟨RX11, "feed", "(IIIII)I"⟩
abbrev cX11_truncate : ByteArray := prog_1_method_3_code
def yX11_truncate : MethodName := ⟨RX11, "truncate", "(I)I"⟩
abbrev cX11_readText : ByteArray := prog_1_method_4_code
def yX11_readText : MethodName := ⟨RX11, "readText", "()I"⟩
abbrev cX11_setting : ByteArray := prog_1_method_10_code
def yX11_setting : MethodName := ⟨RX11, "setting", "(I)I"⟩
abbrev cX11_hasVertex : ByteArray := prog_1_method_11_code
def yX11_hasVertex : MethodName := ⟨RX11, "hasVertex", "(I)Z"⟩
abbrev cX11_hasPart : ByteArray := prog_1_method_12_code
def yX11_hasPart : MethodName := ⟨RX11, "hasPart", "(I)Z"⟩
abbrev cX11_hasGroup : ByteArray := prog_1_method_13_code
def yX11_hasGroup : MethodName := ⟨RX11, "hasGroup", "(I)Z"⟩
abbrev cX11_requireVertex : ByteArray := prog_1_method_14_code
def yX11_requireVertex : MethodName := ⟨RX11, "requireVertex", "(I)V"⟩
abbrev cX11_requirePart : ByteArray := prog_1_method_15_code
def yX11_requirePart : MethodName := ⟨RX11, "requirePart", "(I)V"⟩
abbrev cX11_requireGroup : ByteArray := prog_1_method_16_code
def yX11_requireGroup : MethodName := ⟨RX11, "requireGroup", "(I)V"⟩
abbrev cX11_isCut : ByteArray := prog_1_method_19_code
def yX11_isCut : MethodName := ⟨RX11, "isCut", "(I)Z"⟩
abbrev cX11_between : ByteArray := prog_1_method_20_code
def yX11_between : MethodName := ⟨RX11, "between", "(II)I"⟩
abbrev cX11_flow : ByteArray := prog_1_method_21_code
def yX11_flow : MethodName := ⟨RX11, "flow", "(II)I"⟩
abbrev cX11_side : ByteArray := prog_1_method_22_code
def yX11_side : MethodName := ⟨RX11, "side", "(II)I"⟩
abbrev cX11_leastFlow : ByteArray := prog_1_method_23_code
def yX11_leastFlow : MethodName := ⟨RX11, "leastFlow", "()I"⟩
abbrev cX11_partOf : ByteArray := prog_1_method_24_code
def yX11_partOf : MethodName := ⟨RX11, "partOf", "(I)I"⟩
abbrev cX11_part : ByteArray := prog_1_method_25_code
def yX11_part : MethodName := ⟨RX11, "part", "(II)I"⟩
abbrev cX11_cutAround : ByteArray := prog_1_method_26_code
def yX11_cutAround : MethodName := ⟨RX11, "cutAround", "(I)I"⟩
abbrev cX11_cut : ByteArray := prog_1_method_27_code
def yX11_cut : MethodName := ⟨RX11, "cut", "()I"⟩
abbrev cX11_debts : ByteArray := prog_1_method_28_code
def yX11_debts : MethodName := ⟨RX11, "debts", "()I"⟩
abbrev cX11_group : ByteArray := prog_1_method_33_code
def yX11_group : MethodName := ⟨RX11, "group", "(II)I"⟩
abbrev cX11_groupOf : ByteArray := prog_1_method_34_code
def yX11_groupOf : MethodName := ⟨RX11, "groupOf", "(I)I"⟩
abbrev cX11_whyNotShrink : ByteArray := prog_1_method_35_code
def yX11_whyNotShrink : MethodName := ⟨RX11, "whyNotShrink", "()I"⟩
abbrev cX11_findPairs : ByteArray := prog_1_method_36_code
def yX11_findPairs : MethodName := ⟨RX11, "findPairs", "()V"⟩
abbrev cX11_mate : ByteArray := prog_1_method_37_code
def yX11_mate : MethodName := ⟨RX11, "mate", "(I)I"⟩
abbrev cX11_gain : ByteArray := prog_1_method_38_code
def yX11_gain : MethodName := ⟨RX11, "gain", "(II)I"⟩
abbrev cX11_whyNotMove : ByteArray := prog_1_method_39_code
def yX11_whyNotMove : MethodName := ⟨RX11, "whyNotMove", "(II)I"⟩
abbrev cX11_debtsIf : ByteArray := prog_1_method_40_code
def yX11_debtsIf : MethodName := ⟨RX11, "debtsIf", "(II)I"⟩
abbrev cX11_nextStep : ByteArray := prog_1_method_41_code
def yX11_nextStep : MethodName := ⟨RX11, "nextStep", "()I"⟩
abbrev cX11_bestDebts : ByteArray := prog_1_method_42_code
def yX11_bestDebts : MethodName := ⟨RX11, "bestDebts", "()I"⟩
abbrev cX11_bestCut : ByteArray := prog_1_method_43_code
def yX11_bestCut : MethodName := ⟨RX11, "bestCut", "()I"⟩
abbrev cX11_hasFewGroups : ByteArray := prog_1_method_44_code
def yX11_hasFewGroups : MethodName := ⟨RX11, "hasFewGroups", "()Z"⟩
abbrev cX11_searchBest : ByteArray := prog_1_method_45_code
def yX11_searchBest : MethodName := ⟨RX11, "searchBest", "()V"⟩
abbrev cX11_stepsToEnd : ByteArray := prog_1_method_46_code
def yX11_stepsToEnd : MethodName := ⟨RX11, "stepsToEnd", "(I)I"⟩
abbrev cX11_cutBehind : ByteArray := prog_1_method_47_code
def yX11_cutBehind : MethodName := ⟨RX11, "cutBehind", "(I)I"⟩
abbrev cX11_requireTriedSteps : ByteArray := prog_1_method_48_code
def yX11_requireTriedSteps : MethodName := ⟨RX11, "requireTriedSteps", "(I)V"⟩
abbrev cX11_trySteps : ByteArray := prog_1_method_49_code
def yX11_trySteps : MethodName := ⟨RX11, "trySteps", "(I)I"⟩
abbrev cX11_events : ByteArray := prog_1_method_50_code
def yX11_events : MethodName := ⟨RX11, "events", "()I"⟩
abbrev cX11_event : ByteArray := prog_1_method_51_code
def yX11_event : MethodName := ⟨RX11, "event", "(II)I"⟩
abbrev cX11_shrink : ByteArray := prog_1_method_52_code
def yX11_shrink : MethodName := ⟨RX11, "shrink", "()I"⟩
abbrev cX11_mergeGroups : ByteArray := prog_1_method_53_code
def yX11_mergeGroups : MethodName := ⟨RX11, "mergeGroups", "()V"⟩
abbrev cX11_grow : ByteArray := prog_1_method_54_code
def yX11_grow : MethodName := ⟨RX11, "grow", "()I"⟩
abbrev cX11_move : ByteArray := prog_1_method_55_code
def yX11_move : MethodName := ⟨RX11, "move", "(II)I"⟩
abbrev cX11_takeTo : ByteArray := prog_1_method_56_code
def yX11_takeTo : MethodName := ⟨RX11, "takeTo", "(II)V"⟩
abbrev cX11_transfer : ByteArray := prog_1_method_57_code
def yX11_transfer : MethodName := ⟨RX11, "transfer", "(LShareGraph$Sharing;II)V"⟩
abbrev cX11_step : ByteArray := prog_1_method_58_code
def yX11_step : MethodName := ⟨RX11, "step", "()I"⟩
abbrev cX11_makeSteps : ByteArray := prog_1_method_59_code
def yX11_makeSteps : MethodName := ⟨RX11, "makeSteps", "(LShareGraph$Sharing;I)I"⟩
abbrev cX11_steps : ByteArray := prog_1_method_60_code
def yX11_steps : MethodName := ⟨RX11, "steps", "(I)I"⟩
abbrev cX11_isStepCount : ByteArray := prog_1_method_61_code
def yX11_isStepCount : MethodName := ⟨RX11, "isStepCount", "(I)Z"⟩
abbrev cX11_placeBest : ByteArray := prog_1_method_62_code
def yX11_placeBest : MethodName := ⟨RX11, "placeBest", "()I"⟩
abbrev cX11_takeBest : ByteArray := prog_1_method_63_code
def yX11_takeBest : MethodName := ⟨RX11, "takeBest", "()I"⟩
abbrev cX11_placeApart : ByteArray := prog_1_method_64_code
def yX11_placeApart : MethodName := ⟨RX11, "placeApart", "(II)I"⟩
abbrev cX11_canTakeApart : ByteArray := prog_1_method_65_code
def yX11_canTakeApart : MethodName := ⟨RX11, "canTakeApart", "()Z"⟩
abbrev cX11_takeApart : ByteArray := prog_1_method_66_code
def yX11_takeApart : MethodName := ⟨RX11, "takeApart", "(II)I"⟩
abbrev cX11_setCredit : ByteArray := prog_1_method_67_code
def yX11_setCredit : MethodName := ⟨RX11, "setCredit", "(I)I"⟩
abbrev cX11_isAllowance : ByteArray := prog_1_method_68_code
def yX11_isAllowance : MethodName := ⟨RX11, "isAllowance", "(I)Z"⟩
abbrev cX11_undo : ByteArray := prog_1_method_73_code
def yX11_undo : MethodName := ⟨RX11, "undo", "()I"⟩
abbrev cX11_at : ByteArray := prog_1_method_76_code
def yX11_at : MethodName := ⟨RX11, "at", "([II)I"⟩
abbrev cX11_put : ByteArray := prog_1_method_77_code
def yX11_put : MethodName := ⟨RX11, "put", "([III)V"⟩
abbrev cX11_add : ByteArray := prog_1_method_78_code
def yX11_add : MethodName := ⟨RX11, "add", "([III)V"⟩
abbrev cX11_copy : ByteArray := prog_1_method_79_code
def yX11_copy : MethodName := ⟨RX11, "copy", "([I[I)V"⟩
abbrev cX11_isIn : ByteArray := prog_1_method_80_code
def yX11_isIn : MethodName := ⟨RX11, "isIn", "(II)Z"⟩
def RX12 : String := "ShareGraphLaw$World"
def TX12 : u_T := fun k => match k with
  | 0 => ("ShareGraphLaw$World", "n", "I", false)
  | 1 => ("ShareGraphLaw$World", "parts", "I", false)
  | 2 => ("ShareGraphLaw$World", "slack", "I", false)
  | 3 => ("ShareGraphLaw$World", "credit", "I", false)
  | 4 => ("ShareGraphLaw$World", "edges", "I", false)
  | 5 => ("ShareGraphLaw$World", "weight", "[I", false)
  | 6 => ("ShareGraphLaw$World", "part", "[I", false)
  | 7 => ("ShareGraphLaw$World", "one", "[I", false)
  | 8 => ("ShareGraphLaw$World", "two", "[I", false)
  | 9 => ("ShareGraphLaw$World", "table", "[[I", false)
  | 10 => ("ShareGraphLaw$World", "levels", "Ljava/util/List;", false)
  | 11 => ("ShareGraphLaw$World", "events", "Ljava/util/List;", false)
  | _ => ("ShareGraphLaw$World", "text", "Ljava/lang/String;", false)
def tyX12 : Nat → FieldType := fun k => match k with
  | 0 => .int
  | 1 => .int
  | 2 => .int
  | 3 => .int
  | 4 => .int
  | 5 => .array .int
  | 6 => .array .int
  | 7 => .array .int
  | 8 => .array .int
  | 9 => .array (.array .int)
  | 10 => .object "java/util/List"
  | 11 => .object "java/util/List"
  | _ => .object "java/lang/String"
abbrev wsX120 : List Cond := u_ws RX12 TX12 13
theorem nmX12 : ∀ a, a < 13 → ∀ b, b < 13 → a ≠ b → (TX12 a).2.1 ≠ (TX12 b).2.1 := by decide +kernel
theorem tyX12_ok : ∀ k, k < 13 → parseFieldDescriptor (TX12 k).2.2.1 = some (tyX12 k) := by decide +kernel
abbrev cX12_init : ByteArray := prog_14_method_1_code
def yX12_init : MethodName := ⟨RX12, "<init>", "()V"⟩
abbrev cX12_name : ByteArray := prog_14_method_2_code
def yX12_name : MethodName := ⟨RX12, "name", "(I)Ljava/lang/String;"⟩
abbrev cX12_grown : ByteArray := prog_14_method_3_code
def yX12_grown : MethodName := ⟨RX12, "grown", "([I)LShareGraphLaw$World;"⟩
abbrev cX12_sets : ByteArray := prog_14_method_5_code
def yX12_sets : MethodName := ⟨RX12, "sets", "()[I"⟩
abbrev cX12_groups : ByteArray := prog_14_method_6_code
def yX12_groups : MethodName := ⟨RX12, "groups", "()I"⟩
abbrev cX12_groupOf : ByteArray := prog_14_method_7_code
def yX12_groupOf : MethodName := ⟨RX12, "groupOf", "(I)I"⟩
abbrev cX12_weightOf : ByteArray := prog_14_method_8_code
def yX12_weightOf : MethodName := ⟨RX12, "weightOf", "(I)I"⟩
abbrev cX12_all : ByteArray := prog_14_method_9_code
def yX12_all : MethodName := ⟨RX12, "all", "()I"⟩
abbrev cX12_inPart : ByteArray := prog_14_method_10_code
def yX12_inPart : MethodName := ⟨RX12, "inPart", "(I)I"⟩
abbrev cX12_links : ByteArray := prog_14_method_11_code
def yX12_links : MethodName := ⟨RX12, "links", "(II)I"⟩
abbrev cX12_limit : ByteArray := prog_14_method_12_code
def yX12_limit : MethodName := ⟨RX12, "limit", "()I"⟩
abbrev cX12_debts : ByteArray := prog_14_method_13_code
def yX12_debts : MethodName := ⟨RX12, "debts", "()I"⟩
abbrev cX12_cut : ByteArray := prog_14_method_14_code
def yX12_cut : MethodName := ⟨RX12, "cut", "()I"⟩
abbrev cX12_partOf : ByteArray := prog_14_method_15_code
def yX12_partOf : MethodName := ⟨RX12, "partOf", "(I)I"⟩
abbrev cX12_debtsIf : ByteArray := prog_14_method_16_code
def yX12_debtsIf : MethodName := ⟨RX12, "debtsIf", "(II)I"⟩
abbrev cX12_gain : ByteArray := prog_14_method_17_code
def yX12_gain : MethodName := ⟨RX12, "gain", "(II)I"⟩
abbrev cX12_why : ByteArray := prog_14_method_18_code
def yX12_why : MethodName := ⟨RX12, "why", "(II)I"⟩
abbrev cX12_mates : ByteArray := prog_14_method_19_code
def yX12_mates : MethodName := ⟨RX12, "mates", "()[I"⟩
abbrev cX12_whyShrink : ByteArray := prog_14_method_20_code
def yX12_whyShrink : MethodName := ⟨RX12, "whyShrink", "()I"⟩
abbrev cX12_shrink : ByteArray := prog_14_method_21_code
def yX12_shrink : MethodName := ⟨RX12, "shrink", "()I"⟩
abbrev cX12_grow : ByteArray := prog_14_method_22_code
def yX12_grow : MethodName := ⟨RX12, "grow", "()I"⟩
abbrev cX12_comes : ByteArray := prog_14_method_23_code
def yX12_comes : MethodName := ⟨RX12, "comes", "(II)Z"⟩
abbrev cX12_move : ByteArray := prog_14_method_24_code
def yX12_move : MethodName := ⟨RX12, "move", "(II)I"⟩
abbrev cX12_next : ByteArray := prog_14_method_25_code
def yX12_next : MethodName := ⟨RX12, "next", "()I"⟩
abbrev cX12_step : ByteArray := prog_14_method_26_code
def yX12_step : MethodName := ⟨RX12, "step", "()I"⟩
abbrev cX12_steps : ByteArray := prog_14_method_27_code
def yX12_steps : MethodName := ⟨RX12, "steps", "(I)I"⟩
abbrev cX12_best : ByteArray := prog_14_method_28_code
def yX12_best : MethodName := ⟨RX12, "best", "()[I"⟩
abbrev cX12_search : ByteArray := prog_14_method_29_code
def yX12_search : MethodName := ⟨RX12, "search", "(I[I[I[I)V"⟩
abbrev cX12_flow : ByteArray := prog_14_method_30_code
def yX12_flow : MethodName := ⟨RX12, "flow", "(II)[I"⟩
def RX13 : String := "ShareGraphModel"
def TX13 : u_T := fun k => match k with
  | _ => ("", "", "", false)
def tyX13 : Nat → FieldType := fun k => match k with
  | _ => .int
abbrev wsX130 : List Cond := u_ws RX13 TX13 0
theorem nmX13 : ∀ a, a < 0 → ∀ b, b < 0 → a ≠ b → (TX13 a).2.1 ≠ (TX13 b).2.1 := by decide +kernel
theorem tyX13_ok : ∀ k, k < 0 → parseFieldDescriptor (TX13 k).2.2.1 = some (tyX13 k) := by decide +kernel
def RJx145de : String := "java/io/Serializable"
def TJx145de : u_T := fun k => match k with
  | _ => ("", "", "", false)
def tyJx145de : Nat → FieldType := fun k => match k with
  | _ => .int
abbrev wsJx145de0 : List Cond := u_ws RJx145de TJx145de 0
theorem nmJx145de : ∀ a, a < 0 → ∀ b, b < 0 → a ≠ b → (TJx145de a).2.1 ≠ (TJx145de b).2.1 := by decide +kernel
theorem tyJx145de_ok : ∀ k, k < 0 → parseFieldDescriptor (TJx145de k).2.2.1 = some (tyJx145de k) := by decide +kernel
def RJ5 : String := "java/lang/AbstractStringBuilder"
def TJ5 : u_T := fun k => match k with
  | _ => ("", "", "", false)
def tyJ5 : Nat → FieldType := fun k => match k with
  | _ => .int
abbrev wsJ50 : List Cond := u_ws RJ5 TJ5 0
theorem nmJ5 : ∀ a, a < 0 → ∀ b, b < 0 → a ≠ b → (TJ5 a).2.1 ≠ (TJ5 b).2.1 := by decide +kernel
theorem tyJ5_ok : ∀ k, k < 0 → parseFieldDescriptor (TJ5 k).2.2.1 = some (tyJ5 k) := by decide +kernel
abbrev cJ5_init_d00df : ByteArray := prog_17_method_2_code
def yJ5_init_d00df : MethodName := ⟨RJ5, "<init>", "(I)V"⟩
abbrev cJ5_length_8abf5 : ByteArray := prog_17_method_6_code
def yJ5_length_8abf5 : MethodName := ⟨RJ5, "length", "()I"⟩
abbrev cJ5_ensureCapacityInternal_d00df : ByteArray := prog_17_method_9_code
def yJ5_ensureCapacityInternal_d00df : MethodName := ⟨RJ5, "ensureCapacityInternal", "(I)V"⟩
abbrev cJ5_newCapacity_0f7a4 : ByteArray := prog_17_method_10_code
def yJ5_newCapacity_0f7a4 : MethodName := ⟨RJ5, "newCapacity", "(I)I"⟩
abbrev cJ5_inflate_da8c8 : ByteArray := prog_17_method_11_code
def yJ5_inflate_da8c8 : MethodName := ⟨RJ5, "inflate", "()V"⟩
abbrev cJ5_append_cf1ce : ByteArray := prog_17_method_22_code
def yJ5_append_cf1ce : MethodName := ⟨RJ5, "append", "(Ljava/lang/String;)Ljava/lang/AbstractStringBuilder;"⟩
abbrev cJ5_appendNull_278bc : ByteArray := prog_17_method_26_code
def yJ5_appendNull_278bc : MethodName := ⟨RJ5, "appendNull", "()Ljava/lang/AbstractStringBuilder;"⟩
abbrev cJ5_append_3fe6f : ByteArray := prog_17_method_31_code
def yJ5_append_3fe6f : MethodName := ⟨RJ5, "append", "(C)Ljava/lang/AbstractStringBuilder;"⟩
abbrev cJ5_append_c97b9 : ByteArray := prog_17_method_32_code
def yJ5_append_c97b9 : MethodName := ⟨RJ5, "append", "(I)Ljava/lang/AbstractStringBuilder;"⟩
abbrev cJ5_getValue_6d5f1 : ByteArray := prog_17_method_64_code
def yJ5_getValue_6d5f1 : MethodName := ⟨RJ5, "getValue", "()[B"⟩
abbrev cJ5_isLatin1_aae02 : ByteArray := prog_17_method_68_code
def yJ5_isLatin1_aae02 : MethodName := ⟨RJ5, "isLatin1", "()Z"⟩
abbrev cJ5_inflateIfNeededFor_a7421 : ByteArray := prog_17_method_71_code
def yJ5_inflateIfNeededFor_a7421 : MethodName := ⟨RJ5, "inflateIfNeededFor", "(Ljava/lang/String;)V"⟩
abbrev cJ5_putStringAt_47b60 : ByteArray := prog_17_method_73_code
def yJ5_putStringAt_47b60 : MethodName := ⟨RJ5, "putStringAt", "(ILjava/lang/String;)V"⟩
def RJx2cfe8 : String := "java/lang/Appendable"
def TJx2cfe8 : u_T := fun k => match k with
  | _ => ("", "", "", false)
def tyJx2cfe8 : Nat → FieldType := fun k => match k with
  | _ => .int
abbrev wsJx2cfe80 : List Cond := u_ws RJx2cfe8 TJx2cfe8 0
theorem nmJx2cfe8 : ∀ a, a < 0 → ∀ b, b < 0 → a ≠ b → (TJx2cfe8 a).2.1 ≠ (TJx2cfe8 b).2.1 := by decide +kernel
theorem tyJx2cfe8_ok : ∀ k, k < 0 → parseFieldDescriptor (TJx2cfe8 k).2.2.1 = some (tyJx2cfe8 k) := by decide +kernel
def RJx9f9b0 : String := "java/lang/CharSequence"
def TJx9f9b0 : u_T := fun k => match k with
  | _ => ("", "", "", false)
def tyJx9f9b0 : Nat → FieldType := fun k => match k with
  | _ => .int
abbrev wsJx9f9b00 : List Cond := u_ws RJx9f9b0 TJx9f9b0 0
theorem nmJx9f9b0 : ∀ a, a < 0 → ∀ b, b < 0 → a ≠ b → (TJx9f9b0 a).2.1 ≠ (TJx9f9b0 b).2.1 := by decide +kernel
theorem tyJx9f9b0_ok : ∀ k, k < 0 → parseFieldDescriptor (TJx9f9b0 k).2.2.1 = some (tyJx9f9b0 k) := by decide +kernel
def RJx8e188 : String := "java/lang/Cloneable"
def TJx8e188 : u_T := fun k => match k with
  | _ => ("", "", "", false)
def tyJx8e188 : Nat → FieldType := fun k => match k with
  | _ => .int
abbrev wsJx8e1880 : List Cond := u_ws RJx8e188 TJx8e188 0
theorem nmJx8e188 : ∀ a, a < 0 → ∀ b, b < 0 → a ≠ b → (TJx8e188 a).2.1 ≠ (TJx8e188 b).2.1 := by decide +kernel
theorem tyJx8e188_ok : ∀ k, k < 0 → parseFieldDescriptor (TJx8e188 k).2.2.1 = some (tyJx8e188 k) := by decide +kernel
def RJxb160c : String := "java/lang/Comparable"
def TJxb160c : u_T := fun k => match k with
  | _ => ("", "", "", false)
def tyJxb160c : Nat → FieldType := fun k => match k with
  | _ => .int
abbrev wsJxb160c0 : List Cond := u_ws RJxb160c TJxb160c 0
theorem nmJxb160c : ∀ a, a < 0 → ∀ b, b < 0 → a ≠ b → (TJxb160c a).2.1 ≠ (TJxb160c b).2.1 := by decide +kernel
theorem tyJxb160c_ok : ∀ k, k < 0 → parseFieldDescriptor (TJxb160c k).2.2.1 = some (tyJxb160c k) := by decide +kernel
def RJ6 : String := "java/lang/Integer"
def TJ6 : u_T := fun k => match k with
  | _ => ("", "", "", false)
def tyJ6 : Nat → FieldType := fun k => match k with
  | _ => .int
abbrev wsJ60 : List Cond := u_ws RJ6 TJ6 0
theorem nmJ6 : ∀ a, a < 0 → ∀ b, b < 0 → a ≠ b → (TJ6 a).2.1 ≠ (TJ6 b).2.1 := by decide +kernel
theorem tyJ6_ok : ∀ k, k < 0 → parseFieldDescriptor (TJ6 k).2.2.1 = some (tyJ6 k) := by decide +kernel
abbrev cJ6_getChars_ba4f3 : ByteArray := prog_26_method_12_code
def yJ6_getChars_ba4f3 : MethodName := ⟨RJ6, "getChars", "(II[B)I"⟩
abbrev cJ6_stringSize_0f7a4 : ByteArray := prog_26_method_13_code
def yJ6_stringSize_0f7a4 : MethodName := ⟨RJ6, "stringSize", "(I)I"⟩
abbrev cJ6_numberOfTrailingZeros_0f7a4 : ByteArray := prog_26_method_48_code
def yJ6_numberOfTrailingZeros_0f7a4 : MethodName := ⟨RJ6, "numberOfTrailingZeros", "(I)I"⟩
abbrev cJ6_bitCount_0f7a4 : ByteArray := prog_26_method_49_code
def yJ6_bitCount_0f7a4 : MethodName := ⟨RJ6, "bitCount", "(I)I"⟩
def RJxab1ab : String := "java/lang/Iterable"
def TJxab1ab : u_T := fun k => match k with
  | _ => ("", "", "", false)
def tyJxab1ab : Nat → FieldType := fun k => match k with
  | _ => .int
abbrev wsJxab1ab0 : List Cond := u_ws RJxab1ab TJxab1ab 0
theorem nmJxab1ab : ∀ a, a < 0 → ∀ b, b < 0 → a ≠ b → (TJxab1ab a).2.1 ≠ (TJxab1ab b).2.1 := by decide +kernel
theorem tyJxab1ab_ok : ∀ k, k < 0 → parseFieldDescriptor (TJxab1ab k).2.2.1 = some (tyJxab1ab k) := by decide +kernel
def RJ9 : String := "java/lang/Math"
def TJ9 : u_T := fun k => match k with
  | _ => ("", "", "", false)
def tyJ9 : Nat → FieldType := fun k => match k with
  | _ => .int
abbrev wsJ90 : List Cond := u_ws RJ9 TJ9 0
theorem nmJ9 : ∀ a, a < 0 → ∀ b, b < 0 → a ≠ b → (TJ9 a).2.1 ≠ (TJ9 b).2.1 := by decide +kernel
theorem tyJ9_ok : ∀ k, k < 0 → parseFieldDescriptor (TJ9 k).2.2.1 = some (tyJ9 k) := by decide +kernel
abbrev cJ9_max_7cf53 : ByteArray := prog_28_method_65_code
def yJ9_max_7cf53 : MethodName := ⟨RJ9, "max", "(II)I"⟩
abbrev cJ9_min_7cf53 : ByteArray := prog_28_method_69_code
def yJ9_min_7cf53 : MethodName := ⟨RJ9, "min", "(II)I"⟩
def RJxd2413 : String := "java/lang/Number"
def TJxd2413 : u_T := fun k => match k with
  | _ => ("", "", "", false)
def tyJxd2413 : Nat → FieldType := fun k => match k with
  | _ => .int
abbrev wsJxd24130 : List Cond := u_ws RJxd2413 TJxd2413 0
theorem nmJxd2413 : ∀ a, a < 0 → ∀ b, b < 0 → a ≠ b → (TJxd2413 a).2.1 ≠ (TJxd2413 b).2.1 := by decide +kernel
theorem tyJxd2413_ok : ∀ k, k < 0 → parseFieldDescriptor (TJxd2413 k).2.2.1 = some (tyJxd2413 k) := by decide +kernel
def RJ0 : String := "java/lang/String"
def TJ0 : u_T := fun k => match k with
  | 0 => ("java/lang/String", "value", "[B", true)
  | 1 => ("java/lang/String", "coder", "B", true)
  | 2 => ("java/lang/String", "hash", "I", false)
  | _ => ("java/lang/String", "hashIsZero", "Z", false)
def tyJ0 : Nat → FieldType := fun k => match k with
  | 0 => .array .byte
  | 1 => .byte
  | 2 => .int
  | _ => .boolean
abbrev wsJ00 : List Cond := u_ws RJ0 TJ0 4
theorem nmJ0 : ∀ a, a < 4 → ∀ b, b < 4 → a ≠ b → (TJ0 a).2.1 ≠ (TJ0 b).2.1 := by decide +kernel
theorem tyJ0_ok : ∀ k, k < 4 → parseFieldDescriptor (TJ0 k).2.2.1 = some (tyJ0 k) := by decide +kernel
abbrev cJ0_init_81219 : ByteArray := prog_31_method_53_code
def yJ0_init_81219 : MethodName := ⟨RJ0, "<init>", "(Ljava/lang/StringBuilder;)V"⟩
abbrev cJ0_length_8abf5 : ByteArray := prog_31_method_54_code
def yJ0_length_8abf5 : MethodName := ⟨RJ0, "length", "()I"⟩
abbrev cJ0_isEmpty_aae02 : ByteArray := prog_31_method_55_code
def yJ0_isEmpty_aae02 : MethodName := ⟨RJ0, "isEmpty", "()Z"⟩
abbrev cJ0_charAt_5068e : ByteArray := prog_31_method_56_code
def yJ0_charAt_5068e : MethodName := ⟨RJ0, "charAt", "(I)C"⟩
abbrev cJ0_getBytes_840e7 : ByteArray := prog_31_method_147_code
def yJ0_getBytes_840e7 : MethodName := ⟨RJ0, "getBytes", "([BIB)V"⟩
abbrev cJ0_init_db425 : ByteArray := prog_31_method_150_code
def yJ0_init_db425 : MethodName := ⟨RJ0, "<init>", "(Ljava/lang/AbstractStringBuilder;Ljava/lang/Void;)V"⟩
abbrev cJ0_coder_7d493 : ByteArray := prog_31_method_152_code
def yJ0_coder_7d493 : MethodName := ⟨RJ0, "coder", "()B"⟩
abbrev cJ0_isLatin1_aae02 : ByteArray := prog_31_method_154_code
def yJ0_isLatin1_aae02 : MethodName := ⟨RJ0, "isLatin1", "()Z"⟩
abbrev cJ0_checkIndex_df160 : ByteArray := prog_31_method_155_code
def yJ0_checkIndex_df160 : MethodName := ⟨RJ0, "checkIndex", "(II)V"⟩
abbrev cJ0_checkBoundsOffCount_cabcc : ByteArray := prog_31_method_157_code
def yJ0_checkBoundsOffCount_cabcc : MethodName := ⟨RJ0, "checkBoundsOffCount", "(III)I"⟩
abbrev cJ0_checkBoundsBeginEnd_23922 : ByteArray := prog_31_method_158_code
def yJ0_checkBoundsBeginEnd_23922 : MethodName := ⟨RJ0, "checkBoundsBeginEnd", "(III)V"⟩
def RJ4 : String := "java/lang/StringBuilder"
def TJ4 : u_T := fun k => match k with
  | 0 => ("java/lang/AbstractStringBuilder", "value", "[B", false)
  | 1 => ("java/lang/AbstractStringBuilder", "coder", "B", false)
  | 2 => ("java/lang/AbstractStringBuilder", "maybeLatin1", "Z", false)
  | _ => ("java/lang/AbstractStringBuilder", "count", "I", false)
def tyJ4 : Nat → FieldType := fun k => match k with
  | 0 => .array .byte
  | 1 => .byte
  | 2 => .boolean
  | _ => .int
abbrev wsJ40 : List Cond := u_ws RJ4 TJ4 4
theorem nmJ4 : ∀ a, a < 4 → ∀ b, b < 4 → a ≠ b → (TJ4 a).2.1 ≠ (TJ4 b).2.1 := by decide +kernel
theorem tyJ4_ok : ∀ k, k < 4 → parseFieldDescriptor (TJ4 k).2.2.1 = some (tyJ4 k) := by decide +kernel
abbrev cJ4_init_da8c8 : ByteArray := prog_32_method_1_code
def yJ4_init_da8c8 : MethodName := ⟨RJ4, "<init>", "()V"⟩
abbrev cJ4_append_15ec4 : ByteArray := prog_32_method_7_code
def yJ4_append_15ec4 : MethodName := ⟨RJ4, "append", "(Ljava/lang/String;)Ljava/lang/StringBuilder;"⟩
abbrev cJ4_append_cf468 : ByteArray := prog_32_method_14_code
def yJ4_append_cf468 : MethodName := ⟨RJ4, "append", "(C)Ljava/lang/StringBuilder;"⟩
abbrev cJ4_append_bf812 : ByteArray := prog_32_method_15_code
def yJ4_append_bf812 : MethodName := ⟨RJ4, "append", "(I)Ljava/lang/StringBuilder;"⟩
abbrev cJ4_toString_0e30d : ByteArray := prog_32_method_42_code
def yJ4_toString_0e30d : MethodName := ⟨RJ4, "toString", "()Ljava/lang/String;"⟩
abbrev cJ4_length_8abf5 : ByteArray := prog_32_method_93_code
def yJ4_length_8abf5 : MethodName := ⟨RJ4, "length", "()I"⟩
def RJ1 : String := "java/lang/StringLatin1"
def TJ1 : u_T := fun k => match k with
  | _ => ("", "", "", false)
def tyJ1 : Nat → FieldType := fun k => match k with
  | _ => .int
abbrev wsJ10 : List Cond := u_ws RJ1 TJ1 0
theorem nmJ1 : ∀ a, a < 0 → ∀ b, b < 0 → a ≠ b → (TJ1 a).2.1 ≠ (TJ1 b).2.1 := by decide +kernel
theorem tyJ1_ok : ∀ k, k < 0 → parseFieldDescriptor (TJ1 k).2.2.1 = some (tyJ1 k) := by decide +kernel
abbrev cJ1_charAt_3b067 : ByteArray := prog_33_method_2_code
def yJ1_charAt_3b067 : MethodName := ⟨RJ1, "charAt", "([BI)C"⟩
abbrev cJ1_canEncode_fc78d : ByteArray := prog_33_method_3_code
def yJ1_canEncode_fc78d : MethodName := ⟨RJ1, "canEncode", "(C)Z"⟩
abbrev cJ1_inflate_0e8fd : ByteArray := prog_33_method_50_code
def yJ1_inflate_0e8fd : MethodName := ⟨RJ1, "inflate", "([BI[BII)V"⟩
def RJ2 : String := "java/lang/StringUTF16"
def TJ2 : u_T := fun k => match k with
  | _ => ("", "", "", false)
def tyJ2 : Nat → FieldType := fun k => match k with
  | _ => .int
abbrev wsJ20 : List Cond := u_ws RJ2 TJ2 0
theorem nmJ2 : ∀ a, a < 0 → ∀ b, b < 0 → a ≠ b → (TJ2 a).2.1 ≠ (TJ2 b).2.1 := by decide +kernel
theorem tyJ2_ok : ∀ k, k < 0 → parseFieldDescriptor (TJ2 k).2.2.1 = some (tyJ2 k) := by decide +kernel
abbrev cJ2_newBytesFor_77867 : ByteArray := prog_34_method_2_code
def yJ2_newBytesFor_77867 : MethodName := ⟨RJ2, "newBytesFor", "(I)[B"⟩
abbrev cJ2_newBytesLength_0f7a4 : ByteArray := prog_34_method_3_code
def yJ2_newBytesLength_0f7a4 : MethodName := ⟨RJ2, "newBytesLength", "(I)I"⟩
abbrev cJ2_putChar_b72d1 : ByteArray := prog_34_method_4_code
def yJ2_putChar_b72d1 : MethodName := ⟨RJ2, "putChar", "([BII)V"⟩
abbrev cJ2_getChar_3b067 : ByteArray := prog_34_method_5_code
def yJ2_getChar_3b067 : MethodName := ⟨RJ2, "getChar", "([BI)C"⟩
abbrev cJ2_length_9d52b : ByteArray := prog_34_method_6_code
def yJ2_length_9d52b : MethodName := ⟨RJ2, "length", "([B)I"⟩
abbrev cJ2_coderFromArrayLen_85cad : ByteArray := prog_34_method_15_code
def yJ2_coderFromArrayLen_85cad : MethodName := ⟨RJ2, "coderFromArrayLen", "([BI)B"⟩
abbrev cJ2_compress_39247 : ByteArray := prog_34_method_17_code
def yJ2_compress_39247 : MethodName := ⟨RJ2, "compress", "([BII)[B"⟩
abbrev cJ2_compress_5af95 : ByteArray := prog_34_method_22_code
def yJ2_compress_5af95 : MethodName := ⟨RJ2, "compress", "([BI[BII)I"⟩
abbrev cJ2_putCharSB_b72d1 : ByteArray := prog_34_method_71_code
def yJ2_putCharSB_b72d1 : MethodName := ⟨RJ2, "putCharSB", "([BII)V"⟩
abbrev cJ2_getChars_46870 : ByteArray := prog_34_method_77_code
def yJ2_getChars_46870 : MethodName := ⟨RJ2, "getChars", "(III[B)I"⟩
abbrev cJ2_putCharsAt_cd4e5 : ByteArray := prog_34_method_81_code
def yJ2_putCharsAt_cd4e5 : MethodName := ⟨RJ2, "putCharsAt", "([BICCCC)I"⟩
abbrev cJ2_charAt_3b067 : ByteArray := prog_34_method_83_code
def yJ2_charAt_3b067 : MethodName := ⟨RJ2, "charAt", "([BI)C"⟩
abbrev cJ2_inflate_0e8fd : ByteArray := prog_34_method_86_code
def yJ2_inflate_0e8fd : MethodName := ⟨RJ2, "inflate", "([BI[BII)V"⟩
abbrev cJ2_getChars_ba4f3 : ByteArray := prog_34_method_89_code
def yJ2_getChars_ba4f3 : MethodName := ⟨RJ2, "getChars", "(II[B)I"⟩
abbrev cJ2_checkIndex_2214a : ByteArray := prog_34_method_91_code
def yJ2_checkIndex_2214a : MethodName := ⟨RJ2, "checkIndex", "(I[B)V"⟩
abbrev cJ2_checkBoundsBeginEnd_d044e : ByteArray := prog_34_method_93_code
def yJ2_checkBoundsBeginEnd_d044e : MethodName := ⟨RJ2, "checkBoundsBeginEnd", "(II[B)V"⟩
abbrev cJ2_checkBoundsOffCount_d044e : ByteArray := prog_34_method_94_code
def yJ2_checkBoundsOffCount_d044e : MethodName := ⟨RJ2, "checkBoundsOffCount", "(II[B)V"⟩
def RJ10 : String := "java/lang/System"
def TJ10 : u_T := fun k => match k with
  | _ => ("", "", "", false)
def tyJ10 : Nat → FieldType := fun k => match k with
  | _ => .int
abbrev wsJ100 : List Cond := u_ws RJ10 TJ10 0
theorem nmJ10 : ∀ a, a < 0 → ∀ b, b < 0 → a ≠ b → (TJ10 a).2.1 ≠ (TJ10 b).2.1 := by decide +kernel
theorem tyJ10_ok : ∀ k, k < 0 → parseFieldDescriptor (TJ10 k).2.2.1 = some (tyJ10 k) := by decide +kernel
def RJxfd54e : String := "java/lang/constant/Constable"
def TJxfd54e : u_T := fun k => match k with
  | _ => ("", "", "", false)
def tyJxfd54e : Nat → FieldType := fun k => match k with
  | _ => .int
abbrev wsJxfd54e0 : List Cond := u_ws RJxfd54e TJxfd54e 0
theorem nmJxfd54e : ∀ a, a < 0 → ∀ b, b < 0 → a ≠ b → (TJxfd54e a).2.1 ≠ (TJxfd54e b).2.1 := by decide +kernel
theorem tyJxfd54e_ok : ∀ k, k < 0 → parseFieldDescriptor (TJxfd54e k).2.2.1 = some (tyJxfd54e k) := by decide +kernel
def RJx3cf43 : String := "java/lang/constant/ConstantDesc"
def TJx3cf43 : u_T := fun k => match k with
  | _ => ("", "", "", false)
def tyJx3cf43 : Nat → FieldType := fun k => match k with
  | _ => .int
abbrev wsJx3cf430 : List Cond := u_ws RJx3cf43 TJx3cf43 0
theorem nmJx3cf43 : ∀ a, a < 0 → ∀ b, b < 0 → a ≠ b → (TJx3cf43 a).2.1 ≠ (TJx3cf43 b).2.1 := by decide +kernel
theorem tyJx3cf43_ok : ∀ k, k < 0 → parseFieldDescriptor (TJx3cf43 k).2.2.1 = some (tyJx3cf43 k) := by decide +kernel
def RJxa1e45 : String := "java/util/AbstractCollection"
def TJxa1e45 : u_T := fun k => match k with
  | _ => ("", "", "", false)
def tyJxa1e45 : Nat → FieldType := fun k => match k with
  | _ => .int
abbrev wsJxa1e450 : List Cond := u_ws RJxa1e45 TJxa1e45 0
theorem nmJxa1e45 : ∀ a, a < 0 → ∀ b, b < 0 → a ≠ b → (TJxa1e45 a).2.1 ≠ (TJxa1e45 b).2.1 := by decide +kernel
theorem tyJxa1e45_ok : ∀ k, k < 0 → parseFieldDescriptor (TJxa1e45 k).2.2.1 = some (tyJxa1e45 k) := by decide +kernel
abbrev cJxa1e45_init_da8c8 : ByteArray := prog_39_method_1_code
def yJxa1e45_init_da8c8 : MethodName := ⟨RJxa1e45, "<init>", "()V"⟩
def RJxc12de : String := "java/util/AbstractList"
def TJxc12de : u_T := fun k => match k with
  | _ => ("", "", "", false)
def tyJxc12de : Nat → FieldType := fun k => match k with
  | _ => .int
abbrev wsJxc12de0 : List Cond := u_ws RJxc12de TJxc12de 0
theorem nmJxc12de : ∀ a, a < 0 → ∀ b, b < 0 → a ≠ b → (TJxc12de a).2.1 ≠ (TJxc12de b).2.1 := by decide +kernel
theorem tyJxc12de_ok : ∀ k, k < 0 → parseFieldDescriptor (TJxc12de k).2.2.1 = some (tyJxc12de k) := by decide +kernel
abbrev cJxc12de_init_da8c8 : ByteArray := prog_40_method_1_code
def yJxc12de_init_da8c8 : MethodName := ⟨RJxc12de, "<init>", "()V"⟩
def RJx4a65c : String := "java/util/ArrayList"
def TJx4a65c : u_T := fun k => match k with
  | 0 => ("java/util/AbstractList", "modCount", "I", false)
  | 1 => ("java/util/ArrayList", "elementData", "[Ljava/lang/Object;", false)
  | _ => ("java/util/ArrayList", "size", "I", false)
def tyJx4a65c : Nat → FieldType := fun k => match k with
  | 0 => .int
  | 1 => .array (.object "java/lang/Object")
  | _ => .int
abbrev wsJx4a65c0 : List Cond := u_ws RJx4a65c TJx4a65c 3
theorem nmJx4a65c : ∀ a, a < 3 → ∀ b, b < 3 → a ≠ b → (TJx4a65c a).2.1 ≠ (TJx4a65c b).2.1 := by decide +kernel
theorem tyJx4a65c_ok : ∀ k, k < 3 → parseFieldDescriptor (TJx4a65c k).2.2.1 = some (tyJx4a65c k) := by decide +kernel
abbrev cJx4a65c_init_da8c8 : ByteArray := prog_41_method_2_code
def yJx4a65c_init_da8c8 : MethodName := ⟨RJx4a65c, "<init>", "()V"⟩
abbrev cJx4a65c_grow_92f84 : ByteArray := prog_41_method_6_code
def yJx4a65c_grow_92f84 : MethodName := ⟨RJx4a65c, "grow", "(I)[Ljava/lang/Object;"⟩
abbrev cJx4a65c_grow_d5877 : ByteArray := prog_41_method_7_code
def yJx4a65c_grow_d5877 : MethodName := ⟨RJx4a65c, "grow", "()[Ljava/lang/Object;"⟩
abbrev cJx4a65c_size_8abf5 : ByteArray := prog_41_method_8_code
def yJx4a65c_size_8abf5 : MethodName := ⟨RJx4a65c, "size", "()I"⟩
abbrev cJx4a65c_elementData_915e3 : ByteArray := prog_41_method_18_code
def yJx4a65c_elementData_915e3 : MethodName := ⟨RJx4a65c, "elementData", "(I)Ljava/lang/Object;"⟩
abbrev cJx4a65c_get_915e3 : ByteArray := prog_41_method_20_code
def yJx4a65c_get_915e3 : MethodName := ⟨RJx4a65c, "get", "(I)Ljava/lang/Object;"⟩
abbrev cJx4a65c_add_72be8 : ByteArray := prog_41_method_24_code
def yJx4a65c_add_72be8 : MethodName := ⟨RJx4a65c, "add", "(Ljava/lang/Object;[Ljava/lang/Object;I)V"⟩
abbrev cJx4a65c_add_9ea2d : ByteArray := prog_41_method_25_code
def yJx4a65c_add_9ea2d : MethodName := ⟨RJx4a65c, "add", "(Ljava/lang/Object;)Z"⟩
abbrev cJx4a65c_remove_915e3 : ByteArray := prog_41_method_29_code
def yJx4a65c_remove_915e3 : MethodName := ⟨RJx4a65c, "remove", "(I)Ljava/lang/Object;"⟩
abbrev cJx4a65c_fastRemove_b59b0 : ByteArray := prog_41_method_39_code
def yJx4a65c_fastRemove_b59b0 : MethodName := ⟨RJx4a65c, "fastRemove", "([Ljava/lang/Object;I)V"⟩
def RJ7 : String := "java/util/Arrays"
def TJ7 : u_T := fun k => match k with
  | _ => ("", "", "", false)
def tyJ7 : Nat → FieldType := fun k => match k with
  | _ => .int
abbrev wsJ70 : List Cond := u_ws RJ7 TJ7 0
theorem nmJ7 : ∀ a, a < 0 → ∀ b, b < 0 → a ≠ b → (TJ7 a).2.1 ≠ (TJ7 b).2.1 := by decide +kernel
theorem tyJ7_ok : ∀ k, k < 0 → parseFieldDescriptor (TJ7 k).2.2.1 = some (tyJ7 k) := by decide +kernel
abbrev cJ7_fill_53178 : ByteArray := prog_42_method_103_code
def yJ7_fill_53178 : MethodName := ⟨RJ7, "fill", "([II)V"⟩
abbrev cJ7_copyOf_1904c : ByteArray := prog_42_method_119_code
def yJ7_copyOf_1904c : MethodName := ⟨RJ7, "copyOf", "([Ljava/lang/Object;I)[Ljava/lang/Object;"⟩
abbrev cJ7_copyOf_6403c : ByteArray := prog_42_method_120_code
def yJ7_copyOf_6403c : MethodName := ⟨RJ7, "copyOf", "([Ljava/lang/Object;ILjava/lang/Class;)[Ljava/lang/Object;"⟩
abbrev cJ7_copyOf_9075b : ByteArray := prog_42_method_121_code
def yJ7_copyOf_9075b : MethodName := ⟨RJ7, "copyOf", "([BI)[B"⟩
abbrev cJ7_checkLength_df160 : ByteArray := prog_42_method_131_code
def yJ7_checkLength_df160 : MethodName := ⟨RJ7, "checkLength", "(II)V"⟩
abbrev cJ7_copyOfRange_39247 : ByteArray := prog_42_method_132_code
def yJ7_copyOfRange_39247 : MethodName := ⟨RJ7, "copyOfRange", "([BII)[B"⟩
abbrev cJ7_copyOfRangeByte_39247 : ByteArray := prog_42_method_133_code
def yJ7_copyOfRangeByte_39247 : MethodName := ⟨RJ7, "copyOfRangeByte", "([BII)[B"⟩
def RJx5ef63 : String := "java/util/Collection"
def TJx5ef63 : u_T := fun k => match k with
  | _ => ("", "", "", false)
def tyJx5ef63 : Nat → FieldType := fun k => match k with
  | _ => .int
abbrev wsJx5ef630 : List Cond := u_ws RJx5ef63 TJx5ef63 0
theorem nmJx5ef63 : ∀ a, a < 0 → ∀ b, b < 0 → a ≠ b → (TJx5ef63 a).2.1 ≠ (TJx5ef63 b).2.1 := by decide +kernel
theorem tyJx5ef63_ok : ∀ k, k < 0 → parseFieldDescriptor (TJx5ef63 k).2.2.1 = some (tyJx5ef63 k) := by decide +kernel
def RJxbd725 : String := "java/util/List"
def TJxbd725 : u_T := fun k => match k with
  | _ => ("", "", "", false)
def tyJxbd725 : Nat → FieldType := fun k => match k with
  | _ => .int
abbrev wsJxbd7250 : List Cond := u_ws RJxbd725 TJxbd725 0
theorem nmJxbd725 : ∀ a, a < 0 → ∀ b, b < 0 → a ≠ b → (TJxbd725 a).2.1 ≠ (TJxbd725 b).2.1 := by decide +kernel
theorem tyJxbd725_ok : ∀ k, k < 0 → parseFieldDescriptor (TJxbd725 k).2.2.1 = some (tyJxbd725 k) := by decide +kernel
def RJ15 : String := "java/util/Objects"
def TJ15 : u_T := fun k => match k with
  | _ => ("", "", "", false)
def tyJ15 : Nat → FieldType := fun k => match k with
  | _ => .int
abbrev wsJ150 : List Cond := u_ws RJ15 TJ15 0
theorem nmJ15 : ∀ a, a < 0 → ∀ b, b < 0 → a ≠ b → (TJ15 a).2.1 ≠ (TJ15 b).2.1 := by decide +kernel
theorem tyJ15_ok : ∀ k, k < 0 → parseFieldDescriptor (TJ15 k).2.2.1 = some (tyJ15 k) := by decide +kernel
abbrev cJ15_checkIndex_7cf53 : ByteArray := prog_45_method_17_code
def yJ15_checkIndex_7cf53 : MethodName := ⟨RJ15, "checkIndex", "(II)I"⟩
def RJxf0a74 : String := "java/util/RandomAccess"
def TJxf0a74 : u_T := fun k => match k with
  | _ => ("", "", "", false)
def tyJxf0a74 : Nat → FieldType := fun k => match k with
  | _ => .int
abbrev wsJxf0a740 : List Cond := u_ws RJxf0a74 TJxf0a74 0
theorem nmJxf0a74 : ∀ a, a < 0 → ∀ b, b < 0 → a ≠ b → (TJxf0a74 a).2.1 ≠ (TJxf0a74 b).2.1 := by decide +kernel
theorem tyJxf0a74_ok : ∀ k, k < 0 → parseFieldDescriptor (TJxf0a74 k).2.2.1 = some (tyJxf0a74 k) := by decide +kernel
def RJxa66e6 : String := "java/util/SequencedCollection"
def TJxa66e6 : u_T := fun k => match k with
  | _ => ("", "", "", false)
def tyJxa66e6 : Nat → FieldType := fun k => match k with
  | _ => .int
abbrev wsJxa66e60 : List Cond := u_ws RJxa66e6 TJxa66e6 0
theorem nmJxa66e6 : ∀ a, a < 0 → ∀ b, b < 0 → a ≠ b → (TJxa66e6 a).2.1 ≠ (TJxa66e6 b).2.1 := by decide +kernel
theorem tyJxa66e6_ok : ∀ k, k < 0 → parseFieldDescriptor (TJxa66e6 k).2.2.1 = some (tyJxa66e6 k) := by decide +kernel
def RJ8 : String := "jdk/internal/util/ArraysSupport"
def TJ8 : u_T := fun k => match k with
  | _ => ("", "", "", false)
def tyJ8 : Nat → FieldType := fun k => match k with
  | _ => .int
abbrev wsJ80 : List Cond := u_ws RJ8 TJ8 0
theorem nmJ8 : ∀ a, a < 0 → ∀ b, b < 0 → a ≠ b → (TJ8 a).2.1 ≠ (TJ8 b).2.1 := by decide +kernel
theorem tyJ8_ok : ∀ k, k < 0 → parseFieldDescriptor (TJ8 k).2.2.1 = some (tyJ8 k) := by decide +kernel
abbrev cJ8_newLength_cabcc : ByteArray := prog_48_method_27_code
def yJ8_newLength_cabcc : MethodName := ⟨RJ8, "newLength", "(III)I"⟩
abbrev cJ8_hugeLength_7cf53 : ByteArray := prog_48_method_28_code
def yJ8_hugeLength_7cf53 : MethodName := ⟨RJ8, "hugeLength", "(II)I"⟩
def RJ3 : String := "jdk/internal/util/Preconditions"
def TJ3 : u_T := fun k => match k with
  | _ => ("", "", "", false)
def tyJ3 : Nat → FieldType := fun k => match k with
  | _ => .int
abbrev wsJ30 : List Cond := u_ws RJ3 TJ3 0
theorem nmJ3 : ∀ a, a < 0 → ∀ b, b < 0 → a ≠ b → (TJ3 a).2.1 ≠ (TJ3 b).2.1 := by decide +kernel
theorem tyJ3_ok : ∀ k, k < 0 → parseFieldDescriptor (TJ3 k).2.2.1 = some (tyJ3 k) := by decide +kernel
abbrev cJ3_checkIndex_8e157 : ByteArray := prog_49_method_11_code
def yJ3_checkIndex_8e157 : MethodName := ⟨RJ3, "checkIndex", "(IILjava/util/function/BiFunction;)I"⟩
abbrev cJ3_checkFromToIndex_8c36e : ByteArray := prog_49_method_12_code
def yJ3_checkFromToIndex_8c36e : MethodName := ⟨RJ3, "checkFromToIndex", "(IIILjava/util/function/BiFunction;)I"⟩
abbrev cJ3_checkFromIndexSize_8c36e : ByteArray := prog_49_method_13_code
def yJ3_checkFromIndexSize_8c36e : MethodName := ⟨RJ3, "checkFromIndexSize", "(IIILjava/util/function/BiFunction;)I"⟩
def RL : String := "ShareGraphLaw"
abbrev cL_cell : ByteArray := method_2_code
def yL_cell : MethodName := ⟨RL, "cell", "([II)I"⟩
abbrev cL_pick : ByteArray := method_3_code
def yL_pick : MethodName := ⟨RL, "pick", "([III)I"⟩
abbrev cL_feeds : ByteArray := method_4_code
def yL_feeds : MethodName := ⟨RL, "feeds", "(LShareGraph;Ljava/lang/String;)Z"⟩
abbrev cL_alike : ByteArray := method_5_code
def yL_alike : MethodName := ⟨RL, "alike", "(LShareGraph;LShareGraphLaw$World;)Z"⟩
abbrev cL_acts : ByteArray := method_6_code
def yL_acts : MethodName := ⟨RL, "acts", "(LShareGraph;LShareGraphLaw$World;[II)Z"⟩
abbrev cL_law : ByteArray := code
def yL_law : MethodName := ⟨RL, "law", "([I)Z"⟩
abbrev cL_shared : ByteArray := method_8_code
def yL_shared : MethodName := ⟨RL, "shared", "(LShareGraph;LShareGraphLaw$World;)Z"⟩
abbrev cL_steps : ByteArray := method_9_code
def yL_steps : MethodName := ⟨RL, "steps", "(LShareGraph;LShareGraphLaw$World;)Z"⟩
abbrev cL_flows : ByteArray := method_10_code
def yL_flows : MethodName := ⟨RL, "flows", "(LShareGraph;LShareGraphLaw$World;)Z"⟩
abbrev cL_back : ByteArray := method_11_code
def yL_back : MethodName := ⟨RL, "back", "(LShareGraph;LShareGraphLaw$World;)Z"⟩
abbrev vwCl : List vw_C := [(RJ0, TJ0, 4), (RJ4, TJ4, 4), (RJx4a65c, TJx4a65c, 3), (RX0, TX0, 5), (RX1, TX1, 6), (RX2, TX2, 12), (RX3, TX3, 3), (RX4, TX4, 12), (RX5, TX5, 5), (RX6, TX6, 6), (RX7, TX7, 1), (RX8, TX8, 7), (RX9, TX9, 1), (RX10, TX10, 12), (RX11, TX11, 18), (RX12, TX12, 13)]
