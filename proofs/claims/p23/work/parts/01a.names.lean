/-! ===== BEGIN words of one list among another's, by their places ===== -/
theorem goodIn_r {big : List Cond} (ws : List Cond) (ps : List Nat) (hp : ws = ps.filterMap (fun i => big[i]?)) (h : ws.all goodWord = true) : GoodIn big ws := by
  intro w hw
  have h1 := List.all_eq_true.mp h w hw
  rw [hp] at hw
  obtain ⟨i, -, hi⟩ := List.mem_filterMap.mp hw
  have hm : w ∈ big := by first | exact List.mem_of_getElem? hi | exact List.getElem?_mem hi
  exact ⟨hm, good_of_word h1⟩
theorem goodIn_app {big a b : List Cond} (ha : GoodIn big a) (hb : GoodIn big b) : GoodIn big (a ++ b) := fun w h => (List.mem_append.mp h).elim (ha w) (hb w)
theorem goodIn_ca {big a b : List Cond} {c : Cond} (ha : GoodIn big (c :: a)) (hb : GoodIn big b) : GoodIn big (c :: (a ++ b)) := fun w h => (List.mem_cons.mp h).elim (fun e => ha w (List.mem_cons.mpr (Or.inl e))) (fun h => (List.mem_append.mp h).elim (fun h => ha w (List.mem_cons.mpr (Or.inr h))) (hb w))
theorem goodIn_sub {big ws : List Cond} (hm : ∀ w ∈ ws, w ∈ big) (h : ws.all goodWord = true) : GoodIn big ws := fun w hw => ⟨hm w hw, good_of_word (List.all_eq_true.mp h w hw)⟩
theorem am_nil {big : List Cond} : ∀ w ∈ ([] : List Cond), w ∈ big := fun _ h => absurd h List.not_mem_nil
theorem am_cons {big l : List Cond} {a : Cond} (h : a ∈ big) (t : ∀ w ∈ l, w ∈ big) : ∀ w ∈ a :: l, w ∈ big := fun w hw => (List.mem_cons.mp hw).elim (fun e => by rw [e]; exact h) (t w)
theorem am_app {big a b : List Cond} (h : ∀ w ∈ a, w ∈ big) (t : ∀ w ∈ b, w ∈ big) : ∀ w ∈ a ++ b, w ∈ big := fun w hw => (List.mem_append.mp hw).elim (h w) (t w)
/-! ===== END ===== -/

/-! ===== BEGIN printed: names, fields, word lists, decode rows ===== -/
def RX0 : String := "WornRings$Heap"
def TX0 : u_T := fun k => match k with
  | 0 => ("WornRings$Heap", "numbers", "[I", true)
  | 1 => ("WornRings$Heap", "explained", "[I", true)
  | 2 => ("WornRings$Heap", "fewest", "[B", true)
  | 3 => ("WornRings$Heap", "chosen", "[I", true)
  | 4 => ("WornRings$Heap", "candidates", "I", false)
  | 5 => ("WornRings$Heap", "together", "I", false)
  | 6 => ("WornRings$Heap", "size", "I", false)
  | _ => ("WornRings$Heap", "laid", "Z", false)
def tyX0 : Nat → FieldType := fun k => match k with
  | 0 => .array .int
  | 1 => .array .int
  | 2 => .array .byte
  | 3 => .array .int
  | 4 => .int
  | 5 => .int
  | 6 => .int
  | _ => .boolean
abbrev wsX00 : List Cond := u_ws RX0 TX0 8
theorem nmX0 : ∀ a, a < 8 → ∀ b, b < 8 → a ≠ b → (TX0 a).2.1 ≠ (TX0 b).2.1 := by decide +kernel
theorem tyX0_ok : ∀ k, k < 8 → parseFieldDescriptor (TX0 k).2.2.1 = some (tyX0 k) := by decide +kernel
abbrev cX0_init : ByteArray := prog_2_method_1_code
def yX0_init : MethodName := ⟨RX0, "<init>", "()V"⟩
abbrev cX0_forget : ByteArray := prog_2_method_2_code
def yX0_forget : MethodName := ⟨RX0, "forget", "()V"⟩
abbrev cX0_layDown : ByteArray := prog_2_method_3_code
def yX0_layDown : MethodName := ⟨RX0, "layDown", "(LWornRings$Machine;LWornRings$Lines;)V"⟩
abbrev cX0_gather : ByteArray := prog_2_method_4_code
def yX0_gather : MethodName := ⟨RX0, "gather", "(LWornRings$Machine;LWornRings$Lines;)V"⟩
abbrev cX0_countFewest : ByteArray := prog_2_method_5_code
def yX0_countFewest : MethodName := ⟨RX0, "countFewest", "()V"⟩
abbrev cX0_fewestFor : ByteArray := prog_2_method_6_code
def yX0_fewestFor : MethodName := ⟨RX0, "fewestFor", "(I)I"⟩
abbrev cX0_choose : ByteArray := prog_2_method_7_code
def yX0_choose : MethodName := ⟨RX0, "choose", "()V"⟩
def RX1 : String := "WornRings$Lines"
def TX1 : u_T := fun k => match k with
  | 0 => ("WornRings$Lines", "above", "[I", true)
  | 1 => ("WornRings$Lines", "below", "[I", true)
  | 2 => ("WornRings$Lines", "count", "I", false)
  | _ => ("WornRings$Lines", "thousandths", "I", false)
def tyX1 : Nat → FieldType := fun k => match k with
  | 0 => .array .int
  | 1 => .array .int
  | 2 => .int
  | _ => .int
abbrev wsX10 : List Cond := u_ws RX1 TX1 4
theorem nmX1 : ∀ a, a < 4 → ∀ b, b < 4 → a ≠ b → (TX1 a).2.1 ≠ (TX1 b).2.1 := by decide +kernel
theorem tyX1_ok : ∀ k, k < 4 → parseFieldDescriptor (TX1 k).2.2.1 = some (tyX1 k) := by decide +kernel
abbrev cX1_init : ByteArray := prog_3_method_1_code
def yX1_init : MethodName := ⟨RX1, "<init>", "()V"⟩
abbrev cX1_add : ByteArray := prog_3_method_2_code
def yX1_add : MethodName := ⟨RX1, "add", "(II)I"⟩
abbrev cX1_allBits : ByteArray := prog_3_method_3_code
def yX1_allBits : MethodName := ⟨RX1, "allBits", "()I"⟩
abbrev cX1_explainedBy : ByteArray := prog_3_method_4_code
def yX1_explainedBy : MethodName := ⟨RX1, "explainedBy", "(LWornRings$Part;)I"⟩
abbrev cX1_allTonesSeen : ByteArray := prog_3_method_5_code
def yX1_allTonesSeen : MethodName := ⟨RX1, "allTonesSeen", "(LWornRings$Part;)Z"⟩
abbrev cX1_near : ByteArray := prog_3_method_6_code
def yX1_near : MethodName := ⟨RX1, "near", "(JJ)I"⟩
def RX2 : String := "WornRings$Load"
def TX2 : u_T := fun k => match k with
  | 0 => ("WornRings$Load", "readings", "[I", true)
  | 1 => ("WornRings$Load", "count", "I", false)
  | 2 => ("WornRings$Load", "middle", "I", false)
  | _ => ("WornRings$Load", "warning", "Z", false)
def tyX2 : Nat → FieldType := fun k => match k with
  | 0 => .array .int
  | 1 => .int
  | 2 => .int
  | _ => .boolean
abbrev wsX20 : List Cond := u_ws RX2 TX2 4
theorem nmX2 : ∀ a, a < 4 → ∀ b, b < 4 → a ≠ b → (TX2 a).2.1 ≠ (TX2 b).2.1 := by decide +kernel
theorem tyX2_ok : ∀ k, k < 4 → parseFieldDescriptor (TX2 k).2.2.1 = some (tyX2 k) := by decide +kernel
abbrev cX2_init : ByteArray := prog_4_method_1_code
def yX2_init : MethodName := ⟨RX2, "<init>", "()V"⟩
abbrev cX2_add : ByteArray := prog_4_method_2_code
def yX2_add : MethodName := ⟨RX2, "add", "(I)V"⟩
abbrev cX2_clear : ByteArray := prog_4_method_3_code
def yX2_clear : MethodName := ⟨RX2, "clear", "()V"⟩
abbrev cX2_judge : ByteArray := prog_4_method_4_code
def yX2_judge : MethodName := ⟨RX2, "judge", "(III)V"⟩
abbrev cX2_latestAllAbove : ByteArray := prog_4_method_5_code
def yX2_latestAllAbove : MethodName := ⟨RX2, "latestAllAbove", "(II)Z"⟩
abbrev cX2_middleOfFirst : ByteArray := prog_4_method_6_code
def yX2_middleOfFirst : MethodName := ⟨RX2, "middleOfFirst", "()I"⟩
abbrev cX2_countFirst : ByteArray := prog_4_method_7_code
def yX2_countFirst : MethodName := ⟨RX2, "countFirst", "(IZ)I"⟩
def RX3 : String := "WornRings$Machine"
def TX3 : u_T := fun k => match k with
  | 0 => ("WornRings$Machine", "above", "[J", true)
  | 1 => ("WornRings$Machine", "below", "[J", true)
  | 2 => ("WornRings$Machine", "own", "[LWornRings$Part;", true)
  | 3 => ("WornRings$Machine", "gears", "[LWornRings$Part;", true)
  | 4 => ("WornRings$Machine", "onRings", "[LWornRings$Part;", true)
  | 5 => ("WornRings$Machine", "shafts", "I", false)
  | _ => ("WornRings$Machine", "rings", "I", false)
def tyX3 : Nat → FieldType := fun k => match k with
  | 0 => .array .long
  | 1 => .array .long
  | 2 => .array (.object "WornRings$Part")
  | 3 => .array (.object "WornRings$Part")
  | 4 => .array (.object "WornRings$Part")
  | 5 => .int
  | _ => .int
abbrev wsX30 : List Cond := u_ws RX3 TX3 7
theorem nmX3 : ∀ a, a < 7 → ∀ b, b < 7 → a ≠ b → (TX3 a).2.1 ≠ (TX3 b).2.1 := by decide +kernel
theorem tyX3_ok : ∀ k, k < 7 → parseFieldDescriptor (TX3 k).2.2.1 = some (tyX3 k) := by decide +kernel
abbrev cX3_init : ByteArray := prog_5_method_1_code
def yX3_init : MethodName := ⟨RX3, "<init>", "()V"⟩
abbrev cX3_addShaft : ByteArray := prog_5_method_2_code
def yX3_addShaft : MethodName := ⟨RX3, "addShaft", "(III)I"⟩
abbrev cX3_addRing : ByteArray := prog_5_method_3_code
def yX3_addRing : MethodName := ⟨RX3, "addRing", "(IIII)I"⟩
abbrev cX3_hasShaft : ByteArray := prog_5_method_4_code
def yX3_hasShaft : MethodName := ⟨RX3, "hasShaft", "(I)Z"⟩
abbrev cX3_speedAbove : ByteArray := prog_5_method_5_code
def yX3_speedAbove : MethodName := ⟨RX3, "speedAbove", "(I)J"⟩
abbrev cX3_speedBelow : ByteArray := prog_5_method_6_code
def yX3_speedBelow : MethodName := ⟨RX3, "speedBelow", "(I)J"⟩
abbrev cX3_countParts : ByteArray := prog_5_method_7_code
def yX3_countParts : MethodName := ⟨RX3, "countParts", "()I"⟩
abbrev cX3_find : ByteArray := prog_5_method_8_code
def yX3_find : MethodName := ⟨RX3, "find", "(I)LWornRings$Part;"⟩
abbrev cX3_ownPart : ByteArray := prog_5_method_9_code
def yX3_ownPart : MethodName := ⟨RX3, "ownPart", "(I)LWornRings$Part;"⟩
abbrev cX3_gearPart : ByteArray := prog_5_method_10_code
def yX3_gearPart : MethodName := ⟨RX3, "gearPart", "(II)LWornRings$Part;"⟩
abbrev cX3_outerPart : ByteArray := prog_5_method_11_code
def yX3_outerPart : MethodName := ⟨RX3, "outerPart", "(IIII)LWornRings$Part;"⟩
abbrev cX3_innerPart : ByteArray := prog_5_method_12_code
def yX3_innerPart : MethodName := ⟨RX3, "innerPart", "(IIII)LWornRings$Part;"⟩
abbrev cX3_cagePart : ByteArray := prog_5_method_13_code
def yX3_cagePart : MethodName := ⟨RX3, "cagePart", "(III)LWornRings$Part;"⟩
abbrev cX3_ballsPart : ByteArray := prog_5_method_14_code
def yX3_ballsPart : MethodName := ⟨RX3, "ballsPart", "(III)LWornRings$Part;"⟩
abbrev cX3_addMultiple : ByteArray := prog_5_method_15_code
def yX3_addMultiple : MethodName := ⟨RX3, "addMultiple", "(LWornRings$Part;II)V"⟩
def RX4 : String := "WornRings$Marks"
def TX4 : u_T := fun k => match k with
  | 0 => ("WornRings$Marks", "mended", "[I", true)
  | 1 => ("WornRings$Marks", "kept", "I", false)
  | 2 => ("WornRings$Marks", "count", "I", false)
  | _ => ("WornRings$Marks", "last", "I", false)
def tyX4 : Nat → FieldType := fun k => match k with
  | 0 => .array .int
  | 1 => .int
  | 2 => .int
  | _ => .int
abbrev wsX40 : List Cond := u_ws RX4 TX4 4
theorem nmX4 : ∀ a, a < 4 → ∀ b, b < 4 → a ≠ b → (TX4 a).2.1 ≠ (TX4 b).2.1 := by decide +kernel
theorem tyX4_ok : ∀ k, k < 4 → parseFieldDescriptor (TX4 k).2.2.1 = some (tyX4 k) := by decide +kernel
abbrev cX4_init : ByteArray := prog_6_method_1_code
def yX4_init : MethodName := ⟨RX4, "<init>", "()V"⟩
abbrev cX4_add : ByteArray := prog_6_method_2_code
def yX4_add : MethodName := ⟨RX4, "add", "(I)I"⟩
abbrev cX4_clear : ByteArray := prog_6_method_3_code
def yX4_clear : MethodName := ⟨RX4, "clear", "()I"⟩
abbrev cX4_hasTurns : ByteArray := prog_6_method_4_code
def yX4_hasTurns : MethodName := ⟨RX4, "hasTurns", "(II)Z"⟩
abbrev cX4_endOf : ByteArray := prog_6_method_5_code
def yX4_endOf : MethodName := ⟨RX4, "endOf", "(I)I"⟩
abbrev cX4_timeIn : ByteArray := prog_6_method_6_code
def yX4_timeIn : MethodName := ⟨RX4, "timeIn", "(II)I"⟩
abbrev cX4_mendUpTo : ByteArray := prog_6_method_7_code
def yX4_mendUpTo : MethodName := ⟨RX4, "mendUpTo", "(I)V"⟩
abbrev cX4_keep : ByteArray := prog_6_method_8_code
def yX4_keep : MethodName := ⟨RX4, "keep", "(I)V"⟩
def RX5 : String := "WornRings$Mean"
def TX5 : u_T := fun k => match k with
  | 0 => ("WornRings$Mean", "values", "[I", true)
  | _ => ("WornRings$Mean", "told", "Z", false)
def tyX5 : Nat → FieldType := fun k => match k with
  | 0 => .array .int
  | _ => .boolean
abbrev wsX50 : List Cond := u_ws RX5 TX5 2
theorem nmX5 : ∀ a, a < 2 → ∀ b, b < 2 → a ≠ b → (TX5 a).2.1 ≠ (TX5 b).2.1 := by decide +kernel
theorem tyX5_ok : ∀ k, k < 2 → parseFieldDescriptor (TX5 k).2.2.1 = some (tyX5 k) := by decide +kernel
abbrev cX5_init : ByteArray := prog_7_method_1_code
def yX5_init : MethodName := ⟨RX5, "<init>", "()V"⟩
abbrev cX5_take : ByteArray := prog_7_method_2_code
def yX5_take : MethodName := ⟨RX5, "take", "(LWornRings$Sheet;LWornRings$Marks;II)V"⟩
abbrev cX5_strengthAt : ByteArray := prog_7_method_3_code
def yX5_strengthAt : MethodName := ⟨RX5, "strengthAt", "(I)J"⟩
def RX6 : String := "WornRings$Part"
def TX6 : u_T := fun k => match k with
  | 0 => ("WornRings$Part", "kind", "I", true)
  | 1 => ("WornRings$Part", "seat", "I", true)
  | 2 => ("WornRings$Part", "above", "[J", true)
  | 3 => ("WornRings$Part", "below", "[J", true)
  | _ => ("WornRings$Part", "count", "I", false)
def tyX6 : Nat → FieldType := fun k => match k with
  | 0 => .int
  | 1 => .int
  | 2 => .array .long
  | 3 => .array .long
  | _ => .int
abbrev wsX60 : List Cond := u_ws RX6 TX6 5
theorem nmX6 : ∀ a, a < 5 → ∀ b, b < 5 → a ≠ b → (TX6 a).2.1 ≠ (TX6 b).2.1 := by decide +kernel
theorem tyX6_ok : ∀ k, k < 5 → parseFieldDescriptor (TX6 k).2.2.1 = some (tyX6 k) := by decide +kernel
abbrev cX6_init : ByteArray := prog_8_method_1_code
def yX6_init : MethodName := ⟨RX6, "<init>", "(II)V"⟩
abbrev cX6_addTone : ByteArray := prog_8_method_2_code
def yX6_addTone : MethodName := ⟨RX6, "addTone", "(JJ)V"⟩
def RX7 : String := "WornRings$Sheet"
def TX7 : u_T := fun k => match k with
  | 0 => ("WornRings$Sheet", "items", "[I", true)
  | 1 => ("WornRings$Sheet", "held", "Z", false)
  | 2 => ("WornRings$Sheet", "lane", "I", false)
  | 3 => ("WornRings$Sheet", "length", "I", false)
  | _ => ("WornRings$Sheet", "step", "I", false)
def tyX7 : Nat → FieldType := fun k => match k with
  | 0 => .array .int
  | 1 => .boolean
  | 2 => .int
  | 3 => .int
  | _ => .int
abbrev wsX70 : List Cond := u_ws RX7 TX7 5
theorem nmX7 : ∀ a, a < 5 → ∀ b, b < 5 → a ≠ b → (TX7 a).2.1 ≠ (TX7 b).2.1 := by decide +kernel
theorem tyX7_ok : ∀ k, k < 5 → parseFieldDescriptor (TX7 k).2.2.1 = some (tyX7 k) := by decide +kernel
abbrev cX7_init : ByteArray := prog_9_method_1_code
def yX7_init : MethodName := ⟨RX7, "<init>", "()V"⟩
abbrev cX7_begin : ByteArray := prog_9_method_2_code
def yX7_begin : MethodName := ⟨RX7, "begin", "(III)V"⟩
abbrev cX7_put : ByteArray := prog_9_method_3_code
def yX7_put : MethodName := ⟨RX7, "put", "(II)V"⟩
abbrev cX7_lastHeard : ByteArray := prog_9_method_4_code
def yX7_lastHeard : MethodName := ⟨RX7, "lastHeard", "()I"⟩
abbrev cX7_valueAt : ByteArray := prog_9_method_5_code
def yX7_valueAt : MethodName := ⟨RX7, "valueAt", "(I)I"⟩
def RX8 : String := "WornRings"
def TX8 : u_T := fun k => match k with
  | 0 => ("WornRings", "machine", "LWornRings$Machine;", true)
  | 1 => ("WornRings", "marks", "LWornRings$Marks;", true)
  | 2 => ("WornRings", "sheets", "[LWornRings$Sheet;", true)
  | 3 => ("WornRings", "average", "LWornRings$Mean;", true)
  | 4 => ("WornRings", "lines", "LWornRings$Lines;", true)
  | 5 => ("WornRings", "fewestParts", "LWornRings$Heap;", true)
  | 6 => ("WornRings", "loads", "[LWornRings$Load;", true)
  | 7 => ("WornRings", "warnAbove", "I", false)
  | 8 => ("WornRings", "calmBelow", "I", false)
  | _ => ("WornRings", "latest", "I", false)
def tyX8 : Nat → FieldType := fun k => match k with
  | 0 => .object "WornRings$Machine"
  | 1 => .object "WornRings$Marks"
  | 2 => .array (.object "WornRings$Sheet")
  | 3 => .object "WornRings$Mean"
  | 4 => .object "WornRings$Lines"
  | 5 => .object "WornRings$Heap"
  | 6 => .array (.object "WornRings$Load")
  | 7 => .int
  | 8 => .int
  | _ => .int
abbrev wsX80 : List Cond := u_ws RX8 TX8 10
theorem nmX8 : ∀ a, a < 10 → ∀ b, b < 10 → a ≠ b → (TX8 a).2.1 ≠ (TX8 b).2.1 := by decide +kernel
theorem tyX8_ok : ∀ k, k < 10 → parseFieldDescriptor (TX8 k).2.2.1 = some (tyX8 k) := by decide +kernel
abbrev cX8_init : ByteArray := prog_1_method_1_code
def yX8_init : MethodName := ⟨RX8, "<init>", "()V"⟩
abbrev cX8_shaft : ByteArray := prog_1_method_2_code
def yX8_shaft : MethodName := ⟨RX8, "shaft", "(III)I"⟩
abbrev cX8_ring : ByteArray := prog_1_method_3_code
def yX8_ring : MethodName := ⟨RX8, "ring", "(IIII)I"⟩
abbrev cX8_speed : ByteArray := prog_1_method_4_code
def yX8_speed : MethodName := ⟨RX8, "speed", "(II)J"⟩
abbrev cX8_parts : ByteArray := prog_1_method_5_code
def yX8_parts : MethodName := ⟨RX8, "parts", "()I"⟩
abbrev cX8_part : ByteArray := prog_1_method_6_code
def yX8_part : MethodName := ⟨RX8, "part", "(II)I"⟩
abbrev cX8_tone : ByteArray := prog_1_method_7_code
def yX8_tone : MethodName := ⟨RX8, "tone", "(III)J"⟩
abbrev cX8_mark : ByteArray := prog_1_method_8_code
def yX8_mark : MethodName := ⟨RX8, "mark", "(I)I"⟩
abbrev cX8_unmark : ByteArray := prog_1_method_9_code
def yX8_unmark : MethodName := ⟨RX8, "unmark", "()I"⟩
abbrev cX8_turns : ByteArray := prog_1_method_10_code
def yX8_turns : MethodName := ⟨RX8, "turns", "()I"⟩
abbrev cX8_turn : ByteArray := prog_1_method_11_code
def yX8_turn : MethodName := ⟨RX8, "turn", "(I)I"⟩
abbrev cX8_sheet : ByteArray := prog_1_method_12_code
def yX8_sheet : MethodName := ⟨RX8, "sheet", "(IIII)I"⟩
abbrev cX8_drop : ByteArray := prog_1_method_13_code
def yX8_drop : MethodName := ⟨RX8, "drop", "(I)I"⟩
abbrev cX8_item : ByteArray := prog_1_method_14_code
def yX8_item : MethodName := ⟨RX8, "item", "(IIII)I"⟩
abbrev cX8_cut : ByteArray := prog_1_method_15_code
def yX8_cut : MethodName := ⟨RX8, "cut", "(III)I"⟩
abbrev cX8_mean : ByteArray := prog_1_method_16_code
def yX8_mean : MethodName := ⟨RX8, "mean", "(I)I"⟩
abbrev cX8_strength : ByteArray := prog_1_method_17_code
def yX8_strength : MethodName := ⟨RX8, "strength", "(I)J"⟩
abbrev cX8_line : ByteArray := prog_1_method_18_code
def yX8_line : MethodName := ⟨RX8, "line", "(II)I"⟩
abbrev cX8_unline : ByteArray := prog_1_method_19_code
def yX8_unline : MethodName := ⟨RX8, "unline", "()I"⟩
abbrev cX8_slip : ByteArray := prog_1_method_20_code
def yX8_slip : MethodName := ⟨RX8, "slip", "(I)I"⟩
abbrev cX8_explains : ByteArray := prog_1_method_21_code
def yX8_explains : MethodName := ⟨RX8, "explains", "(I)I"⟩
abbrev cX8_named : ByteArray := prog_1_method_22_code
def yX8_named : MethodName := ⟨RX8, "named", "(I)I"⟩
abbrev cX8_heap : ByteArray := prog_1_method_23_code
def yX8_heap : MethodName := ⟨RX8, "heap", "(I)I"⟩
abbrev cX8_strange : ByteArray := prog_1_method_24_code
def yX8_strange : MethodName := ⟨RX8, "strange", "()I"⟩
abbrev cX8_laws : ByteArray := prog_1_method_25_code
def yX8_laws : MethodName := ⟨RX8, "laws", "(III)I"⟩
abbrev cX8_reading : ByteArray := prog_1_method_26_code
def yX8_reading : MethodName := ⟨RX8, "reading", "(II)I"⟩
abbrev cX8_baseline : ByteArray := prog_1_method_27_code
def yX8_baseline : MethodName := ⟨RX8, "baseline", "(I)I"⟩
abbrev cX8_warned : ByteArray := prog_1_method_28_code
def yX8_warned : MethodName := ⟨RX8, "warned", "(I)I"⟩
abbrev cX8_repair : ByteArray := prog_1_method_29_code
def yX8_repair : MethodName := ⟨RX8, "repair", "()I"⟩
abbrev cX8_within : ByteArray := prog_1_method_30_code
def yX8_within : MethodName := ⟨RX8, "within", "(III)Z"⟩
abbrev cX8_commonDivisor : ByteArray := prog_1_method_31_code
def yX8_commonDivisor : MethodName := ⟨RX8, "commonDivisor", "(JJ)J"⟩
abbrev cX8_cosine : ByteArray := prog_1_method_32_code
def yX8_cosine : MethodName := ⟨RX8, "cosine", "(I)I"⟩
def RX9 : String := "WornRingsModel"
def TX9 : u_T := fun k => match k with
  | 0 => ("WornRingsModel", "shafts", "I", false)
  | 1 => ("WornRingsModel", "over", "[J", true)
  | 2 => ("WornRingsModel", "under", "[J", true)
  | 3 => ("WornRingsModel", "teeth", "[I", true)
  | 4 => ("WornRingsModel", "rings", "I", false)
  | 5 => ("WornRingsModel", "sits", "[I", true)
  | 6 => ("WornRingsModel", "balls", "[I", true)
  | 7 => ("WornRingsModel", "small", "[I", true)
  | 8 => ("WornRingsModel", "great", "[I", true)
  | 9 => ("WornRingsModel", "above", "J", false)
  | 10 => ("WornRingsModel", "below", "J", false)
  | 11 => ("WornRingsModel", "marks", "I", false)
  | 12 => ("WornRingsModel", "times", "[I", true)
  | 13 => ("WornRingsModel", "mended", "I", false)
  | 14 => ("WornRingsModel", "turns", "[I", true)
  | 15 => ("WornRingsModel", "lanes", "[I", true)
  | 16 => ("WornRingsModel", "sizes", "[I", true)
  | 17 => ("WornRingsModel", "steps", "[I", true)
  | 18 => ("WornRingsModel", "items", "[I", true)
  | 19 => ("WornRingsModel", "hasCut", "Z", false)
  | 20 => ("WornRingsModel", "mean", "[I", true)
  | 21 => ("WornRingsModel", "sums", "[J", true)
  | 22 => ("WornRingsModel", "lines", "I", false)
  | 23 => ("WornRingsModel", "tops", "[I", true)
  | 24 => ("WornRingsModel", "bottoms", "[I", true)
  | 25 => ("WornRingsModel", "slip", "I", false)
  | 26 => ("WornRingsModel", "covers", "[I", true)
  | 27 => ("WornRingsModel", "fewest", "[I", true)
  | 28 => ("WornRingsModel", "numbers", "[I", true)
  | 29 => ("WornRingsModel", "many", "[I", true)
  | 30 => ("WornRingsModel", "readings", "[I", true)
  | _ => ("WornRingsModel", "warned", "[Z", true)
def tyX9 : Nat → FieldType := fun k => match k with
  | 0 => .int
  | 1 => .array .long
  | 2 => .array .long
  | 3 => .array .int
  | 4 => .int
  | 5 => .array .int
  | 6 => .array .int
  | 7 => .array .int
  | 8 => .array .int
  | 9 => .long
  | 10 => .long
  | 11 => .int
  | 12 => .array .int
  | 13 => .int
  | 14 => .array .int
  | 15 => .array .int
  | 16 => .array .int
  | 17 => .array .int
  | 18 => .array .int
  | 19 => .boolean
  | 20 => .array .int
  | 21 => .array .long
  | 22 => .int
  | 23 => .array .int
  | 24 => .array .int
  | 25 => .int
  | 26 => .array .int
  | 27 => .array .int
  | 28 => .array .int
  | 29 => .array .int
  | 30 => .array .int
  | _ => .array .boolean
abbrev wsX90 : List Cond := u_ws RX9 TX9 32
theorem nmX9 : ∀ a, a < 32 → ∀ b, b < 32 → a ≠ b → (TX9 a).2.1 ≠ (TX9 b).2.1 := by decide +kernel
theorem tyX9_ok : ∀ k, k < 32 → parseFieldDescriptor (TX9 k).2.2.1 = some (tyX9 k) := by decide +kernel
abbrev cX9_in : ByteArray := prog_11_method_1_code
def yX9_in : MethodName := ⟨RX9, "in", "(JJJ)Z"⟩
abbrev cX9_init : ByteArray := prog_11_method_2_code
def yX9_init : MethodName := ⟨RX9, "<init>", "()V"⟩
abbrev cX9_reduce : ByteArray := prog_11_method_3_code
def yX9_reduce : MethodName := ⟨RX9, "reduce", "(JJ)V"⟩
abbrev cX9_shaft : ByteArray := prog_11_method_4_code
def yX9_shaft : MethodName := ⟨RX9, "shaft", "(III)I"⟩
abbrev cX9_ring : ByteArray := prog_11_method_5_code
def yX9_ring : MethodName := ⟨RX9, "ring", "(IIII)I"⟩
abbrev cX9_speed : ByteArray := prog_11_method_6_code
def yX9_speed : MethodName := ⟨RX9, "speed", "(II)J"⟩
abbrev cX9_parts : ByteArray := prog_11_method_7_code
def yX9_parts : MethodName := ⟨RX9, "parts", "()I"⟩
abbrev cX9_isPart : ByteArray := prog_11_method_8_code
def yX9_isPart : MethodName := ⟨RX9, "isPart", "(I)Z"⟩
abbrev cX9_kindOf : ByteArray := prog_11_method_9_code
def yX9_kindOf : MethodName := ⟨RX9, "kindOf", "(I)I"⟩
abbrev cX9_ringOf : ByteArray := prog_11_method_10_code
def yX9_ringOf : MethodName := ⟨RX9, "ringOf", "(I)I"⟩
abbrev cX9_shaftOf : ByteArray := prog_11_method_11_code
def yX9_shaftOf : MethodName := ⟨RX9, "shaftOf", "(I)I"⟩
abbrev cX9_tonesOf : ByteArray := prog_11_method_12_code
def yX9_tonesOf : MethodName := ⟨RX9, "tonesOf", "(I)I"⟩
abbrev cX9_part : ByteArray := prog_11_method_13_code
def yX9_part : MethodName := ⟨RX9, "part", "(II)I"⟩
abbrev cX9_findTone : ByteArray := prog_11_method_14_code
def yX9_findTone : MethodName := ⟨RX9, "findTone", "(II)V"⟩
abbrev cX9_tone : ByteArray := prog_11_method_15_code
def yX9_tone : MethodName := ⟨RX9, "tone", "(III)J"⟩
abbrev cX9_mark : ByteArray := prog_11_method_16_code
def yX9_mark : MethodName := ⟨RX9, "mark", "(I)I"⟩
abbrev cX9_unmark : ByteArray := prog_11_method_17_code
def yX9_unmark : MethodName := ⟨RX9, "unmark", "()I"⟩
abbrev cX9_addTurn : ByteArray := prog_11_method_18_code
def yX9_addTurn : MethodName := ⟨RX9, "addTurn", "(I)V"⟩
abbrev cX9_mend : ByteArray := prog_11_method_19_code
def yX9_mend : MethodName := ⟨RX9, "mend", "()V"⟩
abbrev cX9_turns : ByteArray := prog_11_method_20_code
def yX9_turns : MethodName := ⟨RX9, "turns", "()I"⟩
abbrev cX9_turn : ByteArray := prog_11_method_21_code
def yX9_turn : MethodName := ⟨RX9, "turn", "(I)I"⟩
abbrev cX9_isSheet : ByteArray := prog_11_method_22_code
def yX9_isSheet : MethodName := ⟨RX9, "isSheet", "(II)Z"⟩
abbrev cX9_sheet : ByteArray := prog_11_method_23_code
def yX9_sheet : MethodName := ⟨RX9, "sheet", "(IIII)I"⟩
abbrev cX9_drop : ByteArray := prog_11_method_24_code
def yX9_drop : MethodName := ⟨RX9, "drop", "(I)I"⟩
abbrev cX9_item : ByteArray := prog_11_method_25_code
def yX9_item : MethodName := ⟨RX9, "item", "(IIII)I"⟩
abbrev cX9_down : ByteArray := prog_11_method_26_code
def yX9_down : MethodName := ⟨RX9, "down", "(JJ)J"⟩
abbrev cX9_heard : ByteArray := prog_11_method_27_code
def yX9_heard : MethodName := ⟨RX9, "heard", "(II)J"⟩
abbrev cX9_cut : ByteArray := prog_11_method_28_code
def yX9_cut : MethodName := ⟨RX9, "cut", "(III)I"⟩
abbrev cX9_mean : ByteArray := prog_11_method_29_code
def yX9_mean : MethodName := ⟨RX9, "mean", "(I)I"⟩
abbrev cX9_wave : ByteArray := prog_11_method_30_code
def yX9_wave : MethodName := ⟨RX9, "wave", "(I)I"⟩
abbrev cX9_strength : ByteArray := prog_11_method_31_code
def yX9_strength : MethodName := ⟨RX9, "strength", "(I)J"⟩
abbrev cX9_line : ByteArray := prog_11_method_32_code
def yX9_line : MethodName := ⟨RX9, "line", "(II)I"⟩
abbrev cX9_unline : ByteArray := prog_11_method_33_code
def yX9_unline : MethodName := ⟨RX9, "unline", "()I"⟩
abbrev cX9_slip : ByteArray := prog_11_method_34_code
def yX9_slip : MethodName := ⟨RX9, "slip", "(I)I"⟩
abbrev cX9_nearOf : ByteArray := prog_11_method_35_code
def yX9_nearOf : MethodName := ⟨RX9, "nearOf", "(II)I"⟩
abbrev cX9_explained : ByteArray := prog_11_method_36_code
def yX9_explained : MethodName := ⟨RX9, "explained", "(I)I"⟩
abbrev cX9_canBeNamed : ByteArray := prog_11_method_37_code
def yX9_canBeNamed : MethodName := ⟨RX9, "canBeNamed", "(I)Z"⟩
abbrev cX9_explains : ByteArray := prog_11_method_38_code
def yX9_explains : MethodName := ⟨RX9, "explains", "(I)I"⟩
abbrev cX9_named : ByteArray := prog_11_method_39_code
def yX9_named : MethodName := ⟨RX9, "named", "(I)I"⟩
abbrev cX9_findCovers : ByteArray := prog_11_method_40_code
def yX9_findCovers : MethodName := ⟨RX9, "findCovers", "()I"⟩
abbrev cX9_findFewest : ByteArray := prog_11_method_41_code
def yX9_findFewest : MethodName := ⟨RX9, "findFewest", "()V"⟩
abbrev cX9_heap : ByteArray := prog_11_method_42_code
def yX9_heap : MethodName := ⟨RX9, "heap", "(I)I"⟩
abbrev cX9_strange : ByteArray := prog_11_method_43_code
def yX9_strange : MethodName := ⟨RX9, "strange", "()I"⟩
abbrev cX9_laws : ByteArray := prog_11_method_44_code
def yX9_laws : MethodName := ⟨RX9, "laws", "(III)I"⟩
abbrev cX9_isLoad : ByteArray := prog_11_method_45_code
def yX9_isLoad : MethodName := ⟨RX9, "isLoad", "(I)Z"⟩
abbrev cX9_middle : ByteArray := prog_11_method_46_code
def yX9_middle : MethodName := ⟨RX9, "middle", "(I)I"⟩
abbrev cX9_reading : ByteArray := prog_11_method_47_code
def yX9_reading : MethodName := ⟨RX9, "reading", "(II)I"⟩
abbrev cX9_baseline : ByteArray := prog_11_method_48_code
def yX9_baseline : MethodName := ⟨RX9, "baseline", "(I)I"⟩
abbrev cX9_warned : ByteArray := prog_11_method_49_code
def yX9_warned : MethodName := ⟨RX9, "warned", "(I)I"⟩
abbrev cX9_repair : ByteArray := prog_11_method_50_code
def yX9_repair : MethodName := ⟨RX9, "repair", "()I"⟩
def RJ9 : String := "java/lang/Math"
def TJ9 : u_T := fun k => match k with
  | _ => ("", "", "", false)
def tyJ9 : Nat → FieldType := fun k => match k with
  | _ => .int
abbrev wsJ90 : List Cond := u_ws RJ9 TJ9 0
theorem nmJ9 : ∀ a, a < 0 → ∀ b, b < 0 → a ≠ b → (TJ9 a).2.1 ≠ (TJ9 b).2.1 := by decide +kernel
theorem tyJ9_ok : ∀ k, k < 0 → parseFieldDescriptor (TJ9 k).2.2.1 = some (tyJ9 k) := by decide +kernel
abbrev cJ9_floorDiv_7cf53 : ByteArray := prog_12_method_47_code
def yJ9_floorDiv_7cf53 : MethodName := ⟨RJ9, "floorDiv", "(II)I"⟩
abbrev cJ9_floorMod_7cf53 : ByteArray := prog_12_method_50_code
def yJ9_floorMod_7cf53 : MethodName := ⟨RJ9, "floorMod", "(II)I"⟩
abbrev cJ9_abs_067f4 : ByteArray := prog_12_method_61_code
def yJ9_abs_067f4 : MethodName := ⟨RJ9, "abs", "(J)J"⟩
abbrev cJ9_max_7cf53 : ByteArray := prog_12_method_65_code
def yJ9_max_7cf53 : MethodName := ⟨RJ9, "max", "(II)I"⟩
abbrev cJ9_max_f86c9 : ByteArray := prog_12_method_66_code
def yJ9_max_f86c9 : MethodName := ⟨RJ9, "max", "(JJ)J"⟩
abbrev cJ9_min_7cf53 : ByteArray := prog_12_method_69_code
def yJ9_min_7cf53 : MethodName := ⟨RJ9, "min", "(II)I"⟩
def RL : String := "WornRingsLaw"
abbrev cL_law : ByteArray := code
def yL_law : MethodName := ⟨RL, "law", "([I)Z"⟩
def wsX0_init : List Cond := .code yX0_init cX0_init 1 none :: ([.methodLink RX0 3 objectInit, .instanceMethod objectInit, .code objectInit ⟨#[0xb1]⟩ 1 none, .arrayClass .int, .fieldLink RX0 9 "WornRings$Heap" "numbers" "[I", .fieldLink RX0 15 "WornRings$Heap" "explained" "[I", .arrayClass .byte, .fieldLink RX0 18 "WornRings$Heap" "fewest" "[B", .fieldLink RX0 22 "WornRings$Heap" "chosen" "[I"] ++ wsX00)
def wsX0_forget : List Cond := .code yX0_forget cX0_forget 1 none :: ([.fieldLink RX0 25 "WornRings$Heap" "laid" "Z"] ++ wsX00)
def wsX3_countParts : List Cond := .code yX3_countParts cX3_countParts 1 (some .int) :: ([.fieldLink RX3 34 "WornRings$Machine" "shafts" "I", .fieldLink RX3 54 "WornRings$Machine" "rings" "I"] ++ wsX30)
def wsX3_find : List Cond := .code yX3_find cX3_find 3 (some (.object "WornRings$Part")) :: ([.fieldLink RX3 34 "WornRings$Machine" "shafts" "I", .fieldLink RX3 20 "WornRings$Machine" "own" "[LWornRings$Part;", .fieldLink RX3 24 "WornRings$Machine" "gears" "[LWornRings$Part;", .fieldLink RX3 27 "WornRings$Machine" "onRings" "[LWornRings$Part;", .methodLink RX3 73 yX3_countParts, .instanceMethod yX3_countParts, .selects RX3 yX3_countParts yX3_countParts, .initialized RX3, .code yX3_countParts cX3_countParts 1 (some .int), .fieldLink RX3 54 "WornRings$Machine" "rings" "I"] ++ wsX30)
def wsX1_near : List Cond := .code yX1_near cX1_near 11 (some .int) :: ([.fieldLink RX1 26 "WornRings$Lines" "count" "I", .fieldLink RX1 15 "WornRings$Lines" "below" "[I", .fieldLink RX1 9 "WornRings$Lines" "above" "[I", .methodLink RX1 41 Lib.MathLoose.abs_long.x, .static Lib.MathLoose.abs_long.x, .initialized "java/lang/Math", .code Lib.MathLoose.abs_long.x Lib.MathLoose.abs_long.code 2 (some .long), .constantLong RX1 47 (1000), .fieldLink RX1 18 "WornRings$Lines" "thousandths" "I"] ++ wsX10)
def wsX1_allTonesSeen : List Cond := .code yX1_allTonesSeen cX1_allTonesSeen 3 (some .boolean) :: ([.methodLink RX1 37 yX1_near, .instanceMethod yX1_near, .selects RX1 yX1_near yX1_near, .initialized RX1, .code yX1_near cX1_near 11 (some .int), .fieldLink RX1 26 "WornRings$Lines" "count" "I", .fieldLink RX1 15 "WornRings$Lines" "below" "[I", .fieldLink RX1 9 "WornRings$Lines" "above" "[I", .methodLink RX1 41 Lib.MathLoose.abs_long.x, .static Lib.MathLoose.abs_long.x, .initialized "java/lang/Math", .code Lib.MathLoose.abs_long.x Lib.MathLoose.abs_long.code 2 (some .long), .constantLong RX1 47 (1000), .fieldLink RX1 18 "WornRings$Lines" "thousandths" "I"] ++ wsX60 ++ wsX10)
def wsX1_explainedBy : List Cond := .code yX1_explainedBy cX1_explainedBy 4 (some .int) :: ([.methodLink RX1 37 yX1_near, .instanceMethod yX1_near, .selects RX1 yX1_near yX1_near, .initialized RX1, .code yX1_near cX1_near 11 (some .int), .fieldLink RX1 26 "WornRings$Lines" "count" "I", .fieldLink RX1 15 "WornRings$Lines" "below" "[I", .fieldLink RX1 9 "WornRings$Lines" "above" "[I", .methodLink RX1 41 Lib.MathLoose.abs_long.x, .static Lib.MathLoose.abs_long.x, .initialized "java/lang/Math", .code Lib.MathLoose.abs_long.x Lib.MathLoose.abs_long.code 2 (some .long), .constantLong RX1 47 (1000), .fieldLink RX1 18 "WornRings$Lines" "thousandths" "I"] ++ wsX60 ++ wsX10)
def wsX0_gather_r1 : List Cond := [Cond.fieldLink RX0 39 "WornRings$Heap" "candidates" "I", Cond.fieldLink RX0 43 "WornRings$Heap" "together" "I", Cond.fieldLink RX0 9 "WornRings$Heap" "numbers" "[I", Cond.fieldLink RX0 15 "WornRings$Heap" "explained" "[I", Cond.methodLink RX0 46 yX3_find, Cond.instanceMethod yX3_find, Cond.selects RX3 yX3_find yX3_find, Cond.initialized RX3, Cond.code yX3_find cX3_find 3 (some (.object "WornRings$Part")), Cond.fieldLink RX3 34 "WornRings$Machine" "shafts" "I", Cond.fieldLink RX3 20 "WornRings$Machine" "own" "[LWornRings$Part;", Cond.fieldLink RX3 24 "WornRings$Machine" "gears" "[LWornRings$Part;", Cond.fieldLink RX3 27 "WornRings$Machine" "onRings" "[LWornRings$Part;", Cond.methodLink RX3 73 yX3_countParts, Cond.instanceMethod yX3_countParts, Cond.selects RX3 yX3_countParts yX3_countParts, Cond.code yX3_countParts cX3_countParts 1 (some .int), Cond.fieldLink RX3 54 "WornRings$Machine" "rings" "I", Cond.methodLink RX0 52 yX1_allTonesSeen, Cond.instanceMethod yX1_allTonesSeen, Cond.selects RX1 yX1_allTonesSeen yX1_allTonesSeen, Cond.initialized RX1, Cond.code yX1_allTonesSeen cX1_allTonesSeen 3 (some .boolean), Cond.methodLink RX1 37 yX1_near]
def wsX0_gather_r2 : List Cond := [Cond.instanceMethod yX1_near, Cond.selects RX1 yX1_near yX1_near, Cond.code yX1_near cX1_near 11 (some .int), Cond.fieldLink RX1 26 "WornRings$Lines" "count" "I", Cond.fieldLink RX1 15 "WornRings$Lines" "below" "[I", Cond.fieldLink RX1 9 "WornRings$Lines" "above" "[I", Cond.methodLink RX1 41 Lib.MathLoose.abs_long.x, Cond.static Lib.MathLoose.abs_long.x, Cond.initialized "java/lang/Math", Cond.code Lib.MathLoose.abs_long.x Lib.MathLoose.abs_long.code 2 (some .long), Cond.constantLong RX1 47 (1000), Cond.fieldLink RX1 18 "WornRings$Lines" "thousandths" "I", Cond.methodLink RX0 58 yX1_explainedBy, Cond.instanceMethod yX1_explainedBy, Cond.selects RX1 yX1_explainedBy yX1_explainedBy, Cond.code yX1_explainedBy cX1_explainedBy 4 (some .int)]
def wsX0_gather : List Cond := .code yX0_gather cX0_gather 5 none :: ((wsX0_gather_r1 ++ wsX0_gather_r2) ++ wsX00 ++ wsX30 ++ wsX60 ++ wsX10)
def wsX0_fewestFor : List Cond := .code yX0_fewestFor cX0_fewestFor 5 (some .int) :: ([.fieldLink RX0 39 "WornRings$Heap" "candidates" "I", .fieldLink RX0 15 "WornRings$Heap" "explained" "[I", .fieldLink RX0 18 "WornRings$Heap" "fewest" "[B", .methodLink RX0 66 Lib.Math.min.name, .static Lib.Math.min.name, .initialized "java/lang/Math", .code Lib.Math.min.name Lib.Math.min.code 2 (some .int)] ++ wsX00)
def wsX0_countFewest : List Cond := .code yX0_countFewest cX0_countFewest 2 none :: ([.fieldLink RX0 18 "WornRings$Heap" "fewest" "[B", .fieldLink RX0 43 "WornRings$Heap" "together" "I", .methodLink RX0 62 yX0_fewestFor, .instanceMethod yX0_fewestFor, .selects RX0 yX0_fewestFor yX0_fewestFor, .initialized RX0, .code yX0_fewestFor cX0_fewestFor 5 (some .int), .fieldLink RX0 39 "WornRings$Heap" "candidates" "I", .fieldLink RX0 15 "WornRings$Heap" "explained" "[I", .methodLink RX0 66 Lib.Math.min.name, .static Lib.Math.min.name, .initialized "java/lang/Math", .code Lib.Math.min.name Lib.Math.min.code 2 (some .int)] ++ wsX00)
def wsX0_choose : List Cond := .code yX0_choose cX0_choose 4 none :: ([.fieldLink RX0 72 "WornRings$Heap" "size" "I", .fieldLink RX0 43 "WornRings$Heap" "together" "I", .fieldLink RX0 39 "WornRings$Heap" "candidates" "I", .fieldLink RX0 15 "WornRings$Heap" "explained" "[I", .fieldLink RX0 18 "WornRings$Heap" "fewest" "[B", .fieldLink RX0 22 "WornRings$Heap" "chosen" "[I", .fieldLink RX0 9 "WornRings$Heap" "numbers" "[I"] ++ wsX00)
def wsX0_layDown_r1 : List Cond := [Cond.fieldLink RX0 25 "WornRings$Heap" "laid" "Z", Cond.methodLink RX0 29 yX0_gather, Cond.instanceMethod yX0_gather, Cond.selects RX0 yX0_gather yX0_gather, Cond.initialized RX0, Cond.code yX0_gather cX0_gather 5 none, Cond.fieldLink RX0 39 "WornRings$Heap" "candidates" "I", Cond.fieldLink RX0 43 "WornRings$Heap" "together" "I", Cond.fieldLink RX0 9 "WornRings$Heap" "numbers" "[I", Cond.fieldLink RX0 15 "WornRings$Heap" "explained" "[I", Cond.methodLink RX0 46 yX3_find, Cond.instanceMethod yX3_find, Cond.selects RX3 yX3_find yX3_find, Cond.initialized RX3, Cond.code yX3_find cX3_find 3 (some (.object "WornRings$Part")), Cond.fieldLink RX3 34 "WornRings$Machine" "shafts" "I", Cond.fieldLink RX3 20 "WornRings$Machine" "own" "[LWornRings$Part;", Cond.fieldLink RX3 24 "WornRings$Machine" "gears" "[LWornRings$Part;", Cond.fieldLink RX3 27 "WornRings$Machine" "onRings" "[LWornRings$Part;", Cond.methodLink RX3 73 yX3_countParts, Cond.instanceMethod yX3_countParts, Cond.selects RX3 yX3_countParts yX3_countParts, Cond.code yX3_countParts cX3_countParts 1 (some .int), Cond.fieldLink RX3 54 "WornRings$Machine" "rings" "I"]
def wsX0_layDown_r2 : List Cond := [Cond.methodLink RX0 52 yX1_allTonesSeen, Cond.instanceMethod yX1_allTonesSeen, Cond.selects RX1 yX1_allTonesSeen yX1_allTonesSeen, Cond.initialized RX1, Cond.code yX1_allTonesSeen cX1_allTonesSeen 3 (some .boolean), Cond.methodLink RX1 37 yX1_near, Cond.instanceMethod yX1_near, Cond.selects RX1 yX1_near yX1_near, Cond.code yX1_near cX1_near 11 (some .int), Cond.fieldLink RX1 26 "WornRings$Lines" "count" "I", Cond.fieldLink RX1 15 "WornRings$Lines" "below" "[I", Cond.fieldLink RX1 9 "WornRings$Lines" "above" "[I", Cond.methodLink RX1 41 Lib.MathLoose.abs_long.x, Cond.static Lib.MathLoose.abs_long.x, Cond.initialized "java/lang/Math", Cond.code Lib.MathLoose.abs_long.x Lib.MathLoose.abs_long.code 2 (some .long), Cond.constantLong RX1 47 (1000), Cond.fieldLink RX1 18 "WornRings$Lines" "thousandths" "I", Cond.methodLink RX0 58 yX1_explainedBy, Cond.instanceMethod yX1_explainedBy, Cond.selects RX1 yX1_explainedBy yX1_explainedBy, Cond.code yX1_explainedBy cX1_explainedBy 4 (some .int), Cond.methodLink RX0 33 yX0_countFewest, Cond.instanceMethod yX0_countFewest]
def wsX0_layDown_r3 : List Cond := [Cond.selects RX0 yX0_countFewest yX0_countFewest, Cond.code yX0_countFewest cX0_countFewest 2 none, Cond.fieldLink RX0 18 "WornRings$Heap" "fewest" "[B", Cond.methodLink RX0 62 yX0_fewestFor, Cond.instanceMethod yX0_fewestFor, Cond.selects RX0 yX0_fewestFor yX0_fewestFor, Cond.code yX0_fewestFor cX0_fewestFor 5 (some .int), Cond.methodLink RX0 66 Lib.Math.min.name, Cond.static Lib.Math.min.name, Cond.code Lib.Math.min.name Lib.Math.min.code 2 (some .int), Cond.methodLink RX0 36 yX0_choose, Cond.instanceMethod yX0_choose, Cond.selects RX0 yX0_choose yX0_choose, Cond.code yX0_choose cX0_choose 4 none, Cond.fieldLink RX0 72 "WornRings$Heap" "size" "I", Cond.fieldLink RX0 22 "WornRings$Heap" "chosen" "[I"]
def wsX0_layDown : List Cond := .code yX0_layDown cX0_layDown 3 none :: ((wsX0_layDown_r1 ++ (wsX0_layDown_r2 ++ wsX0_layDown_r3)) ++ wsX00 ++ wsX30 ++ wsX60 ++ wsX10)
def wsX1_init : List Cond := .code yX1_init cX1_init 1 none :: ([.methodLink RX1 3 objectInit, .instanceMethod objectInit, .code objectInit ⟨#[0xb1]⟩ 1 none, .arrayClass .int, .fieldLink RX1 9 "WornRings$Lines" "above" "[I", .fieldLink RX1 15 "WornRings$Lines" "below" "[I", .fieldLink RX1 18 "WornRings$Lines" "thousandths" "I"] ++ wsX10)
def wsX8_within : List Cond := .code yX8_within cX8_within 3 (some .boolean) :: ([])
def wsX1_add : List Cond := .code yX1_add cX1_add 3 (some .int) :: ([.fieldLink RX1 26 "WornRings$Lines" "count" "I", .fieldLink RX1 9 "WornRings$Lines" "above" "[I", .fieldLink RX1 15 "WornRings$Lines" "below" "[I", .static yX8_within, .initialized RX8, .code yX8_within cX8_within 3 (some .boolean)] ++ wsX10)
def wsX1_allBits : List Cond := .code yX1_allBits cX1_allBits 1 (some .int) :: ([.fieldLink RX1 26 "WornRings$Lines" "count" "I"] ++ wsX10)
def wsX2_init : List Cond := .code yX2_init cX2_init 1 none :: ([.methodLink RX2 3 objectInit, .instanceMethod objectInit, .code objectInit ⟨#[0xb1]⟩ 1 none, .arrayClass .int, .fieldLink RX2 9 "WornRings$Load" "readings" "[I"] ++ wsX20)
def wsX2_countFirst : List Cond := .code yX2_countFirst cX2_countFirst 5 (some .int) :: ([.fieldLink RX2 9 "WornRings$Load" "readings" "[I"] ++ wsX20)
def wsX2_middleOfFirst : List Cond := .code yX2_middleOfFirst cX2_middleOfFirst 2 (some .int) :: ([.fieldLink RX2 9 "WornRings$Load" "readings" "[I", .methodLink RX2 36 yX2_countFirst, .instanceMethod yX2_countFirst, .selects RX2 yX2_countFirst yX2_countFirst, .initialized RX2, .code yX2_countFirst cX2_countFirst 5 (some .int)] ++ wsX20)
def wsX2_add : List Cond := .code yX2_add cX2_add 2 none :: ([.fieldLink RX2 15 "WornRings$Load" "count" "I", .fieldLink RX2 9 "WornRings$Load" "readings" "[I", .fieldLink RX2 23 "WornRings$Load" "middle" "I", .methodLink RX2 19 yX2_middleOfFirst, .instanceMethod yX2_middleOfFirst, .selects RX2 yX2_middleOfFirst yX2_middleOfFirst, .initialized RX2, .code yX2_middleOfFirst cX2_middleOfFirst 2 (some .int), .methodLink RX2 36 yX2_countFirst, .instanceMethod yX2_countFirst, .selects RX2 yX2_countFirst yX2_countFirst, .code yX2_countFirst cX2_countFirst 5 (some .int)] ++ wsX20)
def wsX2_clear : List Cond := .code yX2_clear cX2_clear 1 none :: ([.fieldLink RX2 15 "WornRings$Load" "count" "I", .fieldLink RX2 26 "WornRings$Load" "warning" "Z"] ++ wsX20)
def wsX2_latestAllAbove : List Cond := .code yX2_latestAllAbove cX2_latestAllAbove 4 (some .boolean) :: ([.fieldLink RX2 15 "WornRings$Load" "count" "I", .fieldLink RX2 9 "WornRings$Load" "readings" "[I", .constantLong RX2 34 (100), .fieldLink RX2 23 "WornRings$Load" "middle" "I"] ++ wsX20)
def wsX2_judge : List Cond := .code yX2_judge cX2_judge 4 none :: ([.fieldLink RX2 15 "WornRings$Load" "count" "I", .fieldLink RX2 26 "WornRings$Load" "warning" "Z", .fieldLink RX2 9 "WornRings$Load" "readings" "[I", .constantLong RX2 34 (100), .fieldLink RX2 23 "WornRings$Load" "middle" "I", .methodLink RX2 30 yX2_latestAllAbove, .instanceMethod yX2_latestAllAbove, .selects RX2 yX2_latestAllAbove yX2_latestAllAbove, .initialized RX2, .code yX2_latestAllAbove cX2_latestAllAbove 4 (some .boolean)] ++ wsX20)
def wsX6_init : List Cond := .code yX6_init cX6_init 3 none :: ([.methodLink RX6 3 objectInit, .instanceMethod objectInit, .code objectInit ⟨#[0xb1]⟩ 1 none, .arrayClass .long, .fieldLink RX6 9 "WornRings$Part" "above" "[J", .fieldLink RX6 15 "WornRings$Part" "below" "[J", .fieldLink RX6 18 "WornRings$Part" "kind" "I", .fieldLink RX6 22 "WornRings$Part" "seat" "I"] ++ wsX60)
def wsX8_commonDivisor : List Cond := .code yX8_commonDivisor cX8_commonDivisor 11 (some .long) :: ([.methodLink RX8 228 Lib.MathLoose.max_long.x, .static Lib.MathLoose.max_long.x, .initialized "java/lang/Math", .code Lib.MathLoose.max_long.x Lib.MathLoose.max_long.code 4 (some .long)])
def wsX6_addTone : List Cond := .code yX6_addTone cX6_addTone 7 none :: ([.fieldLink RX6 25 "WornRings$Part" "count" "I", .fieldLink RX6 9 "WornRings$Part" "above" "[J", .fieldLink RX6 15 "WornRings$Part" "below" "[J", .static yX8_commonDivisor, .initialized RX8, .code yX8_commonDivisor cX8_commonDivisor 11 (some .long), .methodLink RX8 228 Lib.MathLoose.max_long.x, .static Lib.MathLoose.max_long.x, .initialized "java/lang/Math", .code Lib.MathLoose.max_long.x Lib.MathLoose.max_long.code 4 (some .long)] ++ wsX60)
def wsX3_addMultiple : List Cond := .code yX3_addMultiple cX3_addMultiple 4 none :: ([.fieldLink RX3 9 "WornRings$Machine" "above" "[J", .fieldLink RX3 15 "WornRings$Machine" "below" "[J", .methodLink RX3 87 yX6_addTone, .instanceMethod yX6_addTone, .selects RX6 yX6_addTone yX6_addTone, .initialized RX6, .code yX6_addTone cX6_addTone 7 none, .fieldLink RX6 25 "WornRings$Part" "count" "I", .fieldLink RX6 9 "WornRings$Part" "above" "[J", .fieldLink RX6 15 "WornRings$Part" "below" "[J", .static yX8_commonDivisor, .initialized RX8, .code yX8_commonDivisor cX8_commonDivisor 11 (some .long), .methodLink RX8 228 Lib.MathLoose.max_long.x, .static Lib.MathLoose.max_long.x, .initialized "java/lang/Math", .code Lib.MathLoose.max_long.x Lib.MathLoose.max_long.code 4 (some .long)] ++ wsX30 ++ wsX60)
def wsX3_ownPart_r1 : List Cond := [Cond.classLink RX3 18 RX6, Cond.instantiable RX6 5, Cond.initialized RX6, Cond.methodLink RX3 77 yX6_init, Cond.instanceMethod yX6_init, Cond.code yX6_init cX6_init 3 none, Cond.methodLink RX6 3 objectInit, Cond.instanceMethod objectInit, Cond.code objectInit ⟨#[0xb1]⟩ 1 none, Cond.arrayClass .long, Cond.fieldLink RX6 9 "WornRings$Part" "above" "[J", Cond.fieldLink RX6 15 "WornRings$Part" "below" "[J", Cond.fieldLink RX6 18 "WornRings$Part" "kind" "I", Cond.fieldLink RX6 22 "WornRings$Part" "seat" "I", Cond.methodLink RX3 80 yX3_addMultiple, Cond.instanceMethod yX3_addMultiple, Cond.selects RX3 yX3_addMultiple yX3_addMultiple, Cond.initialized RX3, Cond.code yX3_addMultiple cX3_addMultiple 4 none, Cond.fieldLink RX3 9 "WornRings$Machine" "above" "[J", Cond.fieldLink RX3 15 "WornRings$Machine" "below" "[J", Cond.methodLink RX3 87 yX6_addTone, Cond.instanceMethod yX6_addTone, Cond.selects RX6 yX6_addTone yX6_addTone]
def wsX3_ownPart_r2 : List Cond := [Cond.code yX6_addTone cX6_addTone 7 none, Cond.fieldLink RX6 25 "WornRings$Part" "count" "I", Cond.static yX8_commonDivisor, Cond.initialized RX8, Cond.code yX8_commonDivisor cX8_commonDivisor 11 (some .long), Cond.methodLink RX8 228 Lib.MathLoose.max_long.x, Cond.static Lib.MathLoose.max_long.x, Cond.initialized "java/lang/Math", Cond.code Lib.MathLoose.max_long.x Lib.MathLoose.max_long.code 4 (some .long)]
def wsX3_ownPart : List Cond := .code yX3_ownPart cX3_ownPart 3 (some (.object "WornRings$Part")) :: ((wsX3_ownPart_r1 ++ wsX3_ownPart_r2) ++ wsX60 ++ wsX30)
def wsX3_init_r1 : List Cond := [Cond.methodLink RX3 3 objectInit, Cond.instanceMethod objectInit, Cond.code objectInit ⟨#[0xb1]⟩ 1 none, Cond.arrayClass .long, Cond.fieldLink RX3 9 "WornRings$Machine" "above" "[J", Cond.fieldLink RX3 15 "WornRings$Machine" "below" "[J", Cond.classLink RX3 18 RX6, Cond.fieldLink RX3 20 "WornRings$Machine" "own" "[LWornRings$Part;", Cond.fieldLink RX3 24 "WornRings$Machine" "gears" "[LWornRings$Part;", Cond.fieldLink RX3 27 "WornRings$Machine" "onRings" "[LWornRings$Part;", Cond.fieldLink RX3 34 "WornRings$Machine" "shafts" "I", Cond.methodLink RX3 30 yX3_ownPart, Cond.instanceMethod yX3_ownPart, Cond.selects RX3 yX3_ownPart yX3_ownPart, Cond.initialized RX3, Cond.code yX3_ownPart cX3_ownPart 3 (some (.object "WornRings$Part")), Cond.instantiable RX6 5, Cond.initialized RX6, Cond.methodLink RX3 77 yX6_init, Cond.instanceMethod yX6_init, Cond.code yX6_init cX6_init 3 none, Cond.methodLink RX6 3 objectInit, Cond.fieldLink RX6 9 "WornRings$Part" "above" "[J", Cond.fieldLink RX6 15 "WornRings$Part" "below" "[J"]
def wsX3_init_r2 : List Cond := [Cond.fieldLink RX6 18 "WornRings$Part" "kind" "I", Cond.fieldLink RX6 22 "WornRings$Part" "seat" "I", Cond.methodLink RX3 80 yX3_addMultiple, Cond.instanceMethod yX3_addMultiple, Cond.selects RX3 yX3_addMultiple yX3_addMultiple, Cond.code yX3_addMultiple cX3_addMultiple 4 none, Cond.methodLink RX3 87 yX6_addTone, Cond.instanceMethod yX6_addTone, Cond.selects RX6 yX6_addTone yX6_addTone, Cond.code yX6_addTone cX6_addTone 7 none, Cond.fieldLink RX6 25 "WornRings$Part" "count" "I", Cond.static yX8_commonDivisor, Cond.initialized RX8, Cond.code yX8_commonDivisor cX8_commonDivisor 11 (some .long), Cond.methodLink RX8 228 Lib.MathLoose.max_long.x, Cond.static Lib.MathLoose.max_long.x, Cond.initialized "java/lang/Math", Cond.code Lib.MathLoose.max_long.x Lib.MathLoose.max_long.code 4 (some .long)]
def wsX3_init : List Cond := .code yX3_init cX3_init 1 none :: ((wsX3_init_r1 ++ wsX3_init_r2) ++ wsX30 ++ wsX60)
def wsX3_hasShaft : List Cond := .code yX3_hasShaft cX3_hasShaft 2 (some .boolean) :: ([.fieldLink RX3 34 "WornRings$Machine" "shafts" "I", .static yX8_within, .initialized RX8, .code yX8_within cX8_within 3 (some .boolean)] ++ wsX30)
def wsX3_gearPart_r1 : List Cond := [Cond.classLink RX3 18 RX6, Cond.instantiable RX6 5, Cond.initialized RX6, Cond.methodLink RX3 77 yX6_init, Cond.instanceMethod yX6_init, Cond.code yX6_init cX6_init 3 none, Cond.methodLink RX6 3 objectInit, Cond.instanceMethod objectInit, Cond.code objectInit ⟨#[0xb1]⟩ 1 none, Cond.arrayClass .long, Cond.fieldLink RX6 9 "WornRings$Part" "above" "[J", Cond.fieldLink RX6 15 "WornRings$Part" "below" "[J", Cond.fieldLink RX6 18 "WornRings$Part" "kind" "I", Cond.fieldLink RX6 22 "WornRings$Part" "seat" "I", Cond.methodLink RX3 80 yX3_addMultiple, Cond.instanceMethod yX3_addMultiple, Cond.selects RX3 yX3_addMultiple yX3_addMultiple, Cond.initialized RX3, Cond.code yX3_addMultiple cX3_addMultiple 4 none, Cond.fieldLink RX3 9 "WornRings$Machine" "above" "[J", Cond.fieldLink RX3 15 "WornRings$Machine" "below" "[J", Cond.methodLink RX3 87 yX6_addTone, Cond.instanceMethod yX6_addTone, Cond.selects RX6 yX6_addTone yX6_addTone]
def wsX3_gearPart_r2 : List Cond := [Cond.code yX6_addTone cX6_addTone 7 none, Cond.fieldLink RX6 25 "WornRings$Part" "count" "I", Cond.static yX8_commonDivisor, Cond.initialized RX8, Cond.code yX8_commonDivisor cX8_commonDivisor 11 (some .long), Cond.methodLink RX8 228 Lib.MathLoose.max_long.x, Cond.static Lib.MathLoose.max_long.x, Cond.initialized "java/lang/Math", Cond.code Lib.MathLoose.max_long.x Lib.MathLoose.max_long.code 4 (some .long)]
def wsX3_gearPart : List Cond := .code yX3_gearPart cX3_gearPart 4 (some (.object "WornRings$Part")) :: ((wsX3_gearPart_r1 ++ wsX3_gearPart_r2) ++ wsX60 ++ wsX30)
def wsX3_addShaft_r1 : List Cond := [Cond.fieldLink RX3 34 "WornRings$Machine" "shafts" "I", Cond.fieldLink RX3 9 "WornRings$Machine" "above" "[J", Cond.fieldLink RX3 15 "WornRings$Machine" "below" "[J", Cond.fieldLink RX3 20 "WornRings$Machine" "own" "[LWornRings$Part;", Cond.fieldLink RX3 24 "WornRings$Machine" "gears" "[LWornRings$Part;", Cond.methodLink RX3 38 yX3_hasShaft, Cond.instanceMethod yX3_hasShaft, Cond.selects RX3 yX3_hasShaft yX3_hasShaft, Cond.initialized RX3, Cond.code yX3_hasShaft cX3_hasShaft 2 (some .boolean), Cond.static yX8_within, Cond.initialized RX8, Cond.code yX8_within cX8_within 3 (some .boolean), Cond.static yX8_commonDivisor, Cond.code yX8_commonDivisor cX8_commonDivisor 11 (some .long), Cond.methodLink RX8 228 Lib.MathLoose.max_long.x, Cond.static Lib.MathLoose.max_long.x, Cond.initialized "java/lang/Math", Cond.code Lib.MathLoose.max_long.x Lib.MathLoose.max_long.code 4 (some .long), Cond.methodLink RX3 30 yX3_ownPart, Cond.instanceMethod yX3_ownPart, Cond.selects RX3 yX3_ownPart yX3_ownPart, Cond.code yX3_ownPart cX3_ownPart 3 (some (.object "WornRings$Part")), Cond.classLink RX3 18 RX6]
def wsX3_addShaft_r2 : List Cond := [Cond.instantiable RX6 5, Cond.initialized RX6, Cond.methodLink RX3 77 yX6_init, Cond.instanceMethod yX6_init, Cond.code yX6_init cX6_init 3 none, Cond.methodLink RX6 3 objectInit, Cond.instanceMethod objectInit, Cond.code objectInit ⟨#[0xb1]⟩ 1 none, Cond.arrayClass .long, Cond.fieldLink RX6 9 "WornRings$Part" "above" "[J", Cond.fieldLink RX6 15 "WornRings$Part" "below" "[J", Cond.fieldLink RX6 18 "WornRings$Part" "kind" "I", Cond.fieldLink RX6 22 "WornRings$Part" "seat" "I", Cond.methodLink RX3 80 yX3_addMultiple, Cond.instanceMethod yX3_addMultiple, Cond.selects RX3 yX3_addMultiple yX3_addMultiple, Cond.code yX3_addMultiple cX3_addMultiple 4 none, Cond.methodLink RX3 87 yX6_addTone, Cond.instanceMethod yX6_addTone, Cond.selects RX6 yX6_addTone yX6_addTone, Cond.code yX6_addTone cX6_addTone 7 none, Cond.fieldLink RX6 25 "WornRings$Part" "count" "I", Cond.methodLink RX3 50 yX3_gearPart, Cond.instanceMethod yX3_gearPart]
def wsX3_addShaft_r3 : List Cond := [Cond.selects RX3 yX3_gearPart yX3_gearPart, Cond.code yX3_gearPart cX3_gearPart 4 (some (.object "WornRings$Part"))]
def wsX3_addShaft : List Cond := .code yX3_addShaft cX3_addShaft 11 (some .int) :: ((wsX3_addShaft_r1 ++ (wsX3_addShaft_r2 ++ wsX3_addShaft_r3)) ++ wsX30 ++ wsX60)
def wsX3_outerPart_r1 : List Cond := [Cond.classLink RX3 18 RX6, Cond.instantiable RX6 5, Cond.initialized RX6, Cond.methodLink RX3 77 yX6_init, Cond.instanceMethod yX6_init, Cond.code yX6_init cX6_init 3 none, Cond.methodLink RX6 3 objectInit, Cond.instanceMethod objectInit, Cond.code objectInit ⟨#[0xb1]⟩ 1 none, Cond.arrayClass .long, Cond.fieldLink RX6 9 "WornRings$Part" "above" "[J", Cond.fieldLink RX6 15 "WornRings$Part" "below" "[J", Cond.fieldLink RX6 18 "WornRings$Part" "kind" "I", Cond.fieldLink RX6 22 "WornRings$Part" "seat" "I", Cond.methodLink RX3 80 yX3_addMultiple, Cond.instanceMethod yX3_addMultiple, Cond.selects RX3 yX3_addMultiple yX3_addMultiple, Cond.initialized RX3, Cond.code yX3_addMultiple cX3_addMultiple 4 none, Cond.fieldLink RX3 9 "WornRings$Machine" "above" "[J", Cond.fieldLink RX3 15 "WornRings$Machine" "below" "[J", Cond.methodLink RX3 87 yX6_addTone, Cond.instanceMethod yX6_addTone, Cond.selects RX6 yX6_addTone yX6_addTone]
def wsX3_outerPart_r2 : List Cond := [Cond.code yX6_addTone cX6_addTone 7 none, Cond.fieldLink RX6 25 "WornRings$Part" "count" "I", Cond.static yX8_commonDivisor, Cond.initialized RX8, Cond.code yX8_commonDivisor cX8_commonDivisor 11 (some .long), Cond.methodLink RX8 228 Lib.MathLoose.max_long.x, Cond.static Lib.MathLoose.max_long.x, Cond.initialized "java/lang/Math", Cond.code Lib.MathLoose.max_long.x Lib.MathLoose.max_long.code 4 (some .long)]
def wsX3_outerPart : List Cond := .code yX3_outerPart cX3_outerPart 6 (some (.object "WornRings$Part")) :: ((wsX3_outerPart_r1 ++ wsX3_outerPart_r2) ++ wsX60 ++ wsX30)
def wsX3_innerPart_r1 : List Cond := [Cond.classLink RX3 18 RX6, Cond.instantiable RX6 5, Cond.initialized RX6, Cond.methodLink RX3 77 yX6_init, Cond.instanceMethod yX6_init, Cond.code yX6_init cX6_init 3 none, Cond.methodLink RX6 3 objectInit, Cond.instanceMethod objectInit, Cond.code objectInit ⟨#[0xb1]⟩ 1 none, Cond.arrayClass .long, Cond.fieldLink RX6 9 "WornRings$Part" "above" "[J", Cond.fieldLink RX6 15 "WornRings$Part" "below" "[J", Cond.fieldLink RX6 18 "WornRings$Part" "kind" "I", Cond.fieldLink RX6 22 "WornRings$Part" "seat" "I", Cond.methodLink RX3 80 yX3_addMultiple, Cond.instanceMethod yX3_addMultiple, Cond.selects RX3 yX3_addMultiple yX3_addMultiple, Cond.initialized RX3, Cond.code yX3_addMultiple cX3_addMultiple 4 none, Cond.fieldLink RX3 9 "WornRings$Machine" "above" "[J", Cond.fieldLink RX3 15 "WornRings$Machine" "below" "[J", Cond.methodLink RX3 87 yX6_addTone, Cond.instanceMethod yX6_addTone, Cond.selects RX6 yX6_addTone yX6_addTone]
def wsX3_innerPart_r2 : List Cond := [Cond.code yX6_addTone cX6_addTone 7 none, Cond.fieldLink RX6 25 "WornRings$Part" "count" "I", Cond.static yX8_commonDivisor, Cond.initialized RX8, Cond.code yX8_commonDivisor cX8_commonDivisor 11 (some .long), Cond.methodLink RX8 228 Lib.MathLoose.max_long.x, Cond.static Lib.MathLoose.max_long.x, Cond.initialized "java/lang/Math", Cond.code Lib.MathLoose.max_long.x Lib.MathLoose.max_long.code 4 (some .long)]
def wsX3_innerPart : List Cond := .code yX3_innerPart cX3_innerPart 6 (some (.object "WornRings$Part")) :: ((wsX3_innerPart_r1 ++ wsX3_innerPart_r2) ++ wsX60 ++ wsX30)
def wsX3_cagePart_r1 : List Cond := [Cond.classLink RX3 18 RX6, Cond.instantiable RX6 5, Cond.initialized RX6, Cond.methodLink RX3 77 yX6_init, Cond.instanceMethod yX6_init, Cond.code yX6_init cX6_init 3 none, Cond.methodLink RX6 3 objectInit, Cond.instanceMethod objectInit, Cond.code objectInit ⟨#[0xb1]⟩ 1 none, Cond.arrayClass .long, Cond.fieldLink RX6 9 "WornRings$Part" "above" "[J", Cond.fieldLink RX6 15 "WornRings$Part" "below" "[J", Cond.fieldLink RX6 18 "WornRings$Part" "kind" "I", Cond.fieldLink RX6 22 "WornRings$Part" "seat" "I", Cond.methodLink RX3 80 yX3_addMultiple, Cond.instanceMethod yX3_addMultiple, Cond.selects RX3 yX3_addMultiple yX3_addMultiple, Cond.initialized RX3, Cond.code yX3_addMultiple cX3_addMultiple 4 none, Cond.fieldLink RX3 9 "WornRings$Machine" "above" "[J", Cond.fieldLink RX3 15 "WornRings$Machine" "below" "[J", Cond.methodLink RX3 87 yX6_addTone, Cond.instanceMethod yX6_addTone, Cond.selects RX6 yX6_addTone yX6_addTone]
def wsX3_cagePart_r2 : List Cond := [Cond.code yX6_addTone cX6_addTone 7 none, Cond.fieldLink RX6 25 "WornRings$Part" "count" "I", Cond.static yX8_commonDivisor, Cond.initialized RX8, Cond.code yX8_commonDivisor cX8_commonDivisor 11 (some .long), Cond.methodLink RX8 228 Lib.MathLoose.max_long.x, Cond.static Lib.MathLoose.max_long.x, Cond.initialized "java/lang/Math", Cond.code Lib.MathLoose.max_long.x Lib.MathLoose.max_long.code 4 (some .long)]
def wsX3_cagePart : List Cond := .code yX3_cagePart cX3_cagePart 5 (some (.object "WornRings$Part")) :: ((wsX3_cagePart_r1 ++ wsX3_cagePart_r2) ++ wsX60 ++ wsX30)
def wsX3_ballsPart_r1 : List Cond := [Cond.classLink RX3 18 RX6, Cond.instantiable RX6 5, Cond.initialized RX6, Cond.methodLink RX3 77 yX6_init, Cond.instanceMethod yX6_init, Cond.code yX6_init cX6_init 3 none, Cond.methodLink RX6 3 objectInit, Cond.instanceMethod objectInit, Cond.code objectInit ⟨#[0xb1]⟩ 1 none, Cond.arrayClass .long, Cond.fieldLink RX6 9 "WornRings$Part" "above" "[J", Cond.fieldLink RX6 15 "WornRings$Part" "below" "[J", Cond.fieldLink RX6 18 "WornRings$Part" "kind" "I", Cond.fieldLink RX6 22 "WornRings$Part" "seat" "I", Cond.methodLink RX3 80 yX3_addMultiple, Cond.instanceMethod yX3_addMultiple, Cond.selects RX3 yX3_addMultiple yX3_addMultiple, Cond.initialized RX3, Cond.code yX3_addMultiple cX3_addMultiple 4 none, Cond.fieldLink RX3 9 "WornRings$Machine" "above" "[J", Cond.fieldLink RX3 15 "WornRings$Machine" "below" "[J", Cond.methodLink RX3 87 yX6_addTone, Cond.instanceMethod yX6_addTone, Cond.selects RX6 yX6_addTone yX6_addTone]
def wsX3_ballsPart_r2 : List Cond := [Cond.code yX6_addTone cX6_addTone 7 none, Cond.fieldLink RX6 25 "WornRings$Part" "count" "I", Cond.static yX8_commonDivisor, Cond.initialized RX8, Cond.code yX8_commonDivisor cX8_commonDivisor 11 (some .long), Cond.methodLink RX8 228 Lib.MathLoose.max_long.x, Cond.static Lib.MathLoose.max_long.x, Cond.initialized "java/lang/Math", Cond.code Lib.MathLoose.max_long.x Lib.MathLoose.max_long.code 4 (some .long)]
def wsX3_ballsPart : List Cond := .code yX3_ballsPart cX3_ballsPart 5 (some (.object "WornRings$Part")) :: ((wsX3_ballsPart_r1 ++ wsX3_ballsPart_r2) ++ wsX60 ++ wsX30)
def wsX3_addRing_r1 : List Cond := [Cond.fieldLink RX3 54 "WornRings$Machine" "rings" "I", Cond.fieldLink RX3 27 "WornRings$Machine" "onRings" "[LWornRings$Part;", Cond.methodLink RX3 38 yX3_hasShaft, Cond.instanceMethod yX3_hasShaft, Cond.selects RX3 yX3_hasShaft yX3_hasShaft, Cond.initialized RX3, Cond.code yX3_hasShaft cX3_hasShaft 2 (some .boolean), Cond.fieldLink RX3 34 "WornRings$Machine" "shafts" "I", Cond.static yX8_within, Cond.initialized RX8, Cond.code yX8_within cX8_within 3 (some .boolean), Cond.methodLink RX3 57 yX3_outerPart, Cond.instanceMethod yX3_outerPart, Cond.selects RX3 yX3_outerPart yX3_outerPart, Cond.code yX3_outerPart cX3_outerPart 6 (some (.object "WornRings$Part")), Cond.classLink RX3 18 RX6, Cond.instantiable RX6 5, Cond.initialized RX6, Cond.methodLink RX3 77 yX6_init, Cond.instanceMethod yX6_init, Cond.code yX6_init cX6_init 3 none, Cond.methodLink RX6 3 objectInit, Cond.instanceMethod objectInit, Cond.code objectInit ⟨#[0xb1]⟩ 1 none]
def wsX3_addRing_r2 : List Cond := [Cond.arrayClass .long, Cond.fieldLink RX6 9 "WornRings$Part" "above" "[J", Cond.fieldLink RX6 15 "WornRings$Part" "below" "[J", Cond.fieldLink RX6 18 "WornRings$Part" "kind" "I", Cond.fieldLink RX6 22 "WornRings$Part" "seat" "I", Cond.methodLink RX3 80 yX3_addMultiple, Cond.instanceMethod yX3_addMultiple, Cond.selects RX3 yX3_addMultiple yX3_addMultiple, Cond.code yX3_addMultiple cX3_addMultiple 4 none, Cond.fieldLink RX3 9 "WornRings$Machine" "above" "[J", Cond.fieldLink RX3 15 "WornRings$Machine" "below" "[J", Cond.methodLink RX3 87 yX6_addTone, Cond.instanceMethod yX6_addTone, Cond.selects RX6 yX6_addTone yX6_addTone, Cond.code yX6_addTone cX6_addTone 7 none, Cond.fieldLink RX6 25 "WornRings$Part" "count" "I", Cond.static yX8_commonDivisor, Cond.code yX8_commonDivisor cX8_commonDivisor 11 (some .long), Cond.methodLink RX8 228 Lib.MathLoose.max_long.x, Cond.static Lib.MathLoose.max_long.x, Cond.initialized "java/lang/Math", Cond.code Lib.MathLoose.max_long.x Lib.MathLoose.max_long.code 4 (some .long), Cond.methodLink RX3 61 yX3_innerPart, Cond.instanceMethod yX3_innerPart]
def wsX3_addRing_r3 : List Cond := [Cond.selects RX3 yX3_innerPart yX3_innerPart, Cond.code yX3_innerPart cX3_innerPart 6 (some (.object "WornRings$Part")), Cond.methodLink RX3 64 yX3_cagePart, Cond.instanceMethod yX3_cagePart, Cond.selects RX3 yX3_cagePart yX3_cagePart, Cond.code yX3_cagePart cX3_cagePart 5 (some (.object "WornRings$Part")), Cond.methodLink RX3 68 yX3_ballsPart, Cond.instanceMethod yX3_ballsPart, Cond.selects RX3 yX3_ballsPart yX3_ballsPart, Cond.code yX3_ballsPart cX3_ballsPart 5 (some (.object "WornRings$Part"))]
def wsX3_addRing : List Cond := .code yX3_addRing cX3_addRing 6 (some .int) :: ((wsX3_addRing_r1 ++ (wsX3_addRing_r2 ++ wsX3_addRing_r3)) ++ wsX30 ++ wsX60)
def wsX3_speedAbove : List Cond := .code yX3_speedAbove cX3_speedAbove 2 (some .long) :: ([.fieldLink RX3 9 "WornRings$Machine" "above" "[J", .constantLong RX3 71 (-1), .methodLink RX3 38 yX3_hasShaft, .instanceMethod yX3_hasShaft, .selects RX3 yX3_hasShaft yX3_hasShaft, .initialized RX3, .code yX3_hasShaft cX3_hasShaft 2 (some .boolean), .fieldLink RX3 34 "WornRings$Machine" "shafts" "I", .static yX8_within, .initialized RX8, .code yX8_within cX8_within 3 (some .boolean)] ++ wsX30)
def wsX3_speedBelow : List Cond := .code yX3_speedBelow cX3_speedBelow 2 (some .long) :: ([.fieldLink RX3 15 "WornRings$Machine" "below" "[J", .constantLong RX3 71 (-1), .methodLink RX3 38 yX3_hasShaft, .instanceMethod yX3_hasShaft, .selects RX3 yX3_hasShaft yX3_hasShaft, .initialized RX3, .code yX3_hasShaft cX3_hasShaft 2 (some .boolean), .fieldLink RX3 34 "WornRings$Machine" "shafts" "I", .static yX8_within, .initialized RX8, .code yX8_within cX8_within 3 (some .boolean)] ++ wsX30)
def wsX4_init : List Cond := .code yX4_init cX4_init 1 none :: ([.methodLink RX4 3 objectInit, .instanceMethod objectInit, .code objectInit ⟨#[0xb1]⟩ 1 none, .arrayClass .int, .fieldLink RX4 9 "WornRings$Marks" "mended" "[I"] ++ wsX40)
def wsX4_keep : List Cond := .code yX4_keep cX4_keep 2 none :: ([.fieldLink RX4 34 "WornRings$Marks" "kept" "I", .fieldLink RX4 9 "WornRings$Marks" "mended" "[I"] ++ wsX40)
def wsX4_mendUpTo : List Cond := .code yX4_mendUpTo cX4_mendUpTo 7 none :: ([.fieldLink RX4 34 "WornRings$Marks" "kept" "I", .fieldLink RX4 9 "WornRings$Marks" "mended" "[I", .methodLink RX4 41 Lib.Math.max.name, .static Lib.Math.max.name, .initialized "java/lang/Math", .code Lib.Math.max.name Lib.Math.max.code 2 (some .int), .methodLink RX4 31 yX4_keep, .instanceMethod yX4_keep, .selects RX4 yX4_keep yX4_keep, .initialized RX4, .code yX4_keep cX4_keep 2 none] ++ wsX40)
def wsX4_add : List Cond := .code yX4_add cX4_add 2 (some .int) :: ([.constant RX4 15 (1000000), .fieldLink RX4 20 "WornRings$Marks" "count" "I", .fieldLink RX4 24 "WornRings$Marks" "last" "I", .static yX8_within, .initialized RX8, .code yX8_within cX8_within 3 (some .boolean), .methodLink RX4 27 yX4_mendUpTo, .instanceMethod yX4_mendUpTo, .selects RX4 yX4_mendUpTo yX4_mendUpTo, .initialized RX4, .code yX4_mendUpTo cX4_mendUpTo 7 none, .fieldLink RX4 34 "WornRings$Marks" "kept" "I", .fieldLink RX4 9 "WornRings$Marks" "mended" "[I", .methodLink RX4 41 Lib.Math.max.name, .static Lib.Math.max.name, .initialized "java/lang/Math", .code Lib.Math.max.name Lib.Math.max.code 2 (some .int), .methodLink RX4 31 yX4_keep, .instanceMethod yX4_keep, .selects RX4 yX4_keep yX4_keep, .code yX4_keep cX4_keep 2 none] ++ wsX40)
def wsX4_clear : List Cond := .code yX4_clear cX4_clear 2 (some .int) :: ([.fieldLink RX4 20 "WornRings$Marks" "count" "I", .fieldLink RX4 34 "WornRings$Marks" "kept" "I"] ++ wsX40)
def wsX4_hasTurns : List Cond := .code yX4_hasTurns cX4_hasTurns 3 (some .boolean) :: ([.fieldLink RX4 34 "WornRings$Marks" "kept" "I"] ++ wsX40)
def wsX4_endOf : List Cond := .code yX4_endOf cX4_endOf 2 (some .int) :: ([.fieldLink RX4 9 "WornRings$Marks" "mended" "[I", .constant RX4 15 (1000000), .methodLink RX4 37 yX4_hasTurns, .instanceMethod yX4_hasTurns, .selects RX4 yX4_hasTurns yX4_hasTurns, .initialized RX4, .code yX4_hasTurns cX4_hasTurns 3 (some .boolean), .fieldLink RX4 34 "WornRings$Marks" "kept" "I"] ++ wsX40)
def wsX4_timeIn : List Cond := .code yX4_timeIn cX4_timeIn 4 (some .int) :: ([.constant RX4 15 (1000000), .fieldLink RX4 9 "WornRings$Marks" "mended" "[I", .methodLink RX4 37 yX4_hasTurns, .instanceMethod yX4_hasTurns, .selects RX4 yX4_hasTurns yX4_hasTurns, .initialized RX4, .code yX4_hasTurns cX4_hasTurns 3 (some .boolean), .fieldLink RX4 34 "WornRings$Marks" "kept" "I"] ++ wsX40)
def wsX5_init : List Cond := .code yX5_init cX5_init 1 none :: ([.methodLink RX5 3 objectInit, .instanceMethod objectInit, .code objectInit ⟨#[0xb1]⟩ 1 none, .arrayClass .int, .fieldLink RX5 9 "WornRings$Mean" "values" "[I"] ++ wsX50)
def wsX7_lastHeard : List Cond := .code yX7_lastHeard cX7_lastHeard 1 (some .int) :: ([.fieldLink RX7 26 "WornRings$Sheet" "length" "I", .fieldLink RX7 15 "WornRings$Sheet" "step" "I"] ++ wsX70)
def wsJ9_floorDiv_7cf53 : List Cond := .code yJ9_floorDiv_7cf53 cJ9_floorDiv_7cf53 3 (some .int) :: ([])
def wsX7_valueAt : List Cond := .code yX7_valueAt cX7_valueAt 4 (some .int) :: ([.fieldLink RX7 15 "WornRings$Sheet" "step" "I", .fieldLink RX7 9 "WornRings$Sheet" "items" "[I", .methodLink RX7 33 yX7_lastHeard, .instanceMethod yX7_lastHeard, .selects RX7 yX7_lastHeard yX7_lastHeard, .initialized RX7, .code yX7_lastHeard cX7_lastHeard 1 (some .int), .fieldLink RX7 26 "WornRings$Sheet" "length" "I", .static yX8_within, .initialized RX8, .code yX8_within cX8_within 3 (some .boolean), .methodLink RX7 37 yJ9_floorDiv_7cf53, .static yJ9_floorDiv_7cf53, .initialized RJ9, .code yJ9_floorDiv_7cf53 cJ9_floorDiv_7cf53 3 (some .int)] ++ wsX70)
def wsX5_take_r1 : List Cond := [Cond.fieldLink RX5 9 "WornRings$Mean" "values" "[I", Cond.fieldLink RX5 32 "WornRings$Mean" "told" "Z", Cond.methodLink RX5 15 yX4_timeIn, Cond.instanceMethod yX4_timeIn, Cond.selects RX4 yX4_timeIn yX4_timeIn, Cond.initialized RX4, Cond.code yX4_timeIn cX4_timeIn 4 (some .int), Cond.constant RX4 15 (1000000), Cond.fieldLink RX4 9 "WornRings$Marks" "mended" "[I", Cond.methodLink RX4 37 yX4_hasTurns, Cond.instanceMethod yX4_hasTurns, Cond.selects RX4 yX4_hasTurns yX4_hasTurns, Cond.code yX4_hasTurns cX4_hasTurns 3 (some .boolean), Cond.fieldLink RX4 34 "WornRings$Marks" "kept" "I", Cond.methodLink RX5 21 yX7_valueAt, Cond.instanceMethod yX7_valueAt, Cond.selects RX7 yX7_valueAt yX7_valueAt, Cond.initialized RX7, Cond.code yX7_valueAt cX7_valueAt 4 (some .int), Cond.fieldLink RX7 15 "WornRings$Sheet" "step" "I", Cond.fieldLink RX7 9 "WornRings$Sheet" "items" "[I", Cond.methodLink RX7 33 yX7_lastHeard, Cond.instanceMethod yX7_lastHeard, Cond.selects RX7 yX7_lastHeard yX7_lastHeard]
def wsX5_take_r2 : List Cond := [Cond.code yX7_lastHeard cX7_lastHeard 1 (some .int), Cond.fieldLink RX7 26 "WornRings$Sheet" "length" "I", Cond.static yX8_within, Cond.initialized RX8, Cond.code yX8_within cX8_within 3 (some .boolean), Cond.methodLink RX7 37 yJ9_floorDiv_7cf53, Cond.static yJ9_floorDiv_7cf53, Cond.initialized RJ9, Cond.code yJ9_floorDiv_7cf53 cJ9_floorDiv_7cf53 3 (some .int), Cond.methodLink RX5 27 yJ9_floorDiv_7cf53]
def wsX5_take : List Cond := .code yX5_take cX5_take 8 none :: ((wsX5_take_r1 ++ wsX5_take_r2) ++ wsX50 ++ wsX40 ++ wsX70)
def wsJ9_floorMod_7cf53 : List Cond := .code yJ9_floorMod_7cf53 cJ9_floorMod_7cf53 3 (some .int) :: ([])
def wsX8_cosine : List Cond := .code yX8_cosine cX8_cosine 3 (some .int) :: ([.fieldLink RX8 237 "WornRings" "QUARTER" "[I", .methodLink RX8 234 yJ9_floorMod_7cf53, .static yJ9_floorMod_7cf53, .initialized RJ9, .code yJ9_floorMod_7cf53 cJ9_floorMod_7cf53 3 (some .int)])
def wsX5_strengthAt : List Cond := .code yX5_strengthAt cX5_strengthAt 7 (some .long) :: ([.fieldLink RX5 9 "WornRings$Mean" "values" "[I", .constantLong RX5 39 (1000000), .static yX8_cosine, .initialized RX8, .code yX8_cosine cX8_cosine 3 (some .int), .fieldLink RX8 237 "WornRings" "QUARTER" "[I", .methodLink RX8 234 yJ9_floorMod_7cf53, .static yJ9_floorMod_7cf53, .initialized RJ9, .code yJ9_floorMod_7cf53 cJ9_floorMod_7cf53 3 (some .int)] ++ wsX50)
def wsX7_init : List Cond := .code yX7_init cX7_init 1 none :: ([.methodLink RX7 3 objectInit, .instanceMethod objectInit, .code objectInit ⟨#[0xb1]⟩ 1 none, .arrayClass .int, .fieldLink RX7 9 "WornRings$Sheet" "items" "[I", .fieldLink RX7 15 "WornRings$Sheet" "step" "I"] ++ wsX70)
def wsX7_begin : List Cond := .code yX7_begin cX7_begin 5 none :: ([.fieldLink RX7 19 "WornRings$Sheet" "held" "Z", .fieldLink RX7 23 "WornRings$Sheet" "lane" "I", .fieldLink RX7 26 "WornRings$Sheet" "length" "I", .fieldLink RX7 15 "WornRings$Sheet" "step" "I", .fieldLink RX7 9 "WornRings$Sheet" "items" "[I"] ++ wsX70)
def wsX7_put : List Cond := .code yX7_put cX7_put 3 none :: ([.fieldLink RX7 26 "WornRings$Sheet" "length" "I", .fieldLink RX7 23 "WornRings$Sheet" "lane" "I", .fieldLink RX7 9 "WornRings$Sheet" "items" "[I", .static yX8_within, .initialized RX8, .code yX8_within cX8_within 3 (some .boolean)] ++ wsX70)
def wsX8_init_r1 : List Cond := [Cond.methodLink RX8 3 objectInit, Cond.instanceMethod objectInit, Cond.code objectInit ⟨#[0xb1]⟩ 1 none, Cond.classLink RX8 9 RX3, Cond.instantiable RX3 7, Cond.initialized RX3, Cond.fieldLink RX8 12 "WornRings" "machine" "LWornRings$Machine;", Cond.classLink RX8 16 RX4, Cond.instantiable RX4 4, Cond.initialized RX4, Cond.fieldLink RX8 19 "WornRings" "marks" "LWornRings$Marks;", Cond.classLink RX8 23 RX7, Cond.fieldLink RX8 25 "WornRings" "sheets" "[LWornRings$Sheet;", Cond.classLink RX8 29 RX5, Cond.instantiable RX5 2, Cond.initialized RX5, Cond.fieldLink RX8 32 "WornRings" "average" "LWornRings$Mean;", Cond.classLink RX8 36 RX1, Cond.instantiable RX1 4, Cond.initialized RX1, Cond.fieldLink RX8 39 "WornRings" "lines" "LWornRings$Lines;", Cond.classLink RX8 43 RX0, Cond.instantiable RX0 8, Cond.initialized RX0]
def wsX8_init_r2 : List Cond := [Cond.fieldLink RX8 46 "WornRings" "fewestParts" "LWornRings$Heap;", Cond.classLink RX8 50 RX2, Cond.fieldLink RX8 52 "WornRings" "loads" "[LWornRings$Load;", Cond.fieldLink RX8 56 "WornRings" "warnAbove" "I", Cond.fieldLink RX8 60 "WornRings" "calmBelow" "I", Cond.fieldLink RX8 63 "WornRings" "latest" "I", Cond.instantiable RX7 5, Cond.initialized RX7, Cond.instantiable RX2 4, Cond.initialized RX2, Cond.methodLink RX8 11 yX3_init, Cond.instanceMethod yX3_init, Cond.code yX3_init cX3_init 1 none, Cond.methodLink RX3 3 objectInit, Cond.arrayClass .long, Cond.fieldLink RX3 9 "WornRings$Machine" "above" "[J", Cond.fieldLink RX3 15 "WornRings$Machine" "below" "[J", Cond.classLink RX3 18 RX6, Cond.fieldLink RX3 20 "WornRings$Machine" "own" "[LWornRings$Part;", Cond.fieldLink RX3 24 "WornRings$Machine" "gears" "[LWornRings$Part;", Cond.fieldLink RX3 27 "WornRings$Machine" "onRings" "[LWornRings$Part;", Cond.fieldLink RX3 34 "WornRings$Machine" "shafts" "I", Cond.methodLink RX3 30 yX3_ownPart, Cond.instanceMethod yX3_ownPart]
def wsX8_init_r3 : List Cond := [Cond.selects RX3 yX3_ownPart yX3_ownPart, Cond.code yX3_ownPart cX3_ownPart 3 (some (.object "WornRings$Part")), Cond.instantiable RX6 5, Cond.initialized RX6, Cond.methodLink RX3 77 yX6_init, Cond.instanceMethod yX6_init, Cond.code yX6_init cX6_init 3 none, Cond.methodLink RX6 3 objectInit, Cond.fieldLink RX6 9 "WornRings$Part" "above" "[J", Cond.fieldLink RX6 15 "WornRings$Part" "below" "[J", Cond.fieldLink RX6 18 "WornRings$Part" "kind" "I", Cond.fieldLink RX6 22 "WornRings$Part" "seat" "I", Cond.methodLink RX3 80 yX3_addMultiple, Cond.instanceMethod yX3_addMultiple, Cond.selects RX3 yX3_addMultiple yX3_addMultiple, Cond.code yX3_addMultiple cX3_addMultiple 4 none, Cond.methodLink RX3 87 yX6_addTone, Cond.instanceMethod yX6_addTone, Cond.selects RX6 yX6_addTone yX6_addTone, Cond.code yX6_addTone cX6_addTone 7 none, Cond.fieldLink RX6 25 "WornRings$Part" "count" "I", Cond.static yX8_commonDivisor, Cond.initialized RX8, Cond.code yX8_commonDivisor cX8_commonDivisor 11 (some .long)]
def wsX8_init_r4 : List Cond := [Cond.methodLink RX8 228 Lib.MathLoose.max_long.x, Cond.static Lib.MathLoose.max_long.x, Cond.initialized "java/lang/Math", Cond.code Lib.MathLoose.max_long.x Lib.MathLoose.max_long.code 4 (some .long), Cond.instanceMethod yX4_init, Cond.code yX4_init cX4_init 1 none, Cond.methodLink RX4 3 objectInit, Cond.arrayClass .int, Cond.fieldLink RX4 9 "WornRings$Marks" "mended" "[I", Cond.instanceMethod yX5_init, Cond.code yX5_init cX5_init 1 none, Cond.methodLink RX5 3 objectInit, Cond.fieldLink RX5 9 "WornRings$Mean" "values" "[I", Cond.instanceMethod yX1_init, Cond.code yX1_init cX1_init 1 none, Cond.methodLink RX1 3 objectInit, Cond.fieldLink RX1 9 "WornRings$Lines" "above" "[I", Cond.fieldLink RX1 15 "WornRings$Lines" "below" "[I", Cond.fieldLink RX1 18 "WornRings$Lines" "thousandths" "I", Cond.instanceMethod yX0_init, Cond.code yX0_init cX0_init 1 none, Cond.methodLink RX0 3 objectInit, Cond.fieldLink RX0 9 "WornRings$Heap" "numbers" "[I", Cond.fieldLink RX0 15 "WornRings$Heap" "explained" "[I"]
def wsX8_init_r5 : List Cond := [Cond.arrayClass .byte, Cond.fieldLink RX0 18 "WornRings$Heap" "fewest" "[B", Cond.fieldLink RX0 22 "WornRings$Heap" "chosen" "[I", Cond.instanceMethod yX7_init, Cond.code yX7_init cX7_init 1 none, Cond.methodLink RX7 3 objectInit, Cond.fieldLink RX7 9 "WornRings$Sheet" "items" "[I", Cond.fieldLink RX7 15 "WornRings$Sheet" "step" "I", Cond.instanceMethod yX2_init, Cond.code yX2_init cX2_init 1 none, Cond.methodLink RX2 3 objectInit, Cond.fieldLink RX2 9 "WornRings$Load" "readings" "[I"]
def wsX8_init : List Cond := .code yX8_init cX8_init 2 none :: ((wsX8_init_r1 ++ (wsX8_init_r2 ++ (wsX8_init_r3 ++ (wsX8_init_r4 ++ wsX8_init_r5)))) ++ wsX30 ++ wsX80 ++ wsX40 ++ wsX50 ++ wsX10 ++ wsX00 ++ wsX70 ++ wsX20 ++ wsX60)
def wsX8_shaft_r1 : List Cond := [Cond.fieldLink RX8 12 "WornRings" "machine" "LWornRings$Machine;", Cond.fieldLink RX8 46 "WornRings" "fewestParts" "LWornRings$Heap;", Cond.methodLink RX8 68 yX3_addShaft, Cond.instanceMethod yX3_addShaft, Cond.selects RX3 yX3_addShaft yX3_addShaft, Cond.initialized RX3, Cond.code yX3_addShaft cX3_addShaft 11 (some .int), Cond.fieldLink RX3 34 "WornRings$Machine" "shafts" "I", Cond.fieldLink RX3 9 "WornRings$Machine" "above" "[J", Cond.fieldLink RX3 15 "WornRings$Machine" "below" "[J", Cond.fieldLink RX3 20 "WornRings$Machine" "own" "[LWornRings$Part;", Cond.fieldLink RX3 24 "WornRings$Machine" "gears" "[LWornRings$Part;", Cond.methodLink RX3 38 yX3_hasShaft, Cond.instanceMethod yX3_hasShaft, Cond.selects RX3 yX3_hasShaft yX3_hasShaft, Cond.code yX3_hasShaft cX3_hasShaft 2 (some .boolean), Cond.static yX8_within, Cond.initialized RX8, Cond.code yX8_within cX8_within 3 (some .boolean), Cond.static yX8_commonDivisor, Cond.code yX8_commonDivisor cX8_commonDivisor 11 (some .long), Cond.methodLink RX8 228 Lib.MathLoose.max_long.x, Cond.static Lib.MathLoose.max_long.x, Cond.initialized "java/lang/Math"]
def wsX8_shaft_r2 : List Cond := [Cond.code Lib.MathLoose.max_long.x Lib.MathLoose.max_long.code 4 (some .long), Cond.methodLink RX3 30 yX3_ownPart, Cond.instanceMethod yX3_ownPart, Cond.selects RX3 yX3_ownPart yX3_ownPart, Cond.code yX3_ownPart cX3_ownPart 3 (some (.object "WornRings$Part")), Cond.classLink RX3 18 RX6, Cond.instantiable RX6 5, Cond.initialized RX6, Cond.methodLink RX3 77 yX6_init, Cond.instanceMethod yX6_init, Cond.code yX6_init cX6_init 3 none, Cond.methodLink RX6 3 objectInit, Cond.instanceMethod objectInit, Cond.code objectInit ⟨#[0xb1]⟩ 1 none, Cond.arrayClass .long, Cond.fieldLink RX6 9 "WornRings$Part" "above" "[J", Cond.fieldLink RX6 15 "WornRings$Part" "below" "[J", Cond.fieldLink RX6 18 "WornRings$Part" "kind" "I", Cond.fieldLink RX6 22 "WornRings$Part" "seat" "I", Cond.methodLink RX3 80 yX3_addMultiple, Cond.instanceMethod yX3_addMultiple, Cond.selects RX3 yX3_addMultiple yX3_addMultiple, Cond.code yX3_addMultiple cX3_addMultiple 4 none, Cond.methodLink RX3 87 yX6_addTone]
def wsX8_shaft_r3 : List Cond := [Cond.instanceMethod yX6_addTone, Cond.selects RX6 yX6_addTone yX6_addTone, Cond.code yX6_addTone cX6_addTone 7 none, Cond.fieldLink RX6 25 "WornRings$Part" "count" "I", Cond.methodLink RX3 50 yX3_gearPart, Cond.instanceMethod yX3_gearPart, Cond.selects RX3 yX3_gearPart yX3_gearPart, Cond.code yX3_gearPart cX3_gearPart 4 (some (.object "WornRings$Part")), Cond.methodLink RX8 72 yX0_forget, Cond.instanceMethod yX0_forget, Cond.selects RX0 yX0_forget yX0_forget, Cond.initialized RX0, Cond.code yX0_forget cX0_forget 1 none, Cond.fieldLink RX0 25 "WornRings$Heap" "laid" "Z"]
def wsX8_shaft : List Cond := .code yX8_shaft cX8_shaft 5 (some .int) :: ((wsX8_shaft_r1 ++ (wsX8_shaft_r2 ++ wsX8_shaft_r3)) ++ wsX80 ++ wsX30 ++ wsX60 ++ wsX00)
def wsX8_ring_r1 : List Cond := [Cond.fieldLink RX8 12 "WornRings" "machine" "LWornRings$Machine;", Cond.fieldLink RX8 46 "WornRings" "fewestParts" "LWornRings$Heap;", Cond.methodLink RX8 75 yX3_addRing, Cond.instanceMethod yX3_addRing, Cond.selects RX3 yX3_addRing yX3_addRing, Cond.initialized RX3, Cond.code yX3_addRing cX3_addRing 6 (some .int), Cond.fieldLink RX3 54 "WornRings$Machine" "rings" "I", Cond.fieldLink RX3 27 "WornRings$Machine" "onRings" "[LWornRings$Part;", Cond.methodLink RX3 38 yX3_hasShaft, Cond.instanceMethod yX3_hasShaft, Cond.selects RX3 yX3_hasShaft yX3_hasShaft, Cond.code yX3_hasShaft cX3_hasShaft 2 (some .boolean), Cond.fieldLink RX3 34 "WornRings$Machine" "shafts" "I", Cond.static yX8_within, Cond.initialized RX8, Cond.code yX8_within cX8_within 3 (some .boolean), Cond.methodLink RX3 57 yX3_outerPart, Cond.instanceMethod yX3_outerPart, Cond.selects RX3 yX3_outerPart yX3_outerPart, Cond.code yX3_outerPart cX3_outerPart 6 (some (.object "WornRings$Part")), Cond.classLink RX3 18 RX6, Cond.instantiable RX6 5, Cond.initialized RX6]
def wsX8_ring_r2 : List Cond := [Cond.methodLink RX3 77 yX6_init, Cond.instanceMethod yX6_init, Cond.code yX6_init cX6_init 3 none, Cond.methodLink RX6 3 objectInit, Cond.instanceMethod objectInit, Cond.code objectInit ⟨#[0xb1]⟩ 1 none, Cond.arrayClass .long, Cond.fieldLink RX6 9 "WornRings$Part" "above" "[J", Cond.fieldLink RX6 15 "WornRings$Part" "below" "[J", Cond.fieldLink RX6 18 "WornRings$Part" "kind" "I", Cond.fieldLink RX6 22 "WornRings$Part" "seat" "I", Cond.methodLink RX3 80 yX3_addMultiple, Cond.instanceMethod yX3_addMultiple, Cond.selects RX3 yX3_addMultiple yX3_addMultiple, Cond.code yX3_addMultiple cX3_addMultiple 4 none, Cond.fieldLink RX3 9 "WornRings$Machine" "above" "[J", Cond.fieldLink RX3 15 "WornRings$Machine" "below" "[J", Cond.methodLink RX3 87 yX6_addTone, Cond.instanceMethod yX6_addTone, Cond.selects RX6 yX6_addTone yX6_addTone, Cond.code yX6_addTone cX6_addTone 7 none, Cond.fieldLink RX6 25 "WornRings$Part" "count" "I", Cond.static yX8_commonDivisor, Cond.code yX8_commonDivisor cX8_commonDivisor 11 (some .long)]
def wsX8_ring_r3 : List Cond := [Cond.methodLink RX8 228 Lib.MathLoose.max_long.x, Cond.static Lib.MathLoose.max_long.x, Cond.initialized "java/lang/Math", Cond.code Lib.MathLoose.max_long.x Lib.MathLoose.max_long.code 4 (some .long), Cond.methodLink RX3 61 yX3_innerPart, Cond.instanceMethod yX3_innerPart, Cond.selects RX3 yX3_innerPart yX3_innerPart, Cond.code yX3_innerPart cX3_innerPart 6 (some (.object "WornRings$Part")), Cond.methodLink RX3 64 yX3_cagePart, Cond.instanceMethod yX3_cagePart, Cond.selects RX3 yX3_cagePart yX3_cagePart, Cond.code yX3_cagePart cX3_cagePart 5 (some (.object "WornRings$Part")), Cond.methodLink RX3 68 yX3_ballsPart, Cond.instanceMethod yX3_ballsPart, Cond.selects RX3 yX3_ballsPart yX3_ballsPart, Cond.code yX3_ballsPart cX3_ballsPart 5 (some (.object "WornRings$Part")), Cond.methodLink RX8 72 yX0_forget, Cond.instanceMethod yX0_forget, Cond.selects RX0 yX0_forget yX0_forget, Cond.initialized RX0, Cond.code yX0_forget cX0_forget 1 none, Cond.fieldLink RX0 25 "WornRings$Heap" "laid" "Z"]
def wsX8_ring : List Cond := .code yX8_ring cX8_ring 6 (some .int) :: ((wsX8_ring_r1 ++ (wsX8_ring_r2 ++ wsX8_ring_r3)) ++ wsX80 ++ wsX30 ++ wsX60 ++ wsX00)
def wsX8_speed : List Cond := .code yX8_speed cX8_speed 3 (some .long) :: ([.fieldLink RX8 12 "WornRings" "machine" "LWornRings$Machine;", .constantLong RX8 87 (-1), .methodLink RX8 79 yX3_hasShaft, .instanceMethod yX3_hasShaft, .selects RX3 yX3_hasShaft yX3_hasShaft, .initialized RX3, .code yX3_hasShaft cX3_hasShaft 2 (some .boolean), .fieldLink RX3 34 "WornRings$Machine" "shafts" "I", .static yX8_within, .initialized RX8, .code yX8_within cX8_within 3 (some .boolean), .methodLink RX8 83 yX8_within, .methodLink RX8 89 yX3_speedAbove, .instanceMethod yX3_speedAbove, .selects RX3 yX3_speedAbove yX3_speedAbove, .code yX3_speedAbove cX3_speedAbove 2 (some .long), .fieldLink RX3 9 "WornRings$Machine" "above" "[J", .constantLong RX3 71 (-1), .methodLink RX3 38 yX3_hasShaft, .methodLink RX8 93 yX3_speedBelow, .instanceMethod yX3_speedBelow, .selects RX3 yX3_speedBelow yX3_speedBelow, .code yX3_speedBelow cX3_speedBelow 2 (some .long), .fieldLink RX3 15 "WornRings$Machine" "below" "[J"] ++ wsX80 ++ wsX30)
def wsX8_parts : List Cond := .code yX8_parts cX8_parts 1 (some .int) :: ([.fieldLink RX8 12 "WornRings" "machine" "LWornRings$Machine;", .methodLink RX8 96 yX3_countParts, .instanceMethod yX3_countParts, .selects RX3 yX3_countParts yX3_countParts, .initialized RX3, .code yX3_countParts cX3_countParts 1 (some .int), .fieldLink RX3 34 "WornRings$Machine" "shafts" "I", .fieldLink RX3 54 "WornRings$Machine" "rings" "I"] ++ wsX80 ++ wsX30)
def wsX8_part : List Cond := .code yX8_part cX8_part 4 (some .int) :: ([.fieldLink RX8 12 "WornRings" "machine" "LWornRings$Machine;", .methodLink RX8 100 yX3_find, .instanceMethod yX3_find, .selects RX3 yX3_find yX3_find, .initialized RX3, .code yX3_find cX3_find 3 (some (.object "WornRings$Part")), .fieldLink RX3 34 "WornRings$Machine" "shafts" "I", .fieldLink RX3 20 "WornRings$Machine" "own" "[LWornRings$Part;", .fieldLink RX3 24 "WornRings$Machine" "gears" "[LWornRings$Part;", .fieldLink RX3 27 "WornRings$Machine" "onRings" "[LWornRings$Part;", .methodLink RX3 73 yX3_countParts, .instanceMethod yX3_countParts, .selects RX3 yX3_countParts yX3_countParts, .code yX3_countParts cX3_countParts 1 (some .int), .fieldLink RX3 54 "WornRings$Machine" "rings" "I", .methodLink RX8 83 yX8_within, .static yX8_within, .initialized RX8, .code yX8_within cX8_within 3 (some .boolean)] ++ wsX80 ++ wsX60 ++ wsX30)
def wsX8_tone : List Cond := .code yX8_tone cX8_tone 5 (some .long) :: ([.fieldLink RX8 12 "WornRings" "machine" "LWornRings$Machine;", .constantLong RX8 87 (-1), .methodLink RX8 100 yX3_find, .instanceMethod yX3_find, .selects RX3 yX3_find yX3_find, .initialized RX3, .code yX3_find cX3_find 3 (some (.object "WornRings$Part")), .fieldLink RX3 34 "WornRings$Machine" "shafts" "I", .fieldLink RX3 20 "WornRings$Machine" "own" "[LWornRings$Part;", .fieldLink RX3 24 "WornRings$Machine" "gears" "[LWornRings$Part;", .fieldLink RX3 27 "WornRings$Machine" "onRings" "[LWornRings$Part;", .methodLink RX3 73 yX3_countParts, .instanceMethod yX3_countParts, .selects RX3 yX3_countParts yX3_countParts, .code yX3_countParts cX3_countParts 1 (some .int), .fieldLink RX3 54 "WornRings$Machine" "rings" "I", .methodLink RX8 83 yX8_within, .static yX8_within, .initialized RX8, .code yX8_within cX8_within 3 (some .boolean)] ++ wsX80 ++ wsX60 ++ wsX30)
def wsX8_mark_r1 : List Cond := [Cond.fieldLink RX8 19 "WornRings" "marks" "LWornRings$Marks;", Cond.methodLink RX8 122 yX4_add, Cond.instanceMethod yX4_add, Cond.selects RX4 yX4_add yX4_add, Cond.initialized RX4, Cond.code yX4_add cX4_add 2 (some .int), Cond.constant RX4 15 (1000000), Cond.fieldLink RX4 20 "WornRings$Marks" "count" "I", Cond.fieldLink RX4 24 "WornRings$Marks" "last" "I", Cond.static yX8_within, Cond.initialized RX8, Cond.code yX8_within cX8_within 3 (some .boolean), Cond.methodLink RX4 27 yX4_mendUpTo, Cond.instanceMethod yX4_mendUpTo, Cond.selects RX4 yX4_mendUpTo yX4_mendUpTo, Cond.code yX4_mendUpTo cX4_mendUpTo 7 none, Cond.fieldLink RX4 34 "WornRings$Marks" "kept" "I", Cond.fieldLink RX4 9 "WornRings$Marks" "mended" "[I", Cond.methodLink RX4 41 Lib.Math.max.name, Cond.static Lib.Math.max.name, Cond.initialized "java/lang/Math", Cond.code Lib.Math.max.name Lib.Math.max.code 2 (some .int), Cond.methodLink RX4 31 yX4_keep, Cond.instanceMethod yX4_keep]
def wsX8_mark_r2 : List Cond := [Cond.selects RX4 yX4_keep yX4_keep, Cond.code yX4_keep cX4_keep 2 none]
def wsX8_mark : List Cond := .code yX8_mark cX8_mark 2 (some .int) :: ((wsX8_mark_r1 ++ wsX8_mark_r2) ++ wsX80 ++ wsX40)
def wsX8_unmark : List Cond := .code yX8_unmark cX8_unmark 1 (some .int) :: ([.fieldLink RX8 19 "WornRings" "marks" "LWornRings$Marks;", .methodLink RX8 126 yX4_clear, .instanceMethod yX4_clear, .selects RX4 yX4_clear yX4_clear, .initialized RX4, .code yX4_clear cX4_clear 2 (some .int), .fieldLink RX4 20 "WornRings$Marks" "count" "I", .fieldLink RX4 34 "WornRings$Marks" "kept" "I"] ++ wsX80 ++ wsX40)
def wsX8_turns : List Cond := .code yX8_turns cX8_turns 1 (some .int) :: ([.fieldLink RX8 19 "WornRings" "marks" "LWornRings$Marks;"] ++ wsX80 ++ wsX40)
def wsX8_turn : List Cond := .code yX8_turn cX8_turn 2 (some .int) :: ([.fieldLink RX8 19 "WornRings" "marks" "LWornRings$Marks;", .methodLink RX8 83 yX8_within, .static yX8_within, .initialized RX8, .code yX8_within cX8_within 3 (some .boolean)] ++ wsX80 ++ wsX40)
def wsX8_sheet : List Cond := .code yX8_sheet cX8_sheet 5 (some .int) :: ([.fieldLink RX8 25 "WornRings" "sheets" "[LWornRings$Sheet;", .methodLink RX8 83 yX8_within, .static yX8_within, .initialized RX8, .code yX8_within cX8_within 3 (some .boolean), .methodLink RX8 136 yX7_begin, .instanceMethod yX7_begin, .selects RX7 yX7_begin yX7_begin, .initialized RX7, .code yX7_begin cX7_begin 5 none, .fieldLink RX7 19 "WornRings$Sheet" "held" "Z", .fieldLink RX7 23 "WornRings$Sheet" "lane" "I", .fieldLink RX7 26 "WornRings$Sheet" "length" "I", .fieldLink RX7 15 "WornRings$Sheet" "step" "I", .fieldLink RX7 9 "WornRings$Sheet" "items" "[I"] ++ wsX80 ++ wsX70)
def wsX8_drop : List Cond := .code yX8_drop cX8_drop 2 (some .int) :: ([.fieldLink RX8 25 "WornRings" "sheets" "[LWornRings$Sheet;", .methodLink RX8 83 yX8_within, .static yX8_within, .initialized RX8, .code yX8_within cX8_within 3 (some .boolean)] ++ wsX80 ++ wsX70)
def wsX8_item : List Cond := .code yX8_item cX8_item 6 (some .int) :: ([.fieldLink RX8 25 "WornRings" "sheets" "[LWornRings$Sheet;", .methodLink RX8 83 yX8_within, .static yX8_within, .initialized RX8, .code yX8_within cX8_within 3 (some .boolean), .methodLink RX8 150 yX7_put, .instanceMethod yX7_put, .selects RX7 yX7_put yX7_put, .initialized RX7, .code yX7_put cX7_put 3 none, .fieldLink RX7 26 "WornRings$Sheet" "length" "I", .fieldLink RX7 23 "WornRings$Sheet" "lane" "I", .fieldLink RX7 9 "WornRings$Sheet" "items" "[I"] ++ wsX80 ++ wsX70)
def wsX8_cut_r1 : List Cond := [Cond.fieldLink RX8 25 "WornRings" "sheets" "[LWornRings$Sheet;", Cond.fieldLink RX8 19 "WornRings" "marks" "LWornRings$Marks;", Cond.fieldLink RX8 32 "WornRings" "average" "LWornRings$Mean;", Cond.methodLink RX8 83 yX8_within, Cond.static yX8_within, Cond.initialized RX8, Cond.code yX8_within cX8_within 3 (some .boolean), Cond.methodLink RX8 154 yX4_hasTurns, Cond.instanceMethod yX4_hasTurns, Cond.selects RX4 yX4_hasTurns yX4_hasTurns, Cond.initialized RX4, Cond.code yX4_hasTurns cX4_hasTurns 3 (some .boolean), Cond.fieldLink RX4 34 "WornRings$Marks" "kept" "I", Cond.methodLink RX8 158 yX4_endOf, Cond.instanceMethod yX4_endOf, Cond.selects RX4 yX4_endOf yX4_endOf, Cond.code yX4_endOf cX4_endOf 2 (some .int), Cond.fieldLink RX4 9 "WornRings$Marks" "mended" "[I", Cond.constant RX4 15 (1000000), Cond.methodLink RX4 37 yX4_hasTurns, Cond.methodLink RX8 161 yX7_lastHeard, Cond.instanceMethod yX7_lastHeard, Cond.selects RX7 yX7_lastHeard yX7_lastHeard, Cond.initialized RX7]
def wsX8_cut_r2 : List Cond := [Cond.code yX7_lastHeard cX7_lastHeard 1 (some .int), Cond.fieldLink RX7 26 "WornRings$Sheet" "length" "I", Cond.fieldLink RX7 15 "WornRings$Sheet" "step" "I", Cond.methodLink RX8 164 yX5_take, Cond.instanceMethod yX5_take, Cond.selects RX5 yX5_take yX5_take, Cond.initialized RX5, Cond.code yX5_take cX5_take 8 none, Cond.fieldLink RX5 9 "WornRings$Mean" "values" "[I", Cond.fieldLink RX5 32 "WornRings$Mean" "told" "Z", Cond.methodLink RX5 15 yX4_timeIn, Cond.instanceMethod yX4_timeIn, Cond.selects RX4 yX4_timeIn yX4_timeIn, Cond.code yX4_timeIn cX4_timeIn 4 (some .int), Cond.methodLink RX5 21 yX7_valueAt, Cond.instanceMethod yX7_valueAt, Cond.selects RX7 yX7_valueAt yX7_valueAt, Cond.code yX7_valueAt cX7_valueAt 4 (some .int), Cond.fieldLink RX7 9 "WornRings$Sheet" "items" "[I", Cond.methodLink RX7 33 yX7_lastHeard, Cond.methodLink RX7 37 yJ9_floorDiv_7cf53, Cond.static yJ9_floorDiv_7cf53, Cond.initialized RJ9, Cond.code yJ9_floorDiv_7cf53 cJ9_floorDiv_7cf53 3 (some .int)]
def wsX8_cut_r3 : List Cond := [Cond.methodLink RX5 27 yJ9_floorDiv_7cf53]
def wsX8_cut : List Cond := .code yX8_cut cX8_cut 5 (some .int) :: ((wsX8_cut_r1 ++ (wsX8_cut_r2 ++ wsX8_cut_r3)) ++ wsX80 ++ wsX70 ++ wsX40 ++ wsX50)
def wsX8_mean : List Cond := .code yX8_mean cX8_mean 2 (some .int) :: ([.constant RX8 168 (-1000001), .fieldLink RX8 32 "WornRings" "average" "LWornRings$Mean;", .constant RX8 175 (-1000002), .methodLink RX8 83 yX8_within, .static yX8_within, .initialized RX8, .code yX8_within cX8_within 3 (some .boolean)] ++ wsX80 ++ wsX50)
def wsX8_strength : List Cond := .code yX8_strength cX8_strength 2 (some .long) :: ([.constantLong RX8 87 (-1), .fieldLink RX8 32 "WornRings" "average" "LWornRings$Mean;", .constantLong RX8 179 (-2), .methodLink RX8 83 yX8_within, .static yX8_within, .initialized RX8, .code yX8_within cX8_within 3 (some .boolean), .methodLink RX8 176 yX5_strengthAt, .instanceMethod yX5_strengthAt, .selects RX5 yX5_strengthAt yX5_strengthAt, .initialized RX5, .code yX5_strengthAt cX5_strengthAt 7 (some .long), .fieldLink RX5 9 "WornRings$Mean" "values" "[I", .constantLong RX5 39 (1000000), .static yX8_cosine, .code yX8_cosine cX8_cosine 3 (some .int), .fieldLink RX8 237 "WornRings" "QUARTER" "[I", .methodLink RX8 234 yJ9_floorMod_7cf53, .static yJ9_floorMod_7cf53, .initialized RJ9, .code yJ9_floorMod_7cf53 cJ9_floorMod_7cf53 3 (some .int)] ++ wsX80 ++ wsX50)
def wsX8_line : List Cond := .code yX8_line cX8_line 4 (some .int) :: ([.fieldLink RX8 39 "WornRings" "lines" "LWornRings$Lines;", .fieldLink RX8 46 "WornRings" "fewestParts" "LWornRings$Heap;", .methodLink RX8 181 yX1_add, .instanceMethod yX1_add, .selects RX1 yX1_add yX1_add, .initialized RX1, .code yX1_add cX1_add 3 (some .int), .fieldLink RX1 26 "WornRings$Lines" "count" "I", .fieldLink RX1 9 "WornRings$Lines" "above" "[I", .fieldLink RX1 15 "WornRings$Lines" "below" "[I", .static yX8_within, .initialized RX8, .code yX8_within cX8_within 3 (some .boolean), .methodLink RX8 72 yX0_forget, .instanceMethod yX0_forget, .selects RX0 yX0_forget yX0_forget, .initialized RX0, .code yX0_forget cX0_forget 1 none, .fieldLink RX0 25 "WornRings$Heap" "laid" "Z"] ++ wsX80 ++ wsX10 ++ wsX00)
def wsX8_unline : List Cond := .code yX8_unline cX8_unline 2 (some .int) :: ([.fieldLink RX8 39 "WornRings" "lines" "LWornRings$Lines;", .fieldLink RX8 46 "WornRings" "fewestParts" "LWornRings$Heap;", .methodLink RX8 72 yX0_forget, .instanceMethod yX0_forget, .selects RX0 yX0_forget yX0_forget, .initialized RX0, .code yX0_forget cX0_forget 1 none, .fieldLink RX0 25 "WornRings$Heap" "laid" "Z"] ++ wsX80 ++ wsX10 ++ wsX00)
def wsX8_slip : List Cond := .code yX8_slip cX8_slip 3 (some .int) :: ([.fieldLink RX8 39 "WornRings" "lines" "LWornRings$Lines;", .fieldLink RX8 46 "WornRings" "fewestParts" "LWornRings$Heap;", .methodLink RX8 83 yX8_within, .static yX8_within, .initialized RX8, .code yX8_within cX8_within 3 (some .boolean), .methodLink RX8 72 yX0_forget, .instanceMethod yX0_forget, .selects RX0 yX0_forget yX0_forget, .initialized RX0, .code yX0_forget cX0_forget 1 none, .fieldLink RX0 25 "WornRings$Heap" "laid" "Z"] ++ wsX80 ++ wsX10 ++ wsX00)
def wsX8_explains_r1 : List Cond := [Cond.fieldLink RX8 12 "WornRings" "machine" "LWornRings$Machine;", Cond.fieldLink RX8 39 "WornRings" "lines" "LWornRings$Lines;", Cond.methodLink RX8 100 yX3_find, Cond.instanceMethod yX3_find, Cond.selects RX3 yX3_find yX3_find, Cond.initialized RX3, Cond.code yX3_find cX3_find 3 (some (.object "WornRings$Part")), Cond.fieldLink RX3 34 "WornRings$Machine" "shafts" "I", Cond.fieldLink RX3 20 "WornRings$Machine" "own" "[LWornRings$Part;", Cond.fieldLink RX3 24 "WornRings$Machine" "gears" "[LWornRings$Part;", Cond.fieldLink RX3 27 "WornRings$Machine" "onRings" "[LWornRings$Part;", Cond.methodLink RX3 73 yX3_countParts, Cond.instanceMethod yX3_countParts, Cond.selects RX3 yX3_countParts yX3_countParts, Cond.code yX3_countParts cX3_countParts 1 (some .int), Cond.fieldLink RX3 54 "WornRings$Machine" "rings" "I", Cond.methodLink RX8 188 yX1_explainedBy, Cond.instanceMethod yX1_explainedBy, Cond.selects RX1 yX1_explainedBy yX1_explainedBy, Cond.initialized RX1, Cond.code yX1_explainedBy cX1_explainedBy 4 (some .int), Cond.methodLink RX1 37 yX1_near, Cond.instanceMethod yX1_near, Cond.selects RX1 yX1_near yX1_near]
def wsX8_explains_r2 : List Cond := [Cond.code yX1_near cX1_near 11 (some .int), Cond.fieldLink RX1 26 "WornRings$Lines" "count" "I", Cond.fieldLink RX1 15 "WornRings$Lines" "below" "[I", Cond.fieldLink RX1 9 "WornRings$Lines" "above" "[I", Cond.methodLink RX1 41 Lib.MathLoose.abs_long.x, Cond.static Lib.MathLoose.abs_long.x, Cond.initialized "java/lang/Math", Cond.code Lib.MathLoose.abs_long.x Lib.MathLoose.abs_long.code 2 (some .long), Cond.constantLong RX1 47 (1000), Cond.fieldLink RX1 18 "WornRings$Lines" "thousandths" "I"]
def wsX8_explains : List Cond := .code yX8_explains cX8_explains 3 (some .int) :: ((wsX8_explains_r1 ++ wsX8_explains_r2) ++ wsX80 ++ wsX30 ++ wsX60 ++ wsX10)
def wsX8_named_r1 : List Cond := [Cond.fieldLink RX8 12 "WornRings" "machine" "LWornRings$Machine;", Cond.fieldLink RX8 39 "WornRings" "lines" "LWornRings$Lines;", Cond.methodLink RX8 100 yX3_find, Cond.instanceMethod yX3_find, Cond.selects RX3 yX3_find yX3_find, Cond.initialized RX3, Cond.code yX3_find cX3_find 3 (some (.object "WornRings$Part")), Cond.fieldLink RX3 34 "WornRings$Machine" "shafts" "I", Cond.fieldLink RX3 20 "WornRings$Machine" "own" "[LWornRings$Part;", Cond.fieldLink RX3 24 "WornRings$Machine" "gears" "[LWornRings$Part;", Cond.fieldLink RX3 27 "WornRings$Machine" "onRings" "[LWornRings$Part;", Cond.methodLink RX3 73 yX3_countParts, Cond.instanceMethod yX3_countParts, Cond.selects RX3 yX3_countParts yX3_countParts, Cond.code yX3_countParts cX3_countParts 1 (some .int), Cond.fieldLink RX3 54 "WornRings$Machine" "rings" "I", Cond.methodLink RX8 192 yX1_allTonesSeen, Cond.instanceMethod yX1_allTonesSeen, Cond.selects RX1 yX1_allTonesSeen yX1_allTonesSeen, Cond.initialized RX1, Cond.code yX1_allTonesSeen cX1_allTonesSeen 3 (some .boolean), Cond.methodLink RX1 37 yX1_near, Cond.instanceMethod yX1_near, Cond.selects RX1 yX1_near yX1_near]
def wsX8_named_r2 : List Cond := [Cond.code yX1_near cX1_near 11 (some .int), Cond.fieldLink RX1 26 "WornRings$Lines" "count" "I", Cond.fieldLink RX1 15 "WornRings$Lines" "below" "[I", Cond.fieldLink RX1 9 "WornRings$Lines" "above" "[I", Cond.methodLink RX1 41 Lib.MathLoose.abs_long.x, Cond.static Lib.MathLoose.abs_long.x, Cond.initialized "java/lang/Math", Cond.code Lib.MathLoose.abs_long.x Lib.MathLoose.abs_long.code 2 (some .long), Cond.constantLong RX1 47 (1000), Cond.fieldLink RX1 18 "WornRings$Lines" "thousandths" "I"]
def wsX8_named : List Cond := .code yX8_named cX8_named 3 (some .int) :: ((wsX8_named_r1 ++ wsX8_named_r2) ++ wsX80 ++ wsX30 ++ wsX60 ++ wsX10)
def wsX8_heap_r1 : List Cond := [Cond.fieldLink RX8 46 "WornRings" "fewestParts" "LWornRings$Heap;", Cond.fieldLink RX8 12 "WornRings" "machine" "LWornRings$Machine;", Cond.fieldLink RX8 39 "WornRings" "lines" "LWornRings$Lines;", Cond.methodLink RX8 196 yX0_layDown, Cond.instanceMethod yX0_layDown, Cond.selects RX0 yX0_layDown yX0_layDown, Cond.initialized RX0, Cond.code yX0_layDown cX0_layDown 3 none, Cond.fieldLink RX0 25 "WornRings$Heap" "laid" "Z", Cond.methodLink RX0 29 yX0_gather, Cond.instanceMethod yX0_gather, Cond.selects RX0 yX0_gather yX0_gather, Cond.code yX0_gather cX0_gather 5 none, Cond.fieldLink RX0 39 "WornRings$Heap" "candidates" "I", Cond.fieldLink RX0 43 "WornRings$Heap" "together" "I", Cond.fieldLink RX0 9 "WornRings$Heap" "numbers" "[I", Cond.fieldLink RX0 15 "WornRings$Heap" "explained" "[I", Cond.methodLink RX0 46 yX3_find, Cond.instanceMethod yX3_find, Cond.selects RX3 yX3_find yX3_find, Cond.initialized RX3, Cond.code yX3_find cX3_find 3 (some (.object "WornRings$Part")), Cond.fieldLink RX3 34 "WornRings$Machine" "shafts" "I", Cond.fieldLink RX3 20 "WornRings$Machine" "own" "[LWornRings$Part;"]
def wsX8_heap_r2 : List Cond := [Cond.fieldLink RX3 24 "WornRings$Machine" "gears" "[LWornRings$Part;", Cond.fieldLink RX3 27 "WornRings$Machine" "onRings" "[LWornRings$Part;", Cond.methodLink RX3 73 yX3_countParts, Cond.instanceMethod yX3_countParts, Cond.selects RX3 yX3_countParts yX3_countParts, Cond.code yX3_countParts cX3_countParts 1 (some .int), Cond.fieldLink RX3 54 "WornRings$Machine" "rings" "I", Cond.methodLink RX0 52 yX1_allTonesSeen, Cond.instanceMethod yX1_allTonesSeen, Cond.selects RX1 yX1_allTonesSeen yX1_allTonesSeen, Cond.initialized RX1, Cond.code yX1_allTonesSeen cX1_allTonesSeen 3 (some .boolean), Cond.methodLink RX1 37 yX1_near, Cond.instanceMethod yX1_near, Cond.selects RX1 yX1_near yX1_near, Cond.code yX1_near cX1_near 11 (some .int), Cond.fieldLink RX1 26 "WornRings$Lines" "count" "I", Cond.fieldLink RX1 15 "WornRings$Lines" "below" "[I", Cond.fieldLink RX1 9 "WornRings$Lines" "above" "[I", Cond.methodLink RX1 41 Lib.MathLoose.abs_long.x, Cond.static Lib.MathLoose.abs_long.x, Cond.initialized "java/lang/Math", Cond.code Lib.MathLoose.abs_long.x Lib.MathLoose.abs_long.code 2 (some .long), Cond.constantLong RX1 47 (1000)]
def wsX8_heap_r3 : List Cond := [Cond.fieldLink RX1 18 "WornRings$Lines" "thousandths" "I", Cond.methodLink RX0 58 yX1_explainedBy, Cond.instanceMethod yX1_explainedBy, Cond.selects RX1 yX1_explainedBy yX1_explainedBy, Cond.code yX1_explainedBy cX1_explainedBy 4 (some .int), Cond.methodLink RX0 33 yX0_countFewest, Cond.instanceMethod yX0_countFewest, Cond.selects RX0 yX0_countFewest yX0_countFewest, Cond.code yX0_countFewest cX0_countFewest 2 none, Cond.fieldLink RX0 18 "WornRings$Heap" "fewest" "[B", Cond.methodLink RX0 62 yX0_fewestFor, Cond.instanceMethod yX0_fewestFor, Cond.selects RX0 yX0_fewestFor yX0_fewestFor, Cond.code yX0_fewestFor cX0_fewestFor 5 (some .int), Cond.methodLink RX0 66 Lib.Math.min.name, Cond.static Lib.Math.min.name, Cond.code Lib.Math.min.name Lib.Math.min.code 2 (some .int), Cond.methodLink RX0 36 yX0_choose, Cond.instanceMethod yX0_choose, Cond.selects RX0 yX0_choose yX0_choose, Cond.code yX0_choose cX0_choose 4 none, Cond.fieldLink RX0 72 "WornRings$Heap" "size" "I", Cond.fieldLink RX0 22 "WornRings$Heap" "chosen" "[I", Cond.methodLink RX8 83 yX8_within]
def wsX8_heap_r4 : List Cond := [Cond.static yX8_within, Cond.initialized RX8, Cond.code yX8_within cX8_within 3 (some .boolean)]
def wsX8_heap : List Cond := .code yX8_heap cX8_heap 2 (some .int) :: ((wsX8_heap_r1 ++ (wsX8_heap_r2 ++ (wsX8_heap_r3 ++ wsX8_heap_r4))) ++ wsX80 ++ wsX00 ++ wsX30 ++ wsX60 ++ wsX10)
def wsX8_strange_r1 : List Cond := [Cond.fieldLink RX8 46 "WornRings" "fewestParts" "LWornRings$Heap;", Cond.fieldLink RX8 12 "WornRings" "machine" "LWornRings$Machine;", Cond.fieldLink RX8 39 "WornRings" "lines" "LWornRings$Lines;", Cond.methodLink RX8 196 yX0_layDown, Cond.instanceMethod yX0_layDown, Cond.selects RX0 yX0_layDown yX0_layDown, Cond.initialized RX0, Cond.code yX0_layDown cX0_layDown 3 none, Cond.fieldLink RX0 25 "WornRings$Heap" "laid" "Z", Cond.methodLink RX0 29 yX0_gather, Cond.instanceMethod yX0_gather, Cond.selects RX0 yX0_gather yX0_gather, Cond.code yX0_gather cX0_gather 5 none, Cond.fieldLink RX0 39 "WornRings$Heap" "candidates" "I", Cond.fieldLink RX0 43 "WornRings$Heap" "together" "I", Cond.fieldLink RX0 9 "WornRings$Heap" "numbers" "[I", Cond.fieldLink RX0 15 "WornRings$Heap" "explained" "[I", Cond.methodLink RX0 46 yX3_find, Cond.instanceMethod yX3_find, Cond.selects RX3 yX3_find yX3_find, Cond.initialized RX3, Cond.code yX3_find cX3_find 3 (some (.object "WornRings$Part")), Cond.fieldLink RX3 34 "WornRings$Machine" "shafts" "I", Cond.fieldLink RX3 20 "WornRings$Machine" "own" "[LWornRings$Part;"]
def wsX8_strange_r2 : List Cond := [Cond.fieldLink RX3 24 "WornRings$Machine" "gears" "[LWornRings$Part;", Cond.fieldLink RX3 27 "WornRings$Machine" "onRings" "[LWornRings$Part;", Cond.methodLink RX3 73 yX3_countParts, Cond.instanceMethod yX3_countParts, Cond.selects RX3 yX3_countParts yX3_countParts, Cond.code yX3_countParts cX3_countParts 1 (some .int), Cond.fieldLink RX3 54 "WornRings$Machine" "rings" "I", Cond.methodLink RX0 52 yX1_allTonesSeen, Cond.instanceMethod yX1_allTonesSeen, Cond.selects RX1 yX1_allTonesSeen yX1_allTonesSeen, Cond.initialized RX1, Cond.code yX1_allTonesSeen cX1_allTonesSeen 3 (some .boolean), Cond.methodLink RX1 37 yX1_near, Cond.instanceMethod yX1_near, Cond.selects RX1 yX1_near yX1_near, Cond.code yX1_near cX1_near 11 (some .int), Cond.fieldLink RX1 26 "WornRings$Lines" "count" "I", Cond.fieldLink RX1 15 "WornRings$Lines" "below" "[I", Cond.fieldLink RX1 9 "WornRings$Lines" "above" "[I", Cond.methodLink RX1 41 Lib.MathLoose.abs_long.x, Cond.static Lib.MathLoose.abs_long.x, Cond.initialized "java/lang/Math", Cond.code Lib.MathLoose.abs_long.x Lib.MathLoose.abs_long.code 2 (some .long), Cond.constantLong RX1 47 (1000)]
def wsX8_strange_r3 : List Cond := [Cond.fieldLink RX1 18 "WornRings$Lines" "thousandths" "I", Cond.methodLink RX0 58 yX1_explainedBy, Cond.instanceMethod yX1_explainedBy, Cond.selects RX1 yX1_explainedBy yX1_explainedBy, Cond.code yX1_explainedBy cX1_explainedBy 4 (some .int), Cond.methodLink RX0 33 yX0_countFewest, Cond.instanceMethod yX0_countFewest, Cond.selects RX0 yX0_countFewest yX0_countFewest, Cond.code yX0_countFewest cX0_countFewest 2 none, Cond.fieldLink RX0 18 "WornRings$Heap" "fewest" "[B", Cond.methodLink RX0 62 yX0_fewestFor, Cond.instanceMethod yX0_fewestFor, Cond.selects RX0 yX0_fewestFor yX0_fewestFor, Cond.code yX0_fewestFor cX0_fewestFor 5 (some .int), Cond.methodLink RX0 66 Lib.Math.min.name, Cond.static Lib.Math.min.name, Cond.code Lib.Math.min.name Lib.Math.min.code 2 (some .int), Cond.methodLink RX0 36 yX0_choose, Cond.instanceMethod yX0_choose, Cond.selects RX0 yX0_choose yX0_choose, Cond.code yX0_choose cX0_choose 4 none, Cond.fieldLink RX0 72 "WornRings$Heap" "size" "I", Cond.fieldLink RX0 22 "WornRings$Heap" "chosen" "[I", Cond.methodLink RX8 206 yX1_allBits]
def wsX8_strange_r4 : List Cond := [Cond.instanceMethod yX1_allBits, Cond.selects RX1 yX1_allBits yX1_allBits, Cond.code yX1_allBits cX1_allBits 1 (some .int)]
def wsX8_strange : List Cond := .code yX8_strange cX8_strange 1 (some .int) :: ((wsX8_strange_r1 ++ (wsX8_strange_r2 ++ (wsX8_strange_r3 ++ wsX8_strange_r4))) ++ wsX80 ++ wsX00 ++ wsX30 ++ wsX60 ++ wsX10)
def wsX8_laws : List Cond := .code yX8_laws cX8_laws 4 (some .int) :: ([.fieldLink RX8 56 "WornRings" "warnAbove" "I", .fieldLink RX8 60 "WornRings" "calmBelow" "I", .fieldLink RX8 63 "WornRings" "latest" "I", .methodLink RX8 83 yX8_within, .static yX8_within, .initialized RX8, .code yX8_within cX8_within 3 (some .boolean)] ++ wsX80)
def wsX8_reading_r1 : List Cond := [Cond.constant RX8 212 (1000000), Cond.fieldLink RX8 52 "WornRings" "loads" "[LWornRings$Load;", Cond.fieldLink RX8 56 "WornRings" "warnAbove" "I", Cond.fieldLink RX8 60 "WornRings" "calmBelow" "I", Cond.fieldLink RX8 63 "WornRings" "latest" "I", Cond.methodLink RX8 83 yX8_within, Cond.static yX8_within, Cond.initialized RX8, Cond.code yX8_within cX8_within 3 (some .boolean), Cond.methodLink RX8 214 yX2_add, Cond.instanceMethod yX2_add, Cond.selects RX2 yX2_add yX2_add, Cond.initialized RX2, Cond.code yX2_add cX2_add 2 none, Cond.fieldLink RX2 15 "WornRings$Load" "count" "I", Cond.fieldLink RX2 9 "WornRings$Load" "readings" "[I", Cond.fieldLink RX2 23 "WornRings$Load" "middle" "I", Cond.methodLink RX2 19 yX2_middleOfFirst, Cond.instanceMethod yX2_middleOfFirst, Cond.selects RX2 yX2_middleOfFirst yX2_middleOfFirst, Cond.code yX2_middleOfFirst cX2_middleOfFirst 2 (some .int), Cond.methodLink RX2 36 yX2_countFirst, Cond.instanceMethod yX2_countFirst, Cond.selects RX2 yX2_countFirst yX2_countFirst]
def wsX8_reading_r2 : List Cond := [Cond.code yX2_countFirst cX2_countFirst 5 (some .int), Cond.methodLink RX8 217 yX2_judge, Cond.instanceMethod yX2_judge, Cond.selects RX2 yX2_judge yX2_judge, Cond.code yX2_judge cX2_judge 4 none, Cond.fieldLink RX2 26 "WornRings$Load" "warning" "Z", Cond.constantLong RX2 34 (100), Cond.methodLink RX2 30 yX2_latestAllAbove, Cond.instanceMethod yX2_latestAllAbove, Cond.selects RX2 yX2_latestAllAbove yX2_latestAllAbove, Cond.code yX2_latestAllAbove cX2_latestAllAbove 4 (some .boolean)]
def wsX8_reading : List Cond := .code yX8_reading cX8_reading 4 (some .int) :: ((wsX8_reading_r1 ++ wsX8_reading_r2) ++ wsX80 ++ wsX20)
def wsX8_baseline : List Cond := .code yX8_baseline cX8_baseline 2 (some .int) :: ([.fieldLink RX8 52 "WornRings" "loads" "[LWornRings$Load;", .methodLink RX8 83 yX8_within, .static yX8_within, .initialized RX8, .code yX8_within cX8_within 3 (some .boolean)] ++ wsX80 ++ wsX20)
def wsX8_warned : List Cond := .code yX8_warned cX8_warned 2 (some .int) :: ([.fieldLink RX8 52 "WornRings" "loads" "[LWornRings$Load;", .methodLink RX8 83 yX8_within, .static yX8_within, .initialized RX8, .code yX8_within cX8_within 3 (some .boolean)] ++ wsX80 ++ wsX20)
def wsX8_repair : List Cond := .code yX8_repair cX8_repair 3 (some .int) :: ([.fieldLink RX8 52 "WornRings" "loads" "[LWornRings$Load;", .methodLink RX8 226 yX2_clear, .instanceMethod yX2_clear, .selects RX2 yX2_clear yX2_clear, .initialized RX2, .code yX2_clear cX2_clear 1 none, .fieldLink RX2 15 "WornRings$Load" "count" "I", .fieldLink RX2 26 "WornRings$Load" "warning" "Z"] ++ wsX80 ++ wsX20)
def wsX9_in : List Cond := .code yX9_in cX9_in 6 (some .boolean) :: ([])
def wsX9_init_r1 : List Cond := [Cond.methodLink RX9 1 objectInit, Cond.instanceMethod objectInit, Cond.code objectInit ⟨#[0xb1]⟩ 1 none, Cond.fieldLink RX9 7 "WornRingsModel" "shafts" "I", Cond.arrayClass .long, Cond.fieldLink RX9 13 "WornRingsModel" "over" "[J", Cond.fieldLink RX9 17 "WornRingsModel" "under" "[J", Cond.arrayClass .int, Cond.fieldLink RX9 20 "WornRingsModel" "teeth" "[I", Cond.fieldLink RX9 24 "WornRingsModel" "sits" "[I", Cond.fieldLink RX9 27 "WornRingsModel" "balls" "[I", Cond.fieldLink RX9 30 "WornRingsModel" "small" "[I", Cond.fieldLink RX9 33 "WornRingsModel" "great" "[I", Cond.fieldLink RX9 36 "WornRingsModel" "times" "[I", Cond.fieldLink RX9 39 "WornRingsModel" "turns" "[I", Cond.fieldLink RX9 42 "WornRingsModel" "lanes" "[I", Cond.fieldLink RX9 45 "WornRingsModel" "sizes" "[I", Cond.fieldLink RX9 48 "WornRingsModel" "steps" "[I", Cond.fieldLink RX9 51 "WornRingsModel" "items" "[I", Cond.fieldLink RX9 54 "WornRingsModel" "mean" "[I", Cond.fieldLink RX9 57 "WornRingsModel" "sums" "[J", Cond.fieldLink RX9 60 "WornRingsModel" "tops" "[I", Cond.fieldLink RX9 63 "WornRingsModel" "bottoms" "[I", Cond.fieldLink RX9 66 "WornRingsModel" "slip" "I"]
def wsX9_init_r2 : List Cond := [Cond.fieldLink RX9 69 "WornRingsModel" "covers" "[I", Cond.constant RX9 72 (163840), Cond.fieldLink RX9 73 "WornRingsModel" "fewest" "[I", Cond.fieldLink RX9 76 "WornRingsModel" "numbers" "[I", Cond.fieldLink RX9 79 "WornRingsModel" "many" "[I", Cond.fieldLink RX9 82 "WornRingsModel" "readings" "[I", Cond.arrayClass .boolean, Cond.fieldLink RX9 85 "WornRingsModel" "warned" "[Z"]
def wsX9_init : List Cond := .code yX9_init cX9_init 2 none :: ((wsX9_init_r1 ++ wsX9_init_r2) ++ wsX90)
def wsX9_reduce : List Cond := .code yX9_reduce cX9_reduce 11 none :: ([.fieldLink RX9 89 "WornRingsModel" "above" "J", .fieldLink RX9 93 "WornRingsModel" "below" "J"] ++ wsX90)
def wsX9_shaft : List Cond := .code yX9_shaft cX9_shaft 4 (some .int) :: ([.fieldLink RX9 7 "WornRingsModel" "shafts" "I", .constantLong RX9 100 (5), .constantLong RX9 102 (200), .fieldLink RX9 13 "WornRingsModel" "over" "[J", .fieldLink RX9 17 "WornRingsModel" "under" "[J", .fieldLink RX9 89 "WornRingsModel" "above" "J", .fieldLink RX9 93 "WornRingsModel" "below" "J", .fieldLink RX9 20 "WornRingsModel" "teeth" "[I", .methodLink RX9 96 yX9_in, .static yX9_in, .initialized RX9, .code yX9_in cX9_in 6 (some .boolean), .methodLink RX9 104 yX9_reduce, .instanceMethod yX9_reduce, .selects RX9 yX9_reduce yX9_reduce, .code yX9_reduce cX9_reduce 11 none] ++ wsX90)
def wsX9_ring : List Cond := .code yX9_ring cX9_ring 5 (some .int) :: ([.fieldLink RX9 7 "WornRingsModel" "shafts" "I", .constantLong RX9 108 (3), .constantLong RX9 110 (30), .constantLong RX9 112 (100), .fieldLink RX9 114 "WornRingsModel" "rings" "I", .fieldLink RX9 24 "WornRingsModel" "sits" "[I", .fieldLink RX9 27 "WornRingsModel" "balls" "[I", .fieldLink RX9 30 "WornRingsModel" "small" "[I", .fieldLink RX9 33 "WornRingsModel" "great" "[I", .methodLink RX9 96 yX9_in, .static yX9_in, .initialized RX9, .code yX9_in cX9_in 6 (some .boolean)] ++ wsX90)
def wsX9_speed : List Cond := .code yX9_speed cX9_speed 3 (some .long) :: ([.fieldLink RX9 7 "WornRingsModel" "shafts" "I", .constantLong RX9 117 (-1), .fieldLink RX9 13 "WornRingsModel" "over" "[J", .fieldLink RX9 17 "WornRingsModel" "under" "[J", .methodLink RX9 96 yX9_in, .static yX9_in, .initialized RX9, .code yX9_in cX9_in 6 (some .boolean)] ++ wsX90)
def wsX9_parts : List Cond := .code yX9_parts cX9_parts 1 (some .int) :: ([.fieldLink RX9 7 "WornRingsModel" "shafts" "I", .fieldLink RX9 114 "WornRingsModel" "rings" "I"] ++ wsX90)
def wsX9_isPart : List Cond := .code yX9_isPart cX9_isPart 2 (some .boolean) :: ([.methodLink RX9 119 yX9_parts, .instanceMethod yX9_parts, .selects RX9 yX9_parts yX9_parts, .initialized RX9, .code yX9_parts cX9_parts 1 (some .int), .fieldLink RX9 7 "WornRingsModel" "shafts" "I", .fieldLink RX9 114 "WornRingsModel" "rings" "I", .methodLink RX9 96 yX9_in, .static yX9_in, .code yX9_in cX9_in 6 (some .boolean)] ++ wsX90)
def wsX9_kindOf : List Cond := .code yX9_kindOf cX9_kindOf 2 (some .int) :: ([.fieldLink RX9 7 "WornRingsModel" "shafts" "I"] ++ wsX90)
def wsX9_ringOf : List Cond := .code yX9_ringOf cX9_ringOf 2 (some .int) :: ([.fieldLink RX9 7 "WornRingsModel" "shafts" "I"] ++ wsX90)
def wsX9_shaftOf : List Cond := .code yX9_shaftOf cX9_shaftOf 2 (some .int) :: ([.fieldLink RX9 7 "WornRingsModel" "shafts" "I", .fieldLink RX9 24 "WornRingsModel" "sits" "[I", .methodLink RX9 123 yX9_ringOf, .instanceMethod yX9_ringOf, .selects RX9 yX9_ringOf yX9_ringOf, .initialized RX9, .code yX9_ringOf cX9_ringOf 2 (some .int)] ++ wsX90)
def wsX9_tonesOf : List Cond := .code yX9_tonesOf cX9_tonesOf 3 (some .int) :: ([.methodLink RX9 127 yX9_kindOf, .instanceMethod yX9_kindOf, .selects RX9 yX9_kindOf yX9_kindOf, .initialized RX9, .code yX9_kindOf cX9_kindOf 2 (some .int), .fieldLink RX9 7 "WornRingsModel" "shafts" "I"] ++ wsX90)
def wsX9_part_r1 : List Cond := [Cond.methodLink RX9 130 yX9_isPart, Cond.instanceMethod yX9_isPart, Cond.selects RX9 yX9_isPart yX9_isPart, Cond.initialized RX9, Cond.code yX9_isPart cX9_isPart 2 (some .boolean), Cond.methodLink RX9 119 yX9_parts, Cond.instanceMethod yX9_parts, Cond.selects RX9 yX9_parts yX9_parts, Cond.code yX9_parts cX9_parts 1 (some .int), Cond.fieldLink RX9 7 "WornRingsModel" "shafts" "I", Cond.fieldLink RX9 114 "WornRingsModel" "rings" "I", Cond.methodLink RX9 96 yX9_in, Cond.static yX9_in, Cond.code yX9_in cX9_in 6 (some .boolean), Cond.methodLink RX9 127 yX9_kindOf, Cond.instanceMethod yX9_kindOf, Cond.selects RX9 yX9_kindOf yX9_kindOf, Cond.code yX9_kindOf cX9_kindOf 2 (some .int), Cond.methodLink RX9 134 yX9_shaftOf, Cond.instanceMethod yX9_shaftOf, Cond.selects RX9 yX9_shaftOf yX9_shaftOf, Cond.code yX9_shaftOf cX9_shaftOf 2 (some .int), Cond.fieldLink RX9 24 "WornRingsModel" "sits" "[I", Cond.methodLink RX9 123 yX9_ringOf]
def wsX9_part_r2 : List Cond := [Cond.instanceMethod yX9_ringOf, Cond.selects RX9 yX9_ringOf yX9_ringOf, Cond.code yX9_ringOf cX9_ringOf 2 (some .int), Cond.methodLink RX9 137 yX9_tonesOf, Cond.instanceMethod yX9_tonesOf, Cond.selects RX9 yX9_tonesOf yX9_tonesOf, Cond.code yX9_tonesOf cX9_tonesOf 3 (some .int)]
def wsX9_part : List Cond := .code yX9_part cX9_part 3 (some .int) :: ((wsX9_part_r1 ++ wsX9_part_r2) ++ wsX90)
def wsX9_findTone_r1 : List Cond := [Cond.fieldLink RX9 20 "WornRingsModel" "teeth" "[I", Cond.fieldLink RX9 30 "WornRingsModel" "small" "[I", Cond.fieldLink RX9 33 "WornRingsModel" "great" "[I", Cond.constantLong RX9 140 (2), Cond.fieldLink RX9 27 "WornRingsModel" "balls" "[I", Cond.fieldLink RX9 13 "WornRingsModel" "over" "[J", Cond.fieldLink RX9 17 "WornRingsModel" "under" "[J", Cond.methodLink RX9 127 yX9_kindOf, Cond.instanceMethod yX9_kindOf, Cond.selects RX9 yX9_kindOf yX9_kindOf, Cond.initialized RX9, Cond.code yX9_kindOf cX9_kindOf 2 (some .int), Cond.fieldLink RX9 7 "WornRingsModel" "shafts" "I", Cond.methodLink RX9 134 yX9_shaftOf, Cond.instanceMethod yX9_shaftOf, Cond.selects RX9 yX9_shaftOf yX9_shaftOf, Cond.code yX9_shaftOf cX9_shaftOf 2 (some .int), Cond.fieldLink RX9 24 "WornRingsModel" "sits" "[I", Cond.methodLink RX9 123 yX9_ringOf, Cond.instanceMethod yX9_ringOf, Cond.selects RX9 yX9_ringOf yX9_ringOf, Cond.code yX9_ringOf cX9_ringOf 2 (some .int), Cond.methodLink RX9 104 yX9_reduce, Cond.instanceMethod yX9_reduce]
def wsX9_findTone_r2 : List Cond := [Cond.selects RX9 yX9_reduce yX9_reduce, Cond.code yX9_reduce cX9_reduce 11 none, Cond.fieldLink RX9 89 "WornRingsModel" "above" "J", Cond.fieldLink RX9 93 "WornRingsModel" "below" "J"]
def wsX9_findTone : List Cond := .code yX9_findTone cX9_findTone 14 none :: ((wsX9_findTone_r1 ++ wsX9_findTone_r2) ++ wsX90)
def wsX9_tone_r1 : List Cond := [Cond.constantLong RX9 117 (-1), Cond.fieldLink RX9 89 "WornRingsModel" "above" "J", Cond.fieldLink RX9 93 "WornRingsModel" "below" "J", Cond.methodLink RX9 130 yX9_isPart, Cond.instanceMethod yX9_isPart, Cond.selects RX9 yX9_isPart yX9_isPart, Cond.initialized RX9, Cond.code yX9_isPart cX9_isPart 2 (some .boolean), Cond.methodLink RX9 119 yX9_parts, Cond.instanceMethod yX9_parts, Cond.selects RX9 yX9_parts yX9_parts, Cond.code yX9_parts cX9_parts 1 (some .int), Cond.fieldLink RX9 7 "WornRingsModel" "shafts" "I", Cond.fieldLink RX9 114 "WornRingsModel" "rings" "I", Cond.methodLink RX9 96 yX9_in, Cond.static yX9_in, Cond.code yX9_in cX9_in 6 (some .boolean), Cond.methodLink RX9 137 yX9_tonesOf, Cond.instanceMethod yX9_tonesOf, Cond.selects RX9 yX9_tonesOf yX9_tonesOf, Cond.code yX9_tonesOf cX9_tonesOf 3 (some .int), Cond.methodLink RX9 127 yX9_kindOf, Cond.instanceMethod yX9_kindOf, Cond.selects RX9 yX9_kindOf yX9_kindOf]
def wsX9_tone_r2 : List Cond := [Cond.code yX9_kindOf cX9_kindOf 2 (some .int), Cond.methodLink RX9 142 yX9_findTone, Cond.instanceMethod yX9_findTone, Cond.selects RX9 yX9_findTone yX9_findTone, Cond.code yX9_findTone cX9_findTone 14 none, Cond.fieldLink RX9 20 "WornRingsModel" "teeth" "[I", Cond.fieldLink RX9 30 "WornRingsModel" "small" "[I", Cond.fieldLink RX9 33 "WornRingsModel" "great" "[I", Cond.constantLong RX9 140 (2), Cond.fieldLink RX9 27 "WornRingsModel" "balls" "[I", Cond.fieldLink RX9 13 "WornRingsModel" "over" "[J", Cond.fieldLink RX9 17 "WornRingsModel" "under" "[J", Cond.methodLink RX9 134 yX9_shaftOf, Cond.instanceMethod yX9_shaftOf, Cond.selects RX9 yX9_shaftOf yX9_shaftOf, Cond.code yX9_shaftOf cX9_shaftOf 2 (some .int), Cond.fieldLink RX9 24 "WornRingsModel" "sits" "[I", Cond.methodLink RX9 123 yX9_ringOf, Cond.instanceMethod yX9_ringOf, Cond.selects RX9 yX9_ringOf yX9_ringOf, Cond.code yX9_ringOf cX9_ringOf 2 (some .int), Cond.methodLink RX9 104 yX9_reduce, Cond.instanceMethod yX9_reduce, Cond.selects RX9 yX9_reduce yX9_reduce]
def wsX9_tone_r3 : List Cond := [Cond.code yX9_reduce cX9_reduce 11 none]
def wsX9_tone : List Cond := .code yX9_tone cX9_tone 4 (some .long) :: ((wsX9_tone_r1 ++ (wsX9_tone_r2 ++ wsX9_tone_r3)) ++ wsX90)
def wsX9_mark : List Cond := .code yX9_mark cX9_mark 2 (some .int) :: ([.constantLong RX9 146 (1000000), .fieldLink RX9 148 "WornRingsModel" "marks" "I", .fieldLink RX9 36 "WornRingsModel" "times" "[I", .methodLink RX9 96 yX9_in, .static yX9_in, .initialized RX9, .code yX9_in cX9_in 6 (some .boolean)] ++ wsX90)
def wsX9_unmark : List Cond := .code yX9_unmark cX9_unmark 2 (some .int) :: ([.fieldLink RX9 148 "WornRingsModel" "marks" "I"] ++ wsX90)
def wsX9_addTurn : List Cond := .code yX9_addTurn cX9_addTurn 2 none :: ([.fieldLink RX9 151 "WornRingsModel" "mended" "I", .fieldLink RX9 39 "WornRingsModel" "turns" "[I"] ++ wsX90)
def wsX9_mend : List Cond := .code yX9_mend cX9_mend 11 none :: ([.fieldLink RX9 151 "WornRingsModel" "mended" "I", .fieldLink RX9 148 "WornRingsModel" "marks" "I", .fieldLink RX9 39 "WornRingsModel" "turns" "[I", .fieldLink RX9 36 "WornRingsModel" "times" "[I", .constantLong RX9 140 (2), .constantLong RX9 108 (3), .methodLink RX9 154 yX9_addTurn, .instanceMethod yX9_addTurn, .selects RX9 yX9_addTurn yX9_addTurn, .initialized RX9, .code yX9_addTurn cX9_addTurn 2 none] ++ wsX90)
def wsX9_turns : List Cond := .code yX9_turns cX9_turns 1 (some .int) :: ([.fieldLink RX9 151 "WornRingsModel" "mended" "I", .methodLink RX9 158 yX9_mend, .instanceMethod yX9_mend, .selects RX9 yX9_mend yX9_mend, .initialized RX9, .code yX9_mend cX9_mend 11 none, .fieldLink RX9 148 "WornRingsModel" "marks" "I", .fieldLink RX9 39 "WornRingsModel" "turns" "[I", .fieldLink RX9 36 "WornRingsModel" "times" "[I", .constantLong RX9 140 (2), .constantLong RX9 108 (3), .methodLink RX9 154 yX9_addTurn, .instanceMethod yX9_addTurn, .selects RX9 yX9_addTurn yX9_addTurn, .code yX9_addTurn cX9_addTurn 2 none] ++ wsX90)
def wsX9_turn : List Cond := .code yX9_turn cX9_turn 2 (some .int) :: ([.fieldLink RX9 151 "WornRingsModel" "mended" "I", .fieldLink RX9 39 "WornRingsModel" "turns" "[I", .methodLink RX9 158 yX9_mend, .instanceMethod yX9_mend, .selects RX9 yX9_mend yX9_mend, .initialized RX9, .code yX9_mend cX9_mend 11 none, .fieldLink RX9 148 "WornRingsModel" "marks" "I", .fieldLink RX9 36 "WornRingsModel" "times" "[I", .constantLong RX9 140 (2), .constantLong RX9 108 (3), .methodLink RX9 154 yX9_addTurn, .instanceMethod yX9_addTurn, .selects RX9 yX9_addTurn yX9_addTurn, .code yX9_addTurn cX9_addTurn 2 none, .methodLink RX9 96 yX9_in, .static yX9_in, .code yX9_in cX9_in 6 (some .boolean)] ++ wsX90)
def wsX9_isSheet : List Cond := .code yX9_isSheet cX9_isSheet 2 (some .boolean) :: ([.constantLong RX9 108 (3), .constantLong RX9 140 (2), .methodLink RX9 96 yX9_in, .static yX9_in, .initialized RX9, .code yX9_in cX9_in 6 (some .boolean)])
def wsX9_sheet : List Cond := .code yX9_sheet cX9_sheet 6 (some .int) :: ([.constantLong RX9 165 (1000), .fieldLink RX9 42 "WornRingsModel" "lanes" "[I", .fieldLink RX9 45 "WornRingsModel" "sizes" "[I", .fieldLink RX9 48 "WornRingsModel" "steps" "[I", .fieldLink RX9 51 "WornRingsModel" "items" "[I", .methodLink RX9 161 yX9_isSheet, .static yX9_isSheet, .initialized RX9, .code yX9_isSheet cX9_isSheet 2 (some .boolean), .constantLong RX9 108 (3), .constantLong RX9 140 (2), .methodLink RX9 96 yX9_in, .static yX9_in, .code yX9_in cX9_in 6 (some .boolean)] ++ wsX90)
def wsX9_drop : List Cond := .code yX9_drop cX9_drop 2 (some .int) :: ([.constantLong RX9 108 (3), .fieldLink RX9 42 "WornRingsModel" "lanes" "[I", .fieldLink RX9 45 "WornRingsModel" "sizes" "[I", .methodLink RX9 96 yX9_in, .static yX9_in, .initialized RX9, .code yX9_in cX9_in 6 (some .boolean)] ++ wsX90)
def wsX9_item : List Cond := .code yX9_item cX9_item 5 (some .int) :: ([.constantLong RX9 167 (-30000), .constantLong RX9 169 (30000), .fieldLink RX9 42 "WornRingsModel" "lanes" "[I", .fieldLink RX9 45 "WornRingsModel" "sizes" "[I", .fieldLink RX9 51 "WornRingsModel" "items" "[I", .methodLink RX9 161 yX9_isSheet, .static yX9_isSheet, .initialized RX9, .code yX9_isSheet cX9_isSheet 2 (some .boolean), .constantLong RX9 108 (3), .constantLong RX9 140 (2), .methodLink RX9 96 yX9_in, .static yX9_in, .code yX9_in cX9_in 6 (some .boolean)] ++ wsX90)
def wsX9_down : List Cond := .code yX9_down cX9_down 6 (some .long) :: ([])
def wsX9_heard : List Cond := .code yX9_heard cX9_heard 7 (some .long) :: ([.fieldLink RX9 48 "WornRingsModel" "steps" "[I", .fieldLink RX9 51 "WornRingsModel" "items" "[I", .methodLink RX9 171 yX9_down, .static yX9_down, .initialized RX9, .code yX9_down cX9_down 6 (some .long)] ++ wsX90)
def wsX9_cut_r1 : List Cond := [Cond.constantLong RX9 108 (3), Cond.constantLong RX9 175 (40), Cond.fieldLink RX9 42 "WornRingsModel" "lanes" "[I", Cond.fieldLink RX9 151 "WornRingsModel" "mended" "I", Cond.fieldLink RX9 57 "WornRingsModel" "sums" "[J", Cond.fieldLink RX9 39 "WornRingsModel" "turns" "[I", Cond.constantLong RX9 177 (32), Cond.fieldLink RX9 45 "WornRingsModel" "sizes" "[I", Cond.fieldLink RX9 48 "WornRingsModel" "steps" "[I", Cond.fieldLink RX9 54 "WornRingsModel" "mean" "[I", Cond.fieldLink RX9 183 "WornRingsModel" "hasCut" "Z", Cond.methodLink RX9 96 yX9_in, Cond.static yX9_in, Cond.initialized RX9, Cond.code yX9_in cX9_in 6 (some .boolean), Cond.methodLink RX9 158 yX9_mend, Cond.instanceMethod yX9_mend, Cond.selects RX9 yX9_mend yX9_mend, Cond.code yX9_mend cX9_mend 11 none, Cond.fieldLink RX9 148 "WornRingsModel" "marks" "I", Cond.fieldLink RX9 36 "WornRingsModel" "times" "[I", Cond.constantLong RX9 140 (2), Cond.methodLink RX9 154 yX9_addTurn, Cond.instanceMethod yX9_addTurn]
def wsX9_cut_r2 : List Cond := [Cond.selects RX9 yX9_addTurn yX9_addTurn, Cond.code yX9_addTurn cX9_addTurn 2 none, Cond.methodLink RX9 179 yX9_heard, Cond.instanceMethod yX9_heard, Cond.selects RX9 yX9_heard yX9_heard, Cond.code yX9_heard cX9_heard 7 (some .long), Cond.fieldLink RX9 51 "WornRingsModel" "items" "[I", Cond.methodLink RX9 171 yX9_down, Cond.static yX9_down, Cond.code yX9_down cX9_down 6 (some .long)]
def wsX9_cut : List Cond := .code yX9_cut cX9_cut 10 (some .int) :: ((wsX9_cut_r1 ++ wsX9_cut_r2) ++ wsX90)
def wsX9_mean : List Cond := .code yX9_mean cX9_mean 2 (some .int) :: ([.constantLong RX9 187 (31), .constant RX9 189 (-1000001), .fieldLink RX9 183 "WornRingsModel" "hasCut" "Z", .fieldLink RX9 54 "WornRingsModel" "mean" "[I", .constant RX9 190 (-1000002), .methodLink RX9 96 yX9_in, .static yX9_in, .initialized RX9, .code yX9_in cX9_in 6 (some .boolean)] ++ wsX90)
def wsX9_wave : List Cond := .code yX9_wave cX9_wave 4 (some .int) :: ([])
def wsX9_strength : List Cond := .code yX9_strength cX9_strength 7 (some .long) :: ([.constantLong RX9 191 (16), .constantLong RX9 117 (-1), .fieldLink RX9 183 "WornRingsModel" "hasCut" "Z", .constantLong RX9 193 (-2), .fieldLink RX9 54 "WornRingsModel" "mean" "[I", .constantLong RX9 146 (1000000), .methodLink RX9 96 yX9_in, .static yX9_in, .initialized RX9, .code yX9_in cX9_in 6 (some .boolean), .methodLink RX9 195 yX9_wave, .static yX9_wave, .code yX9_wave cX9_wave 4 (some .int)] ++ wsX90)
def wsX9_line : List Cond := .code yX9_line cX9_line 3 (some .int) :: ([.constantLong RX9 198 (10000), .fieldLink RX9 200 "WornRingsModel" "lines" "I", .fieldLink RX9 60 "WornRingsModel" "tops" "[I", .fieldLink RX9 63 "WornRingsModel" "bottoms" "[I", .methodLink RX9 96 yX9_in, .static yX9_in, .initialized RX9, .code yX9_in cX9_in 6 (some .boolean)] ++ wsX90)
def wsX9_unline : List Cond := .code yX9_unline cX9_unline 2 (some .int) :: ([.fieldLink RX9 200 "WornRingsModel" "lines" "I"] ++ wsX90)
def wsX9_slip : List Cond := .code yX9_slip cX9_slip 3 (some .int) :: ([.constantLong RX9 112 (100), .fieldLink RX9 66 "WornRingsModel" "slip" "I", .methodLink RX9 96 yX9_in, .static yX9_in, .initialized RX9, .code yX9_in cX9_in 6 (some .boolean)] ++ wsX90)
def wsX9_nearOf_r1 : List Cond := [Cond.fieldLink RX9 200 "WornRingsModel" "lines" "I", Cond.fieldLink RX9 60 "WornRingsModel" "tops" "[I", Cond.fieldLink RX9 93 "WornRingsModel" "below" "J", Cond.fieldLink RX9 89 "WornRingsModel" "above" "J", Cond.fieldLink RX9 63 "WornRingsModel" "bottoms" "[I", Cond.constantLong RX9 165 (1000), Cond.fieldLink RX9 66 "WornRingsModel" "slip" "I", Cond.methodLink RX9 142 yX9_findTone, Cond.instanceMethod yX9_findTone, Cond.selects RX9 yX9_findTone yX9_findTone, Cond.initialized RX9, Cond.code yX9_findTone cX9_findTone 14 none, Cond.fieldLink RX9 20 "WornRingsModel" "teeth" "[I", Cond.fieldLink RX9 30 "WornRingsModel" "small" "[I", Cond.fieldLink RX9 33 "WornRingsModel" "great" "[I", Cond.constantLong RX9 140 (2), Cond.fieldLink RX9 27 "WornRingsModel" "balls" "[I", Cond.fieldLink RX9 13 "WornRingsModel" "over" "[J", Cond.fieldLink RX9 17 "WornRingsModel" "under" "[J", Cond.methodLink RX9 127 yX9_kindOf, Cond.instanceMethod yX9_kindOf, Cond.selects RX9 yX9_kindOf yX9_kindOf, Cond.code yX9_kindOf cX9_kindOf 2 (some .int), Cond.fieldLink RX9 7 "WornRingsModel" "shafts" "I"]
def wsX9_nearOf_r2 : List Cond := [Cond.methodLink RX9 134 yX9_shaftOf, Cond.instanceMethod yX9_shaftOf, Cond.selects RX9 yX9_shaftOf yX9_shaftOf, Cond.code yX9_shaftOf cX9_shaftOf 2 (some .int), Cond.fieldLink RX9 24 "WornRingsModel" "sits" "[I", Cond.methodLink RX9 123 yX9_ringOf, Cond.instanceMethod yX9_ringOf, Cond.selects RX9 yX9_ringOf yX9_ringOf, Cond.code yX9_ringOf cX9_ringOf 2 (some .int), Cond.methodLink RX9 104 yX9_reduce, Cond.instanceMethod yX9_reduce, Cond.selects RX9 yX9_reduce yX9_reduce, Cond.code yX9_reduce cX9_reduce 11 none]
def wsX9_nearOf : List Cond := .code yX9_nearOf cX9_nearOf 7 (some .int) :: ((wsX9_nearOf_r1 ++ wsX9_nearOf_r2) ++ wsX90)
def wsX9_explained_r1 : List Cond := [Cond.methodLink RX9 137 yX9_tonesOf, Cond.instanceMethod yX9_tonesOf, Cond.selects RX9 yX9_tonesOf yX9_tonesOf, Cond.initialized RX9, Cond.code yX9_tonesOf cX9_tonesOf 3 (some .int), Cond.methodLink RX9 127 yX9_kindOf, Cond.instanceMethod yX9_kindOf, Cond.selects RX9 yX9_kindOf yX9_kindOf, Cond.code yX9_kindOf cX9_kindOf 2 (some .int), Cond.fieldLink RX9 7 "WornRingsModel" "shafts" "I", Cond.methodLink RX9 203 yX9_nearOf, Cond.instanceMethod yX9_nearOf, Cond.selects RX9 yX9_nearOf yX9_nearOf, Cond.code yX9_nearOf cX9_nearOf 7 (some .int), Cond.fieldLink RX9 200 "WornRingsModel" "lines" "I", Cond.fieldLink RX9 60 "WornRingsModel" "tops" "[I", Cond.fieldLink RX9 93 "WornRingsModel" "below" "J", Cond.fieldLink RX9 89 "WornRingsModel" "above" "J", Cond.fieldLink RX9 63 "WornRingsModel" "bottoms" "[I", Cond.constantLong RX9 165 (1000), Cond.fieldLink RX9 66 "WornRingsModel" "slip" "I", Cond.methodLink RX9 142 yX9_findTone, Cond.instanceMethod yX9_findTone, Cond.selects RX9 yX9_findTone yX9_findTone]
def wsX9_explained_r2 : List Cond := [Cond.code yX9_findTone cX9_findTone 14 none, Cond.fieldLink RX9 20 "WornRingsModel" "teeth" "[I", Cond.fieldLink RX9 30 "WornRingsModel" "small" "[I", Cond.fieldLink RX9 33 "WornRingsModel" "great" "[I", Cond.constantLong RX9 140 (2), Cond.fieldLink RX9 27 "WornRingsModel" "balls" "[I", Cond.fieldLink RX9 13 "WornRingsModel" "over" "[J", Cond.fieldLink RX9 17 "WornRingsModel" "under" "[J", Cond.methodLink RX9 134 yX9_shaftOf, Cond.instanceMethod yX9_shaftOf, Cond.selects RX9 yX9_shaftOf yX9_shaftOf, Cond.code yX9_shaftOf cX9_shaftOf 2 (some .int), Cond.fieldLink RX9 24 "WornRingsModel" "sits" "[I", Cond.methodLink RX9 123 yX9_ringOf, Cond.instanceMethod yX9_ringOf, Cond.selects RX9 yX9_ringOf yX9_ringOf, Cond.code yX9_ringOf cX9_ringOf 2 (some .int), Cond.methodLink RX9 104 yX9_reduce, Cond.instanceMethod yX9_reduce, Cond.selects RX9 yX9_reduce yX9_reduce, Cond.code yX9_reduce cX9_reduce 11 none]
def wsX9_explained : List Cond := .code yX9_explained cX9_explained 4 (some .int) :: ((wsX9_explained_r1 ++ wsX9_explained_r2) ++ wsX90)
def wsX9_canBeNamed_r1 : List Cond := [Cond.methodLink RX9 137 yX9_tonesOf, Cond.instanceMethod yX9_tonesOf, Cond.selects RX9 yX9_tonesOf yX9_tonesOf, Cond.initialized RX9, Cond.code yX9_tonesOf cX9_tonesOf 3 (some .int), Cond.methodLink RX9 127 yX9_kindOf, Cond.instanceMethod yX9_kindOf, Cond.selects RX9 yX9_kindOf yX9_kindOf, Cond.code yX9_kindOf cX9_kindOf 2 (some .int), Cond.fieldLink RX9 7 "WornRingsModel" "shafts" "I", Cond.methodLink RX9 203 yX9_nearOf, Cond.instanceMethod yX9_nearOf, Cond.selects RX9 yX9_nearOf yX9_nearOf, Cond.code yX9_nearOf cX9_nearOf 7 (some .int), Cond.fieldLink RX9 200 "WornRingsModel" "lines" "I", Cond.fieldLink RX9 60 "WornRingsModel" "tops" "[I", Cond.fieldLink RX9 93 "WornRingsModel" "below" "J", Cond.fieldLink RX9 89 "WornRingsModel" "above" "J", Cond.fieldLink RX9 63 "WornRingsModel" "bottoms" "[I", Cond.constantLong RX9 165 (1000), Cond.fieldLink RX9 66 "WornRingsModel" "slip" "I", Cond.methodLink RX9 142 yX9_findTone, Cond.instanceMethod yX9_findTone, Cond.selects RX9 yX9_findTone yX9_findTone]
def wsX9_canBeNamed_r2 : List Cond := [Cond.code yX9_findTone cX9_findTone 14 none, Cond.fieldLink RX9 20 "WornRingsModel" "teeth" "[I", Cond.fieldLink RX9 30 "WornRingsModel" "small" "[I", Cond.fieldLink RX9 33 "WornRingsModel" "great" "[I", Cond.constantLong RX9 140 (2), Cond.fieldLink RX9 27 "WornRingsModel" "balls" "[I", Cond.fieldLink RX9 13 "WornRingsModel" "over" "[J", Cond.fieldLink RX9 17 "WornRingsModel" "under" "[J", Cond.methodLink RX9 134 yX9_shaftOf, Cond.instanceMethod yX9_shaftOf, Cond.selects RX9 yX9_shaftOf yX9_shaftOf, Cond.code yX9_shaftOf cX9_shaftOf 2 (some .int), Cond.fieldLink RX9 24 "WornRingsModel" "sits" "[I", Cond.methodLink RX9 123 yX9_ringOf, Cond.instanceMethod yX9_ringOf, Cond.selects RX9 yX9_ringOf yX9_ringOf, Cond.code yX9_ringOf cX9_ringOf 2 (some .int), Cond.methodLink RX9 104 yX9_reduce, Cond.instanceMethod yX9_reduce, Cond.selects RX9 yX9_reduce yX9_reduce, Cond.code yX9_reduce cX9_reduce 11 none]
def wsX9_canBeNamed : List Cond := .code yX9_canBeNamed cX9_canBeNamed 4 (some .boolean) :: ((wsX9_canBeNamed_r1 ++ wsX9_canBeNamed_r2) ++ wsX90)
def wsX9_explains_r1 : List Cond := [Cond.methodLink RX9 130 yX9_isPart, Cond.instanceMethod yX9_isPart, Cond.selects RX9 yX9_isPart yX9_isPart, Cond.initialized RX9, Cond.code yX9_isPart cX9_isPart 2 (some .boolean), Cond.methodLink RX9 119 yX9_parts, Cond.instanceMethod yX9_parts, Cond.selects RX9 yX9_parts yX9_parts, Cond.code yX9_parts cX9_parts 1 (some .int), Cond.fieldLink RX9 7 "WornRingsModel" "shafts" "I", Cond.fieldLink RX9 114 "WornRingsModel" "rings" "I", Cond.methodLink RX9 96 yX9_in, Cond.static yX9_in, Cond.code yX9_in cX9_in 6 (some .boolean), Cond.methodLink RX9 207 yX9_explained, Cond.instanceMethod yX9_explained, Cond.selects RX9 yX9_explained yX9_explained, Cond.code yX9_explained cX9_explained 4 (some .int), Cond.methodLink RX9 137 yX9_tonesOf, Cond.instanceMethod yX9_tonesOf, Cond.selects RX9 yX9_tonesOf yX9_tonesOf, Cond.code yX9_tonesOf cX9_tonesOf 3 (some .int), Cond.methodLink RX9 127 yX9_kindOf, Cond.instanceMethod yX9_kindOf]
def wsX9_explains_r2 : List Cond := [Cond.selects RX9 yX9_kindOf yX9_kindOf, Cond.code yX9_kindOf cX9_kindOf 2 (some .int), Cond.methodLink RX9 203 yX9_nearOf, Cond.instanceMethod yX9_nearOf, Cond.selects RX9 yX9_nearOf yX9_nearOf, Cond.code yX9_nearOf cX9_nearOf 7 (some .int), Cond.fieldLink RX9 200 "WornRingsModel" "lines" "I", Cond.fieldLink RX9 60 "WornRingsModel" "tops" "[I", Cond.fieldLink RX9 93 "WornRingsModel" "below" "J", Cond.fieldLink RX9 89 "WornRingsModel" "above" "J", Cond.fieldLink RX9 63 "WornRingsModel" "bottoms" "[I", Cond.constantLong RX9 165 (1000), Cond.fieldLink RX9 66 "WornRingsModel" "slip" "I", Cond.methodLink RX9 142 yX9_findTone, Cond.instanceMethod yX9_findTone, Cond.selects RX9 yX9_findTone yX9_findTone, Cond.code yX9_findTone cX9_findTone 14 none, Cond.fieldLink RX9 20 "WornRingsModel" "teeth" "[I", Cond.fieldLink RX9 30 "WornRingsModel" "small" "[I", Cond.fieldLink RX9 33 "WornRingsModel" "great" "[I", Cond.constantLong RX9 140 (2), Cond.fieldLink RX9 27 "WornRingsModel" "balls" "[I", Cond.fieldLink RX9 13 "WornRingsModel" "over" "[J", Cond.fieldLink RX9 17 "WornRingsModel" "under" "[J"]
def wsX9_explains_r3 : List Cond := [Cond.methodLink RX9 134 yX9_shaftOf, Cond.instanceMethod yX9_shaftOf, Cond.selects RX9 yX9_shaftOf yX9_shaftOf, Cond.code yX9_shaftOf cX9_shaftOf 2 (some .int), Cond.fieldLink RX9 24 "WornRingsModel" "sits" "[I", Cond.methodLink RX9 123 yX9_ringOf, Cond.instanceMethod yX9_ringOf, Cond.selects RX9 yX9_ringOf yX9_ringOf, Cond.code yX9_ringOf cX9_ringOf 2 (some .int), Cond.methodLink RX9 104 yX9_reduce, Cond.instanceMethod yX9_reduce, Cond.selects RX9 yX9_reduce yX9_reduce, Cond.code yX9_reduce cX9_reduce 11 none]
def wsX9_explains : List Cond := .code yX9_explains cX9_explains 2 (some .int) :: ((wsX9_explains_r1 ++ (wsX9_explains_r2 ++ wsX9_explains_r3)) ++ wsX90)
def wsX9_named_r1 : List Cond := [Cond.methodLink RX9 130 yX9_isPart, Cond.instanceMethod yX9_isPart, Cond.selects RX9 yX9_isPart yX9_isPart, Cond.initialized RX9, Cond.code yX9_isPart cX9_isPart 2 (some .boolean), Cond.methodLink RX9 119 yX9_parts, Cond.instanceMethod yX9_parts, Cond.selects RX9 yX9_parts yX9_parts, Cond.code yX9_parts cX9_parts 1 (some .int), Cond.fieldLink RX9 7 "WornRingsModel" "shafts" "I", Cond.fieldLink RX9 114 "WornRingsModel" "rings" "I", Cond.methodLink RX9 96 yX9_in, Cond.static yX9_in, Cond.code yX9_in cX9_in 6 (some .boolean), Cond.methodLink RX9 210 yX9_canBeNamed, Cond.instanceMethod yX9_canBeNamed, Cond.selects RX9 yX9_canBeNamed yX9_canBeNamed, Cond.code yX9_canBeNamed cX9_canBeNamed 4 (some .boolean), Cond.methodLink RX9 137 yX9_tonesOf, Cond.instanceMethod yX9_tonesOf, Cond.selects RX9 yX9_tonesOf yX9_tonesOf, Cond.code yX9_tonesOf cX9_tonesOf 3 (some .int), Cond.methodLink RX9 127 yX9_kindOf, Cond.instanceMethod yX9_kindOf]
def wsX9_named_r2 : List Cond := [Cond.selects RX9 yX9_kindOf yX9_kindOf, Cond.code yX9_kindOf cX9_kindOf 2 (some .int), Cond.methodLink RX9 203 yX9_nearOf, Cond.instanceMethod yX9_nearOf, Cond.selects RX9 yX9_nearOf yX9_nearOf, Cond.code yX9_nearOf cX9_nearOf 7 (some .int), Cond.fieldLink RX9 200 "WornRingsModel" "lines" "I", Cond.fieldLink RX9 60 "WornRingsModel" "tops" "[I", Cond.fieldLink RX9 93 "WornRingsModel" "below" "J", Cond.fieldLink RX9 89 "WornRingsModel" "above" "J", Cond.fieldLink RX9 63 "WornRingsModel" "bottoms" "[I", Cond.constantLong RX9 165 (1000), Cond.fieldLink RX9 66 "WornRingsModel" "slip" "I", Cond.methodLink RX9 142 yX9_findTone, Cond.instanceMethod yX9_findTone, Cond.selects RX9 yX9_findTone yX9_findTone, Cond.code yX9_findTone cX9_findTone 14 none, Cond.fieldLink RX9 20 "WornRingsModel" "teeth" "[I", Cond.fieldLink RX9 30 "WornRingsModel" "small" "[I", Cond.fieldLink RX9 33 "WornRingsModel" "great" "[I", Cond.constantLong RX9 140 (2), Cond.fieldLink RX9 27 "WornRingsModel" "balls" "[I", Cond.fieldLink RX9 13 "WornRingsModel" "over" "[J", Cond.fieldLink RX9 17 "WornRingsModel" "under" "[J"]
def wsX9_named_r3 : List Cond := [Cond.methodLink RX9 134 yX9_shaftOf, Cond.instanceMethod yX9_shaftOf, Cond.selects RX9 yX9_shaftOf yX9_shaftOf, Cond.code yX9_shaftOf cX9_shaftOf 2 (some .int), Cond.fieldLink RX9 24 "WornRingsModel" "sits" "[I", Cond.methodLink RX9 123 yX9_ringOf, Cond.instanceMethod yX9_ringOf, Cond.selects RX9 yX9_ringOf yX9_ringOf, Cond.code yX9_ringOf cX9_ringOf 2 (some .int), Cond.methodLink RX9 104 yX9_reduce, Cond.instanceMethod yX9_reduce, Cond.selects RX9 yX9_reduce yX9_reduce, Cond.code yX9_reduce cX9_reduce 11 none]
def wsX9_named : List Cond := .code yX9_named cX9_named 2 (some .int) :: ((wsX9_named_r1 ++ (wsX9_named_r2 ++ wsX9_named_r3)) ++ wsX90)
def wsX9_findCovers_r1 : List Cond := [Cond.fieldLink RX9 69 "WornRingsModel" "covers" "[I", Cond.methodLink RX9 119 yX9_parts, Cond.instanceMethod yX9_parts, Cond.selects RX9 yX9_parts yX9_parts, Cond.initialized RX9, Cond.code yX9_parts cX9_parts 1 (some .int), Cond.fieldLink RX9 7 "WornRingsModel" "shafts" "I", Cond.fieldLink RX9 114 "WornRingsModel" "rings" "I", Cond.methodLink RX9 210 yX9_canBeNamed, Cond.instanceMethod yX9_canBeNamed, Cond.selects RX9 yX9_canBeNamed yX9_canBeNamed, Cond.code yX9_canBeNamed cX9_canBeNamed 4 (some .boolean), Cond.methodLink RX9 137 yX9_tonesOf, Cond.instanceMethod yX9_tonesOf, Cond.selects RX9 yX9_tonesOf yX9_tonesOf, Cond.code yX9_tonesOf cX9_tonesOf 3 (some .int), Cond.methodLink RX9 127 yX9_kindOf, Cond.instanceMethod yX9_kindOf, Cond.selects RX9 yX9_kindOf yX9_kindOf, Cond.code yX9_kindOf cX9_kindOf 2 (some .int), Cond.methodLink RX9 203 yX9_nearOf, Cond.instanceMethod yX9_nearOf, Cond.selects RX9 yX9_nearOf yX9_nearOf, Cond.code yX9_nearOf cX9_nearOf 7 (some .int)]
def wsX9_findCovers_r2 : List Cond := [Cond.fieldLink RX9 200 "WornRingsModel" "lines" "I", Cond.fieldLink RX9 60 "WornRingsModel" "tops" "[I", Cond.fieldLink RX9 93 "WornRingsModel" "below" "J", Cond.fieldLink RX9 89 "WornRingsModel" "above" "J", Cond.fieldLink RX9 63 "WornRingsModel" "bottoms" "[I", Cond.constantLong RX9 165 (1000), Cond.fieldLink RX9 66 "WornRingsModel" "slip" "I", Cond.methodLink RX9 142 yX9_findTone, Cond.instanceMethod yX9_findTone, Cond.selects RX9 yX9_findTone yX9_findTone, Cond.code yX9_findTone cX9_findTone 14 none, Cond.fieldLink RX9 20 "WornRingsModel" "teeth" "[I", Cond.fieldLink RX9 30 "WornRingsModel" "small" "[I", Cond.fieldLink RX9 33 "WornRingsModel" "great" "[I", Cond.constantLong RX9 140 (2), Cond.fieldLink RX9 27 "WornRingsModel" "balls" "[I", Cond.fieldLink RX9 13 "WornRingsModel" "over" "[J", Cond.fieldLink RX9 17 "WornRingsModel" "under" "[J", Cond.methodLink RX9 134 yX9_shaftOf, Cond.instanceMethod yX9_shaftOf, Cond.selects RX9 yX9_shaftOf yX9_shaftOf, Cond.code yX9_shaftOf cX9_shaftOf 2 (some .int), Cond.fieldLink RX9 24 "WornRingsModel" "sits" "[I", Cond.methodLink RX9 123 yX9_ringOf]
def wsX9_findCovers_r3 : List Cond := [Cond.instanceMethod yX9_ringOf, Cond.selects RX9 yX9_ringOf yX9_ringOf, Cond.code yX9_ringOf cX9_ringOf 2 (some .int), Cond.methodLink RX9 104 yX9_reduce, Cond.instanceMethod yX9_reduce, Cond.selects RX9 yX9_reduce yX9_reduce, Cond.code yX9_reduce cX9_reduce 11 none, Cond.methodLink RX9 207 yX9_explained, Cond.instanceMethod yX9_explained, Cond.selects RX9 yX9_explained yX9_explained, Cond.code yX9_explained cX9_explained 4 (some .int)]
def wsX9_findCovers : List Cond := .code yX9_findCovers cX9_findCovers 3 (some .int) :: ((wsX9_findCovers_r1 ++ (wsX9_findCovers_r2 ++ wsX9_findCovers_r3)) ++ wsX90)
def wsX9_findFewest : List Cond := .code yX9_findFewest cX9_findFewest 6 none :: ([.fieldLink RX9 73 "WornRingsModel" "fewest" "[I", .fieldLink RX9 69 "WornRingsModel" "covers" "[I", .methodLink RX9 119 yX9_parts, .instanceMethod yX9_parts, .selects RX9 yX9_parts yX9_parts, .initialized RX9, .code yX9_parts cX9_parts 1 (some .int), .fieldLink RX9 7 "WornRingsModel" "shafts" "I", .fieldLink RX9 114 "WornRingsModel" "rings" "I"] ++ wsX90)
def wsX9_heap_r1 : List Cond := [Cond.fieldLink RX9 73 "WornRingsModel" "fewest" "[I", Cond.constantLong RX9 117 (-1), Cond.fieldLink RX9 69 "WornRingsModel" "covers" "[I", Cond.methodLink RX9 213 yX9_findCovers, Cond.instanceMethod yX9_findCovers, Cond.selects RX9 yX9_findCovers yX9_findCovers, Cond.initialized RX9, Cond.code yX9_findCovers cX9_findCovers 3 (some .int), Cond.methodLink RX9 119 yX9_parts, Cond.instanceMethod yX9_parts, Cond.selects RX9 yX9_parts yX9_parts, Cond.code yX9_parts cX9_parts 1 (some .int), Cond.fieldLink RX9 7 "WornRingsModel" "shafts" "I", Cond.fieldLink RX9 114 "WornRingsModel" "rings" "I", Cond.methodLink RX9 210 yX9_canBeNamed, Cond.instanceMethod yX9_canBeNamed, Cond.selects RX9 yX9_canBeNamed yX9_canBeNamed, Cond.code yX9_canBeNamed cX9_canBeNamed 4 (some .boolean), Cond.methodLink RX9 137 yX9_tonesOf, Cond.instanceMethod yX9_tonesOf, Cond.selects RX9 yX9_tonesOf yX9_tonesOf, Cond.code yX9_tonesOf cX9_tonesOf 3 (some .int), Cond.methodLink RX9 127 yX9_kindOf, Cond.instanceMethod yX9_kindOf]
def wsX9_heap_r2 : List Cond := [Cond.selects RX9 yX9_kindOf yX9_kindOf, Cond.code yX9_kindOf cX9_kindOf 2 (some .int), Cond.methodLink RX9 203 yX9_nearOf, Cond.instanceMethod yX9_nearOf, Cond.selects RX9 yX9_nearOf yX9_nearOf, Cond.code yX9_nearOf cX9_nearOf 7 (some .int), Cond.fieldLink RX9 200 "WornRingsModel" "lines" "I", Cond.fieldLink RX9 60 "WornRingsModel" "tops" "[I", Cond.fieldLink RX9 93 "WornRingsModel" "below" "J", Cond.fieldLink RX9 89 "WornRingsModel" "above" "J", Cond.fieldLink RX9 63 "WornRingsModel" "bottoms" "[I", Cond.constantLong RX9 165 (1000), Cond.fieldLink RX9 66 "WornRingsModel" "slip" "I", Cond.methodLink RX9 142 yX9_findTone, Cond.instanceMethod yX9_findTone, Cond.selects RX9 yX9_findTone yX9_findTone, Cond.code yX9_findTone cX9_findTone 14 none, Cond.fieldLink RX9 20 "WornRingsModel" "teeth" "[I", Cond.fieldLink RX9 30 "WornRingsModel" "small" "[I", Cond.fieldLink RX9 33 "WornRingsModel" "great" "[I", Cond.constantLong RX9 140 (2), Cond.fieldLink RX9 27 "WornRingsModel" "balls" "[I", Cond.fieldLink RX9 13 "WornRingsModel" "over" "[J", Cond.fieldLink RX9 17 "WornRingsModel" "under" "[J"]
def wsX9_heap_r3 : List Cond := [Cond.methodLink RX9 134 yX9_shaftOf, Cond.instanceMethod yX9_shaftOf, Cond.selects RX9 yX9_shaftOf yX9_shaftOf, Cond.code yX9_shaftOf cX9_shaftOf 2 (some .int), Cond.fieldLink RX9 24 "WornRingsModel" "sits" "[I", Cond.methodLink RX9 123 yX9_ringOf, Cond.instanceMethod yX9_ringOf, Cond.selects RX9 yX9_ringOf yX9_ringOf, Cond.code yX9_ringOf cX9_ringOf 2 (some .int), Cond.methodLink RX9 104 yX9_reduce, Cond.instanceMethod yX9_reduce, Cond.selects RX9 yX9_reduce yX9_reduce, Cond.code yX9_reduce cX9_reduce 11 none, Cond.methodLink RX9 207 yX9_explained, Cond.instanceMethod yX9_explained, Cond.selects RX9 yX9_explained yX9_explained, Cond.code yX9_explained cX9_explained 4 (some .int), Cond.methodLink RX9 216 yX9_findFewest, Cond.instanceMethod yX9_findFewest, Cond.selects RX9 yX9_findFewest yX9_findFewest, Cond.code yX9_findFewest cX9_findFewest 6 none, Cond.methodLink RX9 96 yX9_in, Cond.static yX9_in, Cond.code yX9_in cX9_in 6 (some .boolean)]
def wsX9_heap : List Cond := .code yX9_heap cX9_heap 7 (some .int) :: ((wsX9_heap_r1 ++ (wsX9_heap_r2 ++ wsX9_heap_r3)) ++ wsX90)
def wsX9_strange_r1 : List Cond := [Cond.fieldLink RX9 200 "WornRingsModel" "lines" "I", Cond.methodLink RX9 213 yX9_findCovers, Cond.instanceMethod yX9_findCovers, Cond.selects RX9 yX9_findCovers yX9_findCovers, Cond.initialized RX9, Cond.code yX9_findCovers cX9_findCovers 3 (some .int), Cond.fieldLink RX9 69 "WornRingsModel" "covers" "[I", Cond.methodLink RX9 119 yX9_parts, Cond.instanceMethod yX9_parts, Cond.selects RX9 yX9_parts yX9_parts, Cond.code yX9_parts cX9_parts 1 (some .int), Cond.fieldLink RX9 7 "WornRingsModel" "shafts" "I", Cond.fieldLink RX9 114 "WornRingsModel" "rings" "I", Cond.methodLink RX9 210 yX9_canBeNamed, Cond.instanceMethod yX9_canBeNamed, Cond.selects RX9 yX9_canBeNamed yX9_canBeNamed, Cond.code yX9_canBeNamed cX9_canBeNamed 4 (some .boolean), Cond.methodLink RX9 137 yX9_tonesOf, Cond.instanceMethod yX9_tonesOf, Cond.selects RX9 yX9_tonesOf yX9_tonesOf, Cond.code yX9_tonesOf cX9_tonesOf 3 (some .int), Cond.methodLink RX9 127 yX9_kindOf, Cond.instanceMethod yX9_kindOf, Cond.selects RX9 yX9_kindOf yX9_kindOf]
def wsX9_strange_r2 : List Cond := [Cond.code yX9_kindOf cX9_kindOf 2 (some .int), Cond.methodLink RX9 203 yX9_nearOf, Cond.instanceMethod yX9_nearOf, Cond.selects RX9 yX9_nearOf yX9_nearOf, Cond.code yX9_nearOf cX9_nearOf 7 (some .int), Cond.fieldLink RX9 60 "WornRingsModel" "tops" "[I", Cond.fieldLink RX9 93 "WornRingsModel" "below" "J", Cond.fieldLink RX9 89 "WornRingsModel" "above" "J", Cond.fieldLink RX9 63 "WornRingsModel" "bottoms" "[I", Cond.constantLong RX9 165 (1000), Cond.fieldLink RX9 66 "WornRingsModel" "slip" "I", Cond.methodLink RX9 142 yX9_findTone, Cond.instanceMethod yX9_findTone, Cond.selects RX9 yX9_findTone yX9_findTone, Cond.code yX9_findTone cX9_findTone 14 none, Cond.fieldLink RX9 20 "WornRingsModel" "teeth" "[I", Cond.fieldLink RX9 30 "WornRingsModel" "small" "[I", Cond.fieldLink RX9 33 "WornRingsModel" "great" "[I", Cond.constantLong RX9 140 (2), Cond.fieldLink RX9 27 "WornRingsModel" "balls" "[I", Cond.fieldLink RX9 13 "WornRingsModel" "over" "[J", Cond.fieldLink RX9 17 "WornRingsModel" "under" "[J", Cond.methodLink RX9 134 yX9_shaftOf, Cond.instanceMethod yX9_shaftOf]
def wsX9_strange_r3 : List Cond := [Cond.selects RX9 yX9_shaftOf yX9_shaftOf, Cond.code yX9_shaftOf cX9_shaftOf 2 (some .int), Cond.fieldLink RX9 24 "WornRingsModel" "sits" "[I", Cond.methodLink RX9 123 yX9_ringOf, Cond.instanceMethod yX9_ringOf, Cond.selects RX9 yX9_ringOf yX9_ringOf, Cond.code yX9_ringOf cX9_ringOf 2 (some .int), Cond.methodLink RX9 104 yX9_reduce, Cond.instanceMethod yX9_reduce, Cond.selects RX9 yX9_reduce yX9_reduce, Cond.code yX9_reduce cX9_reduce 11 none, Cond.methodLink RX9 207 yX9_explained, Cond.instanceMethod yX9_explained, Cond.selects RX9 yX9_explained yX9_explained, Cond.code yX9_explained cX9_explained 4 (some .int)]
def wsX9_strange : List Cond := .code yX9_strange cX9_strange 1 (some .int) :: ((wsX9_strange_r1 ++ (wsX9_strange_r2 ++ wsX9_strange_r3)) ++ wsX90)
def wsX9_laws : List Cond := .code yX9_laws cX9_laws 4 (some .int) :: ([.constantLong RX9 165 (1000), .constantLong RX9 219 (4), .fieldLink RX9 76 "WornRingsModel" "numbers" "[I", .methodLink RX9 96 yX9_in, .static yX9_in, .initialized RX9, .code yX9_in cX9_in 6 (some .boolean)] ++ wsX90)
def wsX9_isLoad : List Cond := .code yX9_isLoad cX9_isLoad 1 (some .boolean) :: ([.constantLong RX9 108 (3), .methodLink RX9 96 yX9_in, .static yX9_in, .initialized RX9, .code yX9_in cX9_in 6 (some .boolean)])
def wsX9_middle : List Cond := .code yX9_middle cX9_middle 7 (some .int) :: ([.fieldLink RX9 82 "WornRingsModel" "readings" "[I"] ++ wsX90)
def wsX9_reading : List Cond := .code yX9_reading cX9_reading 8 (some .int) :: ([.constantLong RX9 146 (1000000), .fieldLink RX9 79 "WornRingsModel" "many" "[I", .fieldLink RX9 82 "WornRingsModel" "readings" "[I", .fieldLink RX9 76 "WornRingsModel" "numbers" "[I", .constantLong RX9 112 (100), .fieldLink RX9 85 "WornRingsModel" "warned" "[Z", .methodLink RX9 221 yX9_isLoad, .static yX9_isLoad, .initialized RX9, .code yX9_isLoad cX9_isLoad 1 (some .boolean), .constantLong RX9 108 (3), .methodLink RX9 96 yX9_in, .static yX9_in, .code yX9_in cX9_in 6 (some .boolean), .methodLink RX9 224 yX9_middle, .instanceMethod yX9_middle, .selects RX9 yX9_middle yX9_middle, .code yX9_middle cX9_middle 7 (some .int)] ++ wsX90)
def wsX9_baseline : List Cond := .code yX9_baseline cX9_baseline 2 (some .int) :: ([.fieldLink RX9 79 "WornRingsModel" "many" "[I", .methodLink RX9 221 yX9_isLoad, .static yX9_isLoad, .initialized RX9, .code yX9_isLoad cX9_isLoad 1 (some .boolean), .constantLong RX9 108 (3), .methodLink RX9 96 yX9_in, .static yX9_in, .code yX9_in cX9_in 6 (some .boolean), .methodLink RX9 224 yX9_middle, .instanceMethod yX9_middle, .selects RX9 yX9_middle yX9_middle, .code yX9_middle cX9_middle 7 (some .int), .fieldLink RX9 82 "WornRingsModel" "readings" "[I"] ++ wsX90)
def wsX9_warned : List Cond := .code yX9_warned cX9_warned 2 (some .int) :: ([.fieldLink RX9 85 "WornRingsModel" "warned" "[Z", .methodLink RX9 221 yX9_isLoad, .static yX9_isLoad, .initialized RX9, .code yX9_isLoad cX9_isLoad 1 (some .boolean), .constantLong RX9 108 (3), .methodLink RX9 96 yX9_in, .static yX9_in, .code yX9_in cX9_in 6 (some .boolean)] ++ wsX90)
def wsX9_repair : List Cond := .code yX9_repair cX9_repair 3 (some .int) :: ([.fieldLink RX9 85 "WornRingsModel" "warned" "[Z", .fieldLink RX9 79 "WornRingsModel" "many" "[I"] ++ wsX90)
def wsJ9_abs_067f4 : List Cond := .code yJ9_abs_067f4 cJ9_abs_067f4 2 (some .long) :: ([])
def wsJ9_max_7cf53 : List Cond := .code yJ9_max_7cf53 cJ9_max_7cf53 2 (some .int) :: ([])
def wsJ9_max_f86c9 : List Cond := .code yJ9_max_f86c9 cJ9_max_f86c9 4 (some .long) :: ([])
def wsJ9_min_7cf53 : List Cond := .code yJ9_min_7cf53 cJ9_min_7cf53 2 (some .int) :: ([])
theorem dX0_init_0 : decode cX0_init 0 = .ok (.aload_n 0, 1) := by decide +kernel
theorem dX0_init_1 : decode cX0_init 1 = .ok (.invokespecial 3, 3) := by decide +kernel
theorem dX0_init_4 : decode cX0_init 4 = .ok (.aload_n 0, 1) := by decide +kernel
theorem dX0_init_5 : decode cX0_init 5 = .ok (.bipush 39, 2) := by decide +kernel
theorem dX0_init_7 : decode cX0_init 7 = .ok (.newarray .int, 2) := by decide +kernel
theorem dX0_init_9 : decode cX0_init 9 = .ok (.putfield 9, 3) := by decide +kernel
theorem dX0_init_12 : decode cX0_init 12 = .ok (.aload_n 0, 1) := by decide +kernel
theorem dX0_init_13 : decode cX0_init 13 = .ok (.bipush 39, 2) := by decide +kernel
theorem dX0_init_15 : decode cX0_init 15 = .ok (.newarray .int, 2) := by decide +kernel
theorem dX0_init_17 : decode cX0_init 17 = .ok (.putfield 15, 3) := by decide +kernel
theorem dX0_init_20 : decode cX0_init 20 = .ok (.aload_n 0, 1) := by decide +kernel
theorem dX0_init_21 : decode cX0_init 21 = .ok (.sipush 4096, 3) := by decide +kernel
theorem dX0_init_24 : decode cX0_init 24 = .ok (.newarray .byte, 2) := by decide +kernel
theorem dX0_init_26 : decode cX0_init 26 = .ok (.putfield 18, 3) := by decide +kernel
theorem dX0_init_29 : decode cX0_init 29 = .ok (.aload_n 0, 1) := by decide +kernel
theorem dX0_init_30 : decode cX0_init 30 = .ok (.bipush 12, 2) := by decide +kernel
theorem dX0_init_32 : decode cX0_init 32 = .ok (.newarray .int, 2) := by decide +kernel
theorem dX0_init_34 : decode cX0_init 34 = .ok (.putfield 22, 3) := by decide +kernel
theorem dX0_init_37 : decode cX0_init 37 = .ok (.return_, 1) := by decide +kernel
theorem dX0_forget_0 : decode cX0_forget 0 = .ok (.aload_n 0, 1) := by decide +kernel
theorem dX0_forget_1 : decode cX0_forget 1 = .ok (.iconst 0, 1) := by decide +kernel
theorem dX0_forget_2 : decode cX0_forget 2 = .ok (.putfield 25, 3) := by decide +kernel
theorem dX0_forget_5 : decode cX0_forget 5 = .ok (.return_, 1) := by decide +kernel
set_option maxRecDepth 20000 in
theorem ggX0_layDown_X0_gather : GoodIn wsX0_layDown wsX0_gather := goodIn_sub (am_cons (List.mem_cons_of_mem _ (List.mem_append_left _ (List.mem_append_left _ (List.mem_append_left _ (List.mem_append_left _ (List.mem_append_left _ (List.mem_of_getElem? (i := 5) rfl))))))) (am_app (am_app (am_app (am_app (am_app (am_cons (List.mem_cons_of_mem _ (List.mem_append_left _ (List.mem_append_left _ (List.mem_append_left _ (List.mem_append_left _ (List.mem_append_left _ (List.mem_of_getElem? (i := 6) rfl))))))) (am_cons (List.mem_cons_of_mem _ (List.mem_append_left _ (List.mem_append_left _ (List.mem_append_left _ (List.mem_append_left _ (List.mem_append_left _ (List.mem_of_getElem? (i := 7) rfl))))))) (am_cons (List.mem_cons_of_mem _ (List.mem_append_left _ (List.mem_append_left _ (List.mem_append_left _ (List.mem_append_left _ (List.mem_append_left _ (List.mem_of_getElem? (i := 8) rfl))))))) (am_cons (List.mem_cons_of_mem _ (List.mem_append_left _ (List.mem_append_left _ (List.mem_append_left _ (List.mem_append_left _ (List.mem_append_left _ (List.mem_of_getElem? (i := 9) rfl))))))) (am_cons (List.mem_cons_of_mem _ (List.mem_append_left _ (List.mem_append_left _ (List.mem_append_left _ (List.mem_append_left _ (List.mem_append_left _ (List.mem_of_getElem? (i := 10) rfl))))))) (am_cons (List.mem_cons_of_mem _ (List.mem_append_left _ (List.mem_append_left _ (List.mem_append_left _ (List.mem_append_left _ (List.mem_append_left _ (List.mem_of_getElem? (i := 11) rfl))))))) (am_cons (List.mem_cons_of_mem _ (List.mem_append_left _ (List.mem_append_left _ (List.mem_append_left _ (List.mem_append_left _ (List.mem_append_left _ (List.mem_of_getElem? (i := 12) rfl))))))) (am_cons (List.mem_cons_of_mem _ (List.mem_append_left _ (List.mem_append_left _ (List.mem_append_left _ (List.mem_append_left _ (List.mem_append_left _ (List.mem_of_getElem? (i := 13) rfl))))))) (am_cons (List.mem_cons_of_mem _ (List.mem_append_left _ (List.mem_append_left _ (List.mem_append_left _ (List.mem_append_left _ (List.mem_append_left _ (List.mem_of_getElem? (i := 14) rfl))))))) (am_cons (List.mem_cons_of_mem _ (List.mem_append_left _ (List.mem_append_left _ (List.mem_append_left _ (List.mem_append_left _ (List.mem_append_left _ (List.mem_of_getElem? (i := 15) rfl))))))) (am_cons (List.mem_cons_of_mem _ (List.mem_append_left _ (List.mem_append_left _ (List.mem_append_left _ (List.mem_append_left _ (List.mem_append_left _ (List.mem_of_getElem? (i := 16) rfl))))))) (am_cons (List.mem_cons_of_mem _ (List.mem_append_left _ (List.mem_append_left _ (List.mem_append_left _ (List.mem_append_left _ (List.mem_append_left _ (List.mem_of_getElem? (i := 17) rfl))))))) (am_cons (List.mem_cons_of_mem _ (List.mem_append_left _ (List.mem_append_left _ (List.mem_append_left _ (List.mem_append_left _ (List.mem_append_left _ (List.mem_of_getElem? (i := 18) rfl))))))) (am_cons (List.mem_cons_of_mem _ (List.mem_append_left _ (List.mem_append_left _ (List.mem_append_left _ (List.mem_append_left _ (List.mem_append_left _ (List.mem_of_getElem? (i := 19) rfl))))))) (am_cons (List.mem_cons_of_mem _ (List.mem_append_left _ (List.mem_append_left _ (List.mem_append_left _ (List.mem_append_left _ (List.mem_append_left _ (List.mem_of_getElem? (i := 20) rfl))))))) (am_cons (List.mem_cons_of_mem _ (List.mem_append_left _ (List.mem_append_left _ (List.mem_append_left _ (List.mem_append_left _ (List.mem_append_left _ (List.mem_of_getElem? (i := 21) rfl))))))) (am_cons (List.mem_cons_of_mem _ (List.mem_append_left _ (List.mem_append_left _ (List.mem_append_left _ (List.mem_append_left _ (List.mem_append_left _ (List.mem_of_getElem? (i := 22) rfl))))))) (am_cons (List.mem_cons_of_mem _ (List.mem_append_left _ (List.mem_append_left _ (List.mem_append_left _ (List.mem_append_left _ (List.mem_append_left _ (List.mem_of_getElem? (i := 23) rfl))))))) (am_cons (List.mem_cons_of_mem _ (List.mem_append_left _ (List.mem_append_left _ (List.mem_append_left _ (List.mem_append_left _ (List.mem_append_right _ (List.mem_append_left _ (List.mem_of_getElem? (i := 0) rfl)))))))) (am_cons (List.mem_cons_of_mem _ (List.mem_append_left _ (List.mem_append_left _ (List.mem_append_left _ (List.mem_append_left _ (List.mem_append_right _ (List.mem_append_left _ (List.mem_of_getElem? (i := 1) rfl)))))))) (am_cons (List.mem_cons_of_mem _ (List.mem_append_left _ (List.mem_append_left _ (List.mem_append_left _ (List.mem_append_left _ (List.mem_append_right _ (List.mem_append_left _ (List.mem_of_getElem? (i := 2) rfl)))))))) (am_cons (List.mem_cons_of_mem _ (List.mem_append_left _ (List.mem_append_left _ (List.mem_append_left _ (List.mem_append_left _ (List.mem_append_right _ (List.mem_append_left _ (List.mem_of_getElem? (i := 3) rfl)))))))) (am_cons (List.mem_cons_of_mem _ (List.mem_append_left _ (List.mem_append_left _ (List.mem_append_left _ (List.mem_append_left _ (List.mem_append_right _ (List.mem_append_left _ (List.mem_of_getElem? (i := 4) rfl)))))))) (am_cons (List.mem_cons_of_mem _ (List.mem_append_left _ (List.mem_append_left _ (List.mem_append_left _ (List.mem_append_left _ (List.mem_append_right _ (List.mem_append_left _ (List.mem_of_getElem? (i := 5) rfl)))))))) am_nil)))))))))))))))))))))))) (am_cons (List.mem_cons_of_mem _ (List.mem_append_left _ (List.mem_append_left _ (List.mem_append_left _ (List.mem_append_left _ (List.mem_append_right _ (List.mem_append_left _ (List.mem_of_getElem? (i := 6) rfl)))))))) (am_cons (List.mem_cons_of_mem _ (List.mem_append_left _ (List.mem_append_left _ (List.mem_append_left _ (List.mem_append_left _ (List.mem_append_right _ (List.mem_append_left _ (List.mem_of_getElem? (i := 7) rfl)))))))) (am_cons (List.mem_cons_of_mem _ (List.mem_append_left _ (List.mem_append_left _ (List.mem_append_left _ (List.mem_append_left _ (List.mem_append_right _ (List.mem_append_left _ (List.mem_of_getElem? (i := 8) rfl)))))))) (am_cons (List.mem_cons_of_mem _ (List.mem_append_left _ (List.mem_append_left _ (List.mem_append_left _ (List.mem_append_left _ (List.mem_append_right _ (List.mem_append_left _ (List.mem_of_getElem? (i := 9) rfl)))))))) (am_cons (List.mem_cons_of_mem _ (List.mem_append_left _ (List.mem_append_left _ (List.mem_append_left _ (List.mem_append_left _ (List.mem_append_right _ (List.mem_append_left _ (List.mem_of_getElem? (i := 10) rfl)))))))) (am_cons (List.mem_cons_of_mem _ (List.mem_append_left _ (List.mem_append_left _ (List.mem_append_left _ (List.mem_append_left _ (List.mem_append_right _ (List.mem_append_left _ (List.mem_of_getElem? (i := 11) rfl)))))))) (am_cons (List.mem_cons_of_mem _ (List.mem_append_left _ (List.mem_append_left _ (List.mem_append_left _ (List.mem_append_left _ (List.mem_append_right _ (List.mem_append_left _ (List.mem_of_getElem? (i := 12) rfl)))))))) (am_cons (List.mem_cons_of_mem _ (List.mem_append_left _ (List.mem_append_left _ (List.mem_append_left _ (List.mem_append_left _ (List.mem_append_right _ (List.mem_append_left _ (List.mem_of_getElem? (i := 13) rfl)))))))) (am_cons (List.mem_cons_of_mem _ (List.mem_append_left _ (List.mem_append_left _ (List.mem_append_left _ (List.mem_append_left _ (List.mem_append_right _ (List.mem_append_left _ (List.mem_of_getElem? (i := 14) rfl)))))))) (am_cons (List.mem_cons_of_mem _ (List.mem_append_left _ (List.mem_append_left _ (List.mem_append_left _ (List.mem_append_left _ (List.mem_append_right _ (List.mem_append_left _ (List.mem_of_getElem? (i := 15) rfl)))))))) (am_cons (List.mem_cons_of_mem _ (List.mem_append_left _ (List.mem_append_left _ (List.mem_append_left _ (List.mem_append_left _ (List.mem_append_right _ (List.mem_append_left _ (List.mem_of_getElem? (i := 16) rfl)))))))) (am_cons (List.mem_cons_of_mem _ (List.mem_append_left _ (List.mem_append_left _ (List.mem_append_left _ (List.mem_append_left _ (List.mem_append_right _ (List.mem_append_left _ (List.mem_of_getElem? (i := 17) rfl)))))))) (am_cons (List.mem_cons_of_mem _ (List.mem_append_left _ (List.mem_append_left _ (List.mem_append_left _ (List.mem_append_left _ (List.mem_append_right _ (List.mem_append_left _ (List.mem_of_getElem? (i := 18) rfl)))))))) (am_cons (List.mem_cons_of_mem _ (List.mem_append_left _ (List.mem_append_left _ (List.mem_append_left _ (List.mem_append_left _ (List.mem_append_right _ (List.mem_append_left _ (List.mem_of_getElem? (i := 19) rfl)))))))) (am_cons (List.mem_cons_of_mem _ (List.mem_append_left _ (List.mem_append_left _ (List.mem_append_left _ (List.mem_append_left _ (List.mem_append_right _ (List.mem_append_left _ (List.mem_of_getElem? (i := 20) rfl)))))))) (am_cons (List.mem_cons_of_mem _ (List.mem_append_left _ (List.mem_append_left _ (List.mem_append_left _ (List.mem_append_left _ (List.mem_append_right _ (List.mem_append_left _ (List.mem_of_getElem? (i := 21) rfl)))))))) am_nil))))))))))))))))) (fun _ h => List.mem_cons_of_mem _ (List.mem_append_left _ (List.mem_append_left _ (List.mem_append_left _ (List.mem_append_right _ (h))))))) (fun _ h => List.mem_cons_of_mem _ (List.mem_append_left _ (List.mem_append_left _ (List.mem_append_right _ (h)))))) (fun _ h => List.mem_cons_of_mem _ (List.mem_append_left _ (List.mem_append_right _ (h))))) (fun _ h => List.mem_cons_of_mem _ (List.mem_append_right _ (h))))) (by decide +kernel)
set_option maxRecDepth 20000 in
theorem gX0_layDown_X0_gather : GoodIn wsX0_layDown (wsV RX0 29 RX0 yX0_gather wsX0_gather) := goodIn_app (goodIn_sub (am_cons (List.mem_cons_of_mem _ (List.mem_append_left _ (List.mem_append_left _ (List.mem_append_left _ (List.mem_append_left _ (List.mem_append_left _ (List.mem_of_getElem? (i := 1) rfl))))))) (am_cons (List.mem_cons_of_mem _ (List.mem_append_left _ (List.mem_append_left _ (List.mem_append_left _ (List.mem_append_left _ (List.mem_append_left _ (List.mem_of_getElem? (i := 2) rfl))))))) (am_cons (List.mem_cons_of_mem _ (List.mem_append_left _ (List.mem_append_left _ (List.mem_append_left _ (List.mem_append_left _ (List.mem_append_left _ (List.mem_of_getElem? (i := 3) rfl))))))) (am_cons (List.mem_cons_of_mem _ (List.mem_append_left _ (List.mem_append_left _ (List.mem_append_left _ (List.mem_append_left _ (List.mem_append_left _ (List.mem_of_getElem? (i := 4) rfl))))))) am_nil)))) (by decide +kernel)) ggX0_layDown_X0_gather
set_option maxRecDepth 20000 in
theorem ggX0_layDown_X0_countFewest : GoodIn wsX0_layDown wsX0_countFewest := goodIn_sub (am_cons (List.mem_cons_of_mem _ (List.mem_append_left _ (List.mem_append_left _ (List.mem_append_left _ (List.mem_append_left _ (List.mem_append_right _ (List.mem_append_right _ (List.mem_of_getElem? (i := 1) rfl)))))))) (am_app (am_cons (List.mem_cons_of_mem _ (List.mem_append_left _ (List.mem_append_left _ (List.mem_append_left _ (List.mem_append_left _ (List.mem_append_right _ (List.mem_append_right _ (List.mem_of_getElem? (i := 2) rfl)))))))) (am_cons (List.mem_cons_of_mem _ (List.mem_append_left _ (List.mem_append_left _ (List.mem_append_left _ (List.mem_append_left _ (List.mem_append_left _ (List.mem_of_getElem? (i := 7) rfl))))))) (am_cons (List.mem_cons_of_mem _ (List.mem_append_left _ (List.mem_append_left _ (List.mem_append_left _ (List.mem_append_left _ (List.mem_append_right _ (List.mem_append_right _ (List.mem_of_getElem? (i := 3) rfl)))))))) (am_cons (List.mem_cons_of_mem _ (List.mem_append_left _ (List.mem_append_left _ (List.mem_append_left _ (List.mem_append_left _ (List.mem_append_right _ (List.mem_append_right _ (List.mem_of_getElem? (i := 4) rfl)))))))) (am_cons (List.mem_cons_of_mem _ (List.mem_append_left _ (List.mem_append_left _ (List.mem_append_left _ (List.mem_append_left _ (List.mem_append_right _ (List.mem_append_right _ (List.mem_of_getElem? (i := 5) rfl)))))))) (am_cons (List.mem_cons_of_mem _ (List.mem_append_left _ (List.mem_append_left _ (List.mem_append_left _ (List.mem_append_left _ (List.mem_append_left _ (List.mem_of_getElem? (i := 4) rfl))))))) (am_cons (List.mem_cons_of_mem _ (List.mem_append_left _ (List.mem_append_left _ (List.mem_append_left _ (List.mem_append_left _ (List.mem_append_right _ (List.mem_append_right _ (List.mem_of_getElem? (i := 6) rfl)))))))) (am_cons (List.mem_cons_of_mem _ (List.mem_append_left _ (List.mem_append_left _ (List.mem_append_left _ (List.mem_append_left _ (List.mem_append_left _ (List.mem_of_getElem? (i := 6) rfl))))))) (am_cons (List.mem_cons_of_mem _ (List.mem_append_left _ (List.mem_append_left _ (List.mem_append_left _ (List.mem_append_left _ (List.mem_append_left _ (List.mem_of_getElem? (i := 9) rfl))))))) (am_cons (List.mem_cons_of_mem _ (List.mem_append_left _ (List.mem_append_left _ (List.mem_append_left _ (List.mem_append_left _ (List.mem_append_right _ (List.mem_append_right _ (List.mem_of_getElem? (i := 7) rfl)))))))) (am_cons (List.mem_cons_of_mem _ (List.mem_append_left _ (List.mem_append_left _ (List.mem_append_left _ (List.mem_append_left _ (List.mem_append_right _ (List.mem_append_right _ (List.mem_of_getElem? (i := 8) rfl)))))))) (am_cons (List.mem_cons_of_mem _ (List.mem_append_left _ (List.mem_append_left _ (List.mem_append_left _ (List.mem_append_left _ (List.mem_append_right _ (List.mem_append_left _ (List.mem_of_getElem? (i := 14) rfl)))))))) (am_cons (List.mem_cons_of_mem _ (List.mem_append_left _ (List.mem_append_left _ (List.mem_append_left _ (List.mem_append_left _ (List.mem_append_right _ (List.mem_append_right _ (List.mem_of_getElem? (i := 9) rfl)))))))) am_nil))))))))))))) (fun _ h => List.mem_cons_of_mem _ (List.mem_append_left _ (List.mem_append_left _ (List.mem_append_left _ (List.mem_append_right _ (h)))))))) (by decide +kernel)
set_option maxRecDepth 20000 in
theorem gX0_layDown_X0_countFewest : GoodIn wsX0_layDown (wsV RX0 33 RX0 yX0_countFewest wsX0_countFewest) := goodIn_app (goodIn_sub (am_cons (List.mem_cons_of_mem _ (List.mem_append_left _ (List.mem_append_left _ (List.mem_append_left _ (List.mem_append_left _ (List.mem_append_right _ (List.mem_append_left _ (List.mem_of_getElem? (i := 22) rfl)))))))) (am_cons (List.mem_cons_of_mem _ (List.mem_append_left _ (List.mem_append_left _ (List.mem_append_left _ (List.mem_append_left _ (List.mem_append_right _ (List.mem_append_left _ (List.mem_of_getElem? (i := 23) rfl)))))))) (am_cons (List.mem_cons_of_mem _ (List.mem_append_left _ (List.mem_append_left _ (List.mem_append_left _ (List.mem_append_left _ (List.mem_append_right _ (List.mem_append_right _ (List.mem_of_getElem? (i := 0) rfl)))))))) (am_cons (List.mem_cons_of_mem _ (List.mem_append_left _ (List.mem_append_left _ (List.mem_append_left _ (List.mem_append_left _ (List.mem_append_left _ (List.mem_of_getElem? (i := 4) rfl))))))) am_nil)))) (by decide +kernel)) ggX0_layDown_X0_countFewest
set_option maxRecDepth 20000 in
theorem ggX0_layDown_X0_choose : GoodIn wsX0_layDown wsX0_choose := goodIn_sub (am_cons (List.mem_cons_of_mem _ (List.mem_append_left _ (List.mem_append_left _ (List.mem_append_left _ (List.mem_append_left _ (List.mem_append_right _ (List.mem_append_right _ (List.mem_of_getElem? (i := 13) rfl)))))))) (am_app (am_cons (List.mem_cons_of_mem _ (List.mem_append_left _ (List.mem_append_left _ (List.mem_append_left _ (List.mem_append_left _ (List.mem_append_right _ (List.mem_append_right _ (List.mem_of_getElem? (i := 14) rfl)))))))) (am_cons (List.mem_cons_of_mem _ (List.mem_append_left _ (List.mem_append_left _ (List.mem_append_left _ (List.mem_append_left _ (List.mem_append_left _ (List.mem_of_getElem? (i := 7) rfl))))))) (am_cons (List.mem_cons_of_mem _ (List.mem_append_left _ (List.mem_append_left _ (List.mem_append_left _ (List.mem_append_left _ (List.mem_append_left _ (List.mem_of_getElem? (i := 6) rfl))))))) (am_cons (List.mem_cons_of_mem _ (List.mem_append_left _ (List.mem_append_left _ (List.mem_append_left _ (List.mem_append_left _ (List.mem_append_left _ (List.mem_of_getElem? (i := 9) rfl))))))) (am_cons (List.mem_cons_of_mem _ (List.mem_append_left _ (List.mem_append_left _ (List.mem_append_left _ (List.mem_append_left _ (List.mem_append_right _ (List.mem_append_right _ (List.mem_of_getElem? (i := 2) rfl)))))))) (am_cons (List.mem_cons_of_mem _ (List.mem_append_left _ (List.mem_append_left _ (List.mem_append_left _ (List.mem_append_left _ (List.mem_append_right _ (List.mem_append_right _ (List.mem_of_getElem? (i := 15) rfl)))))))) (am_cons (List.mem_cons_of_mem _ (List.mem_append_left _ (List.mem_append_left _ (List.mem_append_left _ (List.mem_append_left _ (List.mem_append_left _ (List.mem_of_getElem? (i := 8) rfl))))))) am_nil))))))) (fun _ h => List.mem_cons_of_mem _ (List.mem_append_left _ (List.mem_append_left _ (List.mem_append_left _ (List.mem_append_right _ (h)))))))) (by decide +kernel)
set_option maxRecDepth 20000 in
theorem gX0_layDown_X0_choose : GoodIn wsX0_layDown (wsV RX0 36 RX0 yX0_choose wsX0_choose) := goodIn_app (goodIn_sub (am_cons (List.mem_cons_of_mem _ (List.mem_append_left _ (List.mem_append_left _ (List.mem_append_left _ (List.mem_append_left _ (List.mem_append_right _ (List.mem_append_right _ (List.mem_of_getElem? (i := 10) rfl)))))))) (am_cons (List.mem_cons_of_mem _ (List.mem_append_left _ (List.mem_append_left _ (List.mem_append_left _ (List.mem_append_left _ (List.mem_append_right _ (List.mem_append_right _ (List.mem_of_getElem? (i := 11) rfl)))))))) (am_cons (List.mem_cons_of_mem _ (List.mem_append_left _ (List.mem_append_left _ (List.mem_append_left _ (List.mem_append_left _ (List.mem_append_right _ (List.mem_append_right _ (List.mem_of_getElem? (i := 12) rfl)))))))) (am_cons (List.mem_cons_of_mem _ (List.mem_append_left _ (List.mem_append_left _ (List.mem_append_left _ (List.mem_append_left _ (List.mem_append_left _ (List.mem_of_getElem? (i := 4) rfl))))))) am_nil)))) (by decide +kernel)) ggX0_layDown_X0_choose
theorem dX0_layDown_0 : decode cX0_layDown 0 = .ok (.aload_n 0, 1) := by decide +kernel
theorem dX0_layDown_1 : decode cX0_layDown 1 = .ok (.getfield 25, 3) := by decide +kernel
theorem dX0_layDown_4 : decode cX0_layDown 4 = .ok (.ifCond .eq 4, 3) := by decide +kernel
theorem dX0_layDown_7 : decode cX0_layDown 7 = .ok (.return_, 1) := by decide +kernel
theorem dX0_layDown_8 : decode cX0_layDown 8 = .ok (.aload_n 0, 1) := by decide +kernel
theorem dX0_layDown_9 : decode cX0_layDown 9 = .ok (.aload_n 1, 1) := by decide +kernel
theorem dX0_layDown_10 : decode cX0_layDown 10 = .ok (.aload_n 2, 1) := by decide +kernel
theorem dX0_layDown_11 : decode cX0_layDown 11 = .ok (.invokevirtual 29, 3) := by decide +kernel
theorem dX0_layDown_14 : decode cX0_layDown 14 = .ok (.aload_n 0, 1) := by decide +kernel
theorem dX0_layDown_15 : decode cX0_layDown 15 = .ok (.invokevirtual 33, 3) := by decide +kernel
theorem dX0_layDown_18 : decode cX0_layDown 18 = .ok (.aload_n 0, 1) := by decide +kernel
theorem dX0_layDown_19 : decode cX0_layDown 19 = .ok (.invokevirtual 36, 3) := by decide +kernel
theorem dX0_layDown_22 : decode cX0_layDown 22 = .ok (.aload_n 0, 1) := by decide +kernel
theorem dX0_layDown_23 : decode cX0_layDown 23 = .ok (.iconst 1, 1) := by decide +kernel
theorem dX0_layDown_24 : decode cX0_layDown 24 = .ok (.putfield 25, 3) := by decide +kernel
theorem dX0_layDown_27 : decode cX0_layDown 27 = .ok (.return_, 1) := by decide +kernel
set_option maxRecDepth 20000 in
theorem ggX0_gather_X3_find : GoodIn wsX0_gather wsX3_find := goodIn_sub (am_cons (List.mem_cons_of_mem _ (List.mem_append_left _ (List.mem_append_left _ (List.mem_append_left _ (List.mem_append_left _ (List.mem_append_left _ (List.mem_of_getElem? (i := 8) rfl))))))) (am_app (am_cons (List.mem_cons_of_mem _ (List.mem_append_left _ (List.mem_append_left _ (List.mem_append_left _ (List.mem_append_left _ (List.mem_append_left _ (List.mem_of_getElem? (i := 9) rfl))))))) (am_cons (List.mem_cons_of_mem _ (List.mem_append_left _ (List.mem_append_left _ (List.mem_append_left _ (List.mem_append_left _ (List.mem_append_left _ (List.mem_of_getElem? (i := 10) rfl))))))) (am_cons (List.mem_cons_of_mem _ (List.mem_append_left _ (List.mem_append_left _ (List.mem_append_left _ (List.mem_append_left _ (List.mem_append_left _ (List.mem_of_getElem? (i := 11) rfl))))))) (am_cons (List.mem_cons_of_mem _ (List.mem_append_left _ (List.mem_append_left _ (List.mem_append_left _ (List.mem_append_left _ (List.mem_append_left _ (List.mem_of_getElem? (i := 12) rfl))))))) (am_cons (List.mem_cons_of_mem _ (List.mem_append_left _ (List.mem_append_left _ (List.mem_append_left _ (List.mem_append_left _ (List.mem_append_left _ (List.mem_of_getElem? (i := 13) rfl))))))) (am_cons (List.mem_cons_of_mem _ (List.mem_append_left _ (List.mem_append_left _ (List.mem_append_left _ (List.mem_append_left _ (List.mem_append_left _ (List.mem_of_getElem? (i := 14) rfl))))))) (am_cons (List.mem_cons_of_mem _ (List.mem_append_left _ (List.mem_append_left _ (List.mem_append_left _ (List.mem_append_left _ (List.mem_append_left _ (List.mem_of_getElem? (i := 15) rfl))))))) (am_cons (List.mem_cons_of_mem _ (List.mem_append_left _ (List.mem_append_left _ (List.mem_append_left _ (List.mem_append_left _ (List.mem_append_left _ (List.mem_of_getElem? (i := 7) rfl))))))) (am_cons (List.mem_cons_of_mem _ (List.mem_append_left _ (List.mem_append_left _ (List.mem_append_left _ (List.mem_append_left _ (List.mem_append_left _ (List.mem_of_getElem? (i := 16) rfl))))))) (am_cons (List.mem_cons_of_mem _ (List.mem_append_left _ (List.mem_append_left _ (List.mem_append_left _ (List.mem_append_left _ (List.mem_append_left _ (List.mem_of_getElem? (i := 17) rfl))))))) am_nil)))))))))) (fun _ h => List.mem_cons_of_mem _ (List.mem_append_left _ (List.mem_append_left _ (List.mem_append_right _ (h))))))) (by decide +kernel)
set_option maxRecDepth 20000 in
theorem gX0_gather_X3_find : GoodIn wsX0_gather (wsV RX0 46 RX3 yX3_find wsX3_find) := goodIn_app (goodIn_sub (am_cons (List.mem_cons_of_mem _ (List.mem_append_left _ (List.mem_append_left _ (List.mem_append_left _ (List.mem_append_left _ (List.mem_append_left _ (List.mem_of_getElem? (i := 4) rfl))))))) (am_cons (List.mem_cons_of_mem _ (List.mem_append_left _ (List.mem_append_left _ (List.mem_append_left _ (List.mem_append_left _ (List.mem_append_left _ (List.mem_of_getElem? (i := 5) rfl))))))) (am_cons (List.mem_cons_of_mem _ (List.mem_append_left _ (List.mem_append_left _ (List.mem_append_left _ (List.mem_append_left _ (List.mem_append_left _ (List.mem_of_getElem? (i := 6) rfl))))))) (am_cons (List.mem_cons_of_mem _ (List.mem_append_left _ (List.mem_append_left _ (List.mem_append_left _ (List.mem_append_left _ (List.mem_append_left _ (List.mem_of_getElem? (i := 7) rfl))))))) am_nil)))) (by decide +kernel)) ggX0_gather_X3_find
set_option maxRecDepth 20000 in
theorem ggX0_gather_X1_allTonesSeen : GoodIn wsX0_gather wsX1_allTonesSeen := goodIn_sub (am_cons (List.mem_cons_of_mem _ (List.mem_append_left _ (List.mem_append_left _ (List.mem_append_left _ (List.mem_append_left _ (List.mem_append_left _ (List.mem_of_getElem? (i := 22) rfl))))))) (am_app (am_app (am_cons (List.mem_cons_of_mem _ (List.mem_append_left _ (List.mem_append_left _ (List.mem_append_left _ (List.mem_append_left _ (List.mem_append_left _ (List.mem_of_getElem? (i := 23) rfl))))))) (am_cons (List.mem_cons_of_mem _ (List.mem_append_left _ (List.mem_append_left _ (List.mem_append_left _ (List.mem_append_left _ (List.mem_append_right _ (List.mem_of_getElem? (i := 0) rfl))))))) (am_cons (List.mem_cons_of_mem _ (List.mem_append_left _ (List.mem_append_left _ (List.mem_append_left _ (List.mem_append_left _ (List.mem_append_right _ (List.mem_of_getElem? (i := 1) rfl))))))) (am_cons (List.mem_cons_of_mem _ (List.mem_append_left _ (List.mem_append_left _ (List.mem_append_left _ (List.mem_append_left _ (List.mem_append_left _ (List.mem_of_getElem? (i := 21) rfl))))))) (am_cons (List.mem_cons_of_mem _ (List.mem_append_left _ (List.mem_append_left _ (List.mem_append_left _ (List.mem_append_left _ (List.mem_append_right _ (List.mem_of_getElem? (i := 2) rfl))))))) (am_cons (List.mem_cons_of_mem _ (List.mem_append_left _ (List.mem_append_left _ (List.mem_append_left _ (List.mem_append_left _ (List.mem_append_right _ (List.mem_of_getElem? (i := 3) rfl))))))) (am_cons (List.mem_cons_of_mem _ (List.mem_append_left _ (List.mem_append_left _ (List.mem_append_left _ (List.mem_append_left _ (List.mem_append_right _ (List.mem_of_getElem? (i := 4) rfl))))))) (am_cons (List.mem_cons_of_mem _ (List.mem_append_left _ (List.mem_append_left _ (List.mem_append_left _ (List.mem_append_left _ (List.mem_append_right _ (List.mem_of_getElem? (i := 5) rfl))))))) (am_cons (List.mem_cons_of_mem _ (List.mem_append_left _ (List.mem_append_left _ (List.mem_append_left _ (List.mem_append_left _ (List.mem_append_right _ (List.mem_of_getElem? (i := 6) rfl))))))) (am_cons (List.mem_cons_of_mem _ (List.mem_append_left _ (List.mem_append_left _ (List.mem_append_left _ (List.mem_append_left _ (List.mem_append_right _ (List.mem_of_getElem? (i := 7) rfl))))))) (am_cons (List.mem_cons_of_mem _ (List.mem_append_left _ (List.mem_append_left _ (List.mem_append_left _ (List.mem_append_left _ (List.mem_append_right _ (List.mem_of_getElem? (i := 8) rfl))))))) (am_cons (List.mem_cons_of_mem _ (List.mem_append_left _ (List.mem_append_left _ (List.mem_append_left _ (List.mem_append_left _ (List.mem_append_right _ (List.mem_of_getElem? (i := 9) rfl))))))) (am_cons (List.mem_cons_of_mem _ (List.mem_append_left _ (List.mem_append_left _ (List.mem_append_left _ (List.mem_append_left _ (List.mem_append_right _ (List.mem_of_getElem? (i := 10) rfl))))))) (am_cons (List.mem_cons_of_mem _ (List.mem_append_left _ (List.mem_append_left _ (List.mem_append_left _ (List.mem_append_left _ (List.mem_append_right _ (List.mem_of_getElem? (i := 11) rfl))))))) am_nil)))))))))))))) (fun _ h => List.mem_cons_of_mem _ (List.mem_append_left _ (List.mem_append_right _ (h))))) (fun _ h => List.mem_cons_of_mem _ (List.mem_append_right _ (h))))) (by decide +kernel)
set_option maxRecDepth 20000 in
theorem gX0_gather_X1_allTonesSeen : GoodIn wsX0_gather (wsV RX0 52 RX1 yX1_allTonesSeen wsX1_allTonesSeen) := goodIn_app (goodIn_sub (am_cons (List.mem_cons_of_mem _ (List.mem_append_left _ (List.mem_append_left _ (List.mem_append_left _ (List.mem_append_left _ (List.mem_append_left _ (List.mem_of_getElem? (i := 18) rfl))))))) (am_cons (List.mem_cons_of_mem _ (List.mem_append_left _ (List.mem_append_left _ (List.mem_append_left _ (List.mem_append_left _ (List.mem_append_left _ (List.mem_of_getElem? (i := 19) rfl))))))) (am_cons (List.mem_cons_of_mem _ (List.mem_append_left _ (List.mem_append_left _ (List.mem_append_left _ (List.mem_append_left _ (List.mem_append_left _ (List.mem_of_getElem? (i := 20) rfl))))))) (am_cons (List.mem_cons_of_mem _ (List.mem_append_left _ (List.mem_append_left _ (List.mem_append_left _ (List.mem_append_left _ (List.mem_append_left _ (List.mem_of_getElem? (i := 21) rfl))))))) am_nil)))) (by decide +kernel)) ggX0_gather_X1_allTonesSeen
set_option maxRecDepth 20000 in
theorem ggX0_gather_X1_explainedBy : GoodIn wsX0_gather wsX1_explainedBy := goodIn_sub (am_cons (List.mem_cons_of_mem _ (List.mem_append_left _ (List.mem_append_left _ (List.mem_append_left _ (List.mem_append_left _ (List.mem_append_right _ (List.mem_of_getElem? (i := 15) rfl))))))) (am_app (am_app (am_cons (List.mem_cons_of_mem _ (List.mem_append_left _ (List.mem_append_left _ (List.mem_append_left _ (List.mem_append_left _ (List.mem_append_left _ (List.mem_of_getElem? (i := 23) rfl))))))) (am_cons (List.mem_cons_of_mem _ (List.mem_append_left _ (List.mem_append_left _ (List.mem_append_left _ (List.mem_append_left _ (List.mem_append_right _ (List.mem_of_getElem? (i := 0) rfl))))))) (am_cons (List.mem_cons_of_mem _ (List.mem_append_left _ (List.mem_append_left _ (List.mem_append_left _ (List.mem_append_left _ (List.mem_append_right _ (List.mem_of_getElem? (i := 1) rfl))))))) (am_cons (List.mem_cons_of_mem _ (List.mem_append_left _ (List.mem_append_left _ (List.mem_append_left _ (List.mem_append_left _ (List.mem_append_left _ (List.mem_of_getElem? (i := 21) rfl))))))) (am_cons (List.mem_cons_of_mem _ (List.mem_append_left _ (List.mem_append_left _ (List.mem_append_left _ (List.mem_append_left _ (List.mem_append_right _ (List.mem_of_getElem? (i := 2) rfl))))))) (am_cons (List.mem_cons_of_mem _ (List.mem_append_left _ (List.mem_append_left _ (List.mem_append_left _ (List.mem_append_left _ (List.mem_append_right _ (List.mem_of_getElem? (i := 3) rfl))))))) (am_cons (List.mem_cons_of_mem _ (List.mem_append_left _ (List.mem_append_left _ (List.mem_append_left _ (List.mem_append_left _ (List.mem_append_right _ (List.mem_of_getElem? (i := 4) rfl))))))) (am_cons (List.mem_cons_of_mem _ (List.mem_append_left _ (List.mem_append_left _ (List.mem_append_left _ (List.mem_append_left _ (List.mem_append_right _ (List.mem_of_getElem? (i := 5) rfl))))))) (am_cons (List.mem_cons_of_mem _ (List.mem_append_left _ (List.mem_append_left _ (List.mem_append_left _ (List.mem_append_left _ (List.mem_append_right _ (List.mem_of_getElem? (i := 6) rfl))))))) (am_cons (List.mem_cons_of_mem _ (List.mem_append_left _ (List.mem_append_left _ (List.mem_append_left _ (List.mem_append_left _ (List.mem_append_right _ (List.mem_of_getElem? (i := 7) rfl))))))) (am_cons (List.mem_cons_of_mem _ (List.mem_append_left _ (List.mem_append_left _ (List.mem_append_left _ (List.mem_append_left _ (List.mem_append_right _ (List.mem_of_getElem? (i := 8) rfl))))))) (am_cons (List.mem_cons_of_mem _ (List.mem_append_left _ (List.mem_append_left _ (List.mem_append_left _ (List.mem_append_left _ (List.mem_append_right _ (List.mem_of_getElem? (i := 9) rfl))))))) (am_cons (List.mem_cons_of_mem _ (List.mem_append_left _ (List.mem_append_left _ (List.mem_append_left _ (List.mem_append_left _ (List.mem_append_right _ (List.mem_of_getElem? (i := 10) rfl))))))) (am_cons (List.mem_cons_of_mem _ (List.mem_append_left _ (List.mem_append_left _ (List.mem_append_left _ (List.mem_append_left _ (List.mem_append_right _ (List.mem_of_getElem? (i := 11) rfl))))))) am_nil)))))))))))))) (fun _ h => List.mem_cons_of_mem _ (List.mem_append_left _ (List.mem_append_right _ (h))))) (fun _ h => List.mem_cons_of_mem _ (List.mem_append_right _ (h))))) (by decide +kernel)
set_option maxRecDepth 20000 in
theorem gX0_gather_X1_explainedBy : GoodIn wsX0_gather (wsV RX0 58 RX1 yX1_explainedBy wsX1_explainedBy) := goodIn_app (goodIn_sub (am_cons (List.mem_cons_of_mem _ (List.mem_append_left _ (List.mem_append_left _ (List.mem_append_left _ (List.mem_append_left _ (List.mem_append_right _ (List.mem_of_getElem? (i := 12) rfl))))))) (am_cons (List.mem_cons_of_mem _ (List.mem_append_left _ (List.mem_append_left _ (List.mem_append_left _ (List.mem_append_left _ (List.mem_append_right _ (List.mem_of_getElem? (i := 13) rfl))))))) (am_cons (List.mem_cons_of_mem _ (List.mem_append_left _ (List.mem_append_left _ (List.mem_append_left _ (List.mem_append_left _ (List.mem_append_right _ (List.mem_of_getElem? (i := 14) rfl))))))) (am_cons (List.mem_cons_of_mem _ (List.mem_append_left _ (List.mem_append_left _ (List.mem_append_left _ (List.mem_append_left _ (List.mem_append_left _ (List.mem_of_getElem? (i := 21) rfl))))))) am_nil)))) (by decide +kernel)) ggX0_gather_X1_explainedBy
theorem dX0_gather_0 : decode cX0_gather 0 = .ok (.aload_n 0, 1) := by decide +kernel
theorem dX0_gather_1 : decode cX0_gather 1 = .ok (.iconst 0, 1) := by decide +kernel
theorem dX0_gather_2 : decode cX0_gather 2 = .ok (.putfield 39, 3) := by decide +kernel
theorem dX0_gather_5 : decode cX0_gather 5 = .ok (.aload_n 0, 1) := by decide +kernel
theorem dX0_gather_6 : decode cX0_gather 6 = .ok (.iconst 0, 1) := by decide +kernel
theorem dX0_gather_7 : decode cX0_gather 7 = .ok (.putfield 43, 3) := by decide +kernel
theorem dX0_gather_10 : decode cX0_gather 10 = .ok (.iconst 0, 1) := by decide +kernel
theorem dX0_gather_11 : decode cX0_gather 11 = .ok (.istore_n 3, 1) := by decide +kernel
theorem dX0_gather_12 : decode cX0_gather 12 = .ok (.iload_n 3, 1) := by decide +kernel
theorem dX0_gather_13 : decode cX0_gather 13 = .ok (.bipush 39, 2) := by decide +kernel
theorem dX0_gather_15 : decode cX0_gather 15 = .ok (.if_icmp .ge 83, 3) := by decide +kernel
theorem dX0_gather_18 : decode cX0_gather 18 = .ok (.aload_n 1, 1) := by decide +kernel
theorem dX0_gather_19 : decode cX0_gather 19 = .ok (.iload_n 3, 1) := by decide +kernel
theorem dX0_gather_20 : decode cX0_gather 20 = .ok (.invokevirtual 46, 3) := by decide +kernel
theorem dX0_gather_23 : decode cX0_gather 23 = .ok (.astore 4, 2) := by decide +kernel
theorem dX0_gather_25 : decode cX0_gather 25 = .ok (.aload 4, 2) := by decide +kernel
theorem dX0_gather_27 : decode cX0_gather 27 = .ok (.ifnull 65, 3) := by decide +kernel
theorem dX0_gather_30 : decode cX0_gather 30 = .ok (.aload_n 2, 1) := by decide +kernel
theorem dX0_gather_31 : decode cX0_gather 31 = .ok (.aload 4, 2) := by decide +kernel
theorem dX0_gather_33 : decode cX0_gather 33 = .ok (.invokevirtual 52, 3) := by decide +kernel
theorem dX0_gather_36 : decode cX0_gather 36 = .ok (.ifCond .eq 56, 3) := by decide +kernel
theorem dX0_gather_39 : decode cX0_gather 39 = .ok (.aload_n 0, 1) := by decide +kernel
theorem dX0_gather_40 : decode cX0_gather 40 = .ok (.getfield 9, 3) := by decide +kernel
theorem dX0_gather_43 : decode cX0_gather 43 = .ok (.aload_n 0, 1) := by decide +kernel
theorem dX0_gather_44 : decode cX0_gather 44 = .ok (.getfield 39, 3) := by decide +kernel
theorem dX0_gather_47 : decode cX0_gather 47 = .ok (.iload_n 3, 1) := by decide +kernel
theorem dX0_gather_48 : decode cX0_gather 48 = .ok (.iastore, 1) := by decide +kernel
theorem dX0_gather_49 : decode cX0_gather 49 = .ok (.aload_n 0, 1) := by decide +kernel
theorem dX0_gather_50 : decode cX0_gather 50 = .ok (.getfield 15, 3) := by decide +kernel
theorem dX0_gather_53 : decode cX0_gather 53 = .ok (.aload_n 0, 1) := by decide +kernel
theorem dX0_gather_54 : decode cX0_gather 54 = .ok (.getfield 39, 3) := by decide +kernel
theorem dX0_gather_57 : decode cX0_gather 57 = .ok (.aload_n 2, 1) := by decide +kernel
theorem dX0_gather_58 : decode cX0_gather 58 = .ok (.aload 4, 2) := by decide +kernel
theorem dX0_gather_60 : decode cX0_gather 60 = .ok (.invokevirtual 58, 3) := by decide +kernel
theorem dX0_gather_63 : decode cX0_gather 63 = .ok (.iastore, 1) := by decide +kernel
theorem dX0_gather_64 : decode cX0_gather 64 = .ok (.aload_n 0, 1) := by decide +kernel
theorem dX0_gather_65 : decode cX0_gather 65 = .ok (.dup, 1) := by decide +kernel
theorem dX0_gather_66 : decode cX0_gather 66 = .ok (.getfield 43, 3) := by decide +kernel
theorem dX0_gather_69 : decode cX0_gather 69 = .ok (.aload_n 0, 1) := by decide +kernel
theorem dX0_gather_70 : decode cX0_gather 70 = .ok (.getfield 15, 3) := by decide +kernel
theorem dX0_gather_73 : decode cX0_gather 73 = .ok (.aload_n 0, 1) := by decide +kernel
theorem dX0_gather_74 : decode cX0_gather 74 = .ok (.getfield 39, 3) := by decide +kernel
theorem dX0_gather_77 : decode cX0_gather 77 = .ok (.iaload, 1) := by decide +kernel
theorem dX0_gather_78 : decode cX0_gather 78 = .ok (.ior, 1) := by decide +kernel
theorem dX0_gather_79 : decode cX0_gather 79 = .ok (.putfield 43, 3) := by decide +kernel
theorem dX0_gather_82 : decode cX0_gather 82 = .ok (.aload_n 0, 1) := by decide +kernel
theorem dX0_gather_83 : decode cX0_gather 83 = .ok (.dup, 1) := by decide +kernel
theorem dX0_gather_84 : decode cX0_gather 84 = .ok (.getfield 39, 3) := by decide +kernel
theorem dX0_gather_87 : decode cX0_gather 87 = .ok (.iconst 1, 1) := by decide +kernel
theorem dX0_gather_88 : decode cX0_gather 88 = .ok (.iadd, 1) := by decide +kernel
theorem dX0_gather_89 : decode cX0_gather 89 = .ok (.putfield 39, 3) := by decide +kernel
theorem dX0_gather_92 : decode cX0_gather 92 = .ok (.iinc 3 1, 3) := by decide +kernel
theorem dX0_gather_95 : decode cX0_gather 95 = .ok (.goto (-83), 3) := by decide +kernel
theorem dX0_gather_98 : decode cX0_gather 98 = .ok (.return_, 1) := by decide +kernel
set_option maxRecDepth 20000 in
theorem ggX0_countFewest_X0_fewestFor : GoodIn wsX0_countFewest wsX0_fewestFor := goodIn_sub (am_cons (List.mem_cons_of_mem _ (List.mem_append_left _ (List.mem_of_getElem? (i := 6) rfl))) (am_app (am_cons (List.mem_cons_of_mem _ (List.mem_append_left _ (List.mem_of_getElem? (i := 7) rfl))) (am_cons (List.mem_cons_of_mem _ (List.mem_append_left _ (List.mem_of_getElem? (i := 8) rfl))) (am_cons (List.mem_cons_of_mem _ (List.mem_append_left _ (List.mem_of_getElem? (i := 0) rfl))) (am_cons (List.mem_cons_of_mem _ (List.mem_append_left _ (List.mem_of_getElem? (i := 9) rfl))) (am_cons (List.mem_cons_of_mem _ (List.mem_append_left _ (List.mem_of_getElem? (i := 10) rfl))) (am_cons (List.mem_cons_of_mem _ (List.mem_append_left _ (List.mem_of_getElem? (i := 11) rfl))) (am_cons (List.mem_cons_of_mem _ (List.mem_append_left _ (List.mem_of_getElem? (i := 12) rfl))) am_nil))))))) (fun _ h => List.mem_cons_of_mem _ (List.mem_append_right _ (h))))) (by decide +kernel)
set_option maxRecDepth 20000 in
theorem gX0_countFewest_X0_fewestFor : GoodIn wsX0_countFewest (wsV RX0 62 RX0 yX0_fewestFor wsX0_fewestFor) := goodIn_app (goodIn_sub (am_cons (List.mem_cons_of_mem _ (List.mem_append_left _ (List.mem_of_getElem? (i := 2) rfl))) (am_cons (List.mem_cons_of_mem _ (List.mem_append_left _ (List.mem_of_getElem? (i := 3) rfl))) (am_cons (List.mem_cons_of_mem _ (List.mem_append_left _ (List.mem_of_getElem? (i := 4) rfl))) (am_cons (List.mem_cons_of_mem _ (List.mem_append_left _ (List.mem_of_getElem? (i := 5) rfl))) am_nil)))) (by decide +kernel)) ggX0_countFewest_X0_fewestFor
theorem dX0_countFewest_0 : decode cX0_countFewest 0 = .ok (.aload_n 0, 1) := by decide +kernel
theorem dX0_countFewest_1 : decode cX0_countFewest 1 = .ok (.getfield 18, 3) := by decide +kernel
theorem dX0_countFewest_4 : decode cX0_countFewest 4 = .ok (.iconst 0, 1) := by decide +kernel
theorem dX0_countFewest_5 : decode cX0_countFewest 5 = .ok (.iconst 0, 1) := by decide +kernel
theorem dX0_countFewest_6 : decode cX0_countFewest 6 = .ok (.bastore, 1) := by decide +kernel
theorem dX0_countFewest_7 : decode cX0_countFewest 7 = .ok (.iconst 1, 1) := by decide +kernel
theorem dX0_countFewest_8 : decode cX0_countFewest 8 = .ok (.istore_n 1, 1) := by decide +kernel
theorem dX0_countFewest_9 : decode cX0_countFewest 9 = .ok (.iload_n 1, 1) := by decide +kernel
theorem dX0_countFewest_10 : decode cX0_countFewest 10 = .ok (.aload_n 0, 1) := by decide +kernel
theorem dX0_countFewest_11 : decode cX0_countFewest 11 = .ok (.getfield 43, 3) := by decide +kernel
theorem dX0_countFewest_14 : decode cX0_countFewest 14 = .ok (.if_icmp .gt 41, 3) := by decide +kernel
theorem dX0_countFewest_17 : decode cX0_countFewest 17 = .ok (.iload_n 1, 1) := by decide +kernel
theorem dX0_countFewest_18 : decode cX0_countFewest 18 = .ok (.aload_n 0, 1) := by decide +kernel
theorem dX0_countFewest_19 : decode cX0_countFewest 19 = .ok (.getfield 18, 3) := by decide +kernel
theorem dX0_countFewest_22 : decode cX0_countFewest 22 = .ok (.arraylength, 1) := by decide +kernel
theorem dX0_countFewest_23 : decode cX0_countFewest 23 = .ok (.if_icmp .ge 32, 3) := by decide +kernel
theorem dX0_countFewest_26 : decode cX0_countFewest 26 = .ok (.iload_n 1, 1) := by decide +kernel
theorem dX0_countFewest_27 : decode cX0_countFewest 27 = .ok (.aload_n 0, 1) := by decide +kernel
theorem dX0_countFewest_28 : decode cX0_countFewest 28 = .ok (.getfield 43, 3) := by decide +kernel
theorem dX0_countFewest_31 : decode cX0_countFewest 31 = .ok (.iconst (-1), 1) := by decide +kernel
theorem dX0_countFewest_32 : decode cX0_countFewest 32 = .ok (.ixor, 1) := by decide +kernel
theorem dX0_countFewest_33 : decode cX0_countFewest 33 = .ok (.iand, 1) := by decide +kernel
theorem dX0_countFewest_34 : decode cX0_countFewest 34 = .ok (.ifCond .ne 15, 3) := by decide +kernel
theorem dX0_countFewest_37 : decode cX0_countFewest 37 = .ok (.aload_n 0, 1) := by decide +kernel
theorem dX0_countFewest_38 : decode cX0_countFewest 38 = .ok (.getfield 18, 3) := by decide +kernel
theorem dX0_countFewest_41 : decode cX0_countFewest 41 = .ok (.iload_n 1, 1) := by decide +kernel
theorem dX0_countFewest_42 : decode cX0_countFewest 42 = .ok (.aload_n 0, 1) := by decide +kernel
theorem dX0_countFewest_43 : decode cX0_countFewest 43 = .ok (.iload_n 1, 1) := by decide +kernel
theorem dX0_countFewest_44 : decode cX0_countFewest 44 = .ok (.invokevirtual 62, 3) := by decide +kernel
theorem dX0_countFewest_47 : decode cX0_countFewest 47 = .ok (.i2b, 1) := by decide +kernel
theorem dX0_countFewest_48 : decode cX0_countFewest 48 = .ok (.bastore, 1) := by decide +kernel
theorem dX0_countFewest_49 : decode cX0_countFewest 49 = .ok (.iinc 1 1, 3) := by decide +kernel
theorem dX0_countFewest_52 : decode cX0_countFewest 52 = .ok (.goto (-43), 3) := by decide +kernel
theorem dX0_countFewest_55 : decode cX0_countFewest 55 = .ok (.return_, 1) := by decide +kernel
theorem dX0_fewestFor_0 : decode cX0_fewestFor 0 = .ok (.iload_n 1, 1) := by decide +kernel
theorem dX0_fewestFor_1 : decode cX0_fewestFor 1 = .ok (.iload_n 1, 1) := by decide +kernel
theorem dX0_fewestFor_2 : decode cX0_fewestFor 2 = .ok (.ineg, 1) := by decide +kernel
theorem dX0_fewestFor_3 : decode cX0_fewestFor 3 = .ok (.iand, 1) := by decide +kernel
theorem dX0_fewestFor_4 : decode cX0_fewestFor 4 = .ok (.istore_n 2, 1) := by decide +kernel
theorem dX0_fewestFor_5 : decode cX0_fewestFor 5 = .ok (.bipush 12, 2) := by decide +kernel
theorem dX0_fewestFor_7 : decode cX0_fewestFor 7 = .ok (.istore_n 3, 1) := by decide +kernel
theorem dX0_fewestFor_8 : decode cX0_fewestFor 8 = .ok (.iconst 0, 1) := by decide +kernel
theorem dX0_fewestFor_9 : decode cX0_fewestFor 9 = .ok (.istore 4, 2) := by decide +kernel
theorem dX0_fewestFor_11 : decode cX0_fewestFor 11 = .ok (.iload 4, 2) := by decide +kernel
theorem dX0_fewestFor_13 : decode cX0_fewestFor 13 = .ok (.aload_n 0, 1) := by decide +kernel
theorem dX0_fewestFor_14 : decode cX0_fewestFor 14 = .ok (.getfield 39, 3) := by decide +kernel
theorem dX0_fewestFor_17 : decode cX0_fewestFor 17 = .ok (.if_icmp .ge 44, 3) := by decide +kernel
theorem dX0_fewestFor_20 : decode cX0_fewestFor 20 = .ok (.aload_n 0, 1) := by decide +kernel
theorem dX0_fewestFor_21 : decode cX0_fewestFor 21 = .ok (.getfield 15, 3) := by decide +kernel
theorem dX0_fewestFor_24 : decode cX0_fewestFor 24 = .ok (.iload 4, 2) := by decide +kernel
theorem dX0_fewestFor_26 : decode cX0_fewestFor 26 = .ok (.iaload, 1) := by decide +kernel
theorem dX0_fewestFor_27 : decode cX0_fewestFor 27 = .ok (.iload_n 2, 1) := by decide +kernel
theorem dX0_fewestFor_28 : decode cX0_fewestFor 28 = .ok (.iand, 1) := by decide +kernel
theorem dX0_fewestFor_29 : decode cX0_fewestFor 29 = .ok (.ifCond .eq 26, 3) := by decide +kernel
theorem dX0_fewestFor_32 : decode cX0_fewestFor 32 = .ok (.iload_n 3, 1) := by decide +kernel
theorem dX0_fewestFor_33 : decode cX0_fewestFor 33 = .ok (.iconst 1, 1) := by decide +kernel
theorem dX0_fewestFor_34 : decode cX0_fewestFor 34 = .ok (.aload_n 0, 1) := by decide +kernel
theorem dX0_fewestFor_35 : decode cX0_fewestFor 35 = .ok (.getfield 18, 3) := by decide +kernel
theorem dX0_fewestFor_38 : decode cX0_fewestFor 38 = .ok (.iload_n 1, 1) := by decide +kernel
theorem dX0_fewestFor_39 : decode cX0_fewestFor 39 = .ok (.aload_n 0, 1) := by decide +kernel
theorem dX0_fewestFor_40 : decode cX0_fewestFor 40 = .ok (.getfield 15, 3) := by decide +kernel
theorem dX0_fewestFor_43 : decode cX0_fewestFor 43 = .ok (.iload 4, 2) := by decide +kernel
theorem dX0_fewestFor_45 : decode cX0_fewestFor 45 = .ok (.iaload, 1) := by decide +kernel
theorem dX0_fewestFor_46 : decode cX0_fewestFor 46 = .ok (.iconst (-1), 1) := by decide +kernel
theorem dX0_fewestFor_47 : decode cX0_fewestFor 47 = .ok (.ixor, 1) := by decide +kernel
theorem dX0_fewestFor_48 : decode cX0_fewestFor 48 = .ok (.iand, 1) := by decide +kernel
theorem dX0_fewestFor_49 : decode cX0_fewestFor 49 = .ok (.baload, 1) := by decide +kernel
theorem dX0_fewestFor_50 : decode cX0_fewestFor 50 = .ok (.iadd, 1) := by decide +kernel
theorem dX0_fewestFor_51 : decode cX0_fewestFor 51 = .ok (.invokestatic 66, 3) := by decide +kernel
theorem dX0_fewestFor_54 : decode cX0_fewestFor 54 = .ok (.istore_n 3, 1) := by decide +kernel
theorem dX0_fewestFor_55 : decode cX0_fewestFor 55 = .ok (.iinc 4 1, 3) := by decide +kernel
theorem dX0_fewestFor_58 : decode cX0_fewestFor 58 = .ok (.goto (-47), 3) := by decide +kernel
theorem dX0_fewestFor_61 : decode cX0_fewestFor 61 = .ok (.iload_n 3, 1) := by decide +kernel
theorem dX0_fewestFor_62 : decode cX0_fewestFor 62 = .ok (.ireturn, 1) := by decide +kernel
theorem dX0_choose_0 : decode cX0_choose 0 = .ok (.aload_n 0, 1) := by decide +kernel
theorem dX0_choose_1 : decode cX0_choose 1 = .ok (.iconst 0, 1) := by decide +kernel
theorem dX0_choose_2 : decode cX0_choose 2 = .ok (.putfield 72, 3) := by decide +kernel
theorem dX0_choose_5 : decode cX0_choose 5 = .ok (.aload_n 0, 1) := by decide +kernel
theorem dX0_choose_6 : decode cX0_choose 6 = .ok (.getfield 43, 3) := by decide +kernel
theorem dX0_choose_9 : decode cX0_choose 9 = .ok (.istore_n 1, 1) := by decide +kernel
theorem dX0_choose_10 : decode cX0_choose 10 = .ok (.iconst 0, 1) := by decide +kernel
theorem dX0_choose_11 : decode cX0_choose 11 = .ok (.istore_n 2, 1) := by decide +kernel
theorem dX0_choose_12 : decode cX0_choose 12 = .ok (.iload_n 2, 1) := by decide +kernel
theorem dX0_choose_13 : decode cX0_choose 13 = .ok (.aload_n 0, 1) := by decide +kernel
theorem dX0_choose_14 : decode cX0_choose 14 = .ok (.getfield 39, 3) := by decide +kernel
theorem dX0_choose_17 : decode cX0_choose 17 = .ok (.if_icmp .ge 77, 3) := by decide +kernel
theorem dX0_choose_20 : decode cX0_choose 20 = .ok (.iload_n 1, 1) := by decide +kernel
theorem dX0_choose_21 : decode cX0_choose 21 = .ok (.ifCond .eq 73, 3) := by decide +kernel
theorem dX0_choose_24 : decode cX0_choose 24 = .ok (.aload_n 0, 1) := by decide +kernel
theorem dX0_choose_25 : decode cX0_choose 25 = .ok (.getfield 72, 3) := by decide +kernel
theorem dX0_choose_28 : decode cX0_choose 28 = .ok (.bipush 12, 2) := by decide +kernel
theorem dX0_choose_30 : decode cX0_choose 30 = .ok (.if_icmp .ge 64, 3) := by decide +kernel
theorem dX0_choose_33 : decode cX0_choose 33 = .ok (.iload_n 1, 1) := by decide +kernel
theorem dX0_choose_34 : decode cX0_choose 34 = .ok (.aload_n 0, 1) := by decide +kernel
theorem dX0_choose_35 : decode cX0_choose 35 = .ok (.getfield 15, 3) := by decide +kernel
theorem dX0_choose_38 : decode cX0_choose 38 = .ok (.iload_n 2, 1) := by decide +kernel
theorem dX0_choose_39 : decode cX0_choose 39 = .ok (.iaload, 1) := by decide +kernel
theorem dX0_choose_40 : decode cX0_choose 40 = .ok (.iconst (-1), 1) := by decide +kernel
theorem dX0_choose_41 : decode cX0_choose 41 = .ok (.ixor, 1) := by decide +kernel
theorem dX0_choose_42 : decode cX0_choose 42 = .ok (.iand, 1) := by decide +kernel
theorem dX0_choose_43 : decode cX0_choose 43 = .ok (.istore_n 3, 1) := by decide +kernel
theorem dX0_choose_44 : decode cX0_choose 44 = .ok (.aload_n 0, 1) := by decide +kernel
theorem dX0_choose_45 : decode cX0_choose 45 = .ok (.getfield 18, 3) := by decide +kernel
theorem dX0_choose_48 : decode cX0_choose 48 = .ok (.iload_n 3, 1) := by decide +kernel
theorem dX0_choose_49 : decode cX0_choose 49 = .ok (.baload, 1) := by decide +kernel
theorem dX0_choose_50 : decode cX0_choose 50 = .ok (.iconst 1, 1) := by decide +kernel
theorem dX0_choose_51 : decode cX0_choose 51 = .ok (.iadd, 1) := by decide +kernel
theorem dX0_choose_52 : decode cX0_choose 52 = .ok (.aload_n 0, 1) := by decide +kernel
theorem dX0_choose_53 : decode cX0_choose 53 = .ok (.getfield 18, 3) := by decide +kernel
theorem dX0_choose_56 : decode cX0_choose 56 = .ok (.iload_n 1, 1) := by decide +kernel
theorem dX0_choose_57 : decode cX0_choose 57 = .ok (.baload, 1) := by decide +kernel
theorem dX0_choose_58 : decode cX0_choose 58 = .ok (.if_icmp .ne 30, 3) := by decide +kernel
theorem dX0_choose_61 : decode cX0_choose 61 = .ok (.aload_n 0, 1) := by decide +kernel
theorem dX0_choose_62 : decode cX0_choose 62 = .ok (.getfield 22, 3) := by decide +kernel
theorem dX0_choose_65 : decode cX0_choose 65 = .ok (.aload_n 0, 1) := by decide +kernel
theorem dX0_choose_66 : decode cX0_choose 66 = .ok (.getfield 72, 3) := by decide +kernel
theorem dX0_choose_69 : decode cX0_choose 69 = .ok (.aload_n 0, 1) := by decide +kernel
theorem dX0_choose_70 : decode cX0_choose 70 = .ok (.getfield 9, 3) := by decide +kernel
theorem dX0_choose_73 : decode cX0_choose 73 = .ok (.iload_n 2, 1) := by decide +kernel
theorem dX0_choose_74 : decode cX0_choose 74 = .ok (.iaload, 1) := by decide +kernel
theorem dX0_choose_75 : decode cX0_choose 75 = .ok (.iastore, 1) := by decide +kernel
theorem dX0_choose_76 : decode cX0_choose 76 = .ok (.aload_n 0, 1) := by decide +kernel
theorem dX0_choose_77 : decode cX0_choose 77 = .ok (.dup, 1) := by decide +kernel
theorem dX0_choose_78 : decode cX0_choose 78 = .ok (.getfield 72, 3) := by decide +kernel
theorem dX0_choose_81 : decode cX0_choose 81 = .ok (.iconst 1, 1) := by decide +kernel
theorem dX0_choose_82 : decode cX0_choose 82 = .ok (.iadd, 1) := by decide +kernel
theorem dX0_choose_83 : decode cX0_choose 83 = .ok (.putfield 72, 3) := by decide +kernel
theorem dX0_choose_86 : decode cX0_choose 86 = .ok (.iload_n 3, 1) := by decide +kernel
theorem dX0_choose_87 : decode cX0_choose 87 = .ok (.istore_n 1, 1) := by decide +kernel
theorem dX0_choose_88 : decode cX0_choose 88 = .ok (.iinc 2 1, 3) := by decide +kernel
theorem dX0_choose_91 : decode cX0_choose 91 = .ok (.goto (-79), 3) := by decide +kernel
theorem dX0_choose_94 : decode cX0_choose 94 = .ok (.return_, 1) := by decide +kernel
theorem dX1_init_0 : decode cX1_init 0 = .ok (.aload_n 0, 1) := by decide +kernel
theorem dX1_init_1 : decode cX1_init 1 = .ok (.invokespecial 3, 3) := by decide +kernel
theorem dX1_init_4 : decode cX1_init 4 = .ok (.aload_n 0, 1) := by decide +kernel
theorem dX1_init_5 : decode cX1_init 5 = .ok (.bipush 12, 2) := by decide +kernel
theorem dX1_init_7 : decode cX1_init 7 = .ok (.newarray .int, 2) := by decide +kernel
theorem dX1_init_9 : decode cX1_init 9 = .ok (.putfield 9, 3) := by decide +kernel
theorem dX1_init_12 : decode cX1_init 12 = .ok (.aload_n 0, 1) := by decide +kernel
theorem dX1_init_13 : decode cX1_init 13 = .ok (.bipush 12, 2) := by decide +kernel
theorem dX1_init_15 : decode cX1_init 15 = .ok (.newarray .int, 2) := by decide +kernel
