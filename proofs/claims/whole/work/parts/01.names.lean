/-! ===== BEGIN words of one list among another's, by their places ===== -/
theorem goodIn_r {big : List Cond} (ws : List Cond) (ps : List Nat) (hp : ws = ps.filterMap (fun i => big[i]?)) (h : ws.all goodWord = true) : GoodIn big ws := by
  intro w hw
  have h1 := List.all_eq_true.mp h w hw
  rw [hp] at hw
  obtain ⟨i, -, hi⟩ := List.mem_filterMap.mp hw
  have hm : w ∈ big := by first | exact List.mem_of_getElem? hi | exact List.getElem?_mem hi
  exact ⟨hm, good_of_word h1⟩
theorem goodIn_app {big a b : List Cond} (ha : GoodIn big a) (hb : GoodIn big b) : GoodIn big (a ++ b) := fun w h => (List.mem_append.mp h).elim (ha w) (hb w)
theorem goodIn_ca {big a b : List Cond} {c : Cond} (ha : GoodIn big (c :: a)) (hb : GoodIn big b) : GoodIn big (c :: (a ++ b)) := fun w h => (List.mem_cons.mp h).elim (fun e => ha w (List.mem_cons.mpr (Or.inl e))) (fun h => (List.mem_append.mp h).elim (fun h => ha w (List.mem_cons.mpr (Or.inr h))) (hb w))
theorem goodIn_sub {big ws : List Cond} (hm : ∀ w ∈ ws, w ∈ big) (h : ws.all goodWord = true) : GoodIn big ws := fun w hw => ⟨hm w hw, good_of_word (List.all_eq_true.mp h w hw)⟩
/-! ===== END ===== -/

/-! ===== BEGIN printed: names, fields, word lists, decode rows ===== -/
def RX0 : String := "EntryTable"
def TX0 : u_T := fun k => match k with
  | 0 => ("EntryTable", "keys", "I", true)
  | 1 => ("EntryTable", "width", "I", true)
  | 2 => ("EntryTable", "allBits", "J", true)
  | 3 => ("EntryTable", "kinds", "[I", true)
  | 4 => ("EntryTable", "draftValues", "[J", true)
  | 5 => ("EntryTable", "draftMasks", "[J", true)
  | 6 => ("EntryTable", "order", "[I", true)
  | 7 => ("EntryTable", "entries", "I", false)
  | 8 => ("EntryTable", "nextNumber", "I", false)
  | 9 => ("EntryTable", "misses", "I", false)
  | 10 => ("EntryTable", "numbers", "[I", true)
  | 11 => ("EntryTable", "priorities", "[I", true)
  | 12 => ("EntryTable", "prefixes", "[I", true)
  | 13 => ("EntryTable", "finds", "[I", true)
  | 14 => ("EntryTable", "values", "[J", true)
  | _ => ("EntryTable", "masks", "[J", true)
def tyX0 : Nat → FieldType := fun k => match k with
  | 0 => .int
  | 1 => .int
  | 2 => .long
  | 3 => .array .int
  | 4 => .array .long
  | 5 => .array .long
  | 6 => .array .int
  | 7 => .int
  | 8 => .int
  | 9 => .int
  | 10 => .array .int
  | 11 => .array .int
  | 12 => .array .int
  | 13 => .array .int
  | 14 => .array .long
  | _ => .array .long
abbrev wsX00 : List Cond := u_ws RX0 TX0 16
theorem nmX0 : ∀ a, a < 16 → ∀ b, b < 16 → a ≠ b → (TX0 a).2.1 ≠ (TX0 b).2.1 := by decide +kernel
theorem tyX0_ok : ∀ k, k < 16 → parseFieldDescriptor (TX0 k).2.2.1 = some (tyX0 k) := by decide +kernel
abbrev cX0_init : ByteArray := prog_1_method_1_code
def yX0_init : MethodName := ⟨RX0, "<init>", "(III)V"⟩
abbrev cX0_match : ByteArray := prog_1_method_2_code
def yX0_match : MethodName := ⟨RX0, "match", "(IJJ)I"⟩
abbrev cX0_insert : ByteArray := prog_1_method_3_code
def yX0_insert : MethodName := ⟨RX0, "insert", "(I)I"⟩
abbrev cX0_remove : ByteArray := prog_1_method_4_code
def yX0_remove : MethodName := ⟨RX0, "remove", "(I)I"⟩
abbrev cX0_find : ByteArray := prog_1_method_5_code
def yX0_find : MethodName := ⟨RX0, "find", "(JJJ)I"⟩
abbrev cX0_nth : ByteArray := prog_1_method_6_code
def yX0_nth : MethodName := ⟨RX0, "nth", "(I)I"⟩
abbrev cX0_hits : ByteArray := prog_1_method_7_code
def yX0_hits : MethodName := ⟨RX0, "hits", "(I)I"⟩
abbrev cX0_count : ByteArray := prog_1_method_8_code
def yX0_count : MethodName := ⟨RX0, "count", "(I)I"⟩
abbrev cX0_isDraftSound : ByteArray := prog_1_method_9_code
def yX0_isDraftSound : MethodName := ⟨RX0, "isDraftSound", "()Z"⟩
abbrev cX0_isDraftKeySound : ByteArray := prog_1_method_10_code
def yX0_isDraftKeySound : MethodName := ⟨RX0, "isDraftKeySound", "(I)Z"⟩
abbrev cX0_isNumber : ByteArray := prog_1_method_11_code
def yX0_isNumber : MethodName := ⟨RX0, "isNumber", "(J)Z"⟩
abbrev cX0_draftBits : ByteArray := prog_1_method_12_code
def yX0_draftBits : MethodName := ⟨RX0, "draftBits", "(I)J"⟩
abbrev cX0_draftPrefix : ByteArray := prog_1_method_13_code
def yX0_draftPrefix : MethodName := ⟨RX0, "draftPrefix", "()I"⟩
abbrev cX0_isDraftThere : ByteArray := prog_1_method_14_code
def yX0_isDraftThere : MethodName := ⟨RX0, "isDraftThere", "(I)Z"⟩
abbrev cX0_isDraftIn : ByteArray := prog_1_method_15_code
def yX0_isDraftIn : MethodName := ⟨RX0, "isDraftIn", "(I)Z"⟩
abbrev cX0_rankForDraft : ByteArray := prog_1_method_16_code
def yX0_rankForDraft : MethodName := ⟨RX0, "rankForDraft", "(I)I"⟩
abbrev cX0_takeSlot : ByteArray := prog_1_method_17_code
def yX0_takeSlot : MethodName := ⟨RX0, "takeSlot", "(I)I"⟩
abbrev cX0_freeSlot : ByteArray := prog_1_method_18_code
def yX0_freeSlot : MethodName := ⟨RX0, "freeSlot", "(I)V"⟩
abbrev cX0_fillSlot : ByteArray := prog_1_method_19_code
def yX0_fillSlot : MethodName := ⟨RX0, "fillSlot", "(II)V"⟩
abbrev cX0_clearDraft : ByteArray := prog_1_method_20_code
def yX0_clearDraft : MethodName := ⟨RX0, "clearDraft", "()V"⟩
abbrev cX0_rankOf : ByteArray := prog_1_method_21_code
def yX0_rankOf : MethodName := ⟨RX0, "rankOf", "(I)I"⟩
abbrev cX0_fits : ByteArray := prog_1_method_22_code
def yX0_fits : MethodName := ⟨RX0, "fits", "(IIJ)Z"⟩
def RX1 : String := "EntryTableModel"
def TX1 : u_T := fun k => match k with
  | 0 => ("EntryTableModel", "keys", "I", true)
  | 1 => ("EntryTableModel", "width", "I", true)
  | 2 => ("EntryTableModel", "kind", "[I", true)
  | 3 => ("EntryTableModel", "number", "[I", true)
  | 4 => ("EntryTableModel", "priority", "[I", true)
  | 5 => ("EntryTableModel", "hits", "[I", true)
  | 6 => ("EntryTableModel", "value", "[J", true)
  | 7 => ("EntryTableModel", "mask", "[J", true)
  | 8 => ("EntryTableModel", "madeValue", "[J", true)
  | 9 => ("EntryTableModel", "madeMask", "[J", true)
  | 10 => ("EntryTableModel", "asked", "[J", true)
  | 11 => ("EntryTableModel", "count", "I", false)
  | 12 => ("EntryTableModel", "numbers", "I", false)
  | _ => ("EntryTableModel", "missed", "I", false)
def tyX1 : Nat → FieldType := fun k => match k with
  | 0 => .int
  | 1 => .int
  | 2 => .array .int
  | 3 => .array .int
  | 4 => .array .int
  | 5 => .array .int
  | 6 => .array .long
  | 7 => .array .long
  | 8 => .array .long
  | 9 => .array .long
  | 10 => .array .long
  | 11 => .int
  | 12 => .int
  | _ => .int
abbrev wsX10 : List Cond := u_ws RX1 TX1 14
theorem nmX1 : ∀ a, a < 14 → ∀ b, b < 14 → a ≠ b → (TX1 a).2.1 ≠ (TX1 b).2.1 := by decide +kernel
theorem tyX1_ok : ∀ k, k < 14 → parseFieldDescriptor (TX1 k).2.2.1 = some (tyX1 k) := by decide +kernel
abbrev cX1_init : ByteArray := prog_3_method_1_code
def yX1_init : MethodName := ⟨RX1, "<init>", "(III)V"⟩
abbrev cX1_match : ByteArray := prog_3_method_2_code
def yX1_match : MethodName := ⟨RX1, "match", "(IJJ)I"⟩
abbrev cX1_fits : ByteArray := prog_3_method_3_code
def yX1_fits : MethodName := ⟨RX1, "fits", "(J)Z"⟩
abbrev cX1_bits : ByteArray := prog_3_method_4_code
def yX1_bits : MethodName := ⟨RX1, "bits", "(J)J"⟩
abbrev cX1_good : ByteArray := prog_3_method_5_code
def yX1_good : MethodName := ⟨RX1, "good", "(I)Z"⟩
abbrev cX1_like : ByteArray := prog_3_method_6_code
def yX1_like : MethodName := ⟨RX1, "like", "(II)Z"⟩
abbrev cX1_insert : ByteArray := prog_3_method_7_code
def yX1_insert : MethodName := ⟨RX1, "insert", "(I)I"⟩
abbrev cX1_remove : ByteArray := prog_3_method_9_code
def yX1_remove : MethodName := ⟨RX1, "remove", "(I)I"⟩
def RJ9 : String := "java/lang/Math"
def TJ9 : u_T := fun k => match k with
  | _ => ("", "", "", false)
def tyJ9 : Nat → FieldType := fun k => match k with
  | _ => .int
abbrev wsJ90 : List Cond := u_ws RJ9 TJ9 0
theorem nmJ9 : ∀ a, a < 0 → ∀ b, b < 0 → a ≠ b → (TJ9 a).2.1 ≠ (TJ9 b).2.1 := by decide +kernel
theorem tyJ9_ok : ∀ k, k < 0 → parseFieldDescriptor (TJ9 k).2.2.1 = some (tyJ9 k) := by decide +kernel
abbrev cJ9_max_7cf53 : ByteArray := prog_4_method_65_code
def yJ9_max_7cf53 : MethodName := ⟨RJ9, "max", "(II)I"⟩
abbrev cJ9_min_7cf53 : ByteArray := prog_4_method_69_code
def yJ9_min_7cf53 : MethodName := ⟨RJ9, "min", "(II)I"⟩
def RJ10 : String := "java/lang/System"
def TJ10 : u_T := fun k => match k with
  | _ => ("", "", "", false)
def tyJ10 : Nat → FieldType := fun k => match k with
  | _ => .int
abbrev wsJ100 : List Cond := u_ws RJ10 TJ10 0
theorem nmJ10 : ∀ a, a < 0 → ∀ b, b < 0 → a ≠ b → (TJ10 a).2.1 ≠ (TJ10 b).2.1 := by decide +kernel
theorem tyJ10_ok : ∀ k, k < 0 → parseFieldDescriptor (TJ10 k).2.2.1 = some (tyJ10 k) := by decide +kernel
def RL : String := "EntryTableLaw"
abbrev cL_cell : ByteArray := method_2_code
def yL_cell : MethodName := ⟨RL, "cell", "([II)I"⟩
abbrev cL_law : ByteArray := code
def yL_law : MethodName := ⟨RL, "law", "([I)Z"⟩
def wsX0_init_r1 : List Cond := [Cond.methodLink RX0 1 objectInit, Cond.instanceMethod objectInit, Cond.code objectInit ⟨#[0xb1]⟩ 1 none, Cond.arrayClass .int, Cond.fieldLink RX0 9 "EntryTable" "kinds" "[I", Cond.arrayClass .long, Cond.fieldLink RX0 13 "EntryTable" "draftValues" "[J", Cond.fieldLink RX0 17 "EntryTable" "draftMasks" "[J", Cond.fieldLink RX0 20 "EntryTable" "order" "[I", Cond.fieldLink RX0 23 "EntryTable" "entries" "I", Cond.fieldLink RX0 27 "EntryTable" "nextNumber" "I", Cond.fieldLink RX0 30 "EntryTable" "misses" "I", Cond.fieldLink RX0 33 "EntryTable" "numbers" "[I", Cond.fieldLink RX0 36 "EntryTable" "priorities" "[I", Cond.fieldLink RX0 39 "EntryTable" "prefixes" "[I", Cond.fieldLink RX0 42 "EntryTable" "finds" "[I", Cond.fieldLink RX0 45 "EntryTable" "values" "[J", Cond.fieldLink RX0 48 "EntryTable" "masks" "[J", Cond.methodLink RX0 51 Lib.Math.min.name, Cond.static Lib.Math.min.name, Cond.initialized "java/lang/Math", Cond.code Lib.Math.min.name Lib.Math.min.code 2 (some .int), Cond.methodLink RX0 57 Lib.Math.max.name, Cond.static Lib.Math.max.name]
def wsX0_init_r2 : List Cond := [Cond.code Lib.Math.max.name Lib.Math.max.code 2 (some .int), Cond.fieldLink RX0 60 "EntryTable" "keys" "I", Cond.fieldLink RX0 63 "EntryTable" "width" "I", Cond.fieldLink RX0 66 "EntryTable" "allBits" "J"]
def wsX0_init : List Cond := .code yX0_init cX0_init 8 none :: ((wsX0_init_r1 ++ wsX0_init_r2) ++ wsX00)
def wsX0_match : List Cond := .code yX0_match cX0_match 6 (some .int) :: ([.fieldLink RX0 13 "EntryTable" "draftValues" "[J", .fieldLink RX0 17 "EntryTable" "draftMasks" "[J"] ++ wsX00)
def wsX0_isNumber : List Cond := .code yX0_isNumber cX0_isNumber 3 (some .boolean) :: ([.fieldLink RX0 66 "EntryTable" "allBits" "J"] ++ wsX00)
def wsX0_draftBits : List Cond := .code yX0_draftBits cX0_draftBits 2 (some .long) :: ([.fieldLink RX0 9 "EntryTable" "kinds" "[I", .fieldLink RX0 66 "EntryTable" "allBits" "J", .fieldLink RX0 17 "EntryTable" "draftMasks" "[J"] ++ wsX00)
def wsX0_isDraftKeySound : List Cond := .code yX0_isDraftKeySound cX0_isDraftKeySound 3 (some .boolean) :: ([.fieldLink RX0 13 "EntryTable" "draftValues" "[J", .fieldLink RX0 9 "EntryTable" "kinds" "[I", .fieldLink RX0 17 "EntryTable" "draftMasks" "[J", .fieldLink RX0 63 "EntryTable" "width" "I", .constantLong RX0 114 (-1), .methodLink RX0 106 yX0_isNumber, .instanceMethod yX0_isNumber, .selects RX0 yX0_isNumber yX0_isNumber, .initialized RX0, .code yX0_isNumber cX0_isNumber 3 (some .boolean), .fieldLink RX0 66 "EntryTable" "allBits" "J", .methodLink RX0 110 yX0_draftBits, .instanceMethod yX0_draftBits, .selects RX0 yX0_draftBits yX0_draftBits, .code yX0_draftBits cX0_draftBits 2 (some .long)] ++ wsX00)
def wsX0_isDraftSound : List Cond := .code yX0_isDraftSound cX0_isDraftSound 2 (some .boolean) :: ([.fieldLink RX0 60 "EntryTable" "keys" "I", .methodLink RX0 103 yX0_isDraftKeySound, .instanceMethod yX0_isDraftKeySound, .selects RX0 yX0_isDraftKeySound yX0_isDraftKeySound, .initialized RX0, .code yX0_isDraftKeySound cX0_isDraftKeySound 3 (some .boolean), .fieldLink RX0 13 "EntryTable" "draftValues" "[J", .fieldLink RX0 9 "EntryTable" "kinds" "[I", .fieldLink RX0 17 "EntryTable" "draftMasks" "[J", .fieldLink RX0 63 "EntryTable" "width" "I", .constantLong RX0 114 (-1), .methodLink RX0 106 yX0_isNumber, .instanceMethod yX0_isNumber, .selects RX0 yX0_isNumber yX0_isNumber, .code yX0_isNumber cX0_isNumber 3 (some .boolean), .fieldLink RX0 66 "EntryTable" "allBits" "J", .methodLink RX0 110 yX0_draftBits, .instanceMethod yX0_draftBits, .selects RX0 yX0_draftBits yX0_draftBits, .code yX0_draftBits cX0_draftBits 2 (some .long)] ++ wsX00)
def wsX0_isDraftIn : List Cond := .code yX0_isDraftIn cX0_isDraftIn 4 (some .boolean) :: ([.fieldLink RX0 60 "EntryTable" "keys" "I", .fieldLink RX0 45 "EntryTable" "values" "[J", .fieldLink RX0 13 "EntryTable" "draftValues" "[J", .fieldLink RX0 48 "EntryTable" "masks" "[J", .methodLink RX0 110 yX0_draftBits, .instanceMethod yX0_draftBits, .selects RX0 yX0_draftBits yX0_draftBits, .initialized RX0, .code yX0_draftBits cX0_draftBits 2 (some .long), .fieldLink RX0 9 "EntryTable" "kinds" "[I", .fieldLink RX0 66 "EntryTable" "allBits" "J", .fieldLink RX0 17 "EntryTable" "draftMasks" "[J"] ++ wsX00)
def wsX0_isDraftThere : List Cond := .code yX0_isDraftThere cX0_isDraftThere 4 (some .boolean) :: ([.fieldLink RX0 23 "EntryTable" "entries" "I", .fieldLink RX0 20 "EntryTable" "order" "[I", .fieldLink RX0 36 "EntryTable" "priorities" "[I", .methodLink RX0 116 yX0_isDraftIn, .instanceMethod yX0_isDraftIn, .selects RX0 yX0_isDraftIn yX0_isDraftIn, .initialized RX0, .code yX0_isDraftIn cX0_isDraftIn 4 (some .boolean), .fieldLink RX0 60 "EntryTable" "keys" "I", .fieldLink RX0 45 "EntryTable" "values" "[J", .fieldLink RX0 13 "EntryTable" "draftValues" "[J", .fieldLink RX0 48 "EntryTable" "masks" "[J", .methodLink RX0 110 yX0_draftBits, .instanceMethod yX0_draftBits, .selects RX0 yX0_draftBits yX0_draftBits, .code yX0_draftBits cX0_draftBits 2 (some .long), .fieldLink RX0 9 "EntryTable" "kinds" "[I", .fieldLink RX0 66 "EntryTable" "allBits" "J", .fieldLink RX0 17 "EntryTable" "draftMasks" "[J"] ++ wsX00)
def wsX0_draftPrefix : List Cond := .code yX0_draftPrefix cX0_draftPrefix 2 (some .int) :: ([.fieldLink RX0 60 "EntryTable" "keys" "I", .fieldLink RX0 9 "EntryTable" "kinds" "[I", .fieldLink RX0 17 "EntryTable" "draftMasks" "[J"] ++ wsX00)
def wsX0_rankForDraft : List Cond := .code yX0_rankForDraft cX0_rankForDraft 5 (some .int) :: ([.fieldLink RX0 23 "EntryTable" "entries" "I", .fieldLink RX0 20 "EntryTable" "order" "[I", .fieldLink RX0 39 "EntryTable" "prefixes" "[I", .fieldLink RX0 36 "EntryTable" "priorities" "[I", .methodLink RX0 119 yX0_draftPrefix, .instanceMethod yX0_draftPrefix, .selects RX0 yX0_draftPrefix yX0_draftPrefix, .initialized RX0, .code yX0_draftPrefix cX0_draftPrefix 2 (some .int), .fieldLink RX0 60 "EntryTable" "keys" "I", .fieldLink RX0 9 "EntryTable" "kinds" "[I", .fieldLink RX0 17 "EntryTable" "draftMasks" "[J"] ++ wsX00)
def wsX0_takeSlot : List Cond := .code yX0_takeSlot cX0_takeSlot 3 (some .int) :: ([.fieldLink RX0 20 "EntryTable" "order" "[I", .fieldLink RX0 23 "EntryTable" "entries" "I", .methodLink RX0 123 arraycopyName, .native arraycopyName, .static arraycopyName, .initialized "java/lang/System"] ++ wsX00)
def wsX0_fillSlot : List Cond := .code yX0_fillSlot cX0_fillSlot 4 none :: ([.fieldLink RX0 33 "EntryTable" "numbers" "[I", .fieldLink RX0 27 "EntryTable" "nextNumber" "I", .fieldLink RX0 36 "EntryTable" "priorities" "[I", .fieldLink RX0 39 "EntryTable" "prefixes" "[I", .fieldLink RX0 42 "EntryTable" "finds" "[I", .fieldLink RX0 60 "EntryTable" "keys" "I", .fieldLink RX0 45 "EntryTable" "values" "[J", .fieldLink RX0 13 "EntryTable" "draftValues" "[J", .fieldLink RX0 48 "EntryTable" "masks" "[J", .methodLink RX0 119 yX0_draftPrefix, .instanceMethod yX0_draftPrefix, .selects RX0 yX0_draftPrefix yX0_draftPrefix, .initialized RX0, .code yX0_draftPrefix cX0_draftPrefix 2 (some .int), .fieldLink RX0 9 "EntryTable" "kinds" "[I", .fieldLink RX0 17 "EntryTable" "draftMasks" "[J", .methodLink RX0 110 yX0_draftBits, .instanceMethod yX0_draftBits, .selects RX0 yX0_draftBits yX0_draftBits, .code yX0_draftBits cX0_draftBits 2 (some .long), .fieldLink RX0 66 "EntryTable" "allBits" "J"] ++ wsX00)
def wsX0_clearDraft : List Cond := .code yX0_clearDraft cX0_clearDraft 2 none :: ([.fieldLink RX0 13 "EntryTable" "draftValues" "[J", .fieldLink RX0 17 "EntryTable" "draftMasks" "[J"] ++ wsX00)
def wsX0_insert_r1 : List Cond := [Cond.fieldLink RX0 23 "EntryTable" "entries" "I", Cond.fieldLink RX0 33 "EntryTable" "numbers" "[I", Cond.methodLink RX0 70 yX0_isDraftSound, Cond.instanceMethod yX0_isDraftSound, Cond.selects RX0 yX0_isDraftSound yX0_isDraftSound, Cond.initialized RX0, Cond.code yX0_isDraftSound cX0_isDraftSound 2 (some .boolean), Cond.fieldLink RX0 60 "EntryTable" "keys" "I", Cond.methodLink RX0 103 yX0_isDraftKeySound, Cond.instanceMethod yX0_isDraftKeySound, Cond.selects RX0 yX0_isDraftKeySound yX0_isDraftKeySound, Cond.code yX0_isDraftKeySound cX0_isDraftKeySound 3 (some .boolean), Cond.fieldLink RX0 13 "EntryTable" "draftValues" "[J", Cond.fieldLink RX0 9 "EntryTable" "kinds" "[I", Cond.fieldLink RX0 17 "EntryTable" "draftMasks" "[J", Cond.fieldLink RX0 63 "EntryTable" "width" "I", Cond.constantLong RX0 114 (-1), Cond.methodLink RX0 106 yX0_isNumber, Cond.instanceMethod yX0_isNumber, Cond.selects RX0 yX0_isNumber yX0_isNumber, Cond.code yX0_isNumber cX0_isNumber 3 (some .boolean), Cond.fieldLink RX0 66 "EntryTable" "allBits" "J", Cond.methodLink RX0 110 yX0_draftBits, Cond.instanceMethod yX0_draftBits]
def wsX0_insert_r2 : List Cond := [Cond.selects RX0 yX0_draftBits yX0_draftBits, Cond.code yX0_draftBits cX0_draftBits 2 (some .long), Cond.methodLink RX0 74 yX0_isDraftThere, Cond.instanceMethod yX0_isDraftThere, Cond.selects RX0 yX0_isDraftThere yX0_isDraftThere, Cond.code yX0_isDraftThere cX0_isDraftThere 4 (some .boolean), Cond.fieldLink RX0 20 "EntryTable" "order" "[I", Cond.fieldLink RX0 36 "EntryTable" "priorities" "[I", Cond.methodLink RX0 116 yX0_isDraftIn, Cond.instanceMethod yX0_isDraftIn, Cond.selects RX0 yX0_isDraftIn yX0_isDraftIn, Cond.code yX0_isDraftIn cX0_isDraftIn 4 (some .boolean), Cond.fieldLink RX0 45 "EntryTable" "values" "[J", Cond.fieldLink RX0 48 "EntryTable" "masks" "[J", Cond.methodLink RX0 78 yX0_rankForDraft, Cond.instanceMethod yX0_rankForDraft, Cond.selects RX0 yX0_rankForDraft yX0_rankForDraft, Cond.code yX0_rankForDraft cX0_rankForDraft 5 (some .int), Cond.fieldLink RX0 39 "EntryTable" "prefixes" "[I", Cond.methodLink RX0 119 yX0_draftPrefix, Cond.instanceMethod yX0_draftPrefix, Cond.selects RX0 yX0_draftPrefix yX0_draftPrefix, Cond.code yX0_draftPrefix cX0_draftPrefix 2 (some .int), Cond.methodLink RX0 82 yX0_takeSlot]
def wsX0_insert_r3 : List Cond := [Cond.instanceMethod yX0_takeSlot, Cond.selects RX0 yX0_takeSlot yX0_takeSlot, Cond.code yX0_takeSlot cX0_takeSlot 3 (some .int), Cond.methodLink RX0 123 arraycopyName, Cond.native arraycopyName, Cond.static arraycopyName, Cond.initialized "java/lang/System", Cond.methodLink RX0 85 yX0_fillSlot, Cond.instanceMethod yX0_fillSlot, Cond.selects RX0 yX0_fillSlot yX0_fillSlot, Cond.code yX0_fillSlot cX0_fillSlot 4 none, Cond.fieldLink RX0 27 "EntryTable" "nextNumber" "I", Cond.fieldLink RX0 42 "EntryTable" "finds" "[I", Cond.methodLink RX0 89 yX0_clearDraft, Cond.instanceMethod yX0_clearDraft, Cond.selects RX0 yX0_clearDraft yX0_clearDraft, Cond.code yX0_clearDraft cX0_clearDraft 2 none]
def wsX0_insert : List Cond := .code yX0_insert cX0_insert 3 (some .int) :: ((wsX0_insert_r1 ++ (wsX0_insert_r2 ++ wsX0_insert_r3)) ++ wsX00)
def wsX0_rankOf : List Cond := .code yX0_rankOf cX0_rankOf 3 (some .int) :: ([.fieldLink RX0 23 "EntryTable" "entries" "I", .fieldLink RX0 33 "EntryTable" "numbers" "[I", .fieldLink RX0 20 "EntryTable" "order" "[I"] ++ wsX00)
def wsX0_freeSlot : List Cond := .code yX0_freeSlot cX0_freeSlot 3 none :: ([.fieldLink RX0 20 "EntryTable" "order" "[I", .fieldLink RX0 23 "EntryTable" "entries" "I", .methodLink RX0 123 arraycopyName, .native arraycopyName, .static arraycopyName, .initialized "java/lang/System"] ++ wsX00)
def wsX0_remove : List Cond := .code yX0_remove cX0_remove 3 (some .int) :: ([.fieldLink RX0 23 "EntryTable" "entries" "I", .methodLink RX0 92 yX0_rankOf, .instanceMethod yX0_rankOf, .selects RX0 yX0_rankOf yX0_rankOf, .initialized RX0, .code yX0_rankOf cX0_rankOf 3 (some .int), .fieldLink RX0 33 "EntryTable" "numbers" "[I", .fieldLink RX0 20 "EntryTable" "order" "[I", .methodLink RX0 95 yX0_freeSlot, .instanceMethod yX0_freeSlot, .selects RX0 yX0_freeSlot yX0_freeSlot, .code yX0_freeSlot cX0_freeSlot 3 none, .methodLink RX0 123 arraycopyName, .native arraycopyName, .static arraycopyName, .initialized "java/lang/System"] ++ wsX00)
def wsX0_fits : List Cond := .code yX0_fits cX0_fits 6 (some .boolean) :: ([.fieldLink RX0 48 "EntryTable" "masks" "[J", .fieldLink RX0 45 "EntryTable" "values" "[J"] ++ wsX00)
def wsX0_find : List Cond := .code yX0_find cX0_find 9 (some .int) :: ([.fieldLink RX0 23 "EntryTable" "entries" "I", .fieldLink RX0 20 "EntryTable" "order" "[I", .fieldLink RX0 42 "EntryTable" "finds" "[I", .fieldLink RX0 33 "EntryTable" "numbers" "[I", .fieldLink RX0 30 "EntryTable" "misses" "I", .methodLink RX0 99 yX0_fits, .instanceMethod yX0_fits, .selects RX0 yX0_fits yX0_fits, .initialized RX0, .code yX0_fits cX0_fits 6 (some .boolean), .fieldLink RX0 48 "EntryTable" "masks" "[J", .fieldLink RX0 45 "EntryTable" "values" "[J"] ++ wsX00)
def wsX0_nth : List Cond := .code yX0_nth cX0_nth 2 (some .int) :: ([.fieldLink RX0 23 "EntryTable" "entries" "I", .fieldLink RX0 33 "EntryTable" "numbers" "[I", .fieldLink RX0 20 "EntryTable" "order" "[I"] ++ wsX00)
def wsX0_hits : List Cond := .code yX0_hits cX0_hits 3 (some .int) :: ([.fieldLink RX0 42 "EntryTable" "finds" "[I", .fieldLink RX0 20 "EntryTable" "order" "[I", .methodLink RX0 92 yX0_rankOf, .instanceMethod yX0_rankOf, .selects RX0 yX0_rankOf yX0_rankOf, .initialized RX0, .code yX0_rankOf cX0_rankOf 3 (some .int), .fieldLink RX0 23 "EntryTable" "entries" "I", .fieldLink RX0 33 "EntryTable" "numbers" "[I"] ++ wsX00)
def wsX0_count : List Cond := .code yX0_count cX0_count 2 (some .int) :: ([.fieldLink RX0 60 "EntryTable" "keys" "I", .fieldLink RX0 63 "EntryTable" "width" "I", .fieldLink RX0 23 "EntryTable" "entries" "I", .fieldLink RX0 30 "EntryTable" "misses" "I", .fieldLink RX0 9 "EntryTable" "kinds" "[I"] ++ wsX00)
def wsX1_init : List Cond := .code yX1_init cX1_init 7 none :: ([.methodLink RX1 1 objectInit, .instanceMethod objectInit, .code objectInit ⟨#[0xb1]⟩ 1 none, .arrayClass .int, .fieldLink RX1 7 "EntryTableModel" "kind" "[I", .fieldLink RX1 13 "EntryTableModel" "number" "[I", .fieldLink RX1 16 "EntryTableModel" "priority" "[I", .fieldLink RX1 19 "EntryTableModel" "hits" "[I", .arrayClass .long, .fieldLink RX1 22 "EntryTableModel" "value" "[J", .fieldLink RX1 26 "EntryTableModel" "mask" "[J", .fieldLink RX1 29 "EntryTableModel" "madeValue" "[J", .fieldLink RX1 32 "EntryTableModel" "madeMask" "[J", .fieldLink RX1 35 "EntryTableModel" "asked" "[J", .fieldLink RX1 38 "EntryTableModel" "keys" "I", .fieldLink RX1 42 "EntryTableModel" "width" "I"] ++ wsX10)
def wsX1_match : List Cond := .code yX1_match cX1_match 6 (some .int) :: ([.fieldLink RX1 29 "EntryTableModel" "madeValue" "[J", .fieldLink RX1 32 "EntryTableModel" "madeMask" "[J"] ++ wsX10)
def wsX1_fits : List Cond := .code yX1_fits cX1_fits 3 (some .boolean) :: ([.fieldLink RX1 42 "EntryTableModel" "width" "I"] ++ wsX10)
def wsX1_bits : List Cond := .code yX1_bits cX1_bits 3 (some .long) :: ([.fieldLink RX1 42 "EntryTableModel" "width" "I"] ++ wsX10)
def wsX1_good : List Cond := .code yX1_good cX1_good 2 (some .boolean) :: ([.fieldLink RX1 29 "EntryTableModel" "madeValue" "[J", .fieldLink RX1 7 "EntryTableModel" "kind" "[I", .fieldLink RX1 32 "EntryTableModel" "madeMask" "[J", .constantLong RX1 49 (-1), .fieldLink RX1 42 "EntryTableModel" "width" "I", .methodLink RX1 45 yX1_fits, .instanceMethod yX1_fits, .selects RX1 yX1_fits yX1_fits, .initialized RX1, .code yX1_fits cX1_fits 3 (some .boolean), .methodLink RX1 51 yX1_bits, .instanceMethod yX1_bits, .selects RX1 yX1_bits yX1_bits, .code yX1_bits cX1_bits 3 (some .long)] ++ wsX10)
def wsX1_like : List Cond := .code yX1_like cX1_like 5 (some .boolean) :: ([.fieldLink RX1 16 "EntryTableModel" "priority" "[I", .fieldLink RX1 38 "EntryTableModel" "keys" "I", .fieldLink RX1 22 "EntryTableModel" "value" "[J", .fieldLink RX1 29 "EntryTableModel" "madeValue" "[J", .fieldLink RX1 7 "EntryTableModel" "kind" "[I", .fieldLink RX1 26 "EntryTableModel" "mask" "[J", .fieldLink RX1 32 "EntryTableModel" "madeMask" "[J"] ++ wsX10)
def wsX1_insert_r1 : List Cond := [Cond.fieldLink RX1 38 "EntryTableModel" "keys" "I", Cond.fieldLink RX1 59 "EntryTableModel" "count" "I", Cond.fieldLink RX1 22 "EntryTableModel" "value" "[J", Cond.fieldLink RX1 29 "EntryTableModel" "madeValue" "[J", Cond.fieldLink RX1 26 "EntryTableModel" "mask" "[J", Cond.fieldLink RX1 32 "EntryTableModel" "madeMask" "[J", Cond.fieldLink RX1 13 "EntryTableModel" "number" "[I", Cond.fieldLink RX1 66 "EntryTableModel" "numbers" "I", Cond.fieldLink RX1 16 "EntryTableModel" "priority" "[I", Cond.fieldLink RX1 19 "EntryTableModel" "hits" "[I", Cond.methodLink RX1 55 yX1_good, Cond.instanceMethod yX1_good, Cond.selects RX1 yX1_good yX1_good, Cond.initialized RX1, Cond.code yX1_good cX1_good 2 (some .boolean), Cond.fieldLink RX1 7 "EntryTableModel" "kind" "[I", Cond.constantLong RX1 49 (-1), Cond.fieldLink RX1 42 "EntryTableModel" "width" "I", Cond.methodLink RX1 45 yX1_fits, Cond.instanceMethod yX1_fits, Cond.selects RX1 yX1_fits yX1_fits, Cond.code yX1_fits cX1_fits 3 (some .boolean), Cond.methodLink RX1 51 yX1_bits, Cond.instanceMethod yX1_bits]
def wsX1_insert_r2 : List Cond := [Cond.selects RX1 yX1_bits yX1_bits, Cond.code yX1_bits cX1_bits 3 (some .long), Cond.methodLink RX1 62 yX1_like, Cond.instanceMethod yX1_like, Cond.selects RX1 yX1_like yX1_like, Cond.code yX1_like cX1_like 5 (some .boolean)]
def wsX1_insert : List Cond := .code yX1_insert cX1_insert 3 (some .int) :: ((wsX1_insert_r1 ++ wsX1_insert_r2) ++ wsX10)
def wsX1_remove : List Cond := .code yX1_remove cX1_remove 5 (some .int) :: ([.fieldLink RX1 59 "EntryTableModel" "count" "I", .fieldLink RX1 13 "EntryTableModel" "number" "[I", .fieldLink RX1 16 "EntryTableModel" "priority" "[I", .fieldLink RX1 19 "EntryTableModel" "hits" "[I", .fieldLink RX1 22 "EntryTableModel" "value" "[J", .fieldLink RX1 26 "EntryTableModel" "mask" "[J"] ++ wsX10)
def wsJ9_max_7cf53 : List Cond := .code yJ9_max_7cf53 cJ9_max_7cf53 2 (some .int) :: ([])
def wsJ9_min_7cf53 : List Cond := .code yJ9_min_7cf53 cJ9_min_7cf53 2 (some .int) :: ([])
def wsL_cell : List Cond := .code yL_cell cL_cell 2 (some .int) :: ([])
def wsL_law_r1 : List Cond := [Cond.classLink RL 7 RX0, Cond.instantiable RX0 16, Cond.initialized RX0, Cond.classLink RL 18 RX1, Cond.instantiable RX1 14, Cond.initialized RX1, Cond.methodLink RL 9 yL_cell, Cond.static yL_cell, Cond.initialized RL, Cond.code yL_cell cL_cell 2 (some .int), Cond.methodLink RL 15 yX0_init, Cond.instanceMethod yX0_init, Cond.code yX0_init cX0_init 8 none, Cond.methodLink RX0 1 objectInit, Cond.instanceMethod objectInit, Cond.code objectInit ⟨#[0xb1]⟩ 1 none, Cond.arrayClass .int, Cond.fieldLink RX0 9 "EntryTable" "kinds" "[I", Cond.arrayClass .long, Cond.fieldLink RX0 13 "EntryTable" "draftValues" "[J", Cond.fieldLink RX0 17 "EntryTable" "draftMasks" "[J", Cond.fieldLink RX0 20 "EntryTable" "order" "[I", Cond.fieldLink RX0 23 "EntryTable" "entries" "I", Cond.fieldLink RX0 27 "EntryTable" "nextNumber" "I"]
def wsL_law_r2 : List Cond := [Cond.fieldLink RX0 30 "EntryTable" "misses" "I", Cond.fieldLink RX0 33 "EntryTable" "numbers" "[I", Cond.fieldLink RX0 36 "EntryTable" "priorities" "[I", Cond.fieldLink RX0 39 "EntryTable" "prefixes" "[I", Cond.fieldLink RX0 42 "EntryTable" "finds" "[I", Cond.fieldLink RX0 45 "EntryTable" "values" "[J", Cond.fieldLink RX0 48 "EntryTable" "masks" "[J", Cond.methodLink RX0 51 Lib.Math.min.name, Cond.static Lib.Math.min.name, Cond.initialized "java/lang/Math", Cond.code Lib.Math.min.name Lib.Math.min.code 2 (some .int), Cond.methodLink RX0 57 Lib.Math.max.name, Cond.static Lib.Math.max.name, Cond.code Lib.Math.max.name Lib.Math.max.code 2 (some .int), Cond.fieldLink RX0 60 "EntryTable" "keys" "I", Cond.fieldLink RX0 63 "EntryTable" "width" "I", Cond.fieldLink RX0 66 "EntryTable" "allBits" "J", Cond.methodLink RL 20 yX1_init, Cond.instanceMethod yX1_init, Cond.code yX1_init cX1_init 7 none, Cond.methodLink RX1 1 objectInit, Cond.fieldLink RX1 7 "EntryTableModel" "kind" "[I", Cond.fieldLink RX1 13 "EntryTableModel" "number" "[I", Cond.fieldLink RX1 16 "EntryTableModel" "priority" "[I"]
def wsL_law_r3 : List Cond := [Cond.fieldLink RX1 19 "EntryTableModel" "hits" "[I", Cond.fieldLink RX1 22 "EntryTableModel" "value" "[J", Cond.fieldLink RX1 26 "EntryTableModel" "mask" "[J", Cond.fieldLink RX1 29 "EntryTableModel" "madeValue" "[J", Cond.fieldLink RX1 32 "EntryTableModel" "madeMask" "[J", Cond.fieldLink RX1 35 "EntryTableModel" "asked" "[J", Cond.fieldLink RX1 38 "EntryTableModel" "keys" "I", Cond.fieldLink RX1 42 "EntryTableModel" "width" "I", Cond.methodLink RL 23 yX0_match, Cond.instanceMethod yX0_match, Cond.selects RX0 yX0_match yX0_match, Cond.code yX0_match cX0_match 6 (some .int), Cond.methodLink RL 27 yX1_match, Cond.instanceMethod yX1_match, Cond.selects RX1 yX1_match yX1_match, Cond.code yX1_match cX1_match 6 (some .int), Cond.methodLink RL 28 yX0_insert, Cond.instanceMethod yX0_insert, Cond.selects RX0 yX0_insert yX0_insert, Cond.code yX0_insert cX0_insert 3 (some .int), Cond.methodLink RX0 70 yX0_isDraftSound, Cond.instanceMethod yX0_isDraftSound, Cond.selects RX0 yX0_isDraftSound yX0_isDraftSound, Cond.code yX0_isDraftSound cX0_isDraftSound 2 (some .boolean)]
def wsL_law_r4 : List Cond := [Cond.methodLink RX0 103 yX0_isDraftKeySound, Cond.instanceMethod yX0_isDraftKeySound, Cond.selects RX0 yX0_isDraftKeySound yX0_isDraftKeySound, Cond.code yX0_isDraftKeySound cX0_isDraftKeySound 3 (some .boolean), Cond.constantLong RX0 114 (-1), Cond.methodLink RX0 106 yX0_isNumber, Cond.instanceMethod yX0_isNumber, Cond.selects RX0 yX0_isNumber yX0_isNumber, Cond.code yX0_isNumber cX0_isNumber 3 (some .boolean), Cond.methodLink RX0 110 yX0_draftBits, Cond.instanceMethod yX0_draftBits, Cond.selects RX0 yX0_draftBits yX0_draftBits, Cond.code yX0_draftBits cX0_draftBits 2 (some .long), Cond.methodLink RX0 74 yX0_isDraftThere, Cond.instanceMethod yX0_isDraftThere, Cond.selects RX0 yX0_isDraftThere yX0_isDraftThere, Cond.code yX0_isDraftThere cX0_isDraftThere 4 (some .boolean), Cond.methodLink RX0 116 yX0_isDraftIn, Cond.instanceMethod yX0_isDraftIn, Cond.selects RX0 yX0_isDraftIn yX0_isDraftIn, Cond.code yX0_isDraftIn cX0_isDraftIn 4 (some .boolean), Cond.methodLink RX0 78 yX0_rankForDraft, Cond.instanceMethod yX0_rankForDraft, Cond.selects RX0 yX0_rankForDraft yX0_rankForDraft]
def wsL_law_r5 : List Cond := [Cond.code yX0_rankForDraft cX0_rankForDraft 5 (some .int), Cond.methodLink RX0 119 yX0_draftPrefix, Cond.instanceMethod yX0_draftPrefix, Cond.selects RX0 yX0_draftPrefix yX0_draftPrefix, Cond.code yX0_draftPrefix cX0_draftPrefix 2 (some .int), Cond.methodLink RX0 82 yX0_takeSlot, Cond.instanceMethod yX0_takeSlot, Cond.selects RX0 yX0_takeSlot yX0_takeSlot, Cond.code yX0_takeSlot cX0_takeSlot 3 (some .int), Cond.methodLink RX0 123 arraycopyName, Cond.native arraycopyName, Cond.static arraycopyName, Cond.initialized "java/lang/System", Cond.methodLink RX0 85 yX0_fillSlot, Cond.instanceMethod yX0_fillSlot, Cond.selects RX0 yX0_fillSlot yX0_fillSlot, Cond.code yX0_fillSlot cX0_fillSlot 4 none, Cond.methodLink RX0 89 yX0_clearDraft, Cond.instanceMethod yX0_clearDraft, Cond.selects RX0 yX0_clearDraft yX0_clearDraft, Cond.code yX0_clearDraft cX0_clearDraft 2 none, Cond.methodLink RL 32 yX1_insert, Cond.instanceMethod yX1_insert, Cond.selects RX1 yX1_insert yX1_insert]
def wsL_law_r6 : List Cond := [Cond.code yX1_insert cX1_insert 3 (some .int), Cond.fieldLink RX1 59 "EntryTableModel" "count" "I", Cond.fieldLink RX1 66 "EntryTableModel" "numbers" "I", Cond.methodLink RX1 55 yX1_good, Cond.instanceMethod yX1_good, Cond.selects RX1 yX1_good yX1_good, Cond.code yX1_good cX1_good 2 (some .boolean), Cond.constantLong RX1 49 (-1), Cond.methodLink RX1 45 yX1_fits, Cond.instanceMethod yX1_fits, Cond.selects RX1 yX1_fits yX1_fits, Cond.code yX1_fits cX1_fits 3 (some .boolean), Cond.methodLink RX1 51 yX1_bits, Cond.instanceMethod yX1_bits, Cond.selects RX1 yX1_bits yX1_bits, Cond.code yX1_bits cX1_bits 3 (some .long), Cond.methodLink RX1 62 yX1_like, Cond.instanceMethod yX1_like, Cond.selects RX1 yX1_like yX1_like, Cond.code yX1_like cX1_like 5 (some .boolean), Cond.methodLink RL 33 yX0_remove, Cond.instanceMethod yX0_remove, Cond.selects RX0 yX0_remove yX0_remove, Cond.code yX0_remove cX0_remove 3 (some .int)]
def wsL_law_r7 : List Cond := [Cond.methodLink RX0 92 yX0_rankOf, Cond.instanceMethod yX0_rankOf, Cond.selects RX0 yX0_rankOf yX0_rankOf, Cond.code yX0_rankOf cX0_rankOf 3 (some .int), Cond.methodLink RX0 95 yX0_freeSlot, Cond.instanceMethod yX0_freeSlot, Cond.selects RX0 yX0_freeSlot yX0_freeSlot, Cond.code yX0_freeSlot cX0_freeSlot 3 none, Cond.methodLink RL 36 yX1_remove, Cond.instanceMethod yX1_remove, Cond.selects RX1 yX1_remove yX1_remove, Cond.code yX1_remove cX1_remove 5 (some .int), Cond.methodLink RL 37 yX0_find, Cond.instanceMethod yX0_find, Cond.selects RX0 yX0_find yX0_find, Cond.code yX0_find cX0_find 9 (some .int), Cond.methodLink RX0 99 yX0_fits, Cond.instanceMethod yX0_fits, Cond.selects RX0 yX0_fits yX0_fits, Cond.code yX0_fits cX0_fits 6 (some .boolean), Cond.methodLink RL 42 yX0_nth, Cond.instanceMethod yX0_nth, Cond.selects RX0 yX0_nth yX0_nth, Cond.code yX0_nth cX0_nth 2 (some .int)]
def wsL_law_r8 : List Cond := [Cond.methodLink RL 46 yX0_hits, Cond.instanceMethod yX0_hits, Cond.selects RX0 yX0_hits yX0_hits, Cond.code yX0_hits cX0_hits 3 (some .int), Cond.methodLink RL 50 yX0_count, Cond.instanceMethod yX0_count, Cond.selects RX0 yX0_count yX0_count, Cond.code yX0_count cX0_count 2 (some .int)]
def wsL_law : List Cond := (wsL_law_r1 ++ (wsL_law_r2 ++ (wsL_law_r3 ++ (wsL_law_r4 ++ (wsL_law_r5 ++ (wsL_law_r6 ++ (wsL_law_r7 ++ wsL_law_r8))))))) ++ wsX00 ++ wsX10 ++ ([] : List Cond)
set_option maxRecDepth 20000 in
theorem wsL_law_in : ∀ w ∈ wsL_law, w ∈ lw_tbl := fun w h => (goodIn_p wsL_law [182, 31, 34, 37, 40, 187, 95, 235, 99, 103, 107, 111, 115, 120, 124, 128, 132, 136, 143, 147, 239, 243, 247, 252, 256, 151, 155, 159, 260, 163, 167, 171, 175, 179] (by decide +kernel) (by decide +kernel) w h).1
theorem inlX0 : ∀ w ∈ wsX00, w ∈ wsL_law := fun _ h => List.mem_append_left _ (List.mem_append_left _ (List.mem_append_right _ h))
theorem inX0 : ∀ w ∈ wsX00, w ∈ lw_tbl := fun w h => wsL_law_in w (inlX0 w h)
theorem inlX1 : ∀ w ∈ wsX10, w ∈ wsL_law := fun _ h => List.mem_append_left _ (List.mem_append_right _ h)
theorem inX1 : ∀ w ∈ wsX10, w ∈ lw_tbl := fun w h => wsL_law_in w (inlX1 w h)
theorem inJ9 : ∀ w ∈ wsJ90, w ∈ lw_tbl := by decide +kernel
theorem inJ10 : ∀ w ∈ wsJ100, w ∈ lw_tbl := by decide +kernel
theorem dX0_init_0 : decode cX0_init 0 = .ok (.aload_n 0, 1) := by decide +kernel
theorem dX0_init_1 : decode cX0_init 1 = .ok (.invokespecial 1, 3) := by decide +kernel
theorem dX0_init_4 : decode cX0_init 4 = .ok (.aload_n 0, 1) := by decide +kernel
theorem dX0_init_5 : decode cX0_init 5 = .ok (.iconst 3, 1) := by decide +kernel
theorem dX0_init_6 : decode cX0_init 6 = .ok (.newarray .int, 2) := by decide +kernel
theorem dX0_init_8 : decode cX0_init 8 = .ok (.putfield 9, 3) := by decide +kernel
theorem dX0_init_11 : decode cX0_init 11 = .ok (.aload_n 0, 1) := by decide +kernel
theorem dX0_init_12 : decode cX0_init 12 = .ok (.iconst 3, 1) := by decide +kernel
theorem dX0_init_13 : decode cX0_init 13 = .ok (.newarray .long, 2) := by decide +kernel
theorem dX0_init_15 : decode cX0_init 15 = .ok (.putfield 13, 3) := by decide +kernel
theorem dX0_init_18 : decode cX0_init 18 = .ok (.aload_n 0, 1) := by decide +kernel
theorem dX0_init_19 : decode cX0_init 19 = .ok (.iconst 3, 1) := by decide +kernel
theorem dX0_init_20 : decode cX0_init 20 = .ok (.newarray .long, 2) := by decide +kernel
theorem dX0_init_22 : decode cX0_init 22 = .ok (.putfield 17, 3) := by decide +kernel
theorem dX0_init_25 : decode cX0_init 25 = .ok (.aload_n 0, 1) := by decide +kernel
theorem dX0_init_26 : decode cX0_init 26 = .ok (.bipush 24, 2) := by decide +kernel
theorem dX0_init_28 : decode cX0_init 28 = .ok (.newarray .int, 2) := by decide +kernel
theorem dX0_init_30 : decode cX0_init 30 = .ok (.putfield 20, 3) := by decide +kernel
theorem dX0_init_33 : decode cX0_init 33 = .ok (.aload_n 0, 1) := by decide +kernel
theorem dX0_init_34 : decode cX0_init 34 = .ok (.iconst 0, 1) := by decide +kernel
theorem dX0_init_35 : decode cX0_init 35 = .ok (.putfield 23, 3) := by decide +kernel
theorem dX0_init_38 : decode cX0_init 38 = .ok (.aload_n 0, 1) := by decide +kernel
theorem dX0_init_39 : decode cX0_init 39 = .ok (.iconst 0, 1) := by decide +kernel
theorem dX0_init_40 : decode cX0_init 40 = .ok (.putfield 27, 3) := by decide +kernel
theorem dX0_init_43 : decode cX0_init 43 = .ok (.aload_n 0, 1) := by decide +kernel
theorem dX0_init_44 : decode cX0_init 44 = .ok (.iconst 0, 1) := by decide +kernel
theorem dX0_init_45 : decode cX0_init 45 = .ok (.putfield 30, 3) := by decide +kernel
theorem dX0_init_48 : decode cX0_init 48 = .ok (.aload_n 0, 1) := by decide +kernel
theorem dX0_init_49 : decode cX0_init 49 = .ok (.bipush 24, 2) := by decide +kernel
theorem dX0_init_51 : decode cX0_init 51 = .ok (.newarray .int, 2) := by decide +kernel
theorem dX0_init_53 : decode cX0_init 53 = .ok (.putfield 33, 3) := by decide +kernel
theorem dX0_init_56 : decode cX0_init 56 = .ok (.aload_n 0, 1) := by decide +kernel
theorem dX0_init_57 : decode cX0_init 57 = .ok (.bipush 24, 2) := by decide +kernel
theorem dX0_init_59 : decode cX0_init 59 = .ok (.newarray .int, 2) := by decide +kernel
theorem dX0_init_61 : decode cX0_init 61 = .ok (.putfield 36, 3) := by decide +kernel
theorem dX0_init_64 : decode cX0_init 64 = .ok (.aload_n 0, 1) := by decide +kernel
theorem dX0_init_65 : decode cX0_init 65 = .ok (.bipush 24, 2) := by decide +kernel
theorem dX0_init_67 : decode cX0_init 67 = .ok (.newarray .int, 2) := by decide +kernel
theorem dX0_init_69 : decode cX0_init 69 = .ok (.putfield 39, 3) := by decide +kernel
theorem dX0_init_72 : decode cX0_init 72 = .ok (.aload_n 0, 1) := by decide +kernel
theorem dX0_init_73 : decode cX0_init 73 = .ok (.bipush 24, 2) := by decide +kernel
theorem dX0_init_75 : decode cX0_init 75 = .ok (.newarray .int, 2) := by decide +kernel
theorem dX0_init_77 : decode cX0_init 77 = .ok (.putfield 42, 3) := by decide +kernel
theorem dX0_init_80 : decode cX0_init 80 = .ok (.aload_n 0, 1) := by decide +kernel
theorem dX0_init_81 : decode cX0_init 81 = .ok (.bipush 72, 2) := by decide +kernel
theorem dX0_init_83 : decode cX0_init 83 = .ok (.newarray .long, 2) := by decide +kernel
theorem dX0_init_85 : decode cX0_init 85 = .ok (.putfield 45, 3) := by decide +kernel
theorem dX0_init_88 : decode cX0_init 88 = .ok (.aload_n 0, 1) := by decide +kernel
theorem dX0_init_89 : decode cX0_init 89 = .ok (.bipush 72, 2) := by decide +kernel
theorem dX0_init_91 : decode cX0_init 91 = .ok (.newarray .long, 2) := by decide +kernel
theorem dX0_init_93 : decode cX0_init 93 = .ok (.putfield 48, 3) := by decide +kernel
theorem dX0_init_96 : decode cX0_init 96 = .ok (.aload_n 0, 1) := by decide +kernel
theorem dX0_init_97 : decode cX0_init 97 = .ok (.iconst 1, 1) := by decide +kernel
theorem dX0_init_98 : decode cX0_init 98 = .ok (.iconst 3, 1) := by decide +kernel
theorem dX0_init_99 : decode cX0_init 99 = .ok (.iload_n 1, 1) := by decide +kernel
theorem dX0_init_100 : decode cX0_init 100 = .ok (.invokestatic 51, 3) := by decide +kernel
theorem dX0_init_103 : decode cX0_init 103 = .ok (.invokestatic 57, 3) := by decide +kernel
theorem dX0_init_106 : decode cX0_init 106 = .ok (.putfield 60, 3) := by decide +kernel
theorem dX0_init_109 : decode cX0_init 109 = .ok (.aload_n 0, 1) := by decide +kernel
theorem dX0_init_110 : decode cX0_init 110 = .ok (.iconst 1, 1) := by decide +kernel
theorem dX0_init_111 : decode cX0_init 111 = .ok (.bipush 48, 2) := by decide +kernel
theorem dX0_init_113 : decode cX0_init 113 = .ok (.iload_n 3, 1) := by decide +kernel
theorem dX0_init_114 : decode cX0_init 114 = .ok (.invokestatic 51, 3) := by decide +kernel
theorem dX0_init_117 : decode cX0_init 117 = .ok (.invokestatic 57, 3) := by decide +kernel
theorem dX0_init_120 : decode cX0_init 120 = .ok (.putfield 63, 3) := by decide +kernel
theorem dX0_init_123 : decode cX0_init 123 = .ok (.aload_n 0, 1) := by decide +kernel
theorem dX0_init_124 : decode cX0_init 124 = .ok (.lconst 1, 1) := by decide +kernel
theorem dX0_init_125 : decode cX0_init 125 = .ok (.aload_n 0, 1) := by decide +kernel
theorem dX0_init_126 : decode cX0_init 126 = .ok (.getfield 63, 3) := by decide +kernel
theorem dX0_init_129 : decode cX0_init 129 = .ok (.lshl, 1) := by decide +kernel
theorem dX0_init_130 : decode cX0_init 130 = .ok (.lconst 1, 1) := by decide +kernel
theorem dX0_init_131 : decode cX0_init 131 = .ok (.lsub, 1) := by decide +kernel
theorem dX0_init_132 : decode cX0_init 132 = .ok (.putfield 66, 3) := by decide +kernel
theorem dX0_init_135 : decode cX0_init 135 = .ok (.iconst 0, 1) := by decide +kernel
theorem dX0_init_136 : decode cX0_init 136 = .ok (.iload_n 2, 1) := by decide +kernel
theorem dX0_init_137 : decode cX0_init 137 = .ok (.invokestatic 57, 3) := by decide +kernel
theorem dX0_init_140 : decode cX0_init 140 = .ok (.istore 4, 2) := by decide +kernel
theorem dX0_init_142 : decode cX0_init 142 = .ok (.iconst 0, 1) := by decide +kernel
theorem dX0_init_143 : decode cX0_init 143 = .ok (.istore 5, 2) := by decide +kernel
theorem dX0_init_145 : decode cX0_init 145 = .ok (.iconst 0, 1) := by decide +kernel
theorem dX0_init_146 : decode cX0_init 146 = .ok (.istore 6, 2) := by decide +kernel
theorem dX0_init_148 : decode cX0_init 148 = .ok (.iload 6, 2) := by decide +kernel
theorem dX0_init_150 : decode cX0_init 150 = .ok (.iconst 3, 1) := by decide +kernel
theorem dX0_init_151 : decode cX0_init 151 = .ok (.if_icmp .ge 63, 3) := by decide +kernel
theorem dX0_init_154 : decode cX0_init 154 = .ok (.iload 4, 2) := by decide +kernel
theorem dX0_init_156 : decode cX0_init 156 = .ok (.iconst 3, 1) := by decide +kernel
theorem dX0_init_157 : decode cX0_init 157 = .ok (.irem, 1) := by decide +kernel
theorem dX0_init_158 : decode cX0_init 158 = .ok (.istore 7, 2) := by decide +kernel
theorem dX0_init_160 : decode cX0_init 160 = .ok (.iload 4, 2) := by decide +kernel
theorem dX0_init_162 : decode cX0_init 162 = .ok (.iconst 3, 1) := by decide +kernel
theorem dX0_init_163 : decode cX0_init 163 = .ok (.idiv, 1) := by decide +kernel
theorem dX0_init_164 : decode cX0_init 164 = .ok (.istore 4, 2) := by decide +kernel
theorem dX0_init_166 : decode cX0_init 166 = .ok (.aload_n 0, 1) := by decide +kernel
theorem dX0_init_167 : decode cX0_init 167 = .ok (.getfield 9, 3) := by decide +kernel
theorem dX0_init_170 : decode cX0_init 170 = .ok (.iload 6, 2) := by decide +kernel
theorem dX0_init_172 : decode cX0_init 172 = .ok (.iload 7, 2) := by decide +kernel
theorem dX0_init_174 : decode cX0_init 174 = .ok (.iconst 1, 1) := by decide +kernel
theorem dX0_init_175 : decode cX0_init 175 = .ok (.if_icmp .ne 12, 3) := by decide +kernel
theorem dX0_init_178 : decode cX0_init 178 = .ok (.iload 5, 2) := by decide +kernel
theorem dX0_init_180 : decode cX0_init 180 = .ok (.ifCond .eq 7, 3) := by decide +kernel
theorem dX0_init_183 : decode cX0_init 183 = .ok (.iconst 0, 1) := by decide +kernel
theorem dX0_init_184 : decode cX0_init 184 = .ok (.goto 5, 3) := by decide +kernel
theorem dX0_init_187 : decode cX0_init 187 = .ok (.iload 7, 2) := by decide +kernel
theorem dX0_init_189 : decode cX0_init 189 = .ok (.iastore, 1) := by decide +kernel
theorem dX0_init_190 : decode cX0_init 190 = .ok (.iload 5, 2) := by decide +kernel
theorem dX0_init_192 : decode cX0_init 192 = .ok (.ifCond .ne 9, 3) := by decide +kernel
theorem dX0_init_195 : decode cX0_init 195 = .ok (.iload 7, 2) := by decide +kernel
theorem dX0_init_197 : decode cX0_init 197 = .ok (.iconst 1, 1) := by decide +kernel
theorem dX0_init_198 : decode cX0_init 198 = .ok (.if_icmp .ne 7, 3) := by decide +kernel
theorem dX0_init_201 : decode cX0_init 201 = .ok (.iconst 1, 1) := by decide +kernel
theorem dX0_init_202 : decode cX0_init 202 = .ok (.goto 4, 3) := by decide +kernel
theorem dX0_init_205 : decode cX0_init 205 = .ok (.iconst 0, 1) := by decide +kernel
theorem dX0_init_206 : decode cX0_init 206 = .ok (.istore 5, 2) := by decide +kernel
theorem dX0_init_208 : decode cX0_init 208 = .ok (.iinc 6 1, 3) := by decide +kernel
theorem dX0_init_211 : decode cX0_init 211 = .ok (.goto (-63), 3) := by decide +kernel
theorem dX0_init_214 : decode cX0_init 214 = .ok (.iconst 0, 1) := by decide +kernel
theorem dX0_init_215 : decode cX0_init 215 = .ok (.istore 6, 2) := by decide +kernel
theorem dX0_init_217 : decode cX0_init 217 = .ok (.iload 6, 2) := by decide +kernel
theorem dX0_init_219 : decode cX0_init 219 = .ok (.bipush 24, 2) := by decide +kernel
theorem dX0_init_221 : decode cX0_init 221 = .ok (.if_icmp .ge 18, 3) := by decide +kernel
theorem dX0_init_224 : decode cX0_init 224 = .ok (.aload_n 0, 1) := by decide +kernel
theorem dX0_init_225 : decode cX0_init 225 = .ok (.getfield 20, 3) := by decide +kernel
theorem dX0_init_228 : decode cX0_init 228 = .ok (.iload 6, 2) := by decide +kernel
theorem dX0_init_230 : decode cX0_init 230 = .ok (.iload 6, 2) := by decide +kernel
theorem dX0_init_232 : decode cX0_init 232 = .ok (.iastore, 1) := by decide +kernel
theorem dX0_init_233 : decode cX0_init 233 = .ok (.iinc 6 1, 3) := by decide +kernel
theorem dX0_init_236 : decode cX0_init 236 = .ok (.goto (-19), 3) := by decide +kernel
theorem dX0_init_239 : decode cX0_init 239 = .ok (.return_, 1) := by decide +kernel
theorem dX0_match_0 : decode cX0_match 0 = .ok (.iload_n 1, 1) := by decide +kernel
theorem dX0_match_1 : decode cX0_match 1 = .ok (.ifCond .lt 8, 3) := by decide +kernel
theorem dX0_match_4 : decode cX0_match 4 = .ok (.iload_n 1, 1) := by decide +kernel
theorem dX0_match_5 : decode cX0_match 5 = .ok (.iconst 3, 1) := by decide +kernel
theorem dX0_match_6 : decode cX0_match 6 = .ok (.if_icmp .lt 5, 3) := by decide +kernel
theorem dX0_match_9 : decode cX0_match 9 = .ok (.iconst (-1), 1) := by decide +kernel
theorem dX0_match_10 : decode cX0_match 10 = .ok (.ireturn, 1) := by decide +kernel
theorem dX0_match_11 : decode cX0_match 11 = .ok (.aload_n 0, 1) := by decide +kernel
theorem dX0_match_12 : decode cX0_match 12 = .ok (.getfield 13, 3) := by decide +kernel
theorem dX0_match_15 : decode cX0_match 15 = .ok (.iload_n 1, 1) := by decide +kernel
theorem dX0_match_16 : decode cX0_match 16 = .ok (.lload_n 2, 1) := by decide +kernel
theorem dX0_match_17 : decode cX0_match 17 = .ok (.lastore, 1) := by decide +kernel
theorem dX0_match_18 : decode cX0_match 18 = .ok (.aload_n 0, 1) := by decide +kernel
theorem dX0_match_19 : decode cX0_match 19 = .ok (.getfield 17, 3) := by decide +kernel
theorem dX0_match_22 : decode cX0_match 22 = .ok (.iload_n 1, 1) := by decide +kernel
theorem dX0_match_23 : decode cX0_match 23 = .ok (.lload 4, 2) := by decide +kernel
theorem dX0_match_25 : decode cX0_match 25 = .ok (.lastore, 1) := by decide +kernel
theorem dX0_match_26 : decode cX0_match 26 = .ok (.iload_n 1, 1) := by decide +kernel
theorem dX0_match_27 : decode cX0_match 27 = .ok (.ireturn, 1) := by decide +kernel
set_option maxRecDepth 20000 in
theorem ggX0_insert_X0_isDraftSound : GoodIn wsX0_insert wsX0_isDraftSound := goodIn_r _ [7, 8, 9, 10, 11, 6, 12, 13, 14, 15, 16, 17, 18, 19, 20, 21, 22, 23, 24, 25, 26, 66, 67, 68, 69, 70, 71, 72, 73, 74, 75, 76, 77, 78, 79, 80, 81] (by decide +kernel) (by decide +kernel)
set_option maxRecDepth 20000 in
theorem gX0_insert_X0_isDraftSound : GoodIn wsX0_insert (wsV RX0 70 RX0 yX0_isDraftSound wsX0_isDraftSound) := goodIn_app (goodIn_of _ (by decide +kernel)) ggX0_insert_X0_isDraftSound
set_option maxRecDepth 20000 in
theorem ggX0_insert_X0_isDraftThere : GoodIn wsX0_insert wsX0_isDraftThere := goodIn_r _ [30, 1, 31, 32, 33, 34, 35, 6, 36, 8, 37, 13, 38, 23, 24, 25, 26, 14, 22, 15, 66, 67, 68, 69, 70, 71, 72, 73, 74, 75, 76, 77, 78, 79, 80, 81] (by decide +kernel) (by decide +kernel)
set_option maxRecDepth 20000 in
theorem gX0_insert_X0_isDraftThere : GoodIn wsX0_insert (wsV RX0 74 RX0 yX0_isDraftThere wsX0_isDraftThere) := goodIn_app (goodIn_of _ (by decide +kernel)) ggX0_insert_X0_isDraftThere
set_option maxRecDepth 20000 in
theorem ggX0_insert_X0_rankForDraft : GoodIn wsX0_insert wsX0_rankForDraft := goodIn_r _ [42, 1, 31, 43, 32, 44, 45, 46, 6, 47, 8, 14, 15, 66, 67, 68, 69, 70, 71, 72, 73, 74, 75, 76, 77, 78, 79, 80, 81] (by decide +kernel) (by decide +kernel)
set_option maxRecDepth 20000 in
theorem gX0_insert_X0_rankForDraft : GoodIn wsX0_insert (wsV RX0 78 RX0 yX0_rankForDraft wsX0_rankForDraft) := goodIn_app (goodIn_of _ (by decide +kernel)) ggX0_insert_X0_rankForDraft
set_option maxRecDepth 20000 in
theorem ggX0_insert_X0_takeSlot : GoodIn wsX0_insert wsX0_takeSlot := goodIn_r _ [51, 31, 1, 52, 53, 54, 55, 66, 67, 68, 69, 70, 71, 72, 73, 74, 75, 76, 77, 78, 79, 80, 81] (by decide +kernel) (by decide +kernel)
set_option maxRecDepth 20000 in
theorem gX0_insert_X0_takeSlot : GoodIn wsX0_insert (wsV RX0 82 RX0 yX0_takeSlot wsX0_takeSlot) := goodIn_app (goodIn_of _ (by decide +kernel)) ggX0_insert_X0_takeSlot
set_option maxRecDepth 20000 in
theorem ggX0_insert_X0_fillSlot : GoodIn wsX0_insert wsX0_fillSlot := goodIn_r _ [59, 2, 60, 32, 43, 61, 8, 37, 13, 38, 44, 45, 46, 6, 47, 14, 15, 23, 24, 25, 26, 22, 66, 67, 68, 69, 70, 71, 72, 73, 74, 75, 76, 77, 78, 79, 80, 81] (by decide +kernel) (by decide +kernel)
set_option maxRecDepth 20000 in
theorem gX0_insert_X0_fillSlot : GoodIn wsX0_insert (wsV RX0 85 RX0 yX0_fillSlot wsX0_fillSlot) := goodIn_app (goodIn_of _ (by decide +kernel)) ggX0_insert_X0_fillSlot
set_option maxRecDepth 20000 in
theorem ggX0_insert_X0_clearDraft : GoodIn wsX0_insert wsX0_clearDraft := goodIn_r _ [65, 13, 15, 66, 67, 68, 69, 70, 71, 72, 73, 74, 75, 76, 77, 78, 79, 80, 81] (by decide +kernel) (by decide +kernel)
set_option maxRecDepth 20000 in
theorem gX0_insert_X0_clearDraft : GoodIn wsX0_insert (wsV RX0 89 RX0 yX0_clearDraft wsX0_clearDraft) := goodIn_app (goodIn_of _ (by decide +kernel)) ggX0_insert_X0_clearDraft
theorem dX0_insert_0 : decode cX0_insert 0 = .ok (.aload_n 0, 1) := by decide +kernel
theorem dX0_insert_1 : decode cX0_insert 1 = .ok (.invokevirtual 70, 3) := by decide +kernel
theorem dX0_insert_4 : decode cX0_insert 4 = .ok (.ifCond .ne 5, 3) := by decide +kernel
theorem dX0_insert_7 : decode cX0_insert 7 = .ok (.iconst (-1), 1) := by decide +kernel
theorem dX0_insert_8 : decode cX0_insert 8 = .ok (.ireturn, 1) := by decide +kernel
theorem dX0_insert_9 : decode cX0_insert 9 = .ok (.aload_n 0, 1) := by decide +kernel
theorem dX0_insert_10 : decode cX0_insert 10 = .ok (.iload_n 1, 1) := by decide +kernel
theorem dX0_insert_11 : decode cX0_insert 11 = .ok (.invokevirtual 74, 3) := by decide +kernel
theorem dX0_insert_14 : decode cX0_insert 14 = .ok (.ifCond .eq 6, 3) := by decide +kernel
theorem dX0_insert_17 : decode cX0_insert 17 = .ok (.bipush (-4), 2) := by decide +kernel
theorem dX0_insert_19 : decode cX0_insert 19 = .ok (.ireturn, 1) := by decide +kernel
theorem dX0_insert_20 : decode cX0_insert 20 = .ok (.aload_n 0, 1) := by decide +kernel
theorem dX0_insert_21 : decode cX0_insert 21 = .ok (.getfield 23, 3) := by decide +kernel
theorem dX0_insert_24 : decode cX0_insert 24 = .ok (.bipush 24, 2) := by decide +kernel
theorem dX0_insert_26 : decode cX0_insert 26 = .ok (.if_icmp .lt 6, 3) := by decide +kernel
theorem dX0_insert_29 : decode cX0_insert 29 = .ok (.bipush (-3), 2) := by decide +kernel
theorem dX0_insert_31 : decode cX0_insert 31 = .ok (.ireturn, 1) := by decide +kernel
theorem dX0_insert_32 : decode cX0_insert 32 = .ok (.aload_n 0, 1) := by decide +kernel
theorem dX0_insert_33 : decode cX0_insert 33 = .ok (.aload_n 0, 1) := by decide +kernel
theorem dX0_insert_34 : decode cX0_insert 34 = .ok (.iload_n 1, 1) := by decide +kernel
theorem dX0_insert_35 : decode cX0_insert 35 = .ok (.invokevirtual 78, 3) := by decide +kernel
theorem dX0_insert_38 : decode cX0_insert 38 = .ok (.invokevirtual 82, 3) := by decide +kernel
theorem dX0_insert_41 : decode cX0_insert 41 = .ok (.istore_n 2, 1) := by decide +kernel
theorem dX0_insert_42 : decode cX0_insert 42 = .ok (.aload_n 0, 1) := by decide +kernel
theorem dX0_insert_43 : decode cX0_insert 43 = .ok (.iload_n 2, 1) := by decide +kernel
theorem dX0_insert_44 : decode cX0_insert 44 = .ok (.iload_n 1, 1) := by decide +kernel
theorem dX0_insert_45 : decode cX0_insert 45 = .ok (.invokevirtual 85, 3) := by decide +kernel
theorem dX0_insert_48 : decode cX0_insert 48 = .ok (.aload_n 0, 1) := by decide +kernel
theorem dX0_insert_49 : decode cX0_insert 49 = .ok (.invokevirtual 89, 3) := by decide +kernel
theorem dX0_insert_52 : decode cX0_insert 52 = .ok (.aload_n 0, 1) := by decide +kernel
theorem dX0_insert_53 : decode cX0_insert 53 = .ok (.getfield 33, 3) := by decide +kernel
theorem dX0_insert_56 : decode cX0_insert 56 = .ok (.iload_n 2, 1) := by decide +kernel
theorem dX0_insert_57 : decode cX0_insert 57 = .ok (.iaload, 1) := by decide +kernel
theorem dX0_insert_58 : decode cX0_insert 58 = .ok (.ireturn, 1) := by decide +kernel
set_option maxRecDepth 20000 in
theorem ggX0_remove_X0_rankOf : GoodIn wsX0_remove wsX0_rankOf := goodIn_r _ [6, 1, 7, 8, 17, 18, 19, 20, 21, 22, 23, 24, 25, 26, 27, 28, 29, 30, 31, 32] (by decide +kernel) (by decide +kernel)
set_option maxRecDepth 20000 in
theorem gX0_remove_X0_rankOf : GoodIn wsX0_remove (wsV RX0 92 RX0 yX0_rankOf wsX0_rankOf) := goodIn_app (goodIn_of _ (by decide +kernel)) ggX0_remove_X0_rankOf
set_option maxRecDepth 20000 in
theorem ggX0_remove_X0_freeSlot : GoodIn wsX0_remove wsX0_freeSlot := goodIn_r _ [12, 8, 1, 13, 14, 15, 16, 17, 18, 19, 20, 21, 22, 23, 24, 25, 26, 27, 28, 29, 30, 31, 32] (by decide +kernel) (by decide +kernel)
set_option maxRecDepth 20000 in
theorem gX0_remove_X0_freeSlot : GoodIn wsX0_remove (wsV RX0 95 RX0 yX0_freeSlot wsX0_freeSlot) := goodIn_app (goodIn_of _ (by decide +kernel)) ggX0_remove_X0_freeSlot
theorem dX0_remove_0 : decode cX0_remove 0 = .ok (.aload_n 0, 1) := by decide +kernel
theorem dX0_remove_1 : decode cX0_remove 1 = .ok (.iload_n 1, 1) := by decide +kernel
theorem dX0_remove_2 : decode cX0_remove 2 = .ok (.invokevirtual 92, 3) := by decide +kernel
theorem dX0_remove_5 : decode cX0_remove 5 = .ok (.istore_n 2, 1) := by decide +kernel
theorem dX0_remove_6 : decode cX0_remove 6 = .ok (.iload_n 2, 1) := by decide +kernel
theorem dX0_remove_7 : decode cX0_remove 7 = .ok (.iconst (-1), 1) := by decide +kernel
theorem dX0_remove_8 : decode cX0_remove 8 = .ok (.if_icmp .ne 6, 3) := by decide +kernel
theorem dX0_remove_11 : decode cX0_remove 11 = .ok (.bipush (-2), 2) := by decide +kernel
theorem dX0_remove_13 : decode cX0_remove 13 = .ok (.ireturn, 1) := by decide +kernel
theorem dX0_remove_14 : decode cX0_remove 14 = .ok (.aload_n 0, 1) := by decide +kernel
theorem dX0_remove_15 : decode cX0_remove 15 = .ok (.iload_n 2, 1) := by decide +kernel
theorem dX0_remove_16 : decode cX0_remove 16 = .ok (.invokevirtual 95, 3) := by decide +kernel
theorem dX0_remove_19 : decode cX0_remove 19 = .ok (.aload_n 0, 1) := by decide +kernel
theorem dX0_remove_20 : decode cX0_remove 20 = .ok (.getfield 23, 3) := by decide +kernel
theorem dX0_remove_23 : decode cX0_remove 23 = .ok (.ireturn, 1) := by decide +kernel
set_option maxRecDepth 20000 in
theorem ggX0_find_X0_fits : GoodIn wsX0_find wsX0_fits := goodIn_r _ [10, 11, 12, 13, 14, 15, 16, 17, 18, 19, 20, 21, 22, 23, 24, 25, 26, 27, 28] (by decide +kernel) (by decide +kernel)
set_option maxRecDepth 20000 in
theorem gX0_find_X0_fits : GoodIn wsX0_find (wsV RX0 99 RX0 yX0_fits wsX0_fits) := goodIn_app (goodIn_of _ (by decide +kernel)) ggX0_find_X0_fits
theorem dX0_find_0 : decode cX0_find 0 = .ok (.iconst 0, 1) := by decide +kernel
theorem dX0_find_1 : decode cX0_find 1 = .ok (.istore 7, 2) := by decide +kernel
theorem dX0_find_3 : decode cX0_find 3 = .ok (.iload 7, 2) := by decide +kernel
theorem dX0_find_5 : decode cX0_find 5 = .ok (.aload_n 0, 1) := by decide +kernel
theorem dX0_find_6 : decode cX0_find 6 = .ok (.getfield 23, 3) := by decide +kernel
theorem dX0_find_9 : decode cX0_find 9 = .ok (.if_icmp .ge 71, 3) := by decide +kernel
theorem dX0_find_12 : decode cX0_find 12 = .ok (.aload_n 0, 1) := by decide +kernel
theorem dX0_find_13 : decode cX0_find 13 = .ok (.getfield 20, 3) := by decide +kernel
theorem dX0_find_16 : decode cX0_find 16 = .ok (.iload 7, 2) := by decide +kernel
theorem dX0_find_18 : decode cX0_find 18 = .ok (.iaload, 1) := by decide +kernel
theorem dX0_find_19 : decode cX0_find 19 = .ok (.istore 8, 2) := by decide +kernel
theorem dX0_find_21 : decode cX0_find 21 = .ok (.aload_n 0, 1) := by decide +kernel
theorem dX0_find_22 : decode cX0_find 22 = .ok (.iload 8, 2) := by decide +kernel
theorem dX0_find_24 : decode cX0_find 24 = .ok (.iconst 0, 1) := by decide +kernel
theorem dX0_find_25 : decode cX0_find 25 = .ok (.lload_n 1, 1) := by decide +kernel
theorem dX0_find_26 : decode cX0_find 26 = .ok (.invokevirtual 99, 3) := by decide +kernel
theorem dX0_find_29 : decode cX0_find 29 = .ok (.ifCond .eq 45, 3) := by decide +kernel
theorem dX0_find_32 : decode cX0_find 32 = .ok (.aload_n 0, 1) := by decide +kernel
theorem dX0_find_33 : decode cX0_find 33 = .ok (.iload 8, 2) := by decide +kernel
theorem dX0_find_35 : decode cX0_find 35 = .ok (.iconst 1, 1) := by decide +kernel
theorem dX0_find_36 : decode cX0_find 36 = .ok (.lload_n 3, 1) := by decide +kernel
theorem dX0_find_37 : decode cX0_find 37 = .ok (.invokevirtual 99, 3) := by decide +kernel
theorem dX0_find_40 : decode cX0_find 40 = .ok (.ifCond .eq 34, 3) := by decide +kernel
theorem dX0_find_43 : decode cX0_find 43 = .ok (.aload_n 0, 1) := by decide +kernel
theorem dX0_find_44 : decode cX0_find 44 = .ok (.iload 8, 2) := by decide +kernel
theorem dX0_find_46 : decode cX0_find 46 = .ok (.iconst 2, 1) := by decide +kernel
theorem dX0_find_47 : decode cX0_find 47 = .ok (.lload 5, 2) := by decide +kernel
theorem dX0_find_49 : decode cX0_find 49 = .ok (.invokevirtual 99, 3) := by decide +kernel
theorem dX0_find_52 : decode cX0_find 52 = .ok (.ifCond .eq 22, 3) := by decide +kernel
theorem dX0_find_55 : decode cX0_find 55 = .ok (.aload_n 0, 1) := by decide +kernel
theorem dX0_find_56 : decode cX0_find 56 = .ok (.getfield 42, 3) := by decide +kernel
theorem dX0_find_59 : decode cX0_find 59 = .ok (.iload 8, 2) := by decide +kernel
theorem dX0_find_61 : decode cX0_find 61 = .ok (.dup2, 1) := by decide +kernel
theorem dX0_find_62 : decode cX0_find 62 = .ok (.iaload, 1) := by decide +kernel
theorem dX0_find_63 : decode cX0_find 63 = .ok (.iconst 1, 1) := by decide +kernel
theorem dX0_find_64 : decode cX0_find 64 = .ok (.iadd, 1) := by decide +kernel
theorem dX0_find_65 : decode cX0_find 65 = .ok (.iastore, 1) := by decide +kernel
theorem dX0_find_66 : decode cX0_find 66 = .ok (.aload_n 0, 1) := by decide +kernel
theorem dX0_find_67 : decode cX0_find 67 = .ok (.getfield 33, 3) := by decide +kernel
theorem dX0_find_70 : decode cX0_find 70 = .ok (.iload 8, 2) := by decide +kernel
theorem dX0_find_72 : decode cX0_find 72 = .ok (.iaload, 1) := by decide +kernel
theorem dX0_find_73 : decode cX0_find 73 = .ok (.ireturn, 1) := by decide +kernel
theorem dX0_find_74 : decode cX0_find 74 = .ok (.iinc 7 1, 3) := by decide +kernel
theorem dX0_find_77 : decode cX0_find 77 = .ok (.goto (-74), 3) := by decide +kernel
theorem dX0_find_80 : decode cX0_find 80 = .ok (.aload_n 0, 1) := by decide +kernel
theorem dX0_find_81 : decode cX0_find 81 = .ok (.dup, 1) := by decide +kernel
theorem dX0_find_82 : decode cX0_find 82 = .ok (.getfield 30, 3) := by decide +kernel
theorem dX0_find_85 : decode cX0_find 85 = .ok (.iconst 1, 1) := by decide +kernel
theorem dX0_find_86 : decode cX0_find 86 = .ok (.iadd, 1) := by decide +kernel
theorem dX0_find_87 : decode cX0_find 87 = .ok (.putfield 30, 3) := by decide +kernel
theorem dX0_find_90 : decode cX0_find 90 = .ok (.bipush (-2), 2) := by decide +kernel
theorem dX0_find_92 : decode cX0_find 92 = .ok (.ireturn, 1) := by decide +kernel
theorem dX0_nth_0 : decode cX0_nth 0 = .ok (.iload_n 1, 1) := by decide +kernel
theorem dX0_nth_1 : decode cX0_nth 1 = .ok (.ifCond .lt 11, 3) := by decide +kernel
theorem dX0_nth_4 : decode cX0_nth 4 = .ok (.iload_n 1, 1) := by decide +kernel
theorem dX0_nth_5 : decode cX0_nth 5 = .ok (.aload_n 0, 1) := by decide +kernel
theorem dX0_nth_6 : decode cX0_nth 6 = .ok (.getfield 23, 3) := by decide +kernel
theorem dX0_nth_9 : decode cX0_nth 9 = .ok (.if_icmp .lt 6, 3) := by decide +kernel
theorem dX0_nth_12 : decode cX0_nth 12 = .ok (.bipush (-2), 2) := by decide +kernel
theorem dX0_nth_14 : decode cX0_nth 14 = .ok (.ireturn, 1) := by decide +kernel
theorem dX0_nth_15 : decode cX0_nth 15 = .ok (.aload_n 0, 1) := by decide +kernel
theorem dX0_nth_16 : decode cX0_nth 16 = .ok (.getfield 33, 3) := by decide +kernel
theorem dX0_nth_19 : decode cX0_nth 19 = .ok (.aload_n 0, 1) := by decide +kernel
theorem dX0_nth_20 : decode cX0_nth 20 = .ok (.getfield 20, 3) := by decide +kernel
theorem dX0_nth_23 : decode cX0_nth 23 = .ok (.iload_n 1, 1) := by decide +kernel
theorem dX0_nth_24 : decode cX0_nth 24 = .ok (.iaload, 1) := by decide +kernel
theorem dX0_nth_25 : decode cX0_nth 25 = .ok (.iaload, 1) := by decide +kernel
theorem dX0_nth_26 : decode cX0_nth 26 = .ok (.ireturn, 1) := by decide +kernel
set_option maxRecDepth 20000 in
theorem ggX0_hits_X0_rankOf : GoodIn wsX0_hits wsX0_rankOf := goodIn_r _ [7, 8, 9, 2, 10, 11, 12, 13, 14, 15, 16, 17, 18, 19, 20, 21, 22, 23, 24, 25] (by decide +kernel) (by decide +kernel)
set_option maxRecDepth 20000 in
theorem gX0_hits_X0_rankOf : GoodIn wsX0_hits (wsV RX0 92 RX0 yX0_rankOf wsX0_rankOf) := goodIn_app (goodIn_of _ (by decide +kernel)) ggX0_hits_X0_rankOf
theorem dX0_hits_0 : decode cX0_hits 0 = .ok (.aload_n 0, 1) := by decide +kernel
theorem dX0_hits_1 : decode cX0_hits 1 = .ok (.iload_n 1, 1) := by decide +kernel
theorem dX0_hits_2 : decode cX0_hits 2 = .ok (.invokevirtual 92, 3) := by decide +kernel
theorem dX0_hits_5 : decode cX0_hits 5 = .ok (.istore_n 2, 1) := by decide +kernel
theorem dX0_hits_6 : decode cX0_hits 6 = .ok (.iload_n 2, 1) := by decide +kernel
theorem dX0_hits_7 : decode cX0_hits 7 = .ok (.iconst (-1), 1) := by decide +kernel
theorem dX0_hits_8 : decode cX0_hits 8 = .ok (.if_icmp .ne 6, 3) := by decide +kernel
theorem dX0_hits_11 : decode cX0_hits 11 = .ok (.bipush (-2), 2) := by decide +kernel
theorem dX0_hits_13 : decode cX0_hits 13 = .ok (.ireturn, 1) := by decide +kernel
theorem dX0_hits_14 : decode cX0_hits 14 = .ok (.aload_n 0, 1) := by decide +kernel
theorem dX0_hits_15 : decode cX0_hits 15 = .ok (.getfield 42, 3) := by decide +kernel
theorem dX0_hits_18 : decode cX0_hits 18 = .ok (.aload_n 0, 1) := by decide +kernel
theorem dX0_hits_19 : decode cX0_hits 19 = .ok (.getfield 20, 3) := by decide +kernel
theorem dX0_hits_22 : decode cX0_hits 22 = .ok (.iload_n 2, 1) := by decide +kernel
theorem dX0_hits_23 : decode cX0_hits 23 = .ok (.iaload, 1) := by decide +kernel
theorem dX0_hits_24 : decode cX0_hits 24 = .ok (.iaload, 1) := by decide +kernel
theorem dX0_hits_25 : decode cX0_hits 25 = .ok (.ireturn, 1) := by decide +kernel
theorem dX0_count_0 : decode cX0_count 0 = .ok (.iload_n 1, 1) := by decide +kernel
theorem dX0_count_1 : decode cX0_count 1 = .ok (.tableswitch 72 0 6 #[43, 48, 53, 58, 63, 63, 63], 43) := by decide +kernel
theorem dX0_count_44 : decode cX0_count 44 = .ok (.aload_n 0, 1) := by decide +kernel
theorem dX0_count_45 : decode cX0_count 45 = .ok (.getfield 60, 3) := by decide +kernel
theorem dX0_count_48 : decode cX0_count 48 = .ok (.ireturn, 1) := by decide +kernel
theorem dX0_count_49 : decode cX0_count 49 = .ok (.aload_n 0, 1) := by decide +kernel
theorem dX0_count_50 : decode cX0_count 50 = .ok (.getfield 63, 3) := by decide +kernel
theorem dX0_count_53 : decode cX0_count 53 = .ok (.ireturn, 1) := by decide +kernel
theorem dX0_count_54 : decode cX0_count 54 = .ok (.aload_n 0, 1) := by decide +kernel
theorem dX0_count_55 : decode cX0_count 55 = .ok (.getfield 23, 3) := by decide +kernel
theorem dX0_count_58 : decode cX0_count 58 = .ok (.ireturn, 1) := by decide +kernel
theorem dX0_count_59 : decode cX0_count 59 = .ok (.aload_n 0, 1) := by decide +kernel
theorem dX0_count_60 : decode cX0_count 60 = .ok (.getfield 30, 3) := by decide +kernel
theorem dX0_count_63 : decode cX0_count 63 = .ok (.ireturn, 1) := by decide +kernel
theorem dX0_count_64 : decode cX0_count 64 = .ok (.aload_n 0, 1) := by decide +kernel
theorem dX0_count_65 : decode cX0_count 65 = .ok (.getfield 9, 3) := by decide +kernel
theorem dX0_count_68 : decode cX0_count 68 = .ok (.iload_n 1, 1) := by decide +kernel
theorem dX0_count_69 : decode cX0_count 69 = .ok (.iconst 4, 1) := by decide +kernel
theorem dX0_count_70 : decode cX0_count 70 = .ok (.isub, 1) := by decide +kernel
theorem dX0_count_71 : decode cX0_count 71 = .ok (.iaload, 1) := by decide +kernel
theorem dX0_count_72 : decode cX0_count 72 = .ok (.ireturn, 1) := by decide +kernel
theorem dX0_count_73 : decode cX0_count 73 = .ok (.iconst (-1), 1) := by decide +kernel
theorem dX0_count_74 : decode cX0_count 74 = .ok (.ireturn, 1) := by decide +kernel
set_option maxRecDepth 20000 in
theorem ggX0_isDraftSound_X0_isDraftKeySound : GoodIn wsX0_isDraftSound wsX0_isDraftKeySound := goodIn_r _ [6, 7, 8, 9, 10, 11, 12, 13, 14, 5, 15, 16, 17, 18, 19, 20, 21, 22, 23, 24, 25, 26, 27, 28, 29, 30, 31, 32, 33, 34, 35, 36] (by decide +kernel) (by decide +kernel)
set_option maxRecDepth 20000 in
theorem gX0_isDraftSound_X0_isDraftKeySound : GoodIn wsX0_isDraftSound (wsV RX0 103 RX0 yX0_isDraftKeySound wsX0_isDraftKeySound) := goodIn_app (goodIn_of _ (by decide +kernel)) ggX0_isDraftSound_X0_isDraftKeySound
theorem dX0_isDraftSound_0 : decode cX0_isDraftSound 0 = .ok (.iconst 0, 1) := by decide +kernel
theorem dX0_isDraftSound_1 : decode cX0_isDraftSound 1 = .ok (.istore_n 1, 1) := by decide +kernel
theorem dX0_isDraftSound_2 : decode cX0_isDraftSound 2 = .ok (.iload_n 1, 1) := by decide +kernel
theorem dX0_isDraftSound_3 : decode cX0_isDraftSound 3 = .ok (.aload_n 0, 1) := by decide +kernel
theorem dX0_isDraftSound_4 : decode cX0_isDraftSound 4 = .ok (.getfield 60, 3) := by decide +kernel
theorem dX0_isDraftSound_7 : decode cX0_isDraftSound 7 = .ok (.if_icmp .ge 19, 3) := by decide +kernel
theorem dX0_isDraftSound_10 : decode cX0_isDraftSound 10 = .ok (.aload_n 0, 1) := by decide +kernel
theorem dX0_isDraftSound_11 : decode cX0_isDraftSound 11 = .ok (.iload_n 1, 1) := by decide +kernel
theorem dX0_isDraftSound_12 : decode cX0_isDraftSound 12 = .ok (.invokevirtual 103, 3) := by decide +kernel
theorem dX0_isDraftSound_15 : decode cX0_isDraftSound 15 = .ok (.ifCond .ne 5, 3) := by decide +kernel
theorem dX0_isDraftSound_18 : decode cX0_isDraftSound 18 = .ok (.iconst 0, 1) := by decide +kernel
theorem dX0_isDraftSound_19 : decode cX0_isDraftSound 19 = .ok (.ireturn, 1) := by decide +kernel
theorem dX0_isDraftSound_20 : decode cX0_isDraftSound 20 = .ok (.iinc 1 1, 3) := by decide +kernel
theorem dX0_isDraftSound_23 : decode cX0_isDraftSound 23 = .ok (.goto (-21), 3) := by decide +kernel
theorem dX0_isDraftSound_26 : decode cX0_isDraftSound 26 = .ok (.iconst 1, 1) := by decide +kernel
theorem dX0_isDraftSound_27 : decode cX0_isDraftSound 27 = .ok (.ireturn, 1) := by decide +kernel
set_option maxRecDepth 20000 in
theorem ggX0_isDraftKeySound_X0_isNumber : GoodIn wsX0_isDraftKeySound wsX0_isNumber := goodIn_r _ [10, 11, 16, 17, 18, 19, 20, 21, 22, 23, 24, 25, 26, 27, 28, 29, 30, 31] (by decide +kernel) (by decide +kernel)
set_option maxRecDepth 20000 in
theorem gX0_isDraftKeySound_X0_isNumber : GoodIn wsX0_isDraftKeySound (wsV RX0 106 RX0 yX0_isNumber wsX0_isNumber) := goodIn_app (goodIn_of _ (by decide +kernel)) ggX0_isDraftKeySound_X0_isNumber
set_option maxRecDepth 20000 in
theorem ggX0_isDraftKeySound_X0_draftBits : GoodIn wsX0_isDraftKeySound wsX0_draftBits := goodIn_r _ [15, 2, 11, 3, 16, 17, 18, 19, 20, 21, 22, 23, 24, 25, 26, 27, 28, 29, 30, 31] (by decide +kernel) (by decide +kernel)
set_option maxRecDepth 20000 in
theorem gX0_isDraftKeySound_X0_draftBits : GoodIn wsX0_isDraftKeySound (wsV RX0 110 RX0 yX0_draftBits wsX0_draftBits) := goodIn_app (goodIn_of _ (by decide +kernel)) ggX0_isDraftKeySound_X0_draftBits
theorem dX0_isDraftKeySound_0 : decode cX0_isDraftKeySound 0 = .ok (.aload_n 0, 1) := by decide +kernel
theorem dX0_isDraftKeySound_1 : decode cX0_isDraftKeySound 1 = .ok (.aload_n 0, 1) := by decide +kernel
theorem dX0_isDraftKeySound_2 : decode cX0_isDraftKeySound 2 = .ok (.getfield 13, 3) := by decide +kernel
theorem dX0_isDraftKeySound_5 : decode cX0_isDraftKeySound 5 = .ok (.iload_n 1, 1) := by decide +kernel
theorem dX0_isDraftKeySound_6 : decode cX0_isDraftKeySound 6 = .ok (.laload, 1) := by decide +kernel
theorem dX0_isDraftKeySound_7 : decode cX0_isDraftKeySound 7 = .ok (.invokevirtual 106, 3) := by decide +kernel
theorem dX0_isDraftKeySound_10 : decode cX0_isDraftKeySound 10 = .ok (.ifCond .ne 5, 3) := by decide +kernel
theorem dX0_isDraftKeySound_13 : decode cX0_isDraftKeySound 13 = .ok (.iconst 0, 1) := by decide +kernel
theorem dX0_isDraftKeySound_14 : decode cX0_isDraftKeySound 14 = .ok (.ireturn, 1) := by decide +kernel
theorem dX0_isDraftKeySound_15 : decode cX0_isDraftKeySound 15 = .ok (.aload_n 0, 1) := by decide +kernel
theorem dX0_isDraftKeySound_16 : decode cX0_isDraftKeySound 16 = .ok (.getfield 9, 3) := by decide +kernel
theorem dX0_isDraftKeySound_19 : decode cX0_isDraftKeySound 19 = .ok (.iload_n 1, 1) := by decide +kernel
theorem dX0_isDraftKeySound_20 : decode cX0_isDraftKeySound 20 = .ok (.iaload, 1) := by decide +kernel
theorem dX0_isDraftKeySound_21 : decode cX0_isDraftKeySound 21 = .ok (.ifCond .ne 5, 3) := by decide +kernel
theorem dX0_isDraftKeySound_24 : decode cX0_isDraftKeySound 24 = .ok (.iconst 1, 1) := by decide +kernel
theorem dX0_isDraftKeySound_25 : decode cX0_isDraftKeySound 25 = .ok (.ireturn, 1) := by decide +kernel
theorem dX0_isDraftKeySound_26 : decode cX0_isDraftKeySound 26 = .ok (.aload_n 0, 1) := by decide +kernel
theorem dX0_isDraftKeySound_27 : decode cX0_isDraftKeySound 27 = .ok (.getfield 9, 3) := by decide +kernel
theorem dX0_isDraftKeySound_30 : decode cX0_isDraftKeySound 30 = .ok (.iload_n 1, 1) := by decide +kernel
theorem dX0_isDraftKeySound_31 : decode cX0_isDraftKeySound 31 = .ok (.iaload, 1) := by decide +kernel
theorem dX0_isDraftKeySound_32 : decode cX0_isDraftKeySound 32 = .ok (.iconst 1, 1) := by decide +kernel
theorem dX0_isDraftKeySound_33 : decode cX0_isDraftKeySound 33 = .ok (.if_icmp .ne 37, 3) := by decide +kernel
theorem dX0_isDraftKeySound_36 : decode cX0_isDraftKeySound 36 = .ok (.aload_n 0, 1) := by decide +kernel
theorem dX0_isDraftKeySound_37 : decode cX0_isDraftKeySound 37 = .ok (.getfield 17, 3) := by decide +kernel
theorem dX0_isDraftKeySound_40 : decode cX0_isDraftKeySound 40 = .ok (.iload_n 1, 1) := by decide +kernel
theorem dX0_isDraftKeySound_41 : decode cX0_isDraftKeySound 41 = .ok (.laload, 1) := by decide +kernel
theorem dX0_isDraftKeySound_42 : decode cX0_isDraftKeySound 42 = .ok (.lconst 0, 1) := by decide +kernel
theorem dX0_isDraftKeySound_43 : decode cX0_isDraftKeySound 43 = .ok (.lcmp, 1) := by decide +kernel
theorem dX0_isDraftKeySound_44 : decode cX0_isDraftKeySound 44 = .ok (.ifCond .lt 22, 3) := by decide +kernel
theorem dX0_isDraftKeySound_47 : decode cX0_isDraftKeySound 47 = .ok (.aload_n 0, 1) := by decide +kernel
theorem dX0_isDraftKeySound_48 : decode cX0_isDraftKeySound 48 = .ok (.getfield 17, 3) := by decide +kernel
theorem dX0_isDraftKeySound_51 : decode cX0_isDraftKeySound 51 = .ok (.iload_n 1, 1) := by decide +kernel
theorem dX0_isDraftKeySound_52 : decode cX0_isDraftKeySound 52 = .ok (.laload, 1) := by decide +kernel
theorem dX0_isDraftKeySound_53 : decode cX0_isDraftKeySound 53 = .ok (.aload_n 0, 1) := by decide +kernel
theorem dX0_isDraftKeySound_54 : decode cX0_isDraftKeySound 54 = .ok (.getfield 63, 3) := by decide +kernel
theorem dX0_isDraftKeySound_57 : decode cX0_isDraftKeySound 57 = .ok (.i2l, 1) := by decide +kernel
theorem dX0_isDraftKeySound_58 : decode cX0_isDraftKeySound 58 = .ok (.lcmp, 1) := by decide +kernel
theorem dX0_isDraftKeySound_59 : decode cX0_isDraftKeySound 59 = .ok (.ifCond .gt 7, 3) := by decide +kernel
theorem dX0_isDraftKeySound_62 : decode cX0_isDraftKeySound 62 = .ok (.iconst 1, 1) := by decide +kernel
theorem dX0_isDraftKeySound_63 : decode cX0_isDraftKeySound 63 = .ok (.goto 17, 3) := by decide +kernel
theorem dX0_isDraftKeySound_66 : decode cX0_isDraftKeySound 66 = .ok (.iconst 0, 1) := by decide +kernel
theorem dX0_isDraftKeySound_67 : decode cX0_isDraftKeySound 67 = .ok (.goto 13, 3) := by decide +kernel
theorem dX0_isDraftKeySound_70 : decode cX0_isDraftKeySound 70 = .ok (.aload_n 0, 1) := by decide +kernel
theorem dX0_isDraftKeySound_71 : decode cX0_isDraftKeySound 71 = .ok (.aload_n 0, 1) := by decide +kernel
theorem dX0_isDraftKeySound_72 : decode cX0_isDraftKeySound 72 = .ok (.getfield 17, 3) := by decide +kernel
theorem dX0_isDraftKeySound_75 : decode cX0_isDraftKeySound 75 = .ok (.iload_n 1, 1) := by decide +kernel
theorem dX0_isDraftKeySound_76 : decode cX0_isDraftKeySound 76 = .ok (.laload, 1) := by decide +kernel
theorem dX0_isDraftKeySound_77 : decode cX0_isDraftKeySound 77 = .ok (.invokevirtual 106, 3) := by decide +kernel
theorem dX0_isDraftKeySound_80 : decode cX0_isDraftKeySound 80 = .ok (.istore_n 2, 1) := by decide +kernel
theorem dX0_isDraftKeySound_81 : decode cX0_isDraftKeySound 81 = .ok (.iload_n 2, 1) := by decide +kernel
theorem dX0_isDraftKeySound_82 : decode cX0_isDraftKeySound 82 = .ok (.ifCond .eq 28, 3) := by decide +kernel
theorem dX0_isDraftKeySound_85 : decode cX0_isDraftKeySound 85 = .ok (.aload_n 0, 1) := by decide +kernel
theorem dX0_isDraftKeySound_86 : decode cX0_isDraftKeySound 86 = .ok (.getfield 13, 3) := by decide +kernel
theorem dX0_isDraftKeySound_89 : decode cX0_isDraftKeySound 89 = .ok (.iload_n 1, 1) := by decide +kernel
theorem dX0_isDraftKeySound_90 : decode cX0_isDraftKeySound 90 = .ok (.laload, 1) := by decide +kernel
theorem dX0_isDraftKeySound_91 : decode cX0_isDraftKeySound 91 = .ok (.aload_n 0, 1) := by decide +kernel
theorem dX0_isDraftKeySound_92 : decode cX0_isDraftKeySound 92 = .ok (.iload_n 1, 1) := by decide +kernel
theorem dX0_isDraftKeySound_93 : decode cX0_isDraftKeySound 93 = .ok (.invokevirtual 110, 3) := by decide +kernel
theorem dX0_isDraftKeySound_96 : decode cX0_isDraftKeySound 96 = .ok (.ldc2_w 114, 3) := by decide +kernel
theorem dX0_isDraftKeySound_99 : decode cX0_isDraftKeySound 99 = .ok (.lxor, 1) := by decide +kernel
theorem dX0_isDraftKeySound_100 : decode cX0_isDraftKeySound 100 = .ok (.land, 1) := by decide +kernel
theorem dX0_isDraftKeySound_101 : decode cX0_isDraftKeySound 101 = .ok (.lconst 0, 1) := by decide +kernel
theorem dX0_isDraftKeySound_102 : decode cX0_isDraftKeySound 102 = .ok (.lcmp, 1) := by decide +kernel
theorem dX0_isDraftKeySound_103 : decode cX0_isDraftKeySound 103 = .ok (.ifCond .ne 7, 3) := by decide +kernel
theorem dX0_isDraftKeySound_106 : decode cX0_isDraftKeySound 106 = .ok (.iconst 1, 1) := by decide +kernel
theorem dX0_isDraftKeySound_107 : decode cX0_isDraftKeySound 107 = .ok (.goto 4, 3) := by decide +kernel
theorem dX0_isDraftKeySound_110 : decode cX0_isDraftKeySound 110 = .ok (.iconst 0, 1) := by decide +kernel
theorem dX0_isDraftKeySound_111 : decode cX0_isDraftKeySound 111 = .ok (.ireturn, 1) := by decide +kernel
theorem dX0_isNumber_0 : decode cX0_isNumber 0 = .ok (.lload_n 1, 1) := by decide +kernel
theorem dX0_isNumber_1 : decode cX0_isNumber 1 = .ok (.lconst 0, 1) := by decide +kernel
theorem dX0_isNumber_2 : decode cX0_isNumber 2 = .ok (.lcmp, 1) := by decide +kernel
theorem dX0_isNumber_3 : decode cX0_isNumber 3 = .ok (.ifCond .lt 16, 3) := by decide +kernel
theorem dX0_isNumber_6 : decode cX0_isNumber 6 = .ok (.lload_n 1, 1) := by decide +kernel
theorem dX0_isNumber_7 : decode cX0_isNumber 7 = .ok (.aload_n 0, 1) := by decide +kernel
theorem dX0_isNumber_8 : decode cX0_isNumber 8 = .ok (.getfield 66, 3) := by decide +kernel
theorem dX0_isNumber_11 : decode cX0_isNumber 11 = .ok (.lcmp, 1) := by decide +kernel
theorem dX0_isNumber_12 : decode cX0_isNumber 12 = .ok (.ifCond .gt 7, 3) := by decide +kernel
theorem dX0_isNumber_15 : decode cX0_isNumber 15 = .ok (.iconst 1, 1) := by decide +kernel
theorem dX0_isNumber_16 : decode cX0_isNumber 16 = .ok (.goto 4, 3) := by decide +kernel
theorem dX0_isNumber_19 : decode cX0_isNumber 19 = .ok (.iconst 0, 1) := by decide +kernel
theorem dX0_isNumber_20 : decode cX0_isNumber 20 = .ok (.ireturn, 1) := by decide +kernel
theorem dX0_draftBits_0 : decode cX0_draftBits 0 = .ok (.aload_n 0, 1) := by decide +kernel
theorem dX0_draftBits_1 : decode cX0_draftBits 1 = .ok (.getfield 9, 3) := by decide +kernel
theorem dX0_draftBits_4 : decode cX0_draftBits 4 = .ok (.iload_n 1, 1) := by decide +kernel
theorem dX0_draftBits_5 : decode cX0_draftBits 5 = .ok (.iaload, 1) := by decide +kernel
theorem dX0_draftBits_6 : decode cX0_draftBits 6 = .ok (.ifCond .ne 8, 3) := by decide +kernel
theorem dX0_draftBits_9 : decode cX0_draftBits 9 = .ok (.aload_n 0, 1) := by decide +kernel
theorem dX0_draftBits_10 : decode cX0_draftBits 10 = .ok (.getfield 66, 3) := by decide +kernel
theorem dX0_draftBits_13 : decode cX0_draftBits 13 = .ok (.lreturn, 1) := by decide +kernel
theorem dX0_draftBits_14 : decode cX0_draftBits 14 = .ok (.aload_n 0, 1) := by decide +kernel
theorem dX0_draftBits_15 : decode cX0_draftBits 15 = .ok (.getfield 9, 3) := by decide +kernel
theorem dX0_draftBits_18 : decode cX0_draftBits 18 = .ok (.iload_n 1, 1) := by decide +kernel
theorem dX0_draftBits_19 : decode cX0_draftBits 19 = .ok (.iaload, 1) := by decide +kernel
theorem dX0_draftBits_20 : decode cX0_draftBits 20 = .ok (.iconst 1, 1) := by decide +kernel
theorem dX0_draftBits_21 : decode cX0_draftBits 21 = .ok (.if_icmp .ne 21, 3) := by decide +kernel
theorem dX0_draftBits_24 : decode cX0_draftBits 24 = .ok (.aload_n 0, 1) := by decide +kernel
theorem dX0_draftBits_25 : decode cX0_draftBits 25 = .ok (.getfield 66, 3) := by decide +kernel
theorem dX0_draftBits_28 : decode cX0_draftBits 28 = .ok (.aload_n 0, 1) := by decide +kernel
theorem dX0_draftBits_29 : decode cX0_draftBits 29 = .ok (.getfield 66, 3) := by decide +kernel
theorem dX0_draftBits_32 : decode cX0_draftBits 32 = .ok (.aload_n 0, 1) := by decide +kernel
theorem dX0_draftBits_33 : decode cX0_draftBits 33 = .ok (.getfield 17, 3) := by decide +kernel
theorem dX0_draftBits_36 : decode cX0_draftBits 36 = .ok (.iload_n 1, 1) := by decide +kernel
theorem dX0_draftBits_37 : decode cX0_draftBits 37 = .ok (.laload, 1) := by decide +kernel
theorem dX0_draftBits_38 : decode cX0_draftBits 38 = .ok (.l2i, 1) := by decide +kernel
theorem dX0_draftBits_39 : decode cX0_draftBits 39 = .ok (.lushr, 1) := by decide +kernel
theorem dX0_draftBits_40 : decode cX0_draftBits 40 = .ok (.lxor, 1) := by decide +kernel
theorem dX0_draftBits_41 : decode cX0_draftBits 41 = .ok (.lreturn, 1) := by decide +kernel
theorem dX0_draftBits_42 : decode cX0_draftBits 42 = .ok (.aload_n 0, 1) := by decide +kernel
theorem dX0_draftBits_43 : decode cX0_draftBits 43 = .ok (.getfield 17, 3) := by decide +kernel
theorem dX0_draftBits_46 : decode cX0_draftBits 46 = .ok (.iload_n 1, 1) := by decide +kernel
theorem dX0_draftBits_47 : decode cX0_draftBits 47 = .ok (.laload, 1) := by decide +kernel
theorem dX0_draftBits_48 : decode cX0_draftBits 48 = .ok (.lreturn, 1) := by decide +kernel
theorem dX0_draftPrefix_0 : decode cX0_draftPrefix 0 = .ok (.iconst 0, 1) := by decide +kernel
theorem dX0_draftPrefix_1 : decode cX0_draftPrefix 1 = .ok (.istore_n 1, 1) := by decide +kernel
theorem dX0_draftPrefix_2 : decode cX0_draftPrefix 2 = .ok (.iload_n 1, 1) := by decide +kernel
theorem dX0_draftPrefix_3 : decode cX0_draftPrefix 3 = .ok (.aload_n 0, 1) := by decide +kernel
theorem dX0_draftPrefix_4 : decode cX0_draftPrefix 4 = .ok (.getfield 60, 3) := by decide +kernel
theorem dX0_draftPrefix_7 : decode cX0_draftPrefix 7 = .ok (.if_icmp .ge 27, 3) := by decide +kernel
theorem dX0_draftPrefix_10 : decode cX0_draftPrefix 10 = .ok (.aload_n 0, 1) := by decide +kernel
theorem dX0_draftPrefix_11 : decode cX0_draftPrefix 11 = .ok (.getfield 9, 3) := by decide +kernel
theorem dX0_draftPrefix_14 : decode cX0_draftPrefix 14 = .ok (.iload_n 1, 1) := by decide +kernel
theorem dX0_draftPrefix_15 : decode cX0_draftPrefix 15 = .ok (.iaload, 1) := by decide +kernel
theorem dX0_draftPrefix_16 : decode cX0_draftPrefix 16 = .ok (.iconst 1, 1) := by decide +kernel
theorem dX0_draftPrefix_17 : decode cX0_draftPrefix 17 = .ok (.if_icmp .ne 11, 3) := by decide +kernel
theorem dX0_draftPrefix_20 : decode cX0_draftPrefix 20 = .ok (.aload_n 0, 1) := by decide +kernel
theorem dX0_draftPrefix_21 : decode cX0_draftPrefix 21 = .ok (.getfield 17, 3) := by decide +kernel
theorem dX0_draftPrefix_24 : decode cX0_draftPrefix 24 = .ok (.iload_n 1, 1) := by decide +kernel
theorem dX0_draftPrefix_25 : decode cX0_draftPrefix 25 = .ok (.laload, 1) := by decide +kernel
theorem dX0_draftPrefix_26 : decode cX0_draftPrefix 26 = .ok (.l2i, 1) := by decide +kernel
theorem dX0_draftPrefix_27 : decode cX0_draftPrefix 27 = .ok (.ireturn, 1) := by decide +kernel
theorem dX0_draftPrefix_28 : decode cX0_draftPrefix 28 = .ok (.iinc 1 1, 3) := by decide +kernel
theorem dX0_draftPrefix_31 : decode cX0_draftPrefix 31 = .ok (.goto (-29), 3) := by decide +kernel
theorem dX0_draftPrefix_34 : decode cX0_draftPrefix 34 = .ok (.iconst 0, 1) := by decide +kernel
theorem dX0_draftPrefix_35 : decode cX0_draftPrefix 35 = .ok (.ireturn, 1) := by decide +kernel
set_option maxRecDepth 20000 in
theorem ggX0_isDraftThere_X0_isDraftIn : GoodIn wsX0_isDraftThere wsX0_isDraftIn := goodIn_r _ [8, 9, 10, 11, 12, 13, 14, 15, 7, 16, 17, 18, 19, 20, 21, 22, 23, 24, 25, 26, 27, 28, 29, 30, 31, 32, 33, 34, 35] (by decide +kernel) (by decide +kernel)
set_option maxRecDepth 20000 in
theorem gX0_isDraftThere_X0_isDraftIn : GoodIn wsX0_isDraftThere (wsV RX0 116 RX0 yX0_isDraftIn wsX0_isDraftIn) := goodIn_app (goodIn_of _ (by decide +kernel)) ggX0_isDraftThere_X0_isDraftIn
theorem dX0_isDraftThere_0 : decode cX0_isDraftThere 0 = .ok (.iconst 0, 1) := by decide +kernel
theorem dX0_isDraftThere_1 : decode cX0_isDraftThere 1 = .ok (.istore_n 2, 1) := by decide +kernel
theorem dX0_isDraftThere_2 : decode cX0_isDraftThere 2 = .ok (.iload_n 2, 1) := by decide +kernel
theorem dX0_isDraftThere_3 : decode cX0_isDraftThere 3 = .ok (.aload_n 0, 1) := by decide +kernel
theorem dX0_isDraftThere_4 : decode cX0_isDraftThere 4 = .ok (.getfield 23, 3) := by decide +kernel
theorem dX0_isDraftThere_7 : decode cX0_isDraftThere 7 = .ok (.if_icmp .ge 36, 3) := by decide +kernel
theorem dX0_isDraftThere_10 : decode cX0_isDraftThere 10 = .ok (.aload_n 0, 1) := by decide +kernel
theorem dX0_isDraftThere_11 : decode cX0_isDraftThere 11 = .ok (.getfield 20, 3) := by decide +kernel
theorem dX0_isDraftThere_14 : decode cX0_isDraftThere 14 = .ok (.iload_n 2, 1) := by decide +kernel
theorem dX0_isDraftThere_15 : decode cX0_isDraftThere 15 = .ok (.iaload, 1) := by decide +kernel
theorem dX0_isDraftThere_16 : decode cX0_isDraftThere 16 = .ok (.istore_n 3, 1) := by decide +kernel
theorem dX0_isDraftThere_17 : decode cX0_isDraftThere 17 = .ok (.aload_n 0, 1) := by decide +kernel
theorem dX0_isDraftThere_18 : decode cX0_isDraftThere 18 = .ok (.getfield 36, 3) := by decide +kernel
theorem dX0_isDraftThere_21 : decode cX0_isDraftThere 21 = .ok (.iload_n 3, 1) := by decide +kernel
theorem dX0_isDraftThere_22 : decode cX0_isDraftThere 22 = .ok (.iaload, 1) := by decide +kernel
theorem dX0_isDraftThere_23 : decode cX0_isDraftThere 23 = .ok (.iload_n 1, 1) := by decide +kernel
theorem dX0_isDraftThere_24 : decode cX0_isDraftThere 24 = .ok (.if_icmp .ne 13, 3) := by decide +kernel
theorem dX0_isDraftThere_27 : decode cX0_isDraftThere 27 = .ok (.aload_n 0, 1) := by decide +kernel
theorem dX0_isDraftThere_28 : decode cX0_isDraftThere 28 = .ok (.iload_n 3, 1) := by decide +kernel
theorem dX0_isDraftThere_29 : decode cX0_isDraftThere 29 = .ok (.invokevirtual 116, 3) := by decide +kernel
theorem dX0_isDraftThere_32 : decode cX0_isDraftThere 32 = .ok (.ifCond .eq 5, 3) := by decide +kernel
theorem dX0_isDraftThere_35 : decode cX0_isDraftThere 35 = .ok (.iconst 1, 1) := by decide +kernel
theorem dX0_isDraftThere_36 : decode cX0_isDraftThere 36 = .ok (.ireturn, 1) := by decide +kernel
theorem dX0_isDraftThere_37 : decode cX0_isDraftThere 37 = .ok (.iinc 2 1, 3) := by decide +kernel
theorem dX0_isDraftThere_40 : decode cX0_isDraftThere 40 = .ok (.goto (-38), 3) := by decide +kernel
theorem dX0_isDraftThere_43 : decode cX0_isDraftThere 43 = .ok (.iconst 0, 1) := by decide +kernel
theorem dX0_isDraftThere_44 : decode cX0_isDraftThere 44 = .ok (.ireturn, 1) := by decide +kernel
set_option maxRecDepth 20000 in
theorem ggX0_isDraftIn_X0_draftBits : GoodIn wsX0_isDraftIn wsX0_draftBits := goodIn_r _ [9, 10, 11, 12, 13, 14, 15, 16, 17, 18, 19, 20, 21, 22, 23, 24, 25, 26, 27, 28] (by decide +kernel) (by decide +kernel)
set_option maxRecDepth 20000 in
theorem gX0_isDraftIn_X0_draftBits : GoodIn wsX0_isDraftIn (wsV RX0 110 RX0 yX0_draftBits wsX0_draftBits) := goodIn_app (goodIn_of _ (by decide +kernel)) ggX0_isDraftIn_X0_draftBits
theorem dX0_isDraftIn_0 : decode cX0_isDraftIn 0 = .ok (.iconst 0, 1) := by decide +kernel
theorem dX0_isDraftIn_1 : decode cX0_isDraftIn 1 = .ok (.istore_n 2, 1) := by decide +kernel
theorem dX0_isDraftIn_2 : decode cX0_isDraftIn 2 = .ok (.iload_n 2, 1) := by decide +kernel
theorem dX0_isDraftIn_3 : decode cX0_isDraftIn 3 = .ok (.aload_n 0, 1) := by decide +kernel
theorem dX0_isDraftIn_4 : decode cX0_isDraftIn 4 = .ok (.getfield 60, 3) := by decide +kernel
theorem dX0_isDraftIn_7 : decode cX0_isDraftIn 7 = .ok (.if_icmp .ge 48, 3) := by decide +kernel
theorem dX0_isDraftIn_10 : decode cX0_isDraftIn 10 = .ok (.iload_n 1, 1) := by decide +kernel
theorem dX0_isDraftIn_11 : decode cX0_isDraftIn 11 = .ok (.iconst 3, 1) := by decide +kernel
theorem dX0_isDraftIn_12 : decode cX0_isDraftIn 12 = .ok (.imul, 1) := by decide +kernel
theorem dX0_isDraftIn_13 : decode cX0_isDraftIn 13 = .ok (.iload_n 2, 1) := by decide +kernel
theorem dX0_isDraftIn_14 : decode cX0_isDraftIn 14 = .ok (.iadd, 1) := by decide +kernel
theorem dX0_isDraftIn_15 : decode cX0_isDraftIn 15 = .ok (.istore_n 3, 1) := by decide +kernel
theorem dX0_isDraftIn_16 : decode cX0_isDraftIn 16 = .ok (.aload_n 0, 1) := by decide +kernel
theorem dX0_isDraftIn_17 : decode cX0_isDraftIn 17 = .ok (.getfield 45, 3) := by decide +kernel
theorem dX0_isDraftIn_20 : decode cX0_isDraftIn 20 = .ok (.iload_n 3, 1) := by decide +kernel
theorem dX0_isDraftIn_21 : decode cX0_isDraftIn 21 = .ok (.laload, 1) := by decide +kernel
theorem dX0_isDraftIn_22 : decode cX0_isDraftIn 22 = .ok (.aload_n 0, 1) := by decide +kernel
theorem dX0_isDraftIn_23 : decode cX0_isDraftIn 23 = .ok (.getfield 13, 3) := by decide +kernel
theorem dX0_isDraftIn_26 : decode cX0_isDraftIn 26 = .ok (.iload_n 2, 1) := by decide +kernel
theorem dX0_isDraftIn_27 : decode cX0_isDraftIn 27 = .ok (.laload, 1) := by decide +kernel
theorem dX0_isDraftIn_28 : decode cX0_isDraftIn 28 = .ok (.lcmp, 1) := by decide +kernel
theorem dX0_isDraftIn_29 : decode cX0_isDraftIn 29 = .ok (.ifCond .ne 18, 3) := by decide +kernel
theorem dX0_isDraftIn_32 : decode cX0_isDraftIn 32 = .ok (.aload_n 0, 1) := by decide +kernel
theorem dX0_isDraftIn_33 : decode cX0_isDraftIn 33 = .ok (.getfield 48, 3) := by decide +kernel
theorem dX0_isDraftIn_36 : decode cX0_isDraftIn 36 = .ok (.iload_n 3, 1) := by decide +kernel
theorem dX0_isDraftIn_37 : decode cX0_isDraftIn 37 = .ok (.laload, 1) := by decide +kernel
theorem dX0_isDraftIn_38 : decode cX0_isDraftIn 38 = .ok (.aload_n 0, 1) := by decide +kernel
theorem dX0_isDraftIn_39 : decode cX0_isDraftIn 39 = .ok (.iload_n 2, 1) := by decide +kernel
theorem dX0_isDraftIn_40 : decode cX0_isDraftIn 40 = .ok (.invokevirtual 110, 3) := by decide +kernel
theorem dX0_isDraftIn_43 : decode cX0_isDraftIn 43 = .ok (.lcmp, 1) := by decide +kernel
theorem dX0_isDraftIn_44 : decode cX0_isDraftIn 44 = .ok (.ifCond .eq 5, 3) := by decide +kernel
theorem dX0_isDraftIn_47 : decode cX0_isDraftIn 47 = .ok (.iconst 0, 1) := by decide +kernel
theorem dX0_isDraftIn_48 : decode cX0_isDraftIn 48 = .ok (.ireturn, 1) := by decide +kernel
theorem dX0_isDraftIn_49 : decode cX0_isDraftIn 49 = .ok (.iinc 2 1, 3) := by decide +kernel
theorem dX0_isDraftIn_52 : decode cX0_isDraftIn 52 = .ok (.goto (-50), 3) := by decide +kernel
theorem dX0_isDraftIn_55 : decode cX0_isDraftIn 55 = .ok (.iconst 1, 1) := by decide +kernel
theorem dX0_isDraftIn_56 : decode cX0_isDraftIn 56 = .ok (.ireturn, 1) := by decide +kernel
set_option maxRecDepth 20000 in
theorem ggX0_rankForDraft_X0_draftPrefix : GoodIn wsX0_rankForDraft wsX0_draftPrefix := goodIn_r _ [9, 10, 11, 12, 13, 14, 15, 16, 17, 18, 19, 20, 21, 22, 23, 24, 25, 26, 27, 28] (by decide +kernel) (by decide +kernel)
set_option maxRecDepth 20000 in
theorem gX0_rankForDraft_X0_draftPrefix : GoodIn wsX0_rankForDraft (wsV RX0 119 RX0 yX0_draftPrefix wsX0_draftPrefix) := goodIn_app (goodIn_of _ (by decide +kernel)) ggX0_rankForDraft_X0_draftPrefix
theorem dX0_rankForDraft_0 : decode cX0_rankForDraft 0 = .ok (.aload_n 0, 1) := by decide +kernel
theorem dX0_rankForDraft_1 : decode cX0_rankForDraft 1 = .ok (.invokevirtual 119, 3) := by decide +kernel
theorem dX0_rankForDraft_4 : decode cX0_rankForDraft 4 = .ok (.istore_n 2, 1) := by decide +kernel
theorem dX0_rankForDraft_5 : decode cX0_rankForDraft 5 = .ok (.iconst 0, 1) := by decide +kernel
theorem dX0_rankForDraft_6 : decode cX0_rankForDraft 6 = .ok (.istore_n 3, 1) := by decide +kernel
theorem dX0_rankForDraft_7 : decode cX0_rankForDraft 7 = .ok (.iload_n 3, 1) := by decide +kernel
theorem dX0_rankForDraft_8 : decode cX0_rankForDraft 8 = .ok (.aload_n 0, 1) := by decide +kernel
theorem dX0_rankForDraft_9 : decode cX0_rankForDraft 9 = .ok (.getfield 23, 3) := by decide +kernel
theorem dX0_rankForDraft_12 : decode cX0_rankForDraft 12 = .ok (.if_icmp .ge 52, 3) := by decide +kernel
theorem dX0_rankForDraft_15 : decode cX0_rankForDraft 15 = .ok (.aload_n 0, 1) := by decide +kernel
theorem dX0_rankForDraft_16 : decode cX0_rankForDraft 16 = .ok (.getfield 20, 3) := by decide +kernel
theorem dX0_rankForDraft_19 : decode cX0_rankForDraft 19 = .ok (.iload_n 3, 1) := by decide +kernel
theorem dX0_rankForDraft_20 : decode cX0_rankForDraft 20 = .ok (.iaload, 1) := by decide +kernel
theorem dX0_rankForDraft_21 : decode cX0_rankForDraft 21 = .ok (.istore 4, 2) := by decide +kernel
theorem dX0_rankForDraft_23 : decode cX0_rankForDraft 23 = .ok (.aload_n 0, 1) := by decide +kernel
theorem dX0_rankForDraft_24 : decode cX0_rankForDraft 24 = .ok (.getfield 39, 3) := by decide +kernel
theorem dX0_rankForDraft_27 : decode cX0_rankForDraft 27 = .ok (.iload 4, 2) := by decide +kernel
theorem dX0_rankForDraft_29 : decode cX0_rankForDraft 29 = .ok (.iaload, 1) := by decide +kernel
theorem dX0_rankForDraft_30 : decode cX0_rankForDraft 30 = .ok (.iload_n 2, 1) := by decide +kernel
theorem dX0_rankForDraft_31 : decode cX0_rankForDraft 31 = .ok (.if_icmp .lt 25, 3) := by decide +kernel
theorem dX0_rankForDraft_34 : decode cX0_rankForDraft 34 = .ok (.aload_n 0, 1) := by decide +kernel
theorem dX0_rankForDraft_35 : decode cX0_rankForDraft 35 = .ok (.getfield 39, 3) := by decide +kernel
theorem dX0_rankForDraft_38 : decode cX0_rankForDraft 38 = .ok (.iload 4, 2) := by decide +kernel
theorem dX0_rankForDraft_40 : decode cX0_rankForDraft 40 = .ok (.iaload, 1) := by decide +kernel
theorem dX0_rankForDraft_41 : decode cX0_rankForDraft 41 = .ok (.iload_n 2, 1) := by decide +kernel
theorem dX0_rankForDraft_42 : decode cX0_rankForDraft 42 = .ok (.if_icmp .ne 16, 3) := by decide +kernel
theorem dX0_rankForDraft_45 : decode cX0_rankForDraft 45 = .ok (.aload_n 0, 1) := by decide +kernel
theorem dX0_rankForDraft_46 : decode cX0_rankForDraft 46 = .ok (.getfield 36, 3) := by decide +kernel
theorem dX0_rankForDraft_49 : decode cX0_rankForDraft 49 = .ok (.iload 4, 2) := by decide +kernel
theorem dX0_rankForDraft_51 : decode cX0_rankForDraft 51 = .ok (.iaload, 1) := by decide +kernel
theorem dX0_rankForDraft_52 : decode cX0_rankForDraft 52 = .ok (.iload_n 1, 1) := by decide +kernel
theorem dX0_rankForDraft_53 : decode cX0_rankForDraft 53 = .ok (.if_icmp .ge 5, 3) := by decide +kernel
theorem dX0_rankForDraft_56 : decode cX0_rankForDraft 56 = .ok (.iload_n 3, 1) := by decide +kernel
theorem dX0_rankForDraft_57 : decode cX0_rankForDraft 57 = .ok (.ireturn, 1) := by decide +kernel
theorem dX0_rankForDraft_58 : decode cX0_rankForDraft 58 = .ok (.iinc 3 1, 3) := by decide +kernel
theorem dX0_rankForDraft_61 : decode cX0_rankForDraft 61 = .ok (.goto (-54), 3) := by decide +kernel
theorem dX0_rankForDraft_64 : decode cX0_rankForDraft 64 = .ok (.aload_n 0, 1) := by decide +kernel
theorem dX0_rankForDraft_65 : decode cX0_rankForDraft 65 = .ok (.getfield 23, 3) := by decide +kernel
theorem dX0_rankForDraft_68 : decode cX0_rankForDraft 68 = .ok (.ireturn, 1) := by decide +kernel
theorem dX0_takeSlot_0 : decode cX0_takeSlot 0 = .ok (.aload_n 0, 1) := by decide +kernel
theorem dX0_takeSlot_1 : decode cX0_takeSlot 1 = .ok (.getfield 20, 3) := by decide +kernel
theorem dX0_takeSlot_4 : decode cX0_takeSlot 4 = .ok (.aload_n 0, 1) := by decide +kernel
theorem dX0_takeSlot_5 : decode cX0_takeSlot 5 = .ok (.getfield 23, 3) := by decide +kernel
theorem dX0_takeSlot_8 : decode cX0_takeSlot 8 = .ok (.iaload, 1) := by decide +kernel
theorem dX0_takeSlot_9 : decode cX0_takeSlot 9 = .ok (.istore_n 2, 1) := by decide +kernel
theorem dX0_takeSlot_10 : decode cX0_takeSlot 10 = .ok (.aload_n 0, 1) := by decide +kernel
theorem dX0_takeSlot_11 : decode cX0_takeSlot 11 = .ok (.getfield 20, 3) := by decide +kernel
theorem dX0_takeSlot_14 : decode cX0_takeSlot 14 = .ok (.iload_n 1, 1) := by decide +kernel
theorem dX0_takeSlot_15 : decode cX0_takeSlot 15 = .ok (.aload_n 0, 1) := by decide +kernel
theorem dX0_takeSlot_16 : decode cX0_takeSlot 16 = .ok (.getfield 20, 3) := by decide +kernel
theorem dX0_takeSlot_19 : decode cX0_takeSlot 19 = .ok (.iload_n 1, 1) := by decide +kernel
theorem dX0_takeSlot_20 : decode cX0_takeSlot 20 = .ok (.iconst 1, 1) := by decide +kernel
theorem dX0_takeSlot_21 : decode cX0_takeSlot 21 = .ok (.iadd, 1) := by decide +kernel
theorem dX0_takeSlot_22 : decode cX0_takeSlot 22 = .ok (.aload_n 0, 1) := by decide +kernel
theorem dX0_takeSlot_23 : decode cX0_takeSlot 23 = .ok (.getfield 23, 3) := by decide +kernel
theorem dX0_takeSlot_26 : decode cX0_takeSlot 26 = .ok (.iload_n 1, 1) := by decide +kernel
theorem dX0_takeSlot_27 : decode cX0_takeSlot 27 = .ok (.isub, 1) := by decide +kernel
theorem dX0_takeSlot_28 : decode cX0_takeSlot 28 = .ok (.invokestatic 123, 3) := by decide +kernel
theorem dX0_takeSlot_31 : decode cX0_takeSlot 31 = .ok (.aload_n 0, 1) := by decide +kernel
theorem dX0_takeSlot_32 : decode cX0_takeSlot 32 = .ok (.getfield 20, 3) := by decide +kernel
theorem dX0_takeSlot_35 : decode cX0_takeSlot 35 = .ok (.iload_n 1, 1) := by decide +kernel
theorem dX0_takeSlot_36 : decode cX0_takeSlot 36 = .ok (.iload_n 2, 1) := by decide +kernel
theorem dX0_takeSlot_37 : decode cX0_takeSlot 37 = .ok (.iastore, 1) := by decide +kernel
theorem dX0_takeSlot_38 : decode cX0_takeSlot 38 = .ok (.aload_n 0, 1) := by decide +kernel
theorem dX0_takeSlot_39 : decode cX0_takeSlot 39 = .ok (.dup, 1) := by decide +kernel
theorem dX0_takeSlot_40 : decode cX0_takeSlot 40 = .ok (.getfield 23, 3) := by decide +kernel
theorem dX0_takeSlot_43 : decode cX0_takeSlot 43 = .ok (.iconst 1, 1) := by decide +kernel
theorem dX0_takeSlot_44 : decode cX0_takeSlot 44 = .ok (.iadd, 1) := by decide +kernel
theorem dX0_takeSlot_45 : decode cX0_takeSlot 45 = .ok (.putfield 23, 3) := by decide +kernel
theorem dX0_takeSlot_48 : decode cX0_takeSlot 48 = .ok (.iload_n 2, 1) := by decide +kernel
theorem dX0_takeSlot_49 : decode cX0_takeSlot 49 = .ok (.ireturn, 1) := by decide +kernel
theorem dX0_freeSlot_0 : decode cX0_freeSlot 0 = .ok (.aload_n 0, 1) := by decide +kernel
theorem dX0_freeSlot_1 : decode cX0_freeSlot 1 = .ok (.getfield 20, 3) := by decide +kernel
theorem dX0_freeSlot_4 : decode cX0_freeSlot 4 = .ok (.iload_n 1, 1) := by decide +kernel
theorem dX0_freeSlot_5 : decode cX0_freeSlot 5 = .ok (.iaload, 1) := by decide +kernel
theorem dX0_freeSlot_6 : decode cX0_freeSlot 6 = .ok (.istore_n 2, 1) := by decide +kernel
theorem dX0_freeSlot_7 : decode cX0_freeSlot 7 = .ok (.aload_n 0, 1) := by decide +kernel
theorem dX0_freeSlot_8 : decode cX0_freeSlot 8 = .ok (.dup, 1) := by decide +kernel
theorem dX0_freeSlot_9 : decode cX0_freeSlot 9 = .ok (.getfield 23, 3) := by decide +kernel
theorem dX0_freeSlot_12 : decode cX0_freeSlot 12 = .ok (.iconst 1, 1) := by decide +kernel
theorem dX0_freeSlot_13 : decode cX0_freeSlot 13 = .ok (.isub, 1) := by decide +kernel
theorem dX0_freeSlot_14 : decode cX0_freeSlot 14 = .ok (.putfield 23, 3) := by decide +kernel
theorem dX0_freeSlot_17 : decode cX0_freeSlot 17 = .ok (.aload_n 0, 1) := by decide +kernel
theorem dX0_freeSlot_18 : decode cX0_freeSlot 18 = .ok (.getfield 20, 3) := by decide +kernel
theorem dX0_freeSlot_21 : decode cX0_freeSlot 21 = .ok (.iload_n 1, 1) := by decide +kernel
theorem dX0_freeSlot_22 : decode cX0_freeSlot 22 = .ok (.iconst 1, 1) := by decide +kernel
theorem dX0_freeSlot_23 : decode cX0_freeSlot 23 = .ok (.iadd, 1) := by decide +kernel
theorem dX0_freeSlot_24 : decode cX0_freeSlot 24 = .ok (.aload_n 0, 1) := by decide +kernel
theorem dX0_freeSlot_25 : decode cX0_freeSlot 25 = .ok (.getfield 20, 3) := by decide +kernel
theorem dX0_freeSlot_28 : decode cX0_freeSlot 28 = .ok (.iload_n 1, 1) := by decide +kernel
theorem dX0_freeSlot_29 : decode cX0_freeSlot 29 = .ok (.aload_n 0, 1) := by decide +kernel
theorem dX0_freeSlot_30 : decode cX0_freeSlot 30 = .ok (.getfield 23, 3) := by decide +kernel
theorem dX0_freeSlot_33 : decode cX0_freeSlot 33 = .ok (.iload_n 1, 1) := by decide +kernel
theorem dX0_freeSlot_34 : decode cX0_freeSlot 34 = .ok (.isub, 1) := by decide +kernel
theorem dX0_freeSlot_35 : decode cX0_freeSlot 35 = .ok (.invokestatic 123, 3) := by decide +kernel
theorem dX0_freeSlot_38 : decode cX0_freeSlot 38 = .ok (.aload_n 0, 1) := by decide +kernel
theorem dX0_freeSlot_39 : decode cX0_freeSlot 39 = .ok (.getfield 20, 3) := by decide +kernel
theorem dX0_freeSlot_42 : decode cX0_freeSlot 42 = .ok (.aload_n 0, 1) := by decide +kernel
theorem dX0_freeSlot_43 : decode cX0_freeSlot 43 = .ok (.getfield 23, 3) := by decide +kernel
theorem dX0_freeSlot_46 : decode cX0_freeSlot 46 = .ok (.iload_n 2, 1) := by decide +kernel
theorem dX0_freeSlot_47 : decode cX0_freeSlot 47 = .ok (.iastore, 1) := by decide +kernel
theorem dX0_freeSlot_48 : decode cX0_freeSlot 48 = .ok (.return_, 1) := by decide +kernel
set_option maxRecDepth 20000 in
theorem ggX0_fillSlot_X0_draftPrefix : GoodIn wsX0_fillSlot wsX0_draftPrefix := goodIn_r _ [14, 6, 15, 16, 22, 23, 24, 25, 26, 27, 28, 29, 30, 31, 32, 33, 34, 35, 36, 37] (by decide +kernel) (by decide +kernel)
set_option maxRecDepth 20000 in
theorem gX0_fillSlot_X0_draftPrefix : GoodIn wsX0_fillSlot (wsV RX0 119 RX0 yX0_draftPrefix wsX0_draftPrefix) := goodIn_app (goodIn_of _ (by decide +kernel)) ggX0_fillSlot_X0_draftPrefix
set_option maxRecDepth 20000 in
theorem ggX0_fillSlot_X0_draftBits : GoodIn wsX0_fillSlot wsX0_draftBits := goodIn_r _ [20, 15, 21, 16, 22, 23, 24, 25, 26, 27, 28, 29, 30, 31, 32, 33, 34, 35, 36, 37] (by decide +kernel) (by decide +kernel)
set_option maxRecDepth 20000 in
theorem gX0_fillSlot_X0_draftBits : GoodIn wsX0_fillSlot (wsV RX0 110 RX0 yX0_draftBits wsX0_draftBits) := goodIn_app (goodIn_of _ (by decide +kernel)) ggX0_fillSlot_X0_draftBits
theorem dX0_fillSlot_0 : decode cX0_fillSlot 0 = .ok (.aload_n 0, 1) := by decide +kernel
theorem dX0_fillSlot_1 : decode cX0_fillSlot 1 = .ok (.getfield 33, 3) := by decide +kernel
theorem dX0_fillSlot_4 : decode cX0_fillSlot 4 = .ok (.iload_n 1, 1) := by decide +kernel
theorem dX0_fillSlot_5 : decode cX0_fillSlot 5 = .ok (.aload_n 0, 1) := by decide +kernel
theorem dX0_fillSlot_6 : decode cX0_fillSlot 6 = .ok (.getfield 27, 3) := by decide +kernel
theorem dX0_fillSlot_9 : decode cX0_fillSlot 9 = .ok (.iastore, 1) := by decide +kernel
theorem dX0_fillSlot_10 : decode cX0_fillSlot 10 = .ok (.aload_n 0, 1) := by decide +kernel
theorem dX0_fillSlot_11 : decode cX0_fillSlot 11 = .ok (.dup, 1) := by decide +kernel
theorem dX0_fillSlot_12 : decode cX0_fillSlot 12 = .ok (.getfield 27, 3) := by decide +kernel
theorem dX0_fillSlot_15 : decode cX0_fillSlot 15 = .ok (.iconst 1, 1) := by decide +kernel
theorem dX0_fillSlot_16 : decode cX0_fillSlot 16 = .ok (.iadd, 1) := by decide +kernel
theorem dX0_fillSlot_17 : decode cX0_fillSlot 17 = .ok (.putfield 27, 3) := by decide +kernel
theorem dX0_fillSlot_20 : decode cX0_fillSlot 20 = .ok (.aload_n 0, 1) := by decide +kernel
theorem dX0_fillSlot_21 : decode cX0_fillSlot 21 = .ok (.getfield 36, 3) := by decide +kernel
theorem dX0_fillSlot_24 : decode cX0_fillSlot 24 = .ok (.iload_n 1, 1) := by decide +kernel
theorem dX0_fillSlot_25 : decode cX0_fillSlot 25 = .ok (.iload_n 2, 1) := by decide +kernel
theorem dX0_fillSlot_26 : decode cX0_fillSlot 26 = .ok (.iastore, 1) := by decide +kernel
theorem dX0_fillSlot_27 : decode cX0_fillSlot 27 = .ok (.aload_n 0, 1) := by decide +kernel
theorem dX0_fillSlot_28 : decode cX0_fillSlot 28 = .ok (.getfield 39, 3) := by decide +kernel
theorem dX0_fillSlot_31 : decode cX0_fillSlot 31 = .ok (.iload_n 1, 1) := by decide +kernel
theorem dX0_fillSlot_32 : decode cX0_fillSlot 32 = .ok (.aload_n 0, 1) := by decide +kernel
theorem dX0_fillSlot_33 : decode cX0_fillSlot 33 = .ok (.invokevirtual 119, 3) := by decide +kernel
theorem dX0_fillSlot_36 : decode cX0_fillSlot 36 = .ok (.iastore, 1) := by decide +kernel
theorem dX0_fillSlot_37 : decode cX0_fillSlot 37 = .ok (.aload_n 0, 1) := by decide +kernel
theorem dX0_fillSlot_38 : decode cX0_fillSlot 38 = .ok (.getfield 42, 3) := by decide +kernel
theorem dX0_fillSlot_41 : decode cX0_fillSlot 41 = .ok (.iload_n 1, 1) := by decide +kernel
theorem dX0_fillSlot_42 : decode cX0_fillSlot 42 = .ok (.iconst 0, 1) := by decide +kernel
theorem dX0_fillSlot_43 : decode cX0_fillSlot 43 = .ok (.iastore, 1) := by decide +kernel
theorem dX0_fillSlot_44 : decode cX0_fillSlot 44 = .ok (.iconst 0, 1) := by decide +kernel
theorem dX0_fillSlot_45 : decode cX0_fillSlot 45 = .ok (.istore_n 3, 1) := by decide +kernel
theorem dX0_fillSlot_46 : decode cX0_fillSlot 46 = .ok (.iload_n 3, 1) := by decide +kernel
theorem dX0_fillSlot_47 : decode cX0_fillSlot 47 = .ok (.aload_n 0, 1) := by decide +kernel
theorem dX0_fillSlot_48 : decode cX0_fillSlot 48 = .ok (.getfield 60, 3) := by decide +kernel
theorem dX0_fillSlot_51 : decode cX0_fillSlot 51 = .ok (.if_icmp .ge 40, 3) := by decide +kernel
theorem dX0_fillSlot_54 : decode cX0_fillSlot 54 = .ok (.aload_n 0, 1) := by decide +kernel
theorem dX0_fillSlot_55 : decode cX0_fillSlot 55 = .ok (.getfield 45, 3) := by decide +kernel
theorem dX0_fillSlot_58 : decode cX0_fillSlot 58 = .ok (.iload_n 1, 1) := by decide +kernel
theorem dX0_fillSlot_59 : decode cX0_fillSlot 59 = .ok (.iconst 3, 1) := by decide +kernel
theorem dX0_fillSlot_60 : decode cX0_fillSlot 60 = .ok (.imul, 1) := by decide +kernel
theorem dX0_fillSlot_61 : decode cX0_fillSlot 61 = .ok (.iload_n 3, 1) := by decide +kernel
theorem dX0_fillSlot_62 : decode cX0_fillSlot 62 = .ok (.iadd, 1) := by decide +kernel
theorem dX0_fillSlot_63 : decode cX0_fillSlot 63 = .ok (.aload_n 0, 1) := by decide +kernel
theorem dX0_fillSlot_64 : decode cX0_fillSlot 64 = .ok (.getfield 13, 3) := by decide +kernel
theorem dX0_fillSlot_67 : decode cX0_fillSlot 67 = .ok (.iload_n 3, 1) := by decide +kernel
theorem dX0_fillSlot_68 : decode cX0_fillSlot 68 = .ok (.laload, 1) := by decide +kernel
theorem dX0_fillSlot_69 : decode cX0_fillSlot 69 = .ok (.lastore, 1) := by decide +kernel
theorem dX0_fillSlot_70 : decode cX0_fillSlot 70 = .ok (.aload_n 0, 1) := by decide +kernel
theorem dX0_fillSlot_71 : decode cX0_fillSlot 71 = .ok (.getfield 48, 3) := by decide +kernel
theorem dX0_fillSlot_74 : decode cX0_fillSlot 74 = .ok (.iload_n 1, 1) := by decide +kernel
theorem dX0_fillSlot_75 : decode cX0_fillSlot 75 = .ok (.iconst 3, 1) := by decide +kernel
theorem dX0_fillSlot_76 : decode cX0_fillSlot 76 = .ok (.imul, 1) := by decide +kernel
theorem dX0_fillSlot_77 : decode cX0_fillSlot 77 = .ok (.iload_n 3, 1) := by decide +kernel
theorem dX0_fillSlot_78 : decode cX0_fillSlot 78 = .ok (.iadd, 1) := by decide +kernel
theorem dX0_fillSlot_79 : decode cX0_fillSlot 79 = .ok (.aload_n 0, 1) := by decide +kernel
theorem dX0_fillSlot_80 : decode cX0_fillSlot 80 = .ok (.iload_n 3, 1) := by decide +kernel
theorem dX0_fillSlot_81 : decode cX0_fillSlot 81 = .ok (.invokevirtual 110, 3) := by decide +kernel
theorem dX0_fillSlot_84 : decode cX0_fillSlot 84 = .ok (.lastore, 1) := by decide +kernel
theorem dX0_fillSlot_85 : decode cX0_fillSlot 85 = .ok (.iinc 3 1, 3) := by decide +kernel
theorem dX0_fillSlot_88 : decode cX0_fillSlot 88 = .ok (.goto (-42), 3) := by decide +kernel
theorem dX0_fillSlot_91 : decode cX0_fillSlot 91 = .ok (.return_, 1) := by decide +kernel
theorem dX0_clearDraft_0 : decode cX0_clearDraft 0 = .ok (.iconst 0, 1) := by decide +kernel
theorem dX0_clearDraft_1 : decode cX0_clearDraft 1 = .ok (.istore_n 1, 1) := by decide +kernel
theorem dX0_clearDraft_2 : decode cX0_clearDraft 2 = .ok (.iload_n 1, 1) := by decide +kernel
theorem dX0_clearDraft_3 : decode cX0_clearDraft 3 = .ok (.iconst 3, 1) := by decide +kernel
theorem dX0_clearDraft_4 : decode cX0_clearDraft 4 = .ok (.if_icmp .ge 23, 3) := by decide +kernel
theorem dX0_clearDraft_7 : decode cX0_clearDraft 7 = .ok (.aload_n 0, 1) := by decide +kernel
theorem dX0_clearDraft_8 : decode cX0_clearDraft 8 = .ok (.getfield 13, 3) := by decide +kernel
theorem dX0_clearDraft_11 : decode cX0_clearDraft 11 = .ok (.iload_n 1, 1) := by decide +kernel
theorem dX0_clearDraft_12 : decode cX0_clearDraft 12 = .ok (.lconst 0, 1) := by decide +kernel
theorem dX0_clearDraft_13 : decode cX0_clearDraft 13 = .ok (.lastore, 1) := by decide +kernel
theorem dX0_clearDraft_14 : decode cX0_clearDraft 14 = .ok (.aload_n 0, 1) := by decide +kernel
theorem dX0_clearDraft_15 : decode cX0_clearDraft 15 = .ok (.getfield 17, 3) := by decide +kernel
theorem dX0_clearDraft_18 : decode cX0_clearDraft 18 = .ok (.iload_n 1, 1) := by decide +kernel
theorem dX0_clearDraft_19 : decode cX0_clearDraft 19 = .ok (.lconst 0, 1) := by decide +kernel
theorem dX0_clearDraft_20 : decode cX0_clearDraft 20 = .ok (.lastore, 1) := by decide +kernel
theorem dX0_clearDraft_21 : decode cX0_clearDraft 21 = .ok (.iinc 1 1, 3) := by decide +kernel
theorem dX0_clearDraft_24 : decode cX0_clearDraft 24 = .ok (.goto (-22), 3) := by decide +kernel
theorem dX0_clearDraft_27 : decode cX0_clearDraft 27 = .ok (.return_, 1) := by decide +kernel
theorem dX0_rankOf_0 : decode cX0_rankOf 0 = .ok (.iconst 0, 1) := by decide +kernel
theorem dX0_rankOf_1 : decode cX0_rankOf 1 = .ok (.istore_n 2, 1) := by decide +kernel
theorem dX0_rankOf_2 : decode cX0_rankOf 2 = .ok (.iload_n 2, 1) := by decide +kernel
theorem dX0_rankOf_3 : decode cX0_rankOf 3 = .ok (.aload_n 0, 1) := by decide +kernel
theorem dX0_rankOf_4 : decode cX0_rankOf 4 = .ok (.getfield 23, 3) := by decide +kernel
theorem dX0_rankOf_7 : decode cX0_rankOf 7 = .ok (.if_icmp .ge 26, 3) := by decide +kernel
theorem dX0_rankOf_10 : decode cX0_rankOf 10 = .ok (.aload_n 0, 1) := by decide +kernel
theorem dX0_rankOf_11 : decode cX0_rankOf 11 = .ok (.getfield 33, 3) := by decide +kernel
theorem dX0_rankOf_14 : decode cX0_rankOf 14 = .ok (.aload_n 0, 1) := by decide +kernel
theorem dX0_rankOf_15 : decode cX0_rankOf 15 = .ok (.getfield 20, 3) := by decide +kernel
theorem dX0_rankOf_18 : decode cX0_rankOf 18 = .ok (.iload_n 2, 1) := by decide +kernel
theorem dX0_rankOf_19 : decode cX0_rankOf 19 = .ok (.iaload, 1) := by decide +kernel
theorem dX0_rankOf_20 : decode cX0_rankOf 20 = .ok (.iaload, 1) := by decide +kernel
theorem dX0_rankOf_21 : decode cX0_rankOf 21 = .ok (.iload_n 1, 1) := by decide +kernel
theorem dX0_rankOf_22 : decode cX0_rankOf 22 = .ok (.if_icmp .ne 5, 3) := by decide +kernel
theorem dX0_rankOf_25 : decode cX0_rankOf 25 = .ok (.iload_n 2, 1) := by decide +kernel
theorem dX0_rankOf_26 : decode cX0_rankOf 26 = .ok (.ireturn, 1) := by decide +kernel
theorem dX0_rankOf_27 : decode cX0_rankOf 27 = .ok (.iinc 2 1, 3) := by decide +kernel
theorem dX0_rankOf_30 : decode cX0_rankOf 30 = .ok (.goto (-28), 3) := by decide +kernel
theorem dX0_rankOf_33 : decode cX0_rankOf 33 = .ok (.iconst (-1), 1) := by decide +kernel
theorem dX0_rankOf_34 : decode cX0_rankOf 34 = .ok (.ireturn, 1) := by decide +kernel
theorem dX0_fits_0 : decode cX0_fits 0 = .ok (.iload_n 1, 1) := by decide +kernel
theorem dX0_fits_1 : decode cX0_fits 1 = .ok (.iconst 3, 1) := by decide +kernel
theorem dX0_fits_2 : decode cX0_fits 2 = .ok (.imul, 1) := by decide +kernel
theorem dX0_fits_3 : decode cX0_fits 3 = .ok (.iload_n 2, 1) := by decide +kernel
theorem dX0_fits_4 : decode cX0_fits 4 = .ok (.iadd, 1) := by decide +kernel
theorem dX0_fits_5 : decode cX0_fits 5 = .ok (.istore 5, 2) := by decide +kernel
theorem dX0_fits_7 : decode cX0_fits 7 = .ok (.lload_n 3, 1) := by decide +kernel
theorem dX0_fits_8 : decode cX0_fits 8 = .ok (.aload_n 0, 1) := by decide +kernel
theorem dX0_fits_9 : decode cX0_fits 9 = .ok (.getfield 48, 3) := by decide +kernel
theorem dX0_fits_12 : decode cX0_fits 12 = .ok (.iload 5, 2) := by decide +kernel
theorem dX0_fits_14 : decode cX0_fits 14 = .ok (.laload, 1) := by decide +kernel
theorem dX0_fits_15 : decode cX0_fits 15 = .ok (.land, 1) := by decide +kernel
theorem dX0_fits_16 : decode cX0_fits 16 = .ok (.aload_n 0, 1) := by decide +kernel
theorem dX0_fits_17 : decode cX0_fits 17 = .ok (.getfield 45, 3) := by decide +kernel
theorem dX0_fits_20 : decode cX0_fits 20 = .ok (.iload 5, 2) := by decide +kernel
theorem dX0_fits_22 : decode cX0_fits 22 = .ok (.laload, 1) := by decide +kernel
theorem dX0_fits_23 : decode cX0_fits 23 = .ok (.lcmp, 1) := by decide +kernel
theorem dX0_fits_24 : decode cX0_fits 24 = .ok (.ifCond .ne 7, 3) := by decide +kernel
theorem dX0_fits_27 : decode cX0_fits 27 = .ok (.iconst 1, 1) := by decide +kernel
theorem dX0_fits_28 : decode cX0_fits 28 = .ok (.goto 4, 3) := by decide +kernel
theorem dX0_fits_31 : decode cX0_fits 31 = .ok (.iconst 0, 1) := by decide +kernel
theorem dX0_fits_32 : decode cX0_fits 32 = .ok (.ireturn, 1) := by decide +kernel
theorem dX1_init_0 : decode cX1_init 0 = .ok (.aload_n 0, 1) := by decide +kernel
theorem dX1_init_1 : decode cX1_init 1 = .ok (.invokespecial 1, 3) := by decide +kernel
theorem dX1_init_4 : decode cX1_init 4 = .ok (.aload_n 0, 1) := by decide +kernel
theorem dX1_init_5 : decode cX1_init 5 = .ok (.iconst 3, 1) := by decide +kernel
theorem dX1_init_6 : decode cX1_init 6 = .ok (.newarray .int, 2) := by decide +kernel
theorem dX1_init_8 : decode cX1_init 8 = .ok (.putfield 7, 3) := by decide +kernel
theorem dX1_init_11 : decode cX1_init 11 = .ok (.aload_n 0, 1) := by decide +kernel
theorem dX1_init_12 : decode cX1_init 12 = .ok (.bipush 24, 2) := by decide +kernel
theorem dX1_init_14 : decode cX1_init 14 = .ok (.newarray .int, 2) := by decide +kernel
theorem dX1_init_16 : decode cX1_init 16 = .ok (.putfield 13, 3) := by decide +kernel
theorem dX1_init_19 : decode cX1_init 19 = .ok (.aload_n 0, 1) := by decide +kernel
theorem dX1_init_20 : decode cX1_init 20 = .ok (.bipush 24, 2) := by decide +kernel
theorem dX1_init_22 : decode cX1_init 22 = .ok (.newarray .int, 2) := by decide +kernel
theorem dX1_init_24 : decode cX1_init 24 = .ok (.putfield 16, 3) := by decide +kernel
theorem dX1_init_27 : decode cX1_init 27 = .ok (.aload_n 0, 1) := by decide +kernel
theorem dX1_init_28 : decode cX1_init 28 = .ok (.bipush 24, 2) := by decide +kernel
theorem dX1_init_30 : decode cX1_init 30 = .ok (.newarray .int, 2) := by decide +kernel
theorem dX1_init_32 : decode cX1_init 32 = .ok (.putfield 19, 3) := by decide +kernel
theorem dX1_init_35 : decode cX1_init 35 = .ok (.aload_n 0, 1) := by decide +kernel
theorem dX1_init_36 : decode cX1_init 36 = .ok (.bipush 72, 2) := by decide +kernel
theorem dX1_init_38 : decode cX1_init 38 = .ok (.newarray .long, 2) := by decide +kernel
theorem dX1_init_40 : decode cX1_init 40 = .ok (.putfield 22, 3) := by decide +kernel
theorem dX1_init_43 : decode cX1_init 43 = .ok (.aload_n 0, 1) := by decide +kernel
theorem dX1_init_44 : decode cX1_init 44 = .ok (.bipush 72, 2) := by decide +kernel
theorem dX1_init_46 : decode cX1_init 46 = .ok (.newarray .long, 2) := by decide +kernel
theorem dX1_init_48 : decode cX1_init 48 = .ok (.putfield 26, 3) := by decide +kernel
theorem dX1_init_51 : decode cX1_init 51 = .ok (.aload_n 0, 1) := by decide +kernel
theorem dX1_init_52 : decode cX1_init 52 = .ok (.iconst 3, 1) := by decide +kernel
theorem dX1_init_53 : decode cX1_init 53 = .ok (.newarray .long, 2) := by decide +kernel
theorem dX1_init_55 : decode cX1_init 55 = .ok (.putfield 29, 3) := by decide +kernel
theorem dX1_init_58 : decode cX1_init 58 = .ok (.aload_n 0, 1) := by decide +kernel
theorem dX1_init_59 : decode cX1_init 59 = .ok (.iconst 3, 1) := by decide +kernel
theorem dX1_init_60 : decode cX1_init 60 = .ok (.newarray .long, 2) := by decide +kernel
theorem dX1_init_62 : decode cX1_init 62 = .ok (.putfield 32, 3) := by decide +kernel
theorem dX1_init_65 : decode cX1_init 65 = .ok (.aload_n 0, 1) := by decide +kernel
theorem dX1_init_66 : decode cX1_init 66 = .ok (.iconst 3, 1) := by decide +kernel
theorem dX1_init_67 : decode cX1_init 67 = .ok (.newarray .long, 2) := by decide +kernel
theorem dX1_init_69 : decode cX1_init 69 = .ok (.putfield 35, 3) := by decide +kernel
theorem dX1_init_72 : decode cX1_init 72 = .ok (.aload_n 0, 1) := by decide +kernel
theorem dX1_init_73 : decode cX1_init 73 = .ok (.iload_n 1, 1) := by decide +kernel
theorem dX1_init_74 : decode cX1_init 74 = .ok (.iconst 1, 1) := by decide +kernel
theorem dX1_init_75 : decode cX1_init 75 = .ok (.if_icmp .ge 7, 3) := by decide +kernel
theorem dX1_init_78 : decode cX1_init 78 = .ok (.iconst 1, 1) := by decide +kernel
theorem dX1_init_79 : decode cX1_init 79 = .ok (.goto 13, 3) := by decide +kernel
theorem dX1_init_82 : decode cX1_init 82 = .ok (.iload_n 1, 1) := by decide +kernel
theorem dX1_init_83 : decode cX1_init 83 = .ok (.iconst 3, 1) := by decide +kernel
theorem dX1_init_84 : decode cX1_init 84 = .ok (.if_icmp .le 7, 3) := by decide +kernel
theorem dX1_init_87 : decode cX1_init 87 = .ok (.iconst 3, 1) := by decide +kernel
theorem dX1_init_88 : decode cX1_init 88 = .ok (.goto 4, 3) := by decide +kernel
theorem dX1_init_91 : decode cX1_init 91 = .ok (.iload_n 1, 1) := by decide +kernel
theorem dX1_init_92 : decode cX1_init 92 = .ok (.putfield 38, 3) := by decide +kernel
theorem dX1_init_95 : decode cX1_init 95 = .ok (.aload_n 0, 1) := by decide +kernel
theorem dX1_init_96 : decode cX1_init 96 = .ok (.iload_n 3, 1) := by decide +kernel
theorem dX1_init_97 : decode cX1_init 97 = .ok (.iconst 1, 1) := by decide +kernel
theorem dX1_init_98 : decode cX1_init 98 = .ok (.if_icmp .ge 7, 3) := by decide +kernel
theorem dX1_init_101 : decode cX1_init 101 = .ok (.iconst 1, 1) := by decide +kernel
theorem dX1_init_102 : decode cX1_init 102 = .ok (.goto 15, 3) := by decide +kernel
theorem dX1_init_105 : decode cX1_init 105 = .ok (.iload_n 3, 1) := by decide +kernel
theorem dX1_init_106 : decode cX1_init 106 = .ok (.bipush 48, 2) := by decide +kernel
theorem dX1_init_108 : decode cX1_init 108 = .ok (.if_icmp .le 8, 3) := by decide +kernel
theorem dX1_init_111 : decode cX1_init 111 = .ok (.bipush 48, 2) := by decide +kernel
theorem dX1_init_113 : decode cX1_init 113 = .ok (.goto 4, 3) := by decide +kernel
theorem dX1_init_116 : decode cX1_init 116 = .ok (.iload_n 3, 1) := by decide +kernel
theorem dX1_init_117 : decode cX1_init 117 = .ok (.putfield 42, 3) := by decide +kernel
theorem dX1_init_120 : decode cX1_init 120 = .ok (.iload_n 2, 1) := by decide +kernel
theorem dX1_init_121 : decode cX1_init 121 = .ok (.ifCond .ge 7, 3) := by decide +kernel
theorem dX1_init_124 : decode cX1_init 124 = .ok (.iconst 0, 1) := by decide +kernel
theorem dX1_init_125 : decode cX1_init 125 = .ok (.goto 4, 3) := by decide +kernel
theorem dX1_init_128 : decode cX1_init 128 = .ok (.iload_n 2, 1) := by decide +kernel
theorem dX1_init_129 : decode cX1_init 129 = .ok (.istore 4, 2) := by decide +kernel
theorem dX1_init_131 : decode cX1_init 131 = .ok (.iconst 0, 1) := by decide +kernel
theorem dX1_init_132 : decode cX1_init 132 = .ok (.istore 5, 2) := by decide +kernel
theorem dX1_init_134 : decode cX1_init 134 = .ok (.iconst 0, 1) := by decide +kernel
theorem dX1_init_135 : decode cX1_init 135 = .ok (.istore 6, 2) := by decide +kernel
theorem dX1_init_137 : decode cX1_init 137 = .ok (.iload 6, 2) := by decide +kernel
theorem dX1_init_139 : decode cX1_init 139 = .ok (.iconst 3, 1) := by decide +kernel
theorem dX1_init_140 : decode cX1_init 140 = .ok (.if_icmp .ge 73, 3) := by decide +kernel
theorem dX1_init_143 : decode cX1_init 143 = .ok (.aload_n 0, 1) := by decide +kernel
theorem dX1_init_144 : decode cX1_init 144 = .ok (.getfield 7, 3) := by decide +kernel
theorem dX1_init_147 : decode cX1_init 147 = .ok (.iload 6, 2) := by decide +kernel
theorem dX1_init_149 : decode cX1_init 149 = .ok (.iload 4, 2) := by decide +kernel
theorem dX1_init_151 : decode cX1_init 151 = .ok (.iconst 3, 1) := by decide +kernel
theorem dX1_init_152 : decode cX1_init 152 = .ok (.irem, 1) := by decide +kernel
theorem dX1_init_153 : decode cX1_init 153 = .ok (.iastore, 1) := by decide +kernel
theorem dX1_init_154 : decode cX1_init 154 = .ok (.iload 4, 2) := by decide +kernel
theorem dX1_init_156 : decode cX1_init 156 = .ok (.iconst 3, 1) := by decide +kernel
theorem dX1_init_157 : decode cX1_init 157 = .ok (.idiv, 1) := by decide +kernel
theorem dX1_init_158 : decode cX1_init 158 = .ok (.istore 4, 2) := by decide +kernel
theorem dX1_init_160 : decode cX1_init 160 = .ok (.aload_n 0, 1) := by decide +kernel
theorem dX1_init_161 : decode cX1_init 161 = .ok (.getfield 7, 3) := by decide +kernel
theorem dX1_init_164 : decode cX1_init 164 = .ok (.iload 6, 2) := by decide +kernel
theorem dX1_init_166 : decode cX1_init 166 = .ok (.iaload, 1) := by decide +kernel
theorem dX1_init_167 : decode cX1_init 167 = .ok (.iconst 1, 1) := by decide +kernel
theorem dX1_init_168 : decode cX1_init 168 = .ok (.if_icmp .ne 16, 3) := by decide +kernel
theorem dX1_init_171 : decode cX1_init 171 = .ok (.iload 5, 2) := by decide +kernel
theorem dX1_init_173 : decode cX1_init 173 = .ok (.ifCond .eq 11, 3) := by decide +kernel
theorem dX1_init_176 : decode cX1_init 176 = .ok (.aload_n 0, 1) := by decide +kernel
theorem dX1_init_177 : decode cX1_init 177 = .ok (.getfield 7, 3) := by decide +kernel
theorem dX1_init_180 : decode cX1_init 180 = .ok (.iload 6, 2) := by decide +kernel
theorem dX1_init_182 : decode cX1_init 182 = .ok (.iconst 0, 1) := by decide +kernel
theorem dX1_init_183 : decode cX1_init 183 = .ok (.iastore, 1) := by decide +kernel
theorem dX1_init_184 : decode cX1_init 184 = .ok (.iload 5, 2) := by decide +kernel
theorem dX1_init_186 : decode cX1_init 186 = .ok (.ifCond .ne 14, 3) := by decide +kernel
theorem dX1_init_189 : decode cX1_init 189 = .ok (.aload_n 0, 1) := by decide +kernel
theorem dX1_init_190 : decode cX1_init 190 = .ok (.getfield 7, 3) := by decide +kernel
theorem dX1_init_193 : decode cX1_init 193 = .ok (.iload 6, 2) := by decide +kernel
theorem dX1_init_195 : decode cX1_init 195 = .ok (.iaload, 1) := by decide +kernel
theorem dX1_init_196 : decode cX1_init 196 = .ok (.iconst 1, 1) := by decide +kernel
theorem dX1_init_197 : decode cX1_init 197 = .ok (.if_icmp .ne 7, 3) := by decide +kernel
theorem dX1_init_200 : decode cX1_init 200 = .ok (.iconst 1, 1) := by decide +kernel
theorem dX1_init_201 : decode cX1_init 201 = .ok (.goto 4, 3) := by decide +kernel
theorem dX1_init_204 : decode cX1_init 204 = .ok (.iconst 0, 1) := by decide +kernel
theorem dX1_init_205 : decode cX1_init 205 = .ok (.istore 5, 2) := by decide +kernel
theorem dX1_init_207 : decode cX1_init 207 = .ok (.iinc 6 1, 3) := by decide +kernel
theorem dX1_init_210 : decode cX1_init 210 = .ok (.goto (-73), 3) := by decide +kernel
theorem dX1_init_213 : decode cX1_init 213 = .ok (.return_, 1) := by decide +kernel
theorem dX1_match_0 : decode cX1_match 0 = .ok (.iload_n 1, 1) := by decide +kernel
theorem dX1_match_1 : decode cX1_match 1 = .ok (.ifCond .lt 8, 3) := by decide +kernel
theorem dX1_match_4 : decode cX1_match 4 = .ok (.iload_n 1, 1) := by decide +kernel
theorem dX1_match_5 : decode cX1_match 5 = .ok (.iconst 2, 1) := by decide +kernel
theorem dX1_match_6 : decode cX1_match 6 = .ok (.if_icmp .le 5, 3) := by decide +kernel
theorem dX1_match_9 : decode cX1_match 9 = .ok (.iconst (-1), 1) := by decide +kernel
theorem dX1_match_10 : decode cX1_match 10 = .ok (.ireturn, 1) := by decide +kernel
theorem dX1_match_11 : decode cX1_match 11 = .ok (.aload_n 0, 1) := by decide +kernel
theorem dX1_match_12 : decode cX1_match 12 = .ok (.getfield 29, 3) := by decide +kernel
theorem dX1_match_15 : decode cX1_match 15 = .ok (.iload_n 1, 1) := by decide +kernel
theorem dX1_match_16 : decode cX1_match 16 = .ok (.lload_n 2, 1) := by decide +kernel
theorem dX1_match_17 : decode cX1_match 17 = .ok (.lastore, 1) := by decide +kernel
theorem dX1_match_18 : decode cX1_match 18 = .ok (.aload_n 0, 1) := by decide +kernel
theorem dX1_match_19 : decode cX1_match 19 = .ok (.getfield 32, 3) := by decide +kernel
theorem dX1_match_22 : decode cX1_match 22 = .ok (.iload_n 1, 1) := by decide +kernel
theorem dX1_match_23 : decode cX1_match 23 = .ok (.lload 4, 2) := by decide +kernel
theorem dX1_match_25 : decode cX1_match 25 = .ok (.lastore, 1) := by decide +kernel
theorem dX1_match_26 : decode cX1_match 26 = .ok (.iload_n 1, 1) := by decide +kernel
theorem dX1_match_27 : decode cX1_match 27 = .ok (.ireturn, 1) := by decide +kernel
theorem dX1_fits_0 : decode cX1_fits 0 = .ok (.lload_n 1, 1) := by decide +kernel
theorem dX1_fits_1 : decode cX1_fits 1 = .ok (.lconst 0, 1) := by decide +kernel
theorem dX1_fits_2 : decode cX1_fits 2 = .ok (.lcmp, 1) := by decide +kernel
theorem dX1_fits_3 : decode cX1_fits 3 = .ok (.ifCond .lt 18, 3) := by decide +kernel
theorem dX1_fits_6 : decode cX1_fits 6 = .ok (.lload_n 1, 1) := by decide +kernel
theorem dX1_fits_7 : decode cX1_fits 7 = .ok (.aload_n 0, 1) := by decide +kernel
theorem dX1_fits_8 : decode cX1_fits 8 = .ok (.getfield 42, 3) := by decide +kernel
theorem dX1_fits_11 : decode cX1_fits 11 = .ok (.lshr, 1) := by decide +kernel
theorem dX1_fits_12 : decode cX1_fits 12 = .ok (.lconst 0, 1) := by decide +kernel
theorem dX1_fits_13 : decode cX1_fits 13 = .ok (.lcmp, 1) := by decide +kernel
theorem dX1_fits_14 : decode cX1_fits 14 = .ok (.ifCond .ne 7, 3) := by decide +kernel
theorem dX1_fits_17 : decode cX1_fits 17 = .ok (.iconst 1, 1) := by decide +kernel
theorem dX1_fits_18 : decode cX1_fits 18 = .ok (.goto 4, 3) := by decide +kernel
theorem dX1_fits_21 : decode cX1_fits 21 = .ok (.iconst 0, 1) := by decide +kernel
theorem dX1_fits_22 : decode cX1_fits 22 = .ok (.ireturn, 1) := by decide +kernel
theorem dX1_bits_0 : decode cX1_bits 0 = .ok (.lload_n 1, 1) := by decide +kernel
theorem dX1_bits_1 : decode cX1_bits 1 = .ok (.lconst 0, 1) := by decide +kernel
theorem dX1_bits_2 : decode cX1_bits 2 = .ok (.lcmp, 1) := by decide +kernel
theorem dX1_bits_3 : decode cX1_bits 3 = .ok (.ifCond .ne 7, 3) := by decide +kernel
theorem dX1_bits_6 : decode cX1_bits 6 = .ok (.lconst 0, 1) := by decide +kernel
theorem dX1_bits_7 : decode cX1_bits 7 = .ok (.goto 29, 3) := by decide +kernel
theorem dX1_bits_10 : decode cX1_bits 10 = .ok (.lconst 1, 1) := by decide +kernel
theorem dX1_bits_11 : decode cX1_bits 11 = .ok (.aload_n 0, 1) := by decide +kernel
theorem dX1_bits_12 : decode cX1_bits 12 = .ok (.getfield 42, 3) := by decide +kernel
theorem dX1_bits_15 : decode cX1_bits 15 = .ok (.lshl, 1) := by decide +kernel
theorem dX1_bits_16 : decode cX1_bits 16 = .ok (.lconst 1, 1) := by decide +kernel
theorem dX1_bits_17 : decode cX1_bits 17 = .ok (.lsub, 1) := by decide +kernel
theorem dX1_bits_18 : decode cX1_bits 18 = .ok (.aload_n 0, 1) := by decide +kernel
theorem dX1_bits_19 : decode cX1_bits 19 = .ok (.getfield 42, 3) := by decide +kernel
theorem dX1_bits_22 : decode cX1_bits 22 = .ok (.i2l, 1) := by decide +kernel
theorem dX1_bits_23 : decode cX1_bits 23 = .ok (.lload_n 1, 1) := by decide +kernel
theorem dX1_bits_24 : decode cX1_bits 24 = .ok (.lsub, 1) := by decide +kernel
theorem dX1_bits_25 : decode cX1_bits 25 = .ok (.l2i, 1) := by decide +kernel
theorem dX1_bits_26 : decode cX1_bits 26 = .ok (.lshr, 1) := by decide +kernel
theorem dX1_bits_27 : decode cX1_bits 27 = .ok (.aload_n 0, 1) := by decide +kernel
theorem dX1_bits_28 : decode cX1_bits 28 = .ok (.getfield 42, 3) := by decide +kernel
theorem dX1_bits_31 : decode cX1_bits 31 = .ok (.i2l, 1) := by decide +kernel
theorem dX1_bits_32 : decode cX1_bits 32 = .ok (.lload_n 1, 1) := by decide +kernel
theorem dX1_bits_33 : decode cX1_bits 33 = .ok (.lsub, 1) := by decide +kernel
theorem dX1_bits_34 : decode cX1_bits 34 = .ok (.l2i, 1) := by decide +kernel
theorem dX1_bits_35 : decode cX1_bits 35 = .ok (.lshl, 1) := by decide +kernel
theorem dX1_bits_36 : decode cX1_bits 36 = .ok (.lreturn, 1) := by decide +kernel
set_option maxRecDepth 20000 in
theorem ggX1_good_X1_fits : GoodIn wsX1_good wsX1_fits := goodIn_r _ [10, 5, 15, 16, 17, 18, 19, 20, 21, 22, 23, 24, 25, 26, 27, 28] (by decide +kernel) (by decide +kernel)
set_option maxRecDepth 20000 in
theorem gX1_good_X1_fits : GoodIn wsX1_good (wsV RX1 45 RX1 yX1_fits wsX1_fits) := goodIn_app (goodIn_of _ (by decide +kernel)) ggX1_good_X1_fits
set_option maxRecDepth 20000 in
theorem ggX1_good_X1_bits : GoodIn wsX1_good wsX1_bits := goodIn_r _ [14, 5, 15, 16, 17, 18, 19, 20, 21, 22, 23, 24, 25, 26, 27, 28] (by decide +kernel) (by decide +kernel)
set_option maxRecDepth 20000 in
theorem gX1_good_X1_bits : GoodIn wsX1_good (wsV RX1 51 RX1 yX1_bits wsX1_bits) := goodIn_app (goodIn_of _ (by decide +kernel)) ggX1_good_X1_bits
theorem dX1_good_0 : decode cX1_good 0 = .ok (.aload_n 0, 1) := by decide +kernel
theorem dX1_good_1 : decode cX1_good 1 = .ok (.aload_n 0, 1) := by decide +kernel
theorem dX1_good_2 : decode cX1_good 2 = .ok (.getfield 29, 3) := by decide +kernel
theorem dX1_good_5 : decode cX1_good 5 = .ok (.iload_n 1, 1) := by decide +kernel
theorem dX1_good_6 : decode cX1_good 6 = .ok (.laload, 1) := by decide +kernel
theorem dX1_good_7 : decode cX1_good 7 = .ok (.invokevirtual 45, 3) := by decide +kernel
theorem dX1_good_10 : decode cX1_good 10 = .ok (.ifCond .ne 5, 3) := by decide +kernel
theorem dX1_good_13 : decode cX1_good 13 = .ok (.iconst 0, 1) := by decide +kernel
theorem dX1_good_14 : decode cX1_good 14 = .ok (.ireturn, 1) := by decide +kernel
theorem dX1_good_15 : decode cX1_good 15 = .ok (.aload_n 0, 1) := by decide +kernel
theorem dX1_good_16 : decode cX1_good 16 = .ok (.getfield 7, 3) := by decide +kernel
theorem dX1_good_19 : decode cX1_good 19 = .ok (.iload_n 1, 1) := by decide +kernel
theorem dX1_good_20 : decode cX1_good 20 = .ok (.iaload, 1) := by decide +kernel
theorem dX1_good_21 : decode cX1_good 21 = .ok (.ifCond .ne 5, 3) := by decide +kernel
theorem dX1_good_24 : decode cX1_good 24 = .ok (.iconst 1, 1) := by decide +kernel
theorem dX1_good_25 : decode cX1_good 25 = .ok (.ireturn, 1) := by decide +kernel
theorem dX1_good_26 : decode cX1_good 26 = .ok (.aload_n 0, 1) := by decide +kernel
theorem dX1_good_27 : decode cX1_good 27 = .ok (.getfield 7, 3) := by decide +kernel
theorem dX1_good_30 : decode cX1_good 30 = .ok (.iload_n 1, 1) := by decide +kernel
theorem dX1_good_31 : decode cX1_good 31 = .ok (.iaload, 1) := by decide +kernel
theorem dX1_good_32 : decode cX1_good 32 = .ok (.iconst 2, 1) := by decide +kernel
theorem dX1_good_33 : decode cX1_good 33 = .ok (.if_icmp .ne 44, 3) := by decide +kernel
theorem dX1_good_36 : decode cX1_good 36 = .ok (.aload_n 0, 1) := by decide +kernel
theorem dX1_good_37 : decode cX1_good 37 = .ok (.aload_n 0, 1) := by decide +kernel
theorem dX1_good_38 : decode cX1_good 38 = .ok (.getfield 32, 3) := by decide +kernel
theorem dX1_good_41 : decode cX1_good 41 = .ok (.iload_n 1, 1) := by decide +kernel
theorem dX1_good_42 : decode cX1_good 42 = .ok (.laload, 1) := by decide +kernel
theorem dX1_good_43 : decode cX1_good 43 = .ok (.invokevirtual 45, 3) := by decide +kernel
theorem dX1_good_46 : decode cX1_good 46 = .ok (.ifCond .eq 29, 3) := by decide +kernel
theorem dX1_good_49 : decode cX1_good 49 = .ok (.aload_n 0, 1) := by decide +kernel
theorem dX1_good_50 : decode cX1_good 50 = .ok (.getfield 29, 3) := by decide +kernel
theorem dX1_good_53 : decode cX1_good 53 = .ok (.iload_n 1, 1) := by decide +kernel
theorem dX1_good_54 : decode cX1_good 54 = .ok (.laload, 1) := by decide +kernel
theorem dX1_good_55 : decode cX1_good 55 = .ok (.aload_n 0, 1) := by decide +kernel
theorem dX1_good_56 : decode cX1_good 56 = .ok (.getfield 32, 3) := by decide +kernel
theorem dX1_good_59 : decode cX1_good 59 = .ok (.iload_n 1, 1) := by decide +kernel
theorem dX1_good_60 : decode cX1_good 60 = .ok (.laload, 1) := by decide +kernel
theorem dX1_good_61 : decode cX1_good 61 = .ok (.ldc2_w 49, 3) := by decide +kernel
theorem dX1_good_64 : decode cX1_good 64 = .ok (.lxor, 1) := by decide +kernel
theorem dX1_good_65 : decode cX1_good 65 = .ok (.land, 1) := by decide +kernel
theorem dX1_good_66 : decode cX1_good 66 = .ok (.lconst 0, 1) := by decide +kernel
theorem dX1_good_67 : decode cX1_good 67 = .ok (.lcmp, 1) := by decide +kernel
theorem dX1_good_68 : decode cX1_good 68 = .ok (.ifCond .ne 7, 3) := by decide +kernel
theorem dX1_good_71 : decode cX1_good 71 = .ok (.iconst 1, 1) := by decide +kernel
theorem dX1_good_72 : decode cX1_good 72 = .ok (.goto 4, 3) := by decide +kernel
theorem dX1_good_75 : decode cX1_good 75 = .ok (.iconst 0, 1) := by decide +kernel
theorem dX1_good_76 : decode cX1_good 76 = .ok (.ireturn, 1) := by decide +kernel
theorem dX1_good_77 : decode cX1_good 77 = .ok (.aload_n 0, 1) := by decide +kernel
theorem dX1_good_78 : decode cX1_good 78 = .ok (.getfield 32, 3) := by decide +kernel
theorem dX1_good_81 : decode cX1_good 81 = .ok (.iload_n 1, 1) := by decide +kernel
theorem dX1_good_82 : decode cX1_good 82 = .ok (.laload, 1) := by decide +kernel
theorem dX1_good_83 : decode cX1_good 83 = .ok (.lconst 0, 1) := by decide +kernel
theorem dX1_good_84 : decode cX1_good 84 = .ok (.lcmp, 1) := by decide +kernel
theorem dX1_good_85 : decode cX1_good 85 = .ok (.ifCond .lt 48, 3) := by decide +kernel
theorem dX1_good_88 : decode cX1_good 88 = .ok (.aload_n 0, 1) := by decide +kernel
theorem dX1_good_89 : decode cX1_good 89 = .ok (.getfield 32, 3) := by decide +kernel
theorem dX1_good_92 : decode cX1_good 92 = .ok (.iload_n 1, 1) := by decide +kernel
theorem dX1_good_93 : decode cX1_good 93 = .ok (.laload, 1) := by decide +kernel
theorem dX1_good_94 : decode cX1_good 94 = .ok (.aload_n 0, 1) := by decide +kernel
theorem dX1_good_95 : decode cX1_good 95 = .ok (.getfield 42, 3) := by decide +kernel
theorem dX1_good_98 : decode cX1_good 98 = .ok (.i2l, 1) := by decide +kernel
theorem dX1_good_99 : decode cX1_good 99 = .ok (.lcmp, 1) := by decide +kernel
theorem dX1_good_100 : decode cX1_good 100 = .ok (.ifCond .gt 33, 3) := by decide +kernel
theorem dX1_good_103 : decode cX1_good 103 = .ok (.aload_n 0, 1) := by decide +kernel
theorem dX1_good_104 : decode cX1_good 104 = .ok (.getfield 29, 3) := by decide +kernel
theorem dX1_good_107 : decode cX1_good 107 = .ok (.iload_n 1, 1) := by decide +kernel
theorem dX1_good_108 : decode cX1_good 108 = .ok (.laload, 1) := by decide +kernel
theorem dX1_good_109 : decode cX1_good 109 = .ok (.aload_n 0, 1) := by decide +kernel
theorem dX1_good_110 : decode cX1_good 110 = .ok (.aload_n 0, 1) := by decide +kernel
theorem dX1_good_111 : decode cX1_good 111 = .ok (.getfield 32, 3) := by decide +kernel
theorem dX1_good_114 : decode cX1_good 114 = .ok (.iload_n 1, 1) := by decide +kernel
theorem dX1_good_115 : decode cX1_good 115 = .ok (.laload, 1) := by decide +kernel
theorem dX1_good_116 : decode cX1_good 116 = .ok (.invokevirtual 51, 3) := by decide +kernel
theorem dX1_good_119 : decode cX1_good 119 = .ok (.ldc2_w 49, 3) := by decide +kernel
theorem dX1_good_122 : decode cX1_good 122 = .ok (.lxor, 1) := by decide +kernel
theorem dX1_good_123 : decode cX1_good 123 = .ok (.land, 1) := by decide +kernel
theorem dX1_good_124 : decode cX1_good 124 = .ok (.lconst 0, 1) := by decide +kernel
theorem dX1_good_125 : decode cX1_good 125 = .ok (.lcmp, 1) := by decide +kernel
theorem dX1_good_126 : decode cX1_good 126 = .ok (.ifCond .ne 7, 3) := by decide +kernel
theorem dX1_good_129 : decode cX1_good 129 = .ok (.iconst 1, 1) := by decide +kernel
theorem dX1_good_130 : decode cX1_good 130 = .ok (.goto 4, 3) := by decide +kernel
theorem dX1_good_133 : decode cX1_good 133 = .ok (.iconst 0, 1) := by decide +kernel
theorem dX1_good_134 : decode cX1_good 134 = .ok (.ireturn, 1) := by decide +kernel
theorem dX1_like_0 : decode cX1_like 0 = .ok (.aload_n 0, 1) := by decide +kernel
theorem dX1_like_1 : decode cX1_like 1 = .ok (.getfield 16, 3) := by decide +kernel
theorem dX1_like_4 : decode cX1_like 4 = .ok (.iload_n 1, 1) := by decide +kernel
theorem dX1_like_5 : decode cX1_like 5 = .ok (.iaload, 1) := by decide +kernel
theorem dX1_like_6 : decode cX1_like 6 = .ok (.iload_n 2, 1) := by decide +kernel
theorem dX1_like_7 : decode cX1_like 7 = .ok (.if_icmp .ne 7, 3) := by decide +kernel
theorem dX1_like_10 : decode cX1_like 10 = .ok (.iconst 1, 1) := by decide +kernel
theorem dX1_like_11 : decode cX1_like 11 = .ok (.goto 4, 3) := by decide +kernel
theorem dX1_like_14 : decode cX1_like 14 = .ok (.iconst 0, 1) := by decide +kernel
theorem dX1_like_15 : decode cX1_like 15 = .ok (.istore_n 3, 1) := by decide +kernel
theorem dX1_like_16 : decode cX1_like 16 = .ok (.iconst 0, 1) := by decide +kernel
theorem dX1_like_17 : decode cX1_like 17 = .ok (.istore 4, 2) := by decide +kernel
theorem dX1_like_19 : decode cX1_like 19 = .ok (.iload 4, 2) := by decide +kernel
theorem dX1_like_21 : decode cX1_like 21 = .ok (.aload_n 0, 1) := by decide +kernel
theorem dX1_like_22 : decode cX1_like 22 = .ok (.getfield 38, 3) := by decide +kernel
theorem dX1_like_25 : decode cX1_like 25 = .ok (.if_icmp .ge 73, 3) := by decide +kernel
theorem dX1_like_28 : decode cX1_like 28 = .ok (.iload_n 3, 1) := by decide +kernel
theorem dX1_like_29 : decode cX1_like 29 = .ok (.ifCond .eq 61, 3) := by decide +kernel
theorem dX1_like_32 : decode cX1_like 32 = .ok (.aload_n 0, 1) := by decide +kernel
theorem dX1_like_33 : decode cX1_like 33 = .ok (.getfield 22, 3) := by decide +kernel
theorem dX1_like_36 : decode cX1_like 36 = .ok (.iconst 3, 1) := by decide +kernel
theorem dX1_like_37 : decode cX1_like 37 = .ok (.iload_n 1, 1) := by decide +kernel
theorem dX1_like_38 : decode cX1_like 38 = .ok (.imul, 1) := by decide +kernel
theorem dX1_like_39 : decode cX1_like 39 = .ok (.iload 4, 2) := by decide +kernel
theorem dX1_like_41 : decode cX1_like 41 = .ok (.iadd, 1) := by decide +kernel
theorem dX1_like_42 : decode cX1_like 42 = .ok (.laload, 1) := by decide +kernel
theorem dX1_like_43 : decode cX1_like 43 = .ok (.aload_n 0, 1) := by decide +kernel
theorem dX1_like_44 : decode cX1_like 44 = .ok (.getfield 29, 3) := by decide +kernel
theorem dX1_like_47 : decode cX1_like 47 = .ok (.iload 4, 2) := by decide +kernel
theorem dX1_like_49 : decode cX1_like 49 = .ok (.laload, 1) := by decide +kernel
theorem dX1_like_50 : decode cX1_like 50 = .ok (.lcmp, 1) := by decide +kernel
theorem dX1_like_51 : decode cX1_like 51 = .ok (.ifCond .ne 39, 3) := by decide +kernel
theorem dX1_like_54 : decode cX1_like 54 = .ok (.aload_n 0, 1) := by decide +kernel
theorem dX1_like_55 : decode cX1_like 55 = .ok (.getfield 7, 3) := by decide +kernel
theorem dX1_like_58 : decode cX1_like 58 = .ok (.iload 4, 2) := by decide +kernel
theorem dX1_like_60 : decode cX1_like 60 = .ok (.iaload, 1) := by decide +kernel
theorem dX1_like_61 : decode cX1_like 61 = .ok (.ifCond .eq 25, 3) := by decide +kernel
theorem dX1_like_64 : decode cX1_like 64 = .ok (.aload_n 0, 1) := by decide +kernel
theorem dX1_like_65 : decode cX1_like 65 = .ok (.getfield 26, 3) := by decide +kernel
theorem dX1_like_68 : decode cX1_like 68 = .ok (.iconst 3, 1) := by decide +kernel
theorem dX1_like_69 : decode cX1_like 69 = .ok (.iload_n 1, 1) := by decide +kernel
theorem dX1_like_70 : decode cX1_like 70 = .ok (.imul, 1) := by decide +kernel
theorem dX1_like_71 : decode cX1_like 71 = .ok (.iload 4, 2) := by decide +kernel
theorem dX1_like_73 : decode cX1_like 73 = .ok (.iadd, 1) := by decide +kernel
theorem dX1_like_74 : decode cX1_like 74 = .ok (.laload, 1) := by decide +kernel
theorem dX1_like_75 : decode cX1_like 75 = .ok (.aload_n 0, 1) := by decide +kernel
theorem dX1_like_76 : decode cX1_like 76 = .ok (.getfield 32, 3) := by decide +kernel
theorem dX1_like_79 : decode cX1_like 79 = .ok (.iload 4, 2) := by decide +kernel
theorem dX1_like_81 : decode cX1_like 81 = .ok (.laload, 1) := by decide +kernel
theorem dX1_like_82 : decode cX1_like 82 = .ok (.lcmp, 1) := by decide +kernel
theorem dX1_like_83 : decode cX1_like 83 = .ok (.ifCond .ne 7, 3) := by decide +kernel
theorem dX1_like_86 : decode cX1_like 86 = .ok (.iconst 1, 1) := by decide +kernel
theorem dX1_like_87 : decode cX1_like 87 = .ok (.goto 4, 3) := by decide +kernel
theorem dX1_like_90 : decode cX1_like 90 = .ok (.iconst 0, 1) := by decide +kernel
theorem dX1_like_91 : decode cX1_like 91 = .ok (.istore_n 3, 1) := by decide +kernel
theorem dX1_like_92 : decode cX1_like 92 = .ok (.iinc 4 1, 3) := by decide +kernel
theorem dX1_like_95 : decode cX1_like 95 = .ok (.goto (-76), 3) := by decide +kernel
theorem dX1_like_98 : decode cX1_like 98 = .ok (.iload_n 3, 1) := by decide +kernel
theorem dX1_like_99 : decode cX1_like 99 = .ok (.ireturn, 1) := by decide +kernel
set_option maxRecDepth 20000 in
theorem ggX1_insert_X1_good : GoodIn wsX1_insert wsX1_good := goodIn_r _ [15, 4, 16, 6, 17, 18, 19, 20, 21, 14, 22, 23, 24, 25, 26, 31, 32, 33, 34, 35, 36, 37, 38, 39, 40, 41, 42, 43, 44] (by decide +kernel) (by decide +kernel)
set_option maxRecDepth 20000 in
theorem gX1_insert_X1_good : GoodIn wsX1_insert (wsV RX1 55 RX1 yX1_good wsX1_good) := goodIn_app (goodIn_of _ (by decide +kernel)) ggX1_insert_X1_good
set_option maxRecDepth 20000 in
theorem ggX1_insert_X1_like : GoodIn wsX1_insert wsX1_like := goodIn_r _ [30, 9, 1, 3, 4, 16, 5, 6, 31, 32, 33, 34, 35, 36, 37, 38, 39, 40, 41, 42, 43, 44] (by decide +kernel) (by decide +kernel)
set_option maxRecDepth 20000 in
theorem gX1_insert_X1_like : GoodIn wsX1_insert (wsV RX1 62 RX1 yX1_like wsX1_like) := goodIn_app (goodIn_of _ (by decide +kernel)) ggX1_insert_X1_like
theorem dX1_insert_0 : decode cX1_insert 0 = .ok (.iconst 0, 1) := by decide +kernel
theorem dX1_insert_1 : decode cX1_insert 1 = .ok (.istore_n 2, 1) := by decide +kernel
theorem dX1_insert_2 : decode cX1_insert 2 = .ok (.iload_n 2, 1) := by decide +kernel
theorem dX1_insert_3 : decode cX1_insert 3 = .ok (.aload_n 0, 1) := by decide +kernel
theorem dX1_insert_4 : decode cX1_insert 4 = .ok (.getfield 38, 3) := by decide +kernel
theorem dX1_insert_7 : decode cX1_insert 7 = .ok (.if_icmp .ge 19, 3) := by decide +kernel
theorem dX1_insert_10 : decode cX1_insert 10 = .ok (.aload_n 0, 1) := by decide +kernel
theorem dX1_insert_11 : decode cX1_insert 11 = .ok (.iload_n 2, 1) := by decide +kernel
theorem dX1_insert_12 : decode cX1_insert 12 = .ok (.invokevirtual 55, 3) := by decide +kernel
theorem dX1_insert_15 : decode cX1_insert 15 = .ok (.ifCond .ne 5, 3) := by decide +kernel
theorem dX1_insert_18 : decode cX1_insert 18 = .ok (.iconst (-1), 1) := by decide +kernel
theorem dX1_insert_19 : decode cX1_insert 19 = .ok (.ireturn, 1) := by decide +kernel
theorem dX1_insert_20 : decode cX1_insert 20 = .ok (.iinc 2 1, 3) := by decide +kernel
theorem dX1_insert_23 : decode cX1_insert 23 = .ok (.goto (-21), 3) := by decide +kernel
theorem dX1_insert_26 : decode cX1_insert 26 = .ok (.iconst 0, 1) := by decide +kernel
theorem dX1_insert_27 : decode cX1_insert 27 = .ok (.istore_n 2, 1) := by decide +kernel
theorem dX1_insert_28 : decode cX1_insert 28 = .ok (.iload_n 2, 1) := by decide +kernel
theorem dX1_insert_29 : decode cX1_insert 29 = .ok (.aload_n 0, 1) := by decide +kernel
theorem dX1_insert_30 : decode cX1_insert 30 = .ok (.getfield 59, 3) := by decide +kernel
theorem dX1_insert_33 : decode cX1_insert 33 = .ok (.if_icmp .ge 21, 3) := by decide +kernel
theorem dX1_insert_36 : decode cX1_insert 36 = .ok (.aload_n 0, 1) := by decide +kernel
theorem dX1_insert_37 : decode cX1_insert 37 = .ok (.iload_n 2, 1) := by decide +kernel
theorem dX1_insert_38 : decode cX1_insert 38 = .ok (.iload_n 1, 1) := by decide +kernel
theorem dX1_insert_39 : decode cX1_insert 39 = .ok (.invokevirtual 62, 3) := by decide +kernel
theorem dX1_insert_42 : decode cX1_insert 42 = .ok (.ifCond .eq 6, 3) := by decide +kernel
theorem dX1_insert_45 : decode cX1_insert 45 = .ok (.bipush (-4), 2) := by decide +kernel
theorem dX1_insert_47 : decode cX1_insert 47 = .ok (.ireturn, 1) := by decide +kernel
theorem dX1_insert_48 : decode cX1_insert 48 = .ok (.iinc 2 1, 3) := by decide +kernel
theorem dX1_insert_51 : decode cX1_insert 51 = .ok (.goto (-23), 3) := by decide +kernel
theorem dX1_insert_54 : decode cX1_insert 54 = .ok (.aload_n 0, 1) := by decide +kernel
theorem dX1_insert_55 : decode cX1_insert 55 = .ok (.getfield 59, 3) := by decide +kernel
theorem dX1_insert_58 : decode cX1_insert 58 = .ok (.bipush 24, 2) := by decide +kernel
theorem dX1_insert_60 : decode cX1_insert 60 = .ok (.if_icmp .ne 6, 3) := by decide +kernel
theorem dX1_insert_63 : decode cX1_insert 63 = .ok (.bipush (-3), 2) := by decide +kernel
theorem dX1_insert_65 : decode cX1_insert 65 = .ok (.ireturn, 1) := by decide +kernel
theorem dX1_insert_66 : decode cX1_insert 66 = .ok (.iconst 0, 1) := by decide +kernel
theorem dX1_insert_67 : decode cX1_insert 67 = .ok (.istore_n 2, 1) := by decide +kernel
theorem dX1_insert_68 : decode cX1_insert 68 = .ok (.iload_n 2, 1) := by decide +kernel
theorem dX1_insert_69 : decode cX1_insert 69 = .ok (.iconst 3, 1) := by decide +kernel
theorem dX1_insert_70 : decode cX1_insert 70 = .ok (.if_icmp .ge 61, 3) := by decide +kernel
theorem dX1_insert_73 : decode cX1_insert 73 = .ok (.aload_n 0, 1) := by decide +kernel
theorem dX1_insert_74 : decode cX1_insert 74 = .ok (.getfield 22, 3) := by decide +kernel
theorem dX1_insert_77 : decode cX1_insert 77 = .ok (.iconst 3, 1) := by decide +kernel
theorem dX1_insert_78 : decode cX1_insert 78 = .ok (.aload_n 0, 1) := by decide +kernel
theorem dX1_insert_79 : decode cX1_insert 79 = .ok (.getfield 59, 3) := by decide +kernel
theorem dX1_insert_82 : decode cX1_insert 82 = .ok (.imul, 1) := by decide +kernel
theorem dX1_insert_83 : decode cX1_insert 83 = .ok (.iload_n 2, 1) := by decide +kernel
theorem dX1_insert_84 : decode cX1_insert 84 = .ok (.iadd, 1) := by decide +kernel
theorem dX1_insert_85 : decode cX1_insert 85 = .ok (.aload_n 0, 1) := by decide +kernel
theorem dX1_insert_86 : decode cX1_insert 86 = .ok (.getfield 29, 3) := by decide +kernel
theorem dX1_insert_89 : decode cX1_insert 89 = .ok (.iload_n 2, 1) := by decide +kernel
theorem dX1_insert_90 : decode cX1_insert 90 = .ok (.laload, 1) := by decide +kernel
theorem dX1_insert_91 : decode cX1_insert 91 = .ok (.lastore, 1) := by decide +kernel
theorem dX1_insert_92 : decode cX1_insert 92 = .ok (.aload_n 0, 1) := by decide +kernel
theorem dX1_insert_93 : decode cX1_insert 93 = .ok (.getfield 26, 3) := by decide +kernel
theorem dX1_insert_96 : decode cX1_insert 96 = .ok (.iconst 3, 1) := by decide +kernel
theorem dX1_insert_97 : decode cX1_insert 97 = .ok (.aload_n 0, 1) := by decide +kernel
theorem dX1_insert_98 : decode cX1_insert 98 = .ok (.getfield 59, 3) := by decide +kernel
theorem dX1_insert_101 : decode cX1_insert 101 = .ok (.imul, 1) := by decide +kernel
theorem dX1_insert_102 : decode cX1_insert 102 = .ok (.iload_n 2, 1) := by decide +kernel
theorem dX1_insert_103 : decode cX1_insert 103 = .ok (.iadd, 1) := by decide +kernel
theorem dX1_insert_104 : decode cX1_insert 104 = .ok (.aload_n 0, 1) := by decide +kernel
theorem dX1_insert_105 : decode cX1_insert 105 = .ok (.getfield 32, 3) := by decide +kernel
theorem dX1_insert_108 : decode cX1_insert 108 = .ok (.iload_n 2, 1) := by decide +kernel
theorem dX1_insert_109 : decode cX1_insert 109 = .ok (.laload, 1) := by decide +kernel
theorem dX1_insert_110 : decode cX1_insert 110 = .ok (.lastore, 1) := by decide +kernel
theorem dX1_insert_111 : decode cX1_insert 111 = .ok (.aload_n 0, 1) := by decide +kernel
theorem dX1_insert_112 : decode cX1_insert 112 = .ok (.getfield 29, 3) := by decide +kernel
theorem dX1_insert_115 : decode cX1_insert 115 = .ok (.iload_n 2, 1) := by decide +kernel
theorem dX1_insert_116 : decode cX1_insert 116 = .ok (.lconst 0, 1) := by decide +kernel
theorem dX1_insert_117 : decode cX1_insert 117 = .ok (.lastore, 1) := by decide +kernel
theorem dX1_insert_118 : decode cX1_insert 118 = .ok (.aload_n 0, 1) := by decide +kernel
theorem dX1_insert_119 : decode cX1_insert 119 = .ok (.getfield 32, 3) := by decide +kernel
theorem dX1_insert_122 : decode cX1_insert 122 = .ok (.iload_n 2, 1) := by decide +kernel
theorem dX1_insert_123 : decode cX1_insert 123 = .ok (.lconst 0, 1) := by decide +kernel
theorem dX1_insert_124 : decode cX1_insert 124 = .ok (.lastore, 1) := by decide +kernel
theorem dX1_insert_125 : decode cX1_insert 125 = .ok (.iinc 2 1, 3) := by decide +kernel
theorem dX1_insert_128 : decode cX1_insert 128 = .ok (.goto (-60), 3) := by decide +kernel
theorem dX1_insert_131 : decode cX1_insert 131 = .ok (.aload_n 0, 1) := by decide +kernel
theorem dX1_insert_132 : decode cX1_insert 132 = .ok (.getfield 13, 3) := by decide +kernel
theorem dX1_insert_135 : decode cX1_insert 135 = .ok (.aload_n 0, 1) := by decide +kernel
theorem dX1_insert_136 : decode cX1_insert 136 = .ok (.getfield 59, 3) := by decide +kernel
theorem dX1_insert_139 : decode cX1_insert 139 = .ok (.aload_n 0, 1) := by decide +kernel
theorem dX1_insert_140 : decode cX1_insert 140 = .ok (.getfield 66, 3) := by decide +kernel
theorem dX1_insert_143 : decode cX1_insert 143 = .ok (.iastore, 1) := by decide +kernel
theorem dX1_insert_144 : decode cX1_insert 144 = .ok (.aload_n 0, 1) := by decide +kernel
theorem dX1_insert_145 : decode cX1_insert 145 = .ok (.getfield 16, 3) := by decide +kernel
theorem dX1_insert_148 : decode cX1_insert 148 = .ok (.aload_n 0, 1) := by decide +kernel
theorem dX1_insert_149 : decode cX1_insert 149 = .ok (.getfield 59, 3) := by decide +kernel
theorem dX1_insert_152 : decode cX1_insert 152 = .ok (.iload_n 1, 1) := by decide +kernel
theorem dX1_insert_153 : decode cX1_insert 153 = .ok (.iastore, 1) := by decide +kernel
theorem dX1_insert_154 : decode cX1_insert 154 = .ok (.aload_n 0, 1) := by decide +kernel
theorem dX1_insert_155 : decode cX1_insert 155 = .ok (.getfield 19, 3) := by decide +kernel
theorem dX1_insert_158 : decode cX1_insert 158 = .ok (.aload_n 0, 1) := by decide +kernel
theorem dX1_insert_159 : decode cX1_insert 159 = .ok (.getfield 59, 3) := by decide +kernel
theorem dX1_insert_162 : decode cX1_insert 162 = .ok (.iconst 0, 1) := by decide +kernel
theorem dX1_insert_163 : decode cX1_insert 163 = .ok (.iastore, 1) := by decide +kernel
theorem dX1_insert_164 : decode cX1_insert 164 = .ok (.aload_n 0, 1) := by decide +kernel
theorem dX1_insert_165 : decode cX1_insert 165 = .ok (.dup, 1) := by decide +kernel
theorem dX1_insert_166 : decode cX1_insert 166 = .ok (.getfield 59, 3) := by decide +kernel
theorem dX1_insert_169 : decode cX1_insert 169 = .ok (.iconst 1, 1) := by decide +kernel
theorem dX1_insert_170 : decode cX1_insert 170 = .ok (.iadd, 1) := by decide +kernel
theorem dX1_insert_171 : decode cX1_insert 171 = .ok (.putfield 59, 3) := by decide +kernel
theorem dX1_insert_174 : decode cX1_insert 174 = .ok (.aload_n 0, 1) := by decide +kernel
theorem dX1_insert_175 : decode cX1_insert 175 = .ok (.dup, 1) := by decide +kernel
theorem dX1_insert_176 : decode cX1_insert 176 = .ok (.getfield 66, 3) := by decide +kernel
theorem dX1_insert_179 : decode cX1_insert 179 = .ok (.iconst 1, 1) := by decide +kernel
theorem dX1_insert_180 : decode cX1_insert 180 = .ok (.iadd, 1) := by decide +kernel
theorem dX1_insert_181 : decode cX1_insert 181 = .ok (.putfield 66, 3) := by decide +kernel
theorem dX1_insert_184 : decode cX1_insert 184 = .ok (.aload_n 0, 1) := by decide +kernel
theorem dX1_insert_185 : decode cX1_insert 185 = .ok (.getfield 66, 3) := by decide +kernel
theorem dX1_insert_188 : decode cX1_insert 188 = .ok (.iconst 1, 1) := by decide +kernel
theorem dX1_insert_189 : decode cX1_insert 189 = .ok (.isub, 1) := by decide +kernel
theorem dX1_insert_190 : decode cX1_insert 190 = .ok (.ireturn, 1) := by decide +kernel
theorem dX1_remove_0 : decode cX1_remove 0 = .ok (.aload_n 0, 1) := by decide +kernel
theorem dX1_remove_1 : decode cX1_remove 1 = .ok (.iload_n 1, 1) := by decide +kernel
theorem dX1_remove_2 : decode cX1_remove 2 = .ok (.invokevirtual 69, 3) := by decide +kernel
theorem dX1_remove_5 : decode cX1_remove 5 = .ok (.istore_n 2, 1) := by decide +kernel
theorem dX1_remove_6 : decode cX1_remove 6 = .ok (.iload_n 2, 1) := by decide +kernel
theorem dX1_remove_7 : decode cX1_remove 7 = .ok (.ifCond .ge 6, 3) := by decide +kernel
theorem dX1_remove_10 : decode cX1_remove 10 = .ok (.bipush (-2), 2) := by decide +kernel
theorem dX1_remove_12 : decode cX1_remove 12 = .ok (.ireturn, 1) := by decide +kernel
theorem dX1_remove_13 : decode cX1_remove 13 = .ok (.aload_n 0, 1) := by decide +kernel
theorem dX1_remove_14 : decode cX1_remove 14 = .ok (.dup, 1) := by decide +kernel
theorem dX1_remove_15 : decode cX1_remove 15 = .ok (.getfield 59, 3) := by decide +kernel
theorem dX1_remove_18 : decode cX1_remove 18 = .ok (.iconst 1, 1) := by decide +kernel
theorem dX1_remove_19 : decode cX1_remove 19 = .ok (.isub, 1) := by decide +kernel
theorem dX1_remove_20 : decode cX1_remove 20 = .ok (.putfield 59, 3) := by decide +kernel
theorem dX1_remove_23 : decode cX1_remove 23 = .ok (.iload_n 2, 1) := by decide +kernel
theorem dX1_remove_24 : decode cX1_remove 24 = .ok (.istore_n 3, 1) := by decide +kernel
theorem dX1_remove_25 : decode cX1_remove 25 = .ok (.iload_n 3, 1) := by decide +kernel
theorem dX1_remove_26 : decode cX1_remove 26 = .ok (.aload_n 0, 1) := by decide +kernel
theorem dX1_remove_27 : decode cX1_remove 27 = .ok (.getfield 59, 3) := by decide +kernel
theorem dX1_remove_30 : decode cX1_remove 30 = .ok (.if_icmp .ge 114, 3) := by decide +kernel
theorem dX1_remove_33 : decode cX1_remove 33 = .ok (.aload_n 0, 1) := by decide +kernel
theorem dX1_remove_34 : decode cX1_remove 34 = .ok (.getfield 13, 3) := by decide +kernel
theorem dX1_remove_37 : decode cX1_remove 37 = .ok (.iload_n 3, 1) := by decide +kernel
theorem dX1_remove_38 : decode cX1_remove 38 = .ok (.aload_n 0, 1) := by decide +kernel
theorem dX1_remove_39 : decode cX1_remove 39 = .ok (.getfield 13, 3) := by decide +kernel
theorem dX1_remove_42 : decode cX1_remove 42 = .ok (.iload_n 3, 1) := by decide +kernel
theorem dX1_remove_43 : decode cX1_remove 43 = .ok (.iconst 1, 1) := by decide +kernel
theorem dX1_remove_44 : decode cX1_remove 44 = .ok (.iadd, 1) := by decide +kernel
theorem dX1_remove_45 : decode cX1_remove 45 = .ok (.iaload, 1) := by decide +kernel
theorem dX1_remove_46 : decode cX1_remove 46 = .ok (.iastore, 1) := by decide +kernel
theorem dX1_remove_47 : decode cX1_remove 47 = .ok (.aload_n 0, 1) := by decide +kernel
theorem dX1_remove_48 : decode cX1_remove 48 = .ok (.getfield 16, 3) := by decide +kernel
theorem dX1_remove_51 : decode cX1_remove 51 = .ok (.iload_n 3, 1) := by decide +kernel
theorem dX1_remove_52 : decode cX1_remove 52 = .ok (.aload_n 0, 1) := by decide +kernel
theorem dX1_remove_53 : decode cX1_remove 53 = .ok (.getfield 16, 3) := by decide +kernel
theorem dX1_remove_56 : decode cX1_remove 56 = .ok (.iload_n 3, 1) := by decide +kernel
theorem dX1_remove_57 : decode cX1_remove 57 = .ok (.iconst 1, 1) := by decide +kernel
theorem dX1_remove_58 : decode cX1_remove 58 = .ok (.iadd, 1) := by decide +kernel
theorem dX1_remove_59 : decode cX1_remove 59 = .ok (.iaload, 1) := by decide +kernel
theorem dX1_remove_60 : decode cX1_remove 60 = .ok (.iastore, 1) := by decide +kernel
theorem dX1_remove_61 : decode cX1_remove 61 = .ok (.aload_n 0, 1) := by decide +kernel
theorem dX1_remove_62 : decode cX1_remove 62 = .ok (.getfield 19, 3) := by decide +kernel
theorem dX1_remove_65 : decode cX1_remove 65 = .ok (.iload_n 3, 1) := by decide +kernel
theorem dX1_remove_66 : decode cX1_remove 66 = .ok (.aload_n 0, 1) := by decide +kernel
theorem dX1_remove_67 : decode cX1_remove 67 = .ok (.getfield 19, 3) := by decide +kernel
theorem dX1_remove_70 : decode cX1_remove 70 = .ok (.iload_n 3, 1) := by decide +kernel
theorem dX1_remove_71 : decode cX1_remove 71 = .ok (.iconst 1, 1) := by decide +kernel
theorem dX1_remove_72 : decode cX1_remove 72 = .ok (.iadd, 1) := by decide +kernel
theorem dX1_remove_73 : decode cX1_remove 73 = .ok (.iaload, 1) := by decide +kernel
theorem dX1_remove_74 : decode cX1_remove 74 = .ok (.iastore, 1) := by decide +kernel
theorem dX1_remove_75 : decode cX1_remove 75 = .ok (.iconst 0, 1) := by decide +kernel
theorem dX1_remove_76 : decode cX1_remove 76 = .ok (.istore 4, 2) := by decide +kernel
theorem dX1_remove_78 : decode cX1_remove 78 = .ok (.iload 4, 2) := by decide +kernel
theorem dX1_remove_80 : decode cX1_remove 80 = .ok (.iconst 3, 1) := by decide +kernel
theorem dX1_remove_81 : decode cX1_remove 81 = .ok (.if_icmp .ge 57, 3) := by decide +kernel
theorem dX1_remove_84 : decode cX1_remove 84 = .ok (.aload_n 0, 1) := by decide +kernel
theorem dX1_remove_85 : decode cX1_remove 85 = .ok (.getfield 22, 3) := by decide +kernel
theorem dX1_remove_88 : decode cX1_remove 88 = .ok (.iconst 3, 1) := by decide +kernel
theorem dX1_remove_89 : decode cX1_remove 89 = .ok (.iload_n 3, 1) := by decide +kernel
theorem dX1_remove_90 : decode cX1_remove 90 = .ok (.imul, 1) := by decide +kernel
theorem dX1_remove_91 : decode cX1_remove 91 = .ok (.iload 4, 2) := by decide +kernel
theorem dX1_remove_93 : decode cX1_remove 93 = .ok (.iadd, 1) := by decide +kernel
theorem dX1_remove_94 : decode cX1_remove 94 = .ok (.aload_n 0, 1) := by decide +kernel
theorem dX1_remove_95 : decode cX1_remove 95 = .ok (.getfield 22, 3) := by decide +kernel
theorem dX1_remove_98 : decode cX1_remove 98 = .ok (.iconst 3, 1) := by decide +kernel
theorem dX1_remove_99 : decode cX1_remove 99 = .ok (.iload_n 3, 1) := by decide +kernel
theorem dX1_remove_100 : decode cX1_remove 100 = .ok (.imul, 1) := by decide +kernel
theorem dX1_remove_101 : decode cX1_remove 101 = .ok (.iconst 3, 1) := by decide +kernel
theorem dX1_remove_102 : decode cX1_remove 102 = .ok (.iadd, 1) := by decide +kernel
theorem dX1_remove_103 : decode cX1_remove 103 = .ok (.iload 4, 2) := by decide +kernel
theorem dX1_remove_105 : decode cX1_remove 105 = .ok (.iadd, 1) := by decide +kernel
theorem dX1_remove_106 : decode cX1_remove 106 = .ok (.laload, 1) := by decide +kernel
theorem dX1_remove_107 : decode cX1_remove 107 = .ok (.lastore, 1) := by decide +kernel
theorem dX1_remove_108 : decode cX1_remove 108 = .ok (.aload_n 0, 1) := by decide +kernel
theorem dX1_remove_109 : decode cX1_remove 109 = .ok (.getfield 26, 3) := by decide +kernel
theorem dX1_remove_112 : decode cX1_remove 112 = .ok (.iconst 3, 1) := by decide +kernel
theorem dX1_remove_113 : decode cX1_remove 113 = .ok (.iload_n 3, 1) := by decide +kernel
theorem dX1_remove_114 : decode cX1_remove 114 = .ok (.imul, 1) := by decide +kernel
theorem dX1_remove_115 : decode cX1_remove 115 = .ok (.iload 4, 2) := by decide +kernel
theorem dX1_remove_117 : decode cX1_remove 117 = .ok (.iadd, 1) := by decide +kernel
theorem dX1_remove_118 : decode cX1_remove 118 = .ok (.aload_n 0, 1) := by decide +kernel
theorem dX1_remove_119 : decode cX1_remove 119 = .ok (.getfield 26, 3) := by decide +kernel
theorem dX1_remove_122 : decode cX1_remove 122 = .ok (.iconst 3, 1) := by decide +kernel
theorem dX1_remove_123 : decode cX1_remove 123 = .ok (.iload_n 3, 1) := by decide +kernel
theorem dX1_remove_124 : decode cX1_remove 124 = .ok (.imul, 1) := by decide +kernel
theorem dX1_remove_125 : decode cX1_remove 125 = .ok (.iconst 3, 1) := by decide +kernel
theorem dX1_remove_126 : decode cX1_remove 126 = .ok (.iadd, 1) := by decide +kernel
theorem dX1_remove_127 : decode cX1_remove 127 = .ok (.iload 4, 2) := by decide +kernel
theorem dX1_remove_129 : decode cX1_remove 129 = .ok (.iadd, 1) := by decide +kernel
theorem dX1_remove_130 : decode cX1_remove 130 = .ok (.laload, 1) := by decide +kernel
theorem dX1_remove_131 : decode cX1_remove 131 = .ok (.lastore, 1) := by decide +kernel
theorem dX1_remove_132 : decode cX1_remove 132 = .ok (.iinc 4 1, 3) := by decide +kernel
theorem dX1_remove_135 : decode cX1_remove 135 = .ok (.goto (-57), 3) := by decide +kernel
theorem dX1_remove_138 : decode cX1_remove 138 = .ok (.iinc 3 1, 3) := by decide +kernel
theorem dX1_remove_141 : decode cX1_remove 141 = .ok (.goto (-116), 3) := by decide +kernel
theorem dX1_remove_144 : decode cX1_remove 144 = .ok (.aload_n 0, 1) := by decide +kernel
theorem dX1_remove_145 : decode cX1_remove 145 = .ok (.getfield 59, 3) := by decide +kernel
theorem dX1_remove_148 : decode cX1_remove 148 = .ok (.ireturn, 1) := by decide +kernel
theorem dJ9_max_7cf53_0 : decode cJ9_max_7cf53 0 = .ok (.iload_n 0, 1) := by decide +kernel
theorem dJ9_max_7cf53_1 : decode cJ9_max_7cf53 1 = .ok (.iload_n 1, 1) := by decide +kernel
theorem dJ9_max_7cf53_2 : decode cJ9_max_7cf53 2 = .ok (.if_icmp .lt 7, 3) := by decide +kernel
theorem dJ9_max_7cf53_5 : decode cJ9_max_7cf53 5 = .ok (.iload_n 0, 1) := by decide +kernel
theorem dJ9_max_7cf53_6 : decode cJ9_max_7cf53 6 = .ok (.goto 4, 3) := by decide +kernel
theorem dJ9_max_7cf53_9 : decode cJ9_max_7cf53 9 = .ok (.iload_n 1, 1) := by decide +kernel
theorem dJ9_max_7cf53_10 : decode cJ9_max_7cf53 10 = .ok (.ireturn, 1) := by decide +kernel
theorem dJ9_min_7cf53_0 : decode cJ9_min_7cf53 0 = .ok (.iload_n 0, 1) := by decide +kernel
theorem dJ9_min_7cf53_1 : decode cJ9_min_7cf53 1 = .ok (.iload_n 1, 1) := by decide +kernel
theorem dJ9_min_7cf53_2 : decode cJ9_min_7cf53 2 = .ok (.if_icmp .gt 7, 3) := by decide +kernel
theorem dJ9_min_7cf53_5 : decode cJ9_min_7cf53 5 = .ok (.iload_n 0, 1) := by decide +kernel
theorem dJ9_min_7cf53_6 : decode cJ9_min_7cf53 6 = .ok (.goto 4, 3) := by decide +kernel
theorem dJ9_min_7cf53_9 : decode cJ9_min_7cf53 9 = .ok (.iload_n 1, 1) := by decide +kernel
theorem dJ9_min_7cf53_10 : decode cJ9_min_7cf53 10 = .ok (.ireturn, 1) := by decide +kernel
theorem dL_cell_0 : decode cL_cell 0 = .ok (.iload_n 1, 1) := by decide +kernel
theorem dL_cell_1 : decode cL_cell 1 = .ok (.aload_n 0, 1) := by decide +kernel
theorem dL_cell_2 : decode cL_cell 2 = .ok (.arraylength, 1) := by decide +kernel
theorem dL_cell_3 : decode cL_cell 3 = .ok (.if_icmp .ge 9, 3) := by decide +kernel
theorem dL_cell_6 : decode cL_cell 6 = .ok (.aload_n 0, 1) := by decide +kernel
theorem dL_cell_7 : decode cL_cell 7 = .ok (.iload_n 1, 1) := by decide +kernel
theorem dL_cell_8 : decode cL_cell 8 = .ok (.iaload, 1) := by decide +kernel
theorem dL_cell_9 : decode cL_cell 9 = .ok (.goto 4, 3) := by decide +kernel
theorem dL_cell_12 : decode cL_cell 12 = .ok (.iconst 0, 1) := by decide +kernel
theorem dL_cell_13 : decode cL_cell 13 = .ok (.ireturn, 1) := by decide +kernel
set_option maxRecDepth 20000 in
theorem ggL_law_L_cell : GoodIn wsL_law wsL_cell := goodIn_r _ [9] (by decide +kernel) (by decide +kernel)
set_option maxRecDepth 20000 in
theorem gL_law_L_cell : GoodIn wsL_law (va_wsS RL 9 yL_cell wsL_cell) := goodIn_app (goodIn_of _ (by decide +kernel)) ggL_law_L_cell
set_option maxRecDepth 20000 in
theorem ggL_law_X0_init : GoodIn wsL_law wsX0_init := goodIn_r _ [12, 13, 14, 15, 16, 17, 18, 19, 20, 21, 22, 23, 24, 25, 26, 27, 28, 29, 30, 31, 32, 33, 34, 35, 36, 37, 38, 39, 40, 176, 177, 178, 179, 180, 181, 182, 183, 184, 185, 186, 187, 188, 189, 190, 191] (by decide +kernel) (by decide +kernel)
set_option maxRecDepth 20000 in
theorem gL_law_X0_init : GoodIn wsL_law (wsX0_init) := ggL_law_X0_init
set_option maxRecDepth 20000 in
theorem ggL_law_X1_init : GoodIn wsL_law wsX1_init := goodIn_r _ [43, 44, 14, 15, 16, 45, 46, 47, 48, 18, 49, 50, 51, 52, 53, 54, 55, 192, 193, 194, 195, 196, 197, 198, 199, 200, 201, 202, 203, 204, 205] (by decide +kernel) (by decide +kernel)
set_option maxRecDepth 20000 in
theorem gL_law_X1_init : GoodIn wsL_law (wsX1_init) := ggL_law_X1_init
set_option maxRecDepth 20000 in
theorem ggL_law_X0_match : GoodIn wsL_law wsX0_match := goodIn_r _ [59, 19, 20, 176, 177, 178, 179, 180, 181, 182, 183, 184, 185, 186, 187, 188, 189, 190, 191] (by decide +kernel) (by decide +kernel)
set_option maxRecDepth 20000 in
theorem gL_law_X0_match : GoodIn wsL_law (wsV RL 23 RX0 yX0_match wsX0_match) := goodIn_app (goodIn_of _ (by decide +kernel)) ggL_law_X0_match
set_option maxRecDepth 20000 in
theorem ggL_law_X1_match : GoodIn wsL_law wsX1_match := goodIn_r _ [63, 51, 52, 192, 193, 194, 195, 196, 197, 198, 199, 200, 201, 202, 203, 204, 205] (by decide +kernel) (by decide +kernel)
set_option maxRecDepth 20000 in
theorem gL_law_X1_match : GoodIn wsL_law (wsV RL 27 RX1 yX1_match wsX1_match) := goodIn_app (goodIn_of _ (by decide +kernel)) ggL_law_X1_match
set_option maxRecDepth 20000 in
theorem ggL_law_X0_insert : GoodIn wsL_law wsX0_insert := goodIn_r _ [67, 22, 25, 68, 69, 70, 2, 71, 38, 72, 73, 74, 75, 19, 17, 20, 39, 76, 77, 78, 79, 80, 40, 81, 82, 83, 84, 85, 86, 87, 88, 21, 26, 89, 90, 91, 92, 29, 30, 93, 94, 95, 96, 27, 97, 98, 99, 100, 101, 102, 103, 104, 105, 106, 107, 108, 109, 110, 111, 112, 23, 28, 113, 114, 115, 116, 176, 177, 178, 179, 180, 181, 182, 183, 184, 185, 186, 187, 188, 189, 190, 191] (by decide +kernel) (by decide +kernel)
set_option maxRecDepth 20000 in
theorem gL_law_X0_insert : GoodIn wsL_law (wsV RL 28 RX0 yX0_insert wsX0_insert) := goodIn_app (goodIn_of _ (by decide +kernel)) ggL_law_X0_insert
set_option maxRecDepth 20000 in
theorem ggL_law_X1_insert : GoodIn wsL_law wsX1_insert := goodIn_r _ [120, 54, 121, 49, 51, 50, 52, 46, 122, 47, 48, 123, 124, 125, 5, 126, 45, 127, 55, 128, 129, 130, 131, 132, 133, 134, 135, 136, 137, 138, 139, 192, 193, 194, 195, 196, 197, 198, 199, 200, 201, 202, 203, 204, 205] (by decide +kernel) (by decide +kernel)
set_option maxRecDepth 20000 in
theorem gL_law_X1_insert : GoodIn wsL_law (wsV RL 32 RX1 yX1_insert wsX1_insert) := goodIn_app (goodIn_of _ (by decide +kernel)) ggL_law_X1_insert
set_option maxRecDepth 20000 in
theorem ggL_law_X0_remove : GoodIn wsL_law wsX0_remove := goodIn_r _ [143, 22, 144, 145, 146, 2, 147, 25, 21, 148, 149, 150, 151, 105, 106, 107, 108, 176, 177, 178, 179, 180, 181, 182, 183, 184, 185, 186, 187, 188, 189, 190, 191] (by decide +kernel) (by decide +kernel)
set_option maxRecDepth 20000 in
theorem gL_law_X0_remove : GoodIn wsL_law (wsV RL 33 RX0 yX0_remove wsX0_remove) := goodIn_app (goodIn_of _ (by decide +kernel)) ggL_law_X0_remove
set_option maxRecDepth 20000 in
theorem ggL_law_X1_remove : GoodIn wsL_law wsX1_remove := goodIn_r _ [155, 121, 46, 47, 48, 49, 50, 192, 193, 194, 195, 196, 197, 198, 199, 200, 201, 202, 203, 204, 205] (by decide +kernel) (by decide +kernel)
set_option maxRecDepth 20000 in
theorem gL_law_X1_remove : GoodIn wsL_law (wsV RL 36 RX1 yX1_remove wsX1_remove) := goodIn_app (goodIn_of _ (by decide +kernel)) ggL_law_X1_remove
set_option maxRecDepth 20000 in
theorem ggL_law_X0_find : GoodIn wsL_law wsX0_find := goodIn_r _ [159, 22, 21, 28, 25, 24, 160, 161, 162, 2, 163, 30, 29, 176, 177, 178, 179, 180, 181, 182, 183, 184, 185, 186, 187, 188, 189, 190, 191] (by decide +kernel) (by decide +kernel)
set_option maxRecDepth 20000 in
theorem gL_law_X0_find : GoodIn wsL_law (wsV RL 37 RX0 yX0_find wsX0_find) := goodIn_app (goodIn_of _ (by decide +kernel)) ggL_law_X0_find
set_option maxRecDepth 20000 in
theorem ggL_law_X0_nth : GoodIn wsL_law wsX0_nth := goodIn_r _ [167, 22, 25, 21, 176, 177, 178, 179, 180, 181, 182, 183, 184, 185, 186, 187, 188, 189, 190, 191] (by decide +kernel) (by decide +kernel)
set_option maxRecDepth 20000 in
theorem gL_law_X0_nth : GoodIn wsL_law (wsV RL 42 RX0 yX0_nth wsX0_nth) := goodIn_app (goodIn_of _ (by decide +kernel)) ggL_law_X0_nth
set_option maxRecDepth 20000 in
theorem ggL_law_X0_hits : GoodIn wsL_law wsX0_hits := goodIn_r _ [171, 28, 21, 144, 145, 146, 2, 147, 22, 25, 176, 177, 178, 179, 180, 181, 182, 183, 184, 185, 186, 187, 188, 189, 190, 191] (by decide +kernel) (by decide +kernel)
set_option maxRecDepth 20000 in
theorem gL_law_X0_hits : GoodIn wsL_law (wsV RL 46 RX0 yX0_hits wsX0_hits) := goodIn_app (goodIn_of _ (by decide +kernel)) ggL_law_X0_hits
set_option maxRecDepth 20000 in
theorem ggL_law_X0_count : GoodIn wsL_law wsX0_count := goodIn_r _ [175, 38, 39, 22, 24, 17, 176, 177, 178, 179, 180, 181, 182, 183, 184, 185, 186, 187, 188, 189, 190, 191] (by decide +kernel) (by decide +kernel)
set_option maxRecDepth 20000 in
theorem gL_law_X0_count : GoodIn wsL_law (wsV RL 50 RX0 yX0_count wsX0_count) := goodIn_app (goodIn_of _ (by decide +kernel)) ggL_law_X0_count
theorem dL_law_0 : decode cL_law 0 = .ok (.new 7, 3) := by decide +kernel
theorem dL_law_3 : decode cL_law 3 = .ok (.dup, 1) := by decide +kernel
theorem dL_law_4 : decode cL_law 4 = .ok (.aload_n 0, 1) := by decide +kernel
theorem dL_law_5 : decode cL_law 5 = .ok (.iconst 0, 1) := by decide +kernel
theorem dL_law_6 : decode cL_law 6 = .ok (.invokestatic 9, 3) := by decide +kernel
theorem dL_law_9 : decode cL_law 9 = .ok (.aload_n 0, 1) := by decide +kernel
theorem dL_law_10 : decode cL_law 10 = .ok (.iconst 1, 1) := by decide +kernel
theorem dL_law_11 : decode cL_law 11 = .ok (.invokestatic 9, 3) := by decide +kernel
theorem dL_law_14 : decode cL_law 14 = .ok (.aload_n 0, 1) := by decide +kernel
theorem dL_law_15 : decode cL_law 15 = .ok (.iconst 2, 1) := by decide +kernel
theorem dL_law_16 : decode cL_law 16 = .ok (.invokestatic 9, 3) := by decide +kernel
theorem dL_law_19 : decode cL_law 19 = .ok (.invokespecial 15, 3) := by decide +kernel
theorem dL_law_22 : decode cL_law 22 = .ok (.astore_n 1, 1) := by decide +kernel
theorem dL_law_23 : decode cL_law 23 = .ok (.new 18, 3) := by decide +kernel
theorem dL_law_26 : decode cL_law 26 = .ok (.dup, 1) := by decide +kernel
theorem dL_law_27 : decode cL_law 27 = .ok (.aload_n 0, 1) := by decide +kernel
theorem dL_law_28 : decode cL_law 28 = .ok (.iconst 0, 1) := by decide +kernel
theorem dL_law_29 : decode cL_law 29 = .ok (.invokestatic 9, 3) := by decide +kernel
theorem dL_law_32 : decode cL_law 32 = .ok (.aload_n 0, 1) := by decide +kernel
theorem dL_law_33 : decode cL_law 33 = .ok (.iconst 1, 1) := by decide +kernel
theorem dL_law_34 : decode cL_law 34 = .ok (.invokestatic 9, 3) := by decide +kernel
theorem dL_law_37 : decode cL_law 37 = .ok (.aload_n 0, 1) := by decide +kernel
theorem dL_law_38 : decode cL_law 38 = .ok (.iconst 2, 1) := by decide +kernel
theorem dL_law_39 : decode cL_law 39 = .ok (.invokestatic 9, 3) := by decide +kernel
theorem dL_law_42 : decode cL_law 42 = .ok (.invokespecial 20, 3) := by decide +kernel
theorem dL_law_45 : decode cL_law 45 = .ok (.astore_n 2, 1) := by decide +kernel
theorem dL_law_46 : decode cL_law 46 = .ok (.iconst 3, 1) := by decide +kernel
theorem dL_law_47 : decode cL_law 47 = .ok (.istore_n 3, 1) := by decide +kernel
theorem dL_law_48 : decode cL_law 48 = .ok (.iload_n 3, 1) := by decide +kernel
theorem dL_law_49 : decode cL_law 49 = .ok (.aload_n 0, 1) := by decide +kernel
theorem dL_law_50 : decode cL_law 50 = .ok (.arraylength, 1) := by decide +kernel
theorem dL_law_51 : decode cL_law 51 = .ok (.bipush 7, 2) := by decide +kernel
theorem dL_law_53 : decode cL_law 53 = .ok (.isub, 1) := by decide +kernel
theorem dL_law_54 : decode cL_law 54 = .ok (.if_icmp .gt 409, 3) := by decide +kernel
theorem dL_law_57 : decode cL_law 57 = .ok (.aload_n 0, 1) := by decide +kernel
theorem dL_law_58 : decode cL_law 58 = .ok (.iload_n 3, 1) := by decide +kernel
theorem dL_law_59 : decode cL_law 59 = .ok (.iaload, 1) := by decide +kernel
theorem dL_law_60 : decode cL_law 60 = .ok (.bipush 7, 2) := by decide +kernel
theorem dL_law_62 : decode cL_law 62 = .ok (.iand, 1) := by decide +kernel
theorem dL_law_63 : decode cL_law 63 = .ok (.tableswitch 394 0 6 #[41, 144, 167, 190, 325, 348, 371], 41) := by decide +kernel
theorem dL_law_104 : decode cL_law 104 = .ok (.aload_n 1, 1) := by decide +kernel
theorem dL_law_105 : decode cL_law 105 = .ok (.aload_n 0, 1) := by decide +kernel
theorem dL_law_106 : decode cL_law 106 = .ok (.iload_n 3, 1) := by decide +kernel
theorem dL_law_107 : decode cL_law 107 = .ok (.iconst 1, 1) := by decide +kernel
theorem dL_law_108 : decode cL_law 108 = .ok (.iadd, 1) := by decide +kernel
theorem dL_law_109 : decode cL_law 109 = .ok (.iaload, 1) := by decide +kernel
theorem dL_law_110 : decode cL_law 110 = .ok (.aload_n 0, 1) := by decide +kernel
theorem dL_law_111 : decode cL_law 111 = .ok (.iload_n 3, 1) := by decide +kernel
theorem dL_law_112 : decode cL_law 112 = .ok (.iconst 2, 1) := by decide +kernel
theorem dL_law_113 : decode cL_law 113 = .ok (.iadd, 1) := by decide +kernel
theorem dL_law_114 : decode cL_law 114 = .ok (.iaload, 1) := by decide +kernel
theorem dL_law_115 : decode cL_law 115 = .ok (.i2l, 1) := by decide +kernel
theorem dL_law_116 : decode cL_law 116 = .ok (.bipush 32, 2) := by decide +kernel
theorem dL_law_118 : decode cL_law 118 = .ok (.lshl, 1) := by decide +kernel
theorem dL_law_119 : decode cL_law 119 = .ok (.aload_n 0, 1) := by decide +kernel
theorem dL_law_120 : decode cL_law 120 = .ok (.iload_n 3, 1) := by decide +kernel
theorem dL_law_121 : decode cL_law 121 = .ok (.iconst 3, 1) := by decide +kernel
theorem dL_law_122 : decode cL_law 122 = .ok (.iadd, 1) := by decide +kernel
theorem dL_law_123 : decode cL_law 123 = .ok (.iaload, 1) := by decide +kernel
theorem dL_law_124 : decode cL_law 124 = .ok (.i2l, 1) := by decide +kernel
theorem dL_law_125 : decode cL_law 125 = .ok (.ldc2_w 21, 3) := by decide +kernel
theorem dL_law_128 : decode cL_law 128 = .ok (.land, 1) := by decide +kernel
theorem dL_law_129 : decode cL_law 129 = .ok (.lor, 1) := by decide +kernel
theorem dL_law_130 : decode cL_law 130 = .ok (.aload_n 0, 1) := by decide +kernel
theorem dL_law_131 : decode cL_law 131 = .ok (.iload_n 3, 1) := by decide +kernel
theorem dL_law_132 : decode cL_law 132 = .ok (.iconst 4, 1) := by decide +kernel
theorem dL_law_133 : decode cL_law 133 = .ok (.iadd, 1) := by decide +kernel
theorem dL_law_134 : decode cL_law 134 = .ok (.iaload, 1) := by decide +kernel
theorem dL_law_135 : decode cL_law 135 = .ok (.i2l, 1) := by decide +kernel
theorem dL_law_136 : decode cL_law 136 = .ok (.bipush 32, 2) := by decide +kernel
theorem dL_law_138 : decode cL_law 138 = .ok (.lshl, 1) := by decide +kernel
theorem dL_law_139 : decode cL_law 139 = .ok (.aload_n 0, 1) := by decide +kernel
theorem dL_law_140 : decode cL_law 140 = .ok (.iload_n 3, 1) := by decide +kernel
theorem dL_law_141 : decode cL_law 141 = .ok (.iconst 5, 1) := by decide +kernel
theorem dL_law_142 : decode cL_law 142 = .ok (.iadd, 1) := by decide +kernel
theorem dL_law_143 : decode cL_law 143 = .ok (.iaload, 1) := by decide +kernel
theorem dL_law_144 : decode cL_law 144 = .ok (.i2l, 1) := by decide +kernel
theorem dL_law_145 : decode cL_law 145 = .ok (.ldc2_w 21, 3) := by decide +kernel
theorem dL_law_148 : decode cL_law 148 = .ok (.land, 1) := by decide +kernel
theorem dL_law_149 : decode cL_law 149 = .ok (.lor, 1) := by decide +kernel
theorem dL_law_150 : decode cL_law 150 = .ok (.invokevirtual 23, 3) := by decide +kernel
theorem dL_law_153 : decode cL_law 153 = .ok (.aload_n 2, 1) := by decide +kernel
theorem dL_law_154 : decode cL_law 154 = .ok (.aload_n 0, 1) := by decide +kernel
theorem dL_law_155 : decode cL_law 155 = .ok (.iload_n 3, 1) := by decide +kernel
theorem dL_law_156 : decode cL_law 156 = .ok (.iconst 1, 1) := by decide +kernel
theorem dL_law_157 : decode cL_law 157 = .ok (.iadd, 1) := by decide +kernel
theorem dL_law_158 : decode cL_law 158 = .ok (.iaload, 1) := by decide +kernel
theorem dL_law_159 : decode cL_law 159 = .ok (.aload_n 0, 1) := by decide +kernel
theorem dL_law_160 : decode cL_law 160 = .ok (.iload_n 3, 1) := by decide +kernel
theorem dL_law_161 : decode cL_law 161 = .ok (.iconst 2, 1) := by decide +kernel
theorem dL_law_162 : decode cL_law 162 = .ok (.iadd, 1) := by decide +kernel
theorem dL_law_163 : decode cL_law 163 = .ok (.iaload, 1) := by decide +kernel
theorem dL_law_164 : decode cL_law 164 = .ok (.i2l, 1) := by decide +kernel
theorem dL_law_165 : decode cL_law 165 = .ok (.bipush 32, 2) := by decide +kernel
theorem dL_law_167 : decode cL_law 167 = .ok (.lshl, 1) := by decide +kernel
theorem dL_law_168 : decode cL_law 168 = .ok (.aload_n 0, 1) := by decide +kernel
theorem dL_law_169 : decode cL_law 169 = .ok (.iload_n 3, 1) := by decide +kernel
theorem dL_law_170 : decode cL_law 170 = .ok (.iconst 3, 1) := by decide +kernel
theorem dL_law_171 : decode cL_law 171 = .ok (.iadd, 1) := by decide +kernel
theorem dL_law_172 : decode cL_law 172 = .ok (.iaload, 1) := by decide +kernel
theorem dL_law_173 : decode cL_law 173 = .ok (.i2l, 1) := by decide +kernel
theorem dL_law_174 : decode cL_law 174 = .ok (.ldc2_w 21, 3) := by decide +kernel
theorem dL_law_177 : decode cL_law 177 = .ok (.land, 1) := by decide +kernel
theorem dL_law_178 : decode cL_law 178 = .ok (.lor, 1) := by decide +kernel
theorem dL_law_179 : decode cL_law 179 = .ok (.aload_n 0, 1) := by decide +kernel
theorem dL_law_180 : decode cL_law 180 = .ok (.iload_n 3, 1) := by decide +kernel
theorem dL_law_181 : decode cL_law 181 = .ok (.iconst 4, 1) := by decide +kernel
theorem dL_law_182 : decode cL_law 182 = .ok (.iadd, 1) := by decide +kernel
theorem dL_law_183 : decode cL_law 183 = .ok (.iaload, 1) := by decide +kernel
theorem dL_law_184 : decode cL_law 184 = .ok (.i2l, 1) := by decide +kernel
theorem dL_law_185 : decode cL_law 185 = .ok (.bipush 32, 2) := by decide +kernel
theorem dL_law_187 : decode cL_law 187 = .ok (.lshl, 1) := by decide +kernel
theorem dL_law_188 : decode cL_law 188 = .ok (.aload_n 0, 1) := by decide +kernel
theorem dL_law_189 : decode cL_law 189 = .ok (.iload_n 3, 1) := by decide +kernel
theorem dL_law_190 : decode cL_law 190 = .ok (.iconst 5, 1) := by decide +kernel
theorem dL_law_191 : decode cL_law 191 = .ok (.iadd, 1) := by decide +kernel
theorem dL_law_192 : decode cL_law 192 = .ok (.iaload, 1) := by decide +kernel
theorem dL_law_193 : decode cL_law 193 = .ok (.i2l, 1) := by decide +kernel
theorem dL_law_194 : decode cL_law 194 = .ok (.ldc2_w 21, 3) := by decide +kernel
theorem dL_law_197 : decode cL_law 197 = .ok (.land, 1) := by decide +kernel
theorem dL_law_198 : decode cL_law 198 = .ok (.lor, 1) := by decide +kernel
theorem dL_law_199 : decode cL_law 199 = .ok (.invokevirtual 27, 3) := by decide +kernel
theorem dL_law_202 : decode cL_law 202 = .ok (.if_icmp .eq 255, 3) := by decide +kernel
theorem dL_law_205 : decode cL_law 205 = .ok (.iconst 0, 1) := by decide +kernel
theorem dL_law_206 : decode cL_law 206 = .ok (.ireturn, 1) := by decide +kernel
theorem dL_law_207 : decode cL_law 207 = .ok (.aload_n 1, 1) := by decide +kernel
theorem dL_law_208 : decode cL_law 208 = .ok (.aload_n 0, 1) := by decide +kernel
theorem dL_law_209 : decode cL_law 209 = .ok (.iload_n 3, 1) := by decide +kernel
theorem dL_law_210 : decode cL_law 210 = .ok (.iconst 1, 1) := by decide +kernel
theorem dL_law_211 : decode cL_law 211 = .ok (.iadd, 1) := by decide +kernel
theorem dL_law_212 : decode cL_law 212 = .ok (.iaload, 1) := by decide +kernel
theorem dL_law_213 : decode cL_law 213 = .ok (.invokevirtual 28, 3) := by decide +kernel
theorem dL_law_216 : decode cL_law 216 = .ok (.aload_n 2, 1) := by decide +kernel
theorem dL_law_217 : decode cL_law 217 = .ok (.aload_n 0, 1) := by decide +kernel
theorem dL_law_218 : decode cL_law 218 = .ok (.iload_n 3, 1) := by decide +kernel
theorem dL_law_219 : decode cL_law 219 = .ok (.iconst 1, 1) := by decide +kernel
theorem dL_law_220 : decode cL_law 220 = .ok (.iadd, 1) := by decide +kernel
theorem dL_law_221 : decode cL_law 221 = .ok (.iaload, 1) := by decide +kernel
theorem dL_law_222 : decode cL_law 222 = .ok (.invokevirtual 32, 3) := by decide +kernel
theorem dL_law_225 : decode cL_law 225 = .ok (.if_icmp .eq 232, 3) := by decide +kernel
theorem dL_law_228 : decode cL_law 228 = .ok (.iconst 0, 1) := by decide +kernel
theorem dL_law_229 : decode cL_law 229 = .ok (.ireturn, 1) := by decide +kernel
theorem dL_law_230 : decode cL_law 230 = .ok (.aload_n 1, 1) := by decide +kernel
theorem dL_law_231 : decode cL_law 231 = .ok (.aload_n 0, 1) := by decide +kernel
theorem dL_law_232 : decode cL_law 232 = .ok (.iload_n 3, 1) := by decide +kernel
theorem dL_law_233 : decode cL_law 233 = .ok (.iconst 1, 1) := by decide +kernel
theorem dL_law_234 : decode cL_law 234 = .ok (.iadd, 1) := by decide +kernel
theorem dL_law_235 : decode cL_law 235 = .ok (.iaload, 1) := by decide +kernel
theorem dL_law_236 : decode cL_law 236 = .ok (.invokevirtual 33, 3) := by decide +kernel
theorem dL_law_239 : decode cL_law 239 = .ok (.aload_n 2, 1) := by decide +kernel
theorem dL_law_240 : decode cL_law 240 = .ok (.aload_n 0, 1) := by decide +kernel
theorem dL_law_241 : decode cL_law 241 = .ok (.iload_n 3, 1) := by decide +kernel
theorem dL_law_242 : decode cL_law 242 = .ok (.iconst 1, 1) := by decide +kernel
theorem dL_law_243 : decode cL_law 243 = .ok (.iadd, 1) := by decide +kernel
theorem dL_law_244 : decode cL_law 244 = .ok (.iaload, 1) := by decide +kernel
theorem dL_law_245 : decode cL_law 245 = .ok (.invokevirtual 36, 3) := by decide +kernel
theorem dL_law_248 : decode cL_law 248 = .ok (.if_icmp .eq 209, 3) := by decide +kernel
theorem dL_law_251 : decode cL_law 251 = .ok (.iconst 0, 1) := by decide +kernel
theorem dL_law_252 : decode cL_law 252 = .ok (.ireturn, 1) := by decide +kernel
theorem dL_law_253 : decode cL_law 253 = .ok (.aload_n 1, 1) := by decide +kernel
theorem dL_law_254 : decode cL_law 254 = .ok (.aload_n 0, 1) := by decide +kernel
theorem dL_law_255 : decode cL_law 255 = .ok (.iload_n 3, 1) := by decide +kernel
theorem dL_law_256 : decode cL_law 256 = .ok (.iconst 1, 1) := by decide +kernel
theorem dL_law_257 : decode cL_law 257 = .ok (.iadd, 1) := by decide +kernel
theorem dL_law_258 : decode cL_law 258 = .ok (.iaload, 1) := by decide +kernel
theorem dL_law_259 : decode cL_law 259 = .ok (.i2l, 1) := by decide +kernel
theorem dL_law_260 : decode cL_law 260 = .ok (.bipush 32, 2) := by decide +kernel
theorem dL_law_262 : decode cL_law 262 = .ok (.lshl, 1) := by decide +kernel
theorem dL_law_263 : decode cL_law 263 = .ok (.aload_n 0, 1) := by decide +kernel
theorem dL_law_264 : decode cL_law 264 = .ok (.iload_n 3, 1) := by decide +kernel
theorem dL_law_265 : decode cL_law 265 = .ok (.iconst 2, 1) := by decide +kernel
theorem dL_law_266 : decode cL_law 266 = .ok (.iadd, 1) := by decide +kernel
theorem dL_law_267 : decode cL_law 267 = .ok (.iaload, 1) := by decide +kernel
theorem dL_law_268 : decode cL_law 268 = .ok (.i2l, 1) := by decide +kernel
theorem dL_law_269 : decode cL_law 269 = .ok (.ldc2_w 21, 3) := by decide +kernel
theorem dL_law_272 : decode cL_law 272 = .ok (.land, 1) := by decide +kernel
theorem dL_law_273 : decode cL_law 273 = .ok (.lor, 1) := by decide +kernel
theorem dL_law_274 : decode cL_law 274 = .ok (.aload_n 0, 1) := by decide +kernel
theorem dL_law_275 : decode cL_law 275 = .ok (.iload_n 3, 1) := by decide +kernel
theorem dL_law_276 : decode cL_law 276 = .ok (.iconst 3, 1) := by decide +kernel
theorem dL_law_277 : decode cL_law 277 = .ok (.iadd, 1) := by decide +kernel
theorem dL_law_278 : decode cL_law 278 = .ok (.iaload, 1) := by decide +kernel
theorem dL_law_279 : decode cL_law 279 = .ok (.i2l, 1) := by decide +kernel
theorem dL_law_280 : decode cL_law 280 = .ok (.bipush 32, 2) := by decide +kernel
theorem dL_law_282 : decode cL_law 282 = .ok (.lshl, 1) := by decide +kernel
theorem dL_law_283 : decode cL_law 283 = .ok (.aload_n 0, 1) := by decide +kernel
theorem dL_law_284 : decode cL_law 284 = .ok (.iload_n 3, 1) := by decide +kernel
theorem dL_law_285 : decode cL_law 285 = .ok (.iconst 4, 1) := by decide +kernel
theorem dL_law_286 : decode cL_law 286 = .ok (.iadd, 1) := by decide +kernel
theorem dL_law_287 : decode cL_law 287 = .ok (.iaload, 1) := by decide +kernel
theorem dL_law_288 : decode cL_law 288 = .ok (.i2l, 1) := by decide +kernel
theorem dL_law_289 : decode cL_law 289 = .ok (.ldc2_w 21, 3) := by decide +kernel
theorem dL_law_292 : decode cL_law 292 = .ok (.land, 1) := by decide +kernel
theorem dL_law_293 : decode cL_law 293 = .ok (.lor, 1) := by decide +kernel
theorem dL_law_294 : decode cL_law 294 = .ok (.aload_n 0, 1) := by decide +kernel
theorem dL_law_295 : decode cL_law 295 = .ok (.iload_n 3, 1) := by decide +kernel
theorem dL_law_296 : decode cL_law 296 = .ok (.iconst 5, 1) := by decide +kernel
theorem dL_law_297 : decode cL_law 297 = .ok (.iadd, 1) := by decide +kernel
theorem dL_law_298 : decode cL_law 298 = .ok (.iaload, 1) := by decide +kernel
theorem dL_law_299 : decode cL_law 299 = .ok (.i2l, 1) := by decide +kernel
theorem dL_law_300 : decode cL_law 300 = .ok (.bipush 32, 2) := by decide +kernel
theorem dL_law_302 : decode cL_law 302 = .ok (.lshl, 1) := by decide +kernel
theorem dL_law_303 : decode cL_law 303 = .ok (.aload_n 0, 1) := by decide +kernel
theorem dL_law_304 : decode cL_law 304 = .ok (.iload_n 3, 1) := by decide +kernel
theorem dL_law_305 : decode cL_law 305 = .ok (.bipush 6, 2) := by decide +kernel
theorem dL_law_307 : decode cL_law 307 = .ok (.iadd, 1) := by decide +kernel
theorem dL_law_308 : decode cL_law 308 = .ok (.iaload, 1) := by decide +kernel
theorem dL_law_309 : decode cL_law 309 = .ok (.i2l, 1) := by decide +kernel
theorem dL_law_310 : decode cL_law 310 = .ok (.ldc2_w 21, 3) := by decide +kernel
theorem dL_law_313 : decode cL_law 313 = .ok (.land, 1) := by decide +kernel
theorem dL_law_314 : decode cL_law 314 = .ok (.lor, 1) := by decide +kernel
theorem dL_law_315 : decode cL_law 315 = .ok (.invokevirtual 37, 3) := by decide +kernel
theorem dL_law_318 : decode cL_law 318 = .ok (.aload_n 2, 1) := by decide +kernel
theorem dL_law_319 : decode cL_law 319 = .ok (.aload_n 0, 1) := by decide +kernel
theorem dL_law_320 : decode cL_law 320 = .ok (.iload_n 3, 1) := by decide +kernel
theorem dL_law_321 : decode cL_law 321 = .ok (.iconst 1, 1) := by decide +kernel
theorem dL_law_322 : decode cL_law 322 = .ok (.iadd, 1) := by decide +kernel
theorem dL_law_323 : decode cL_law 323 = .ok (.iaload, 1) := by decide +kernel
theorem dL_law_324 : decode cL_law 324 = .ok (.i2l, 1) := by decide +kernel
theorem dL_law_325 : decode cL_law 325 = .ok (.bipush 32, 2) := by decide +kernel
theorem dL_law_327 : decode cL_law 327 = .ok (.lshl, 1) := by decide +kernel
theorem dL_law_328 : decode cL_law 328 = .ok (.aload_n 0, 1) := by decide +kernel
theorem dL_law_329 : decode cL_law 329 = .ok (.iload_n 3, 1) := by decide +kernel
theorem dL_law_330 : decode cL_law 330 = .ok (.iconst 2, 1) := by decide +kernel
theorem dL_law_331 : decode cL_law 331 = .ok (.iadd, 1) := by decide +kernel
theorem dL_law_332 : decode cL_law 332 = .ok (.iaload, 1) := by decide +kernel
theorem dL_law_333 : decode cL_law 333 = .ok (.i2l, 1) := by decide +kernel
theorem dL_law_334 : decode cL_law 334 = .ok (.ldc2_w 21, 3) := by decide +kernel
theorem dL_law_337 : decode cL_law 337 = .ok (.land, 1) := by decide +kernel
theorem dL_law_338 : decode cL_law 338 = .ok (.lor, 1) := by decide +kernel
theorem dL_law_339 : decode cL_law 339 = .ok (.aload_n 0, 1) := by decide +kernel
theorem dL_law_340 : decode cL_law 340 = .ok (.iload_n 3, 1) := by decide +kernel
theorem dL_law_341 : decode cL_law 341 = .ok (.iconst 3, 1) := by decide +kernel
theorem dL_law_342 : decode cL_law 342 = .ok (.iadd, 1) := by decide +kernel
theorem dL_law_343 : decode cL_law 343 = .ok (.iaload, 1) := by decide +kernel
theorem dL_law_344 : decode cL_law 344 = .ok (.i2l, 1) := by decide +kernel
theorem dL_law_345 : decode cL_law 345 = .ok (.bipush 32, 2) := by decide +kernel
theorem dL_law_347 : decode cL_law 347 = .ok (.lshl, 1) := by decide +kernel
theorem dL_law_348 : decode cL_law 348 = .ok (.aload_n 0, 1) := by decide +kernel
theorem dL_law_349 : decode cL_law 349 = .ok (.iload_n 3, 1) := by decide +kernel
theorem dL_law_350 : decode cL_law 350 = .ok (.iconst 4, 1) := by decide +kernel
theorem dL_law_351 : decode cL_law 351 = .ok (.iadd, 1) := by decide +kernel
theorem dL_law_352 : decode cL_law 352 = .ok (.iaload, 1) := by decide +kernel
theorem dL_law_353 : decode cL_law 353 = .ok (.i2l, 1) := by decide +kernel
theorem dL_law_354 : decode cL_law 354 = .ok (.ldc2_w 21, 3) := by decide +kernel
theorem dL_law_357 : decode cL_law 357 = .ok (.land, 1) := by decide +kernel
theorem dL_law_358 : decode cL_law 358 = .ok (.lor, 1) := by decide +kernel
theorem dL_law_359 : decode cL_law 359 = .ok (.aload_n 0, 1) := by decide +kernel
theorem dL_law_360 : decode cL_law 360 = .ok (.iload_n 3, 1) := by decide +kernel
theorem dL_law_361 : decode cL_law 361 = .ok (.iconst 5, 1) := by decide +kernel
theorem dL_law_362 : decode cL_law 362 = .ok (.iadd, 1) := by decide +kernel
theorem dL_law_363 : decode cL_law 363 = .ok (.iaload, 1) := by decide +kernel
theorem dL_law_364 : decode cL_law 364 = .ok (.i2l, 1) := by decide +kernel
theorem dL_law_365 : decode cL_law 365 = .ok (.bipush 32, 2) := by decide +kernel
theorem dL_law_367 : decode cL_law 367 = .ok (.lshl, 1) := by decide +kernel
theorem dL_law_368 : decode cL_law 368 = .ok (.aload_n 0, 1) := by decide +kernel
theorem dL_law_369 : decode cL_law 369 = .ok (.iload_n 3, 1) := by decide +kernel
theorem dL_law_370 : decode cL_law 370 = .ok (.bipush 6, 2) := by decide +kernel
theorem dL_law_372 : decode cL_law 372 = .ok (.iadd, 1) := by decide +kernel
theorem dL_law_373 : decode cL_law 373 = .ok (.iaload, 1) := by decide +kernel
theorem dL_law_374 : decode cL_law 374 = .ok (.i2l, 1) := by decide +kernel
theorem dL_law_375 : decode cL_law 375 = .ok (.ldc2_w 21, 3) := by decide +kernel
theorem dL_law_378 : decode cL_law 378 = .ok (.land, 1) := by decide +kernel
theorem dL_law_379 : decode cL_law 379 = .ok (.lor, 1) := by decide +kernel
theorem dL_law_380 : decode cL_law 380 = .ok (.invokevirtual 41, 3) := by decide +kernel
theorem dL_law_383 : decode cL_law 383 = .ok (.if_icmp .eq 74, 3) := by decide +kernel
theorem dL_law_386 : decode cL_law 386 = .ok (.iconst 0, 1) := by decide +kernel
theorem dL_law_387 : decode cL_law 387 = .ok (.ireturn, 1) := by decide +kernel
theorem dL_law_388 : decode cL_law 388 = .ok (.aload_n 1, 1) := by decide +kernel
theorem dL_law_389 : decode cL_law 389 = .ok (.aload_n 0, 1) := by decide +kernel
theorem dL_law_390 : decode cL_law 390 = .ok (.iload_n 3, 1) := by decide +kernel
theorem dL_law_391 : decode cL_law 391 = .ok (.iconst 1, 1) := by decide +kernel
theorem dL_law_392 : decode cL_law 392 = .ok (.iadd, 1) := by decide +kernel
theorem dL_law_393 : decode cL_law 393 = .ok (.iaload, 1) := by decide +kernel
theorem dL_law_394 : decode cL_law 394 = .ok (.invokevirtual 42, 3) := by decide +kernel
theorem dL_law_397 : decode cL_law 397 = .ok (.aload_n 2, 1) := by decide +kernel
theorem dL_law_398 : decode cL_law 398 = .ok (.aload_n 0, 1) := by decide +kernel
theorem dL_law_399 : decode cL_law 399 = .ok (.iload_n 3, 1) := by decide +kernel
theorem dL_law_400 : decode cL_law 400 = .ok (.iconst 1, 1) := by decide +kernel
theorem dL_law_401 : decode cL_law 401 = .ok (.iadd, 1) := by decide +kernel
theorem dL_law_402 : decode cL_law 402 = .ok (.iaload, 1) := by decide +kernel
theorem dL_law_403 : decode cL_law 403 = .ok (.invokevirtual 45, 3) := by decide +kernel
theorem dL_law_406 : decode cL_law 406 = .ok (.if_icmp .eq 51, 3) := by decide +kernel
theorem dL_law_409 : decode cL_law 409 = .ok (.iconst 0, 1) := by decide +kernel
theorem dL_law_410 : decode cL_law 410 = .ok (.ireturn, 1) := by decide +kernel
theorem dL_law_411 : decode cL_law 411 = .ok (.aload_n 1, 1) := by decide +kernel
theorem dL_law_412 : decode cL_law 412 = .ok (.aload_n 0, 1) := by decide +kernel
theorem dL_law_413 : decode cL_law 413 = .ok (.iload_n 3, 1) := by decide +kernel
theorem dL_law_414 : decode cL_law 414 = .ok (.iconst 1, 1) := by decide +kernel
theorem dL_law_415 : decode cL_law 415 = .ok (.iadd, 1) := by decide +kernel
theorem dL_law_416 : decode cL_law 416 = .ok (.iaload, 1) := by decide +kernel
theorem dL_law_417 : decode cL_law 417 = .ok (.invokevirtual 46, 3) := by decide +kernel
theorem dL_law_420 : decode cL_law 420 = .ok (.aload_n 2, 1) := by decide +kernel
theorem dL_law_421 : decode cL_law 421 = .ok (.aload_n 0, 1) := by decide +kernel
theorem dL_law_422 : decode cL_law 422 = .ok (.iload_n 3, 1) := by decide +kernel
theorem dL_law_423 : decode cL_law 423 = .ok (.iconst 1, 1) := by decide +kernel
theorem dL_law_424 : decode cL_law 424 = .ok (.iadd, 1) := by decide +kernel
theorem dL_law_425 : decode cL_law 425 = .ok (.iaload, 1) := by decide +kernel
theorem dL_law_426 : decode cL_law 426 = .ok (.invokevirtual 49, 3) := by decide +kernel
theorem dL_law_429 : decode cL_law 429 = .ok (.if_icmp .eq 28, 3) := by decide +kernel
theorem dL_law_432 : decode cL_law 432 = .ok (.iconst 0, 1) := by decide +kernel
theorem dL_law_433 : decode cL_law 433 = .ok (.ireturn, 1) := by decide +kernel
theorem dL_law_434 : decode cL_law 434 = .ok (.aload_n 1, 1) := by decide +kernel
theorem dL_law_435 : decode cL_law 435 = .ok (.aload_n 0, 1) := by decide +kernel
theorem dL_law_436 : decode cL_law 436 = .ok (.iload_n 3, 1) := by decide +kernel
theorem dL_law_437 : decode cL_law 437 = .ok (.iconst 1, 1) := by decide +kernel
theorem dL_law_438 : decode cL_law 438 = .ok (.iadd, 1) := by decide +kernel
theorem dL_law_439 : decode cL_law 439 = .ok (.iaload, 1) := by decide +kernel
theorem dL_law_440 : decode cL_law 440 = .ok (.invokevirtual 50, 3) := by decide +kernel
theorem dL_law_443 : decode cL_law 443 = .ok (.aload_n 2, 1) := by decide +kernel
theorem dL_law_444 : decode cL_law 444 = .ok (.aload_n 0, 1) := by decide +kernel
theorem dL_law_445 : decode cL_law 445 = .ok (.iload_n 3, 1) := by decide +kernel
theorem dL_law_446 : decode cL_law 446 = .ok (.iconst 1, 1) := by decide +kernel
theorem dL_law_447 : decode cL_law 447 = .ok (.iadd, 1) := by decide +kernel
theorem dL_law_448 : decode cL_law 448 = .ok (.iaload, 1) := by decide +kernel
theorem dL_law_449 : decode cL_law 449 = .ok (.invokevirtual 53, 3) := by decide +kernel
theorem dL_law_452 : decode cL_law 452 = .ok (.if_icmp .eq 5, 3) := by decide +kernel
theorem dL_law_455 : decode cL_law 455 = .ok (.iconst 0, 1) := by decide +kernel
theorem dL_law_456 : decode cL_law 456 = .ok (.ireturn, 1) := by decide +kernel
theorem dL_law_457 : decode cL_law 457 = .ok (.iinc 3 7, 3) := by decide +kernel
theorem dL_law_460 : decode cL_law 460 = .ok (.goto (-412), 3) := by decide +kernel
theorem dL_law_463 : decode cL_law 463 = .ok (.iconst 1, 1) := by decide +kernel
theorem dL_law_464 : decode cL_law 464 = .ok (.ireturn, 1) := by decide +kernel
abbrev vwCl : List vw_C := [(RX0, TX0, 16), (RX1, TX1, 14)]
