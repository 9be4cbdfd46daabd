/-! Names that the printed file leaves out: the reference's other methods (it is printed from the first half of the tables); one list of words for all of the reference's methods. -/
abbrev cX1_place : ByteArray := prog_3_method_8_code
def yX1_place : MethodName := ⟨RX1, "place", "(I)I"⟩
abbrev cX1_find : ByteArray := prog_3_method_13_code
def yX1_find : MethodName := ⟨RX1, "find", "(JJJ)I"⟩
abbrev cX1_matches : ByteArray := prog_3_method_12_code
def yX1_matches : MethodName := ⟨RX1, "matches", "(I)Z"⟩
abbrev cX1_before : ByteArray := prog_3_method_11_code
def yX1_before : MethodName := ⟨RX1, "before", "(II)Z"⟩
abbrev cX1_prefix : ByteArray := prog_3_method_10_code
def yX1_prefix : MethodName := ⟨RX1, "prefix", "(I)J"⟩
abbrev cX1_nth : ByteArray := prog_3_method_14_code
def yX1_nth : MethodName := ⟨RX1, "nth", "(I)I"⟩
abbrev cX1_hits : ByteArray := prog_3_method_15_code
def yX1_hits : MethodName := ⟨RX1, "hits", "(I)I"⟩
abbrev cX1_count : ByteArray := prog_3_method_16_code
def yX1_count : MethodName := ⟨RX1, "count", "(I)I"⟩
def MALL_0 : List Cond := [Cond.initialized RX1, Cond.fieldLink RX1 38 "EntryTableModel" "keys" "I", Cond.fieldLink RX1 42 "EntryTableModel" "width" "I", Cond.fieldLink RX1 7 "EntryTableModel" "kind" "[I", Cond.fieldLink RX1 13 "EntryTableModel" "number" "[I", Cond.fieldLink RX1 16 "EntryTableModel" "priority" "[I", Cond.fieldLink RX1 19 "EntryTableModel" "hits" "[I", Cond.fieldLink RX1 22 "EntryTableModel" "value" "[J", Cond.fieldLink RX1 26 "EntryTableModel" "mask" "[J", Cond.fieldLink RX1 29 "EntryTableModel" "madeValue" "[J", Cond.fieldLink RX1 32 "EntryTableModel" "madeMask" "[J", Cond.fieldLink RX1 35 "EntryTableModel" "asked" "[J", Cond.fieldLink RX1 59 "EntryTableModel" "count" "I", Cond.fieldLink RX1 66 "EntryTableModel" "numbers" "I", Cond.fieldLink RX1 83 "EntryTableModel" "missed" "I", Cond.instanceMethod yX1_match, Cond.selects RX1 yX1_match yX1_match, Cond.code yX1_match cX1_match 6 (some .int), Cond.instanceMethod yX1_insert, Cond.selects RX1 yX1_insert yX1_insert, Cond.code yX1_insert cX1_insert 3 (some .int), Cond.methodLink RX1 55 yX1_good, Cond.instanceMethod yX1_good, Cond.code yX1_good cX1_good 2 (some .boolean)]
def MALL_1 : List Cond := [Cond.methodLink RX1 45 yX1_fits, Cond.instanceMethod yX1_fits, Cond.code yX1_fits cX1_fits 3 (some .boolean), Cond.constantLong RX1 49 (-1), Cond.methodLink RX1 51 yX1_bits, Cond.instanceMethod yX1_bits, Cond.code yX1_bits cX1_bits 3 (some .long), Cond.methodLink RX1 62 yX1_like, Cond.instanceMethod yX1_like, Cond.code yX1_like cX1_like 5 (some .boolean), Cond.instanceMethod yX1_remove, Cond.selects RX1 yX1_remove yX1_remove, Cond.code yX1_remove cX1_remove 5 (some .int), Cond.methodLink RX1 69 yX1_place, Cond.instanceMethod yX1_place, Cond.code yX1_place cX1_place 3 (some .int), Cond.instanceMethod yX1_find, Cond.selects RX1 yX1_find yX1_find, Cond.code yX1_find cX1_find 9 (some .int), Cond.methodLink RX1 77 yX1_matches, Cond.instanceMethod yX1_matches, Cond.code yX1_matches cX1_matches 6 (some .boolean), Cond.methodLink RX1 80 yX1_before, Cond.instanceMethod yX1_before]
def MALL_2 : List Cond := [Cond.code yX1_before cX1_before 3 (some .boolean), Cond.methodLink RX1 73 yX1_prefix, Cond.instanceMethod yX1_prefix, Cond.code yX1_prefix cX1_prefix 3 (some .long), Cond.instanceMethod yX1_nth, Cond.selects RX1 yX1_nth yX1_nth, Cond.code yX1_nth cX1_nth 5 (some .int), Cond.instanceMethod yX1_hits, Cond.selects RX1 yX1_hits yX1_hits, Cond.code yX1_hits cX1_hits 3 (some .int), Cond.instanceMethod yX1_count, Cond.selects RX1 yX1_count yX1_count, Cond.code yX1_count cX1_count 2 (some .int), Cond.selects RX1 yX1_good yX1_good, Cond.selects RX1 yX1_fits yX1_fits, Cond.selects RX1 yX1_bits yX1_bits, Cond.selects RX1 yX1_like yX1_like, Cond.selects RX1 yX1_place yX1_place, Cond.selects RX1 yX1_matches yX1_matches, Cond.selects RX1 yX1_before yX1_before, Cond.selects RX1 yX1_prefix yX1_prefix]
def MALL : List Cond := wsX10 ++ (MALL_0 ++ (MALL_1 ++ (MALL_2)))
def wsM_match : List Cond := .code yX1_match cX1_match 6 (some .int) :: MALL
def wsM_insert : List Cond := .code yX1_insert cX1_insert 3 (some .int) :: MALL
def wsM_good : List Cond := .code yX1_good cX1_good 2 (some .boolean) :: MALL
def wsM_fits : List Cond := .code yX1_fits cX1_fits 3 (some .boolean) :: MALL
def wsM_bits : List Cond := .code yX1_bits cX1_bits 3 (some .long) :: MALL
def wsM_like : List Cond := .code yX1_like cX1_like 5 (some .boolean) :: MALL
def wsM_remove : List Cond := .code yX1_remove cX1_remove 5 (some .int) :: MALL
def wsM_place : List Cond := .code yX1_place cX1_place 3 (some .int) :: MALL
def wsM_find : List Cond := .code yX1_find cX1_find 9 (some .int) :: MALL
def wsM_matches : List Cond := .code yX1_matches cX1_matches 6 (some .boolean) :: MALL
def wsM_before : List Cond := .code yX1_before cX1_before 3 (some .boolean) :: MALL
def wsM_prefix : List Cond := .code yX1_prefix cX1_prefix 3 (some .long) :: MALL
def wsM_nth : List Cond := .code yX1_nth cX1_nth 5 (some .int) :: MALL
def wsM_hits : List Cond := .code yX1_hits cX1_hits 3 (some .int) :: MALL
def wsM_count : List Cond := .code yX1_count cX1_count 2 (some .int) :: MALL
set_option maxRecDepth 100000 in
theorem MALL_good : GoodIn MALL MALL := goodIn_sub (fun _ h => h) (by decide +kernel)
theorem MALL_u : ∀ w ∈ wsX10, w ∈ MALL := fun _ h => List.mem_append_left _ h
theorem MALL_call {c1 : Cond} {idx n : Nat} {y : MethodName} {cc : ByteArray} {ret : Option FieldType} (hc : Cond.code y cc n ret ∈ MALL) (h4 : ∀ w ∈ ([.methodLink RX1 idx y, .instanceMethod y, .selects RX1 y y, .initialized RX1] : List Cond), w ∈ MALL) : GoodIn (c1 :: MALL) (wsV RX1 idx RX1 y (Cond.code y cc n ret :: MALL)) := by
  have up : ∀ w ∈ MALL, w ∈ c1 :: MALL ∧ ((w.onTables && w.keeps) = true ∨ ∃ ty, w = .arrayClass ty) := fun w h => ⟨List.mem_cons_of_mem _ h, (MALL_good w h).2⟩
  intro w hw
  rcases List.mem_append.mp hw with h | h
  · exact up w (h4 w h)
  · rcases List.mem_cons.mp h with rfl | h
    · exact up _ hc
    · exact up w h
theorem MALL_c_match : Cond.code yX1_match cX1_match 6 (some .int) ∈ MALL := List.mem_of_getElem? (i := 31) rfl
theorem MALL_c_insert : Cond.code yX1_insert cX1_insert 3 (some .int) ∈ MALL := List.mem_of_getElem? (i := 34) rfl
theorem MALL_c_good : Cond.code yX1_good cX1_good 2 (some .boolean) ∈ MALL := List.mem_of_getElem? (i := 37) rfl
theorem MALL_c_fits : Cond.code yX1_fits cX1_fits 3 (some .boolean) ∈ MALL := List.mem_of_getElem? (i := 40) rfl
theorem MALL_c_bits : Cond.code yX1_bits cX1_bits 3 (some .long) ∈ MALL := List.mem_of_getElem? (i := 44) rfl
theorem MALL_c_like : Cond.code yX1_like cX1_like 5 (some .boolean) ∈ MALL := List.mem_of_getElem? (i := 47) rfl
theorem MALL_c_remove : Cond.code yX1_remove cX1_remove 5 (some .int) ∈ MALL := List.mem_of_getElem? (i := 50) rfl
theorem MALL_c_place : Cond.code yX1_place cX1_place 3 (some .int) ∈ MALL := List.mem_of_getElem? (i := 53) rfl
theorem MALL_c_find : Cond.code yX1_find cX1_find 9 (some .int) ∈ MALL := List.mem_of_getElem? (i := 56) rfl
theorem MALL_c_matches : Cond.code yX1_matches cX1_matches 6 (some .boolean) ∈ MALL := List.mem_of_getElem? (i := 59) rfl
theorem MALL_c_before : Cond.code yX1_before cX1_before 3 (some .boolean) ∈ MALL := List.mem_of_getElem? (i := 62) rfl
theorem MALL_c_prefix : Cond.code yX1_prefix cX1_prefix 3 (some .long) ∈ MALL := List.mem_of_getElem? (i := 65) rfl
theorem MALL_c_nth : Cond.code yX1_nth cX1_nth 5 (some .int) ∈ MALL := List.mem_of_getElem? (i := 68) rfl
theorem MALL_c_hits : Cond.code yX1_hits cX1_hits 3 (some .int) ∈ MALL := List.mem_of_getElem? (i := 71) rfl
theorem MALL_c_count : Cond.code yX1_count cX1_count 2 (some .int) ∈ MALL := List.mem_of_getElem? (i := 74) rfl
set_option maxRecDepth 100000 in
theorem gM_good {c1 : Cond} : GoodIn (c1 :: MALL) (wsV RX1 55 RX1 yX1_good wsM_good) := MALL_call MALL_c_good (by decide +kernel)
set_option maxRecDepth 100000 in
theorem gM_fits {c1 : Cond} : GoodIn (c1 :: MALL) (wsV RX1 45 RX1 yX1_fits wsM_fits) := MALL_call MALL_c_fits (by decide +kernel)
set_option maxRecDepth 100000 in
theorem gM_bits {c1 : Cond} : GoodIn (c1 :: MALL) (wsV RX1 51 RX1 yX1_bits wsM_bits) := MALL_call MALL_c_bits (by decide +kernel)
set_option maxRecDepth 100000 in
theorem gM_like {c1 : Cond} : GoodIn (c1 :: MALL) (wsV RX1 62 RX1 yX1_like wsM_like) := MALL_call MALL_c_like (by decide +kernel)
set_option maxRecDepth 100000 in
theorem gM_place {c1 : Cond} : GoodIn (c1 :: MALL) (wsV RX1 69 RX1 yX1_place wsM_place) := MALL_call MALL_c_place (by decide +kernel)
set_option maxRecDepth 100000 in
theorem gM_matches {c1 : Cond} : GoodIn (c1 :: MALL) (wsV RX1 77 RX1 yX1_matches wsM_matches) := MALL_call MALL_c_matches (by decide +kernel)
set_option maxRecDepth 100000 in
theorem gM_before {c1 : Cond} : GoodIn (c1 :: MALL) (wsV RX1 80 RX1 yX1_before wsM_before) := MALL_call MALL_c_before (by decide +kernel)
set_option maxRecDepth 100000 in
theorem gM_prefix {c1 : Cond} : GoodIn (c1 :: MALL) (wsV RX1 73 RX1 yX1_prefix wsM_prefix) := MALL_call MALL_c_prefix (by decide +kernel)
theorem dX1_place_0 : decode cX1_place 0 = .ok (.iconst 0, 1) := by decide +kernel
theorem dX1_place_1 : decode cX1_place 1 = .ok (.istore_n 2, 1) := by decide +kernel
theorem dX1_place_2 : decode cX1_place 2 = .ok (.iload_n 2, 1) := by decide +kernel
theorem dX1_place_3 : decode cX1_place 3 = .ok (.aload_n 0, 1) := by decide +kernel
theorem dX1_place_4 : decode cX1_place 4 = .ok (.getfield 59, 3) := by decide +kernel
theorem dX1_place_7 : decode cX1_place 7 = .ok (.if_icmp .ge 21, 3) := by decide +kernel
theorem dX1_place_10 : decode cX1_place 10 = .ok (.aload_n 0, 1) := by decide +kernel
theorem dX1_place_11 : decode cX1_place 11 = .ok (.getfield 13, 3) := by decide +kernel
theorem dX1_place_14 : decode cX1_place 14 = .ok (.iload_n 2, 1) := by decide +kernel
theorem dX1_place_15 : decode cX1_place 15 = .ok (.iaload, 1) := by decide +kernel
theorem dX1_place_16 : decode cX1_place 16 = .ok (.iload_n 1, 1) := by decide +kernel
theorem dX1_place_17 : decode cX1_place 17 = .ok (.if_icmp .ne 5, 3) := by decide +kernel
theorem dX1_place_20 : decode cX1_place 20 = .ok (.iload_n 2, 1) := by decide +kernel
theorem dX1_place_21 : decode cX1_place 21 = .ok (.ireturn, 1) := by decide +kernel
theorem dX1_place_22 : decode cX1_place 22 = .ok (.iinc 2 1, 3) := by decide +kernel
theorem dX1_place_25 : decode cX1_place 25 = .ok (.goto (-23), 3) := by decide +kernel
theorem dX1_place_28 : decode cX1_place 28 = .ok (.iconst (-1), 1) := by decide +kernel
theorem dX1_place_29 : decode cX1_place 29 = .ok (.ireturn, 1) := by decide +kernel
theorem dX1_find_0 : decode cX1_find 0 = .ok (.aload_n 0, 1) := by decide +kernel
theorem dX1_find_1 : decode cX1_find 1 = .ok (.getfield 35, 3) := by decide +kernel
theorem dX1_find_4 : decode cX1_find 4 = .ok (.iconst 0, 1) := by decide +kernel
theorem dX1_find_5 : decode cX1_find 5 = .ok (.lload_n 1, 1) := by decide +kernel
theorem dX1_find_6 : decode cX1_find 6 = .ok (.lconst 1, 1) := by decide +kernel
theorem dX1_find_7 : decode cX1_find 7 = .ok (.aload_n 0, 1) := by decide +kernel
theorem dX1_find_8 : decode cX1_find 8 = .ok (.getfield 42, 3) := by decide +kernel
theorem dX1_find_11 : decode cX1_find 11 = .ok (.lshl, 1) := by decide +kernel
theorem dX1_find_12 : decode cX1_find 12 = .ok (.lconst 1, 1) := by decide +kernel
theorem dX1_find_13 : decode cX1_find 13 = .ok (.lsub, 1) := by decide +kernel
theorem dX1_find_14 : decode cX1_find 14 = .ok (.land, 1) := by decide +kernel
theorem dX1_find_15 : decode cX1_find 15 = .ok (.lastore, 1) := by decide +kernel
theorem dX1_find_16 : decode cX1_find 16 = .ok (.aload_n 0, 1) := by decide +kernel
theorem dX1_find_17 : decode cX1_find 17 = .ok (.getfield 35, 3) := by decide +kernel
theorem dX1_find_20 : decode cX1_find 20 = .ok (.iconst 1, 1) := by decide +kernel
theorem dX1_find_21 : decode cX1_find 21 = .ok (.lload_n 3, 1) := by decide +kernel
theorem dX1_find_22 : decode cX1_find 22 = .ok (.lconst 1, 1) := by decide +kernel
theorem dX1_find_23 : decode cX1_find 23 = .ok (.aload_n 0, 1) := by decide +kernel
theorem dX1_find_24 : decode cX1_find 24 = .ok (.getfield 42, 3) := by decide +kernel
theorem dX1_find_27 : decode cX1_find 27 = .ok (.lshl, 1) := by decide +kernel
theorem dX1_find_28 : decode cX1_find 28 = .ok (.lconst 1, 1) := by decide +kernel
theorem dX1_find_29 : decode cX1_find 29 = .ok (.lsub, 1) := by decide +kernel
theorem dX1_find_30 : decode cX1_find 30 = .ok (.land, 1) := by decide +kernel
theorem dX1_find_31 : decode cX1_find 31 = .ok (.lastore, 1) := by decide +kernel
theorem dX1_find_32 : decode cX1_find 32 = .ok (.aload_n 0, 1) := by decide +kernel
theorem dX1_find_33 : decode cX1_find 33 = .ok (.getfield 35, 3) := by decide +kernel
theorem dX1_find_36 : decode cX1_find 36 = .ok (.iconst 2, 1) := by decide +kernel
theorem dX1_find_37 : decode cX1_find 37 = .ok (.lload 5, 2) := by decide +kernel
theorem dX1_find_39 : decode cX1_find 39 = .ok (.lconst 1, 1) := by decide +kernel
theorem dX1_find_40 : decode cX1_find 40 = .ok (.aload_n 0, 1) := by decide +kernel
theorem dX1_find_41 : decode cX1_find 41 = .ok (.getfield 42, 3) := by decide +kernel
theorem dX1_find_44 : decode cX1_find 44 = .ok (.lshl, 1) := by decide +kernel
theorem dX1_find_45 : decode cX1_find 45 = .ok (.lconst 1, 1) := by decide +kernel
theorem dX1_find_46 : decode cX1_find 46 = .ok (.lsub, 1) := by decide +kernel
theorem dX1_find_47 : decode cX1_find 47 = .ok (.land, 1) := by decide +kernel
theorem dX1_find_48 : decode cX1_find 48 = .ok (.lastore, 1) := by decide +kernel
theorem dX1_find_49 : decode cX1_find 49 = .ok (.iconst (-1), 1) := by decide +kernel
theorem dX1_find_50 : decode cX1_find 50 = .ok (.istore 7, 2) := by decide +kernel
theorem dX1_find_52 : decode cX1_find 52 = .ok (.iconst 0, 1) := by decide +kernel
theorem dX1_find_53 : decode cX1_find 53 = .ok (.istore 8, 2) := by decide +kernel
theorem dX1_find_55 : decode cX1_find 55 = .ok (.iload 8, 2) := by decide +kernel
theorem dX1_find_57 : decode cX1_find 57 = .ok (.aload_n 0, 1) := by decide +kernel
theorem dX1_find_58 : decode cX1_find 58 = .ok (.getfield 59, 3) := by decide +kernel
theorem dX1_find_61 : decode cX1_find 61 = .ok (.if_icmp .ge 38, 3) := by decide +kernel
theorem dX1_find_64 : decode cX1_find 64 = .ok (.aload_n 0, 1) := by decide +kernel
theorem dX1_find_65 : decode cX1_find 65 = .ok (.iload 8, 2) := by decide +kernel
theorem dX1_find_67 : decode cX1_find 67 = .ok (.invokevirtual 77, 3) := by decide +kernel
theorem dX1_find_70 : decode cX1_find 70 = .ok (.ifCond .eq 23, 3) := by decide +kernel
theorem dX1_find_73 : decode cX1_find 73 = .ok (.iload 7, 2) := by decide +kernel
theorem dX1_find_75 : decode cX1_find 75 = .ok (.ifCond .lt 14, 3) := by decide +kernel
theorem dX1_find_78 : decode cX1_find 78 = .ok (.aload_n 0, 1) := by decide +kernel
theorem dX1_find_79 : decode cX1_find 79 = .ok (.iload 8, 2) := by decide +kernel
theorem dX1_find_81 : decode cX1_find 81 = .ok (.iload 7, 2) := by decide +kernel
theorem dX1_find_83 : decode cX1_find 83 = .ok (.invokevirtual 80, 3) := by decide +kernel
theorem dX1_find_86 : decode cX1_find 86 = .ok (.ifCond .eq 7, 3) := by decide +kernel
theorem dX1_find_89 : decode cX1_find 89 = .ok (.iload 8, 2) := by decide +kernel
theorem dX1_find_91 : decode cX1_find 91 = .ok (.istore 7, 2) := by decide +kernel
theorem dX1_find_93 : decode cX1_find 93 = .ok (.iinc 8 1, 3) := by decide +kernel
theorem dX1_find_96 : decode cX1_find 96 = .ok (.goto (-41), 3) := by decide +kernel
theorem dX1_find_99 : decode cX1_find 99 = .ok (.iload 7, 2) := by decide +kernel
theorem dX1_find_101 : decode cX1_find 101 = .ok (.ifCond .ge 16, 3) := by decide +kernel
theorem dX1_find_104 : decode cX1_find 104 = .ok (.aload_n 0, 1) := by decide +kernel
theorem dX1_find_105 : decode cX1_find 105 = .ok (.dup, 1) := by decide +kernel
theorem dX1_find_106 : decode cX1_find 106 = .ok (.getfield 83, 3) := by decide +kernel
theorem dX1_find_109 : decode cX1_find 109 = .ok (.iconst 1, 1) := by decide +kernel
theorem dX1_find_110 : decode cX1_find 110 = .ok (.iadd, 1) := by decide +kernel
theorem dX1_find_111 : decode cX1_find 111 = .ok (.putfield 83, 3) := by decide +kernel
theorem dX1_find_114 : decode cX1_find 114 = .ok (.bipush (-2), 2) := by decide +kernel
theorem dX1_find_116 : decode cX1_find 116 = .ok (.ireturn, 1) := by decide +kernel
theorem dX1_find_117 : decode cX1_find 117 = .ok (.aload_n 0, 1) := by decide +kernel
theorem dX1_find_118 : decode cX1_find 118 = .ok (.getfield 19, 3) := by decide +kernel
theorem dX1_find_121 : decode cX1_find 121 = .ok (.iload 7, 2) := by decide +kernel
theorem dX1_find_123 : decode cX1_find 123 = .ok (.dup2, 1) := by decide +kernel
theorem dX1_find_124 : decode cX1_find 124 = .ok (.iaload, 1) := by decide +kernel
theorem dX1_find_125 : decode cX1_find 125 = .ok (.iconst 1, 1) := by decide +kernel
theorem dX1_find_126 : decode cX1_find 126 = .ok (.iadd, 1) := by decide +kernel
theorem dX1_find_127 : decode cX1_find 127 = .ok (.iastore, 1) := by decide +kernel
theorem dX1_find_128 : decode cX1_find 128 = .ok (.aload_n 0, 1) := by decide +kernel
theorem dX1_find_129 : decode cX1_find 129 = .ok (.getfield 13, 3) := by decide +kernel
theorem dX1_find_132 : decode cX1_find 132 = .ok (.iload 7, 2) := by decide +kernel
theorem dX1_find_134 : decode cX1_find 134 = .ok (.iaload, 1) := by decide +kernel
theorem dX1_find_135 : decode cX1_find 135 = .ok (.ireturn, 1) := by decide +kernel
theorem dX1_matches_0 : decode cX1_matches 0 = .ok (.iconst 1, 1) := by decide +kernel
theorem dX1_matches_1 : decode cX1_matches 1 = .ok (.istore_n 2, 1) := by decide +kernel
theorem dX1_matches_2 : decode cX1_matches 2 = .ok (.iconst 0, 1) := by decide +kernel
theorem dX1_matches_3 : decode cX1_matches 3 = .ok (.istore_n 3, 1) := by decide +kernel
theorem dX1_matches_4 : decode cX1_matches 4 = .ok (.iload_n 3, 1) := by decide +kernel
theorem dX1_matches_5 : decode cX1_matches 5 = .ok (.aload_n 0, 1) := by decide +kernel
theorem dX1_matches_6 : decode cX1_matches 6 = .ok (.getfield 38, 3) := by decide +kernel
theorem dX1_matches_9 : decode cX1_matches 9 = .ok (.if_icmp .ge 96, 3) := by decide +kernel
theorem dX1_matches_12 : decode cX1_matches 12 = .ok (.aload_n 0, 1) := by decide +kernel
theorem dX1_matches_13 : decode cX1_matches 13 = .ok (.getfield 7, 3) := by decide +kernel
theorem dX1_matches_16 : decode cX1_matches 16 = .ok (.iload_n 3, 1) := by decide +kernel
theorem dX1_matches_17 : decode cX1_matches 17 = .ok (.iaload, 1) := by decide +kernel
theorem dX1_matches_18 : decode cX1_matches 18 = .ok (.ifCond .ne 9, 3) := by decide +kernel
theorem dX1_matches_21 : decode cX1_matches 21 = .ok (.ldc2_w 49, 3) := by decide +kernel
theorem dX1_matches_24 : decode cX1_matches 24 = .ok (.goto 40, 3) := by decide +kernel
theorem dX1_matches_27 : decode cX1_matches 27 = .ok (.aload_n 0, 1) := by decide +kernel
theorem dX1_matches_28 : decode cX1_matches 28 = .ok (.getfield 7, 3) := by decide +kernel
theorem dX1_matches_31 : decode cX1_matches 31 = .ok (.iload_n 3, 1) := by decide +kernel
theorem dX1_matches_32 : decode cX1_matches 32 = .ok (.iaload, 1) := by decide +kernel
theorem dX1_matches_33 : decode cX1_matches 33 = .ok (.iconst 1, 1) := by decide +kernel
theorem dX1_matches_34 : decode cX1_matches 34 = .ok (.if_icmp .ne 20, 3) := by decide +kernel
theorem dX1_matches_37 : decode cX1_matches 37 = .ok (.aload_n 0, 1) := by decide +kernel
theorem dX1_matches_38 : decode cX1_matches 38 = .ok (.aload_n 0, 1) := by decide +kernel
theorem dX1_matches_39 : decode cX1_matches 39 = .ok (.getfield 26, 3) := by decide +kernel
theorem dX1_matches_42 : decode cX1_matches 42 = .ok (.iconst 3, 1) := by decide +kernel
theorem dX1_matches_43 : decode cX1_matches 43 = .ok (.iload_n 1, 1) := by decide +kernel
theorem dX1_matches_44 : decode cX1_matches 44 = .ok (.imul, 1) := by decide +kernel
theorem dX1_matches_45 : decode cX1_matches 45 = .ok (.iload_n 3, 1) := by decide +kernel
theorem dX1_matches_46 : decode cX1_matches 46 = .ok (.iadd, 1) := by decide +kernel
theorem dX1_matches_47 : decode cX1_matches 47 = .ok (.laload, 1) := by decide +kernel
theorem dX1_matches_48 : decode cX1_matches 48 = .ok (.invokevirtual 51, 3) := by decide +kernel
theorem dX1_matches_51 : decode cX1_matches 51 = .ok (.goto 13, 3) := by decide +kernel
theorem dX1_matches_54 : decode cX1_matches 54 = .ok (.aload_n 0, 1) := by decide +kernel
theorem dX1_matches_55 : decode cX1_matches 55 = .ok (.getfield 26, 3) := by decide +kernel
theorem dX1_matches_58 : decode cX1_matches 58 = .ok (.iconst 3, 1) := by decide +kernel
theorem dX1_matches_59 : decode cX1_matches 59 = .ok (.iload_n 1, 1) := by decide +kernel
theorem dX1_matches_60 : decode cX1_matches 60 = .ok (.imul, 1) := by decide +kernel
theorem dX1_matches_61 : decode cX1_matches 61 = .ok (.iload_n 3, 1) := by decide +kernel
theorem dX1_matches_62 : decode cX1_matches 62 = .ok (.iadd, 1) := by decide +kernel
theorem dX1_matches_63 : decode cX1_matches 63 = .ok (.laload, 1) := by decide +kernel
theorem dX1_matches_64 : decode cX1_matches 64 = .ok (.lstore 4, 2) := by decide +kernel
theorem dX1_matches_66 : decode cX1_matches 66 = .ok (.iload_n 2, 1) := by decide +kernel
theorem dX1_matches_67 : decode cX1_matches 67 = .ok (.ifCond .eq 30, 3) := by decide +kernel
theorem dX1_matches_70 : decode cX1_matches 70 = .ok (.aload_n 0, 1) := by decide +kernel
theorem dX1_matches_71 : decode cX1_matches 71 = .ok (.getfield 35, 3) := by decide +kernel
theorem dX1_matches_74 : decode cX1_matches 74 = .ok (.iload_n 3, 1) := by decide +kernel
theorem dX1_matches_75 : decode cX1_matches 75 = .ok (.laload, 1) := by decide +kernel
theorem dX1_matches_76 : decode cX1_matches 76 = .ok (.lload 4, 2) := by decide +kernel
theorem dX1_matches_78 : decode cX1_matches 78 = .ok (.land, 1) := by decide +kernel
theorem dX1_matches_79 : decode cX1_matches 79 = .ok (.aload_n 0, 1) := by decide +kernel
theorem dX1_matches_80 : decode cX1_matches 80 = .ok (.getfield 22, 3) := by decide +kernel
theorem dX1_matches_83 : decode cX1_matches 83 = .ok (.iconst 3, 1) := by decide +kernel
theorem dX1_matches_84 : decode cX1_matches 84 = .ok (.iload_n 1, 1) := by decide +kernel
theorem dX1_matches_85 : decode cX1_matches 85 = .ok (.imul, 1) := by decide +kernel
theorem dX1_matches_86 : decode cX1_matches 86 = .ok (.iload_n 3, 1) := by decide +kernel
theorem dX1_matches_87 : decode cX1_matches 87 = .ok (.iadd, 1) := by decide +kernel
theorem dX1_matches_88 : decode cX1_matches 88 = .ok (.laload, 1) := by decide +kernel
theorem dX1_matches_89 : decode cX1_matches 89 = .ok (.lcmp, 1) := by decide +kernel
theorem dX1_matches_90 : decode cX1_matches 90 = .ok (.ifCond .ne 7, 3) := by decide +kernel
theorem dX1_matches_93 : decode cX1_matches 93 = .ok (.iconst 1, 1) := by decide +kernel
theorem dX1_matches_94 : decode cX1_matches 94 = .ok (.goto 4, 3) := by decide +kernel
theorem dX1_matches_97 : decode cX1_matches 97 = .ok (.iconst 0, 1) := by decide +kernel
theorem dX1_matches_98 : decode cX1_matches 98 = .ok (.istore_n 2, 1) := by decide +kernel
theorem dX1_matches_99 : decode cX1_matches 99 = .ok (.iinc 3 1, 3) := by decide +kernel
theorem dX1_matches_102 : decode cX1_matches 102 = .ok (.goto (-98), 3) := by decide +kernel
theorem dX1_matches_105 : decode cX1_matches 105 = .ok (.iload_n 2, 1) := by decide +kernel
theorem dX1_matches_106 : decode cX1_matches 106 = .ok (.ireturn, 1) := by decide +kernel
theorem dX1_before_0 : decode cX1_before 0 = .ok (.aload_n 0, 1) := by decide +kernel
theorem dX1_before_1 : decode cX1_before 1 = .ok (.iload_n 1, 1) := by decide +kernel
theorem dX1_before_2 : decode cX1_before 2 = .ok (.invokevirtual 73, 3) := by decide +kernel
theorem dX1_before_5 : decode cX1_before 5 = .ok (.aload_n 0, 1) := by decide +kernel
theorem dX1_before_6 : decode cX1_before 6 = .ok (.iload_n 2, 1) := by decide +kernel
theorem dX1_before_7 : decode cX1_before 7 = .ok (.invokevirtual 73, 3) := by decide +kernel
theorem dX1_before_10 : decode cX1_before 10 = .ok (.lcmp, 1) := by decide +kernel
theorem dX1_before_11 : decode cX1_before 11 = .ok (.ifCond .eq 23, 3) := by decide +kernel
theorem dX1_before_14 : decode cX1_before 14 = .ok (.aload_n 0, 1) := by decide +kernel
theorem dX1_before_15 : decode cX1_before 15 = .ok (.iload_n 1, 1) := by decide +kernel
theorem dX1_before_16 : decode cX1_before 16 = .ok (.invokevirtual 73, 3) := by decide +kernel
theorem dX1_before_19 : decode cX1_before 19 = .ok (.aload_n 0, 1) := by decide +kernel
theorem dX1_before_20 : decode cX1_before 20 = .ok (.iload_n 2, 1) := by decide +kernel
theorem dX1_before_21 : decode cX1_before 21 = .ok (.invokevirtual 73, 3) := by decide +kernel
theorem dX1_before_24 : decode cX1_before 24 = .ok (.lcmp, 1) := by decide +kernel
theorem dX1_before_25 : decode cX1_before 25 = .ok (.ifCond .le 7, 3) := by decide +kernel
theorem dX1_before_28 : decode cX1_before 28 = .ok (.iconst 1, 1) := by decide +kernel
theorem dX1_before_29 : decode cX1_before 29 = .ok (.goto 4, 3) := by decide +kernel
theorem dX1_before_32 : decode cX1_before 32 = .ok (.iconst 0, 1) := by decide +kernel
theorem dX1_before_33 : decode cX1_before 33 = .ok (.ireturn, 1) := by decide +kernel
theorem dX1_before_34 : decode cX1_before 34 = .ok (.aload_n 0, 1) := by decide +kernel
theorem dX1_before_35 : decode cX1_before 35 = .ok (.getfield 16, 3) := by decide +kernel
theorem dX1_before_38 : decode cX1_before 38 = .ok (.iload_n 1, 1) := by decide +kernel
theorem dX1_before_39 : decode cX1_before 39 = .ok (.iaload, 1) := by decide +kernel
theorem dX1_before_40 : decode cX1_before 40 = .ok (.aload_n 0, 1) := by decide +kernel
theorem dX1_before_41 : decode cX1_before 41 = .ok (.getfield 16, 3) := by decide +kernel
theorem dX1_before_44 : decode cX1_before 44 = .ok (.iload_n 2, 1) := by decide +kernel
theorem dX1_before_45 : decode cX1_before 45 = .ok (.iaload, 1) := by decide +kernel
theorem dX1_before_46 : decode cX1_before 46 = .ok (.if_icmp .eq 24, 3) := by decide +kernel
theorem dX1_before_49 : decode cX1_before 49 = .ok (.aload_n 0, 1) := by decide +kernel
theorem dX1_before_50 : decode cX1_before 50 = .ok (.getfield 16, 3) := by decide +kernel
theorem dX1_before_53 : decode cX1_before 53 = .ok (.iload_n 1, 1) := by decide +kernel
theorem dX1_before_54 : decode cX1_before 54 = .ok (.iaload, 1) := by decide +kernel
theorem dX1_before_55 : decode cX1_before 55 = .ok (.aload_n 0, 1) := by decide +kernel
theorem dX1_before_56 : decode cX1_before 56 = .ok (.getfield 16, 3) := by decide +kernel
theorem dX1_before_59 : decode cX1_before 59 = .ok (.iload_n 2, 1) := by decide +kernel
theorem dX1_before_60 : decode cX1_before 60 = .ok (.iaload, 1) := by decide +kernel
theorem dX1_before_61 : decode cX1_before 61 = .ok (.if_icmp .le 7, 3) := by decide +kernel
theorem dX1_before_64 : decode cX1_before 64 = .ok (.iconst 1, 1) := by decide +kernel
theorem dX1_before_65 : decode cX1_before 65 = .ok (.goto 4, 3) := by decide +kernel
theorem dX1_before_68 : decode cX1_before 68 = .ok (.iconst 0, 1) := by decide +kernel
theorem dX1_before_69 : decode cX1_before 69 = .ok (.ireturn, 1) := by decide +kernel
theorem dX1_before_70 : decode cX1_before 70 = .ok (.aload_n 0, 1) := by decide +kernel
theorem dX1_before_71 : decode cX1_before 71 = .ok (.getfield 13, 3) := by decide +kernel
theorem dX1_before_74 : decode cX1_before 74 = .ok (.iload_n 1, 1) := by decide +kernel
theorem dX1_before_75 : decode cX1_before 75 = .ok (.iaload, 1) := by decide +kernel
theorem dX1_before_76 : decode cX1_before 76 = .ok (.aload_n 0, 1) := by decide +kernel
theorem dX1_before_77 : decode cX1_before 77 = .ok (.getfield 13, 3) := by decide +kernel
theorem dX1_before_80 : decode cX1_before 80 = .ok (.iload_n 2, 1) := by decide +kernel
theorem dX1_before_81 : decode cX1_before 81 = .ok (.iaload, 1) := by decide +kernel
theorem dX1_before_82 : decode cX1_before 82 = .ok (.if_icmp .ge 7, 3) := by decide +kernel
theorem dX1_before_85 : decode cX1_before 85 = .ok (.iconst 1, 1) := by decide +kernel
theorem dX1_before_86 : decode cX1_before 86 = .ok (.goto 4, 3) := by decide +kernel
theorem dX1_before_89 : decode cX1_before 89 = .ok (.iconst 0, 1) := by decide +kernel
theorem dX1_before_90 : decode cX1_before 90 = .ok (.ireturn, 1) := by decide +kernel
theorem dX1_prefix_0 : decode cX1_prefix 0 = .ok (.iconst 0, 1) := by decide +kernel
theorem dX1_prefix_1 : decode cX1_prefix 1 = .ok (.istore_n 2, 1) := by decide +kernel
theorem dX1_prefix_2 : decode cX1_prefix 2 = .ok (.iload_n 2, 1) := by decide +kernel
theorem dX1_prefix_3 : decode cX1_prefix 3 = .ok (.aload_n 0, 1) := by decide +kernel
theorem dX1_prefix_4 : decode cX1_prefix 4 = .ok (.getfield 38, 3) := by decide +kernel
theorem dX1_prefix_7 : decode cX1_prefix 7 = .ok (.if_icmp .ge 30, 3) := by decide +kernel
theorem dX1_prefix_10 : decode cX1_prefix 10 = .ok (.aload_n 0, 1) := by decide +kernel
theorem dX1_prefix_11 : decode cX1_prefix 11 = .ok (.getfield 7, 3) := by decide +kernel
theorem dX1_prefix_14 : decode cX1_prefix 14 = .ok (.iload_n 2, 1) := by decide +kernel
theorem dX1_prefix_15 : decode cX1_prefix 15 = .ok (.iaload, 1) := by decide +kernel
theorem dX1_prefix_16 : decode cX1_prefix 16 = .ok (.iconst 1, 1) := by decide +kernel
theorem dX1_prefix_17 : decode cX1_prefix 17 = .ok (.if_icmp .ne 14, 3) := by decide +kernel
theorem dX1_prefix_20 : decode cX1_prefix 20 = .ok (.aload_n 0, 1) := by decide +kernel
theorem dX1_prefix_21 : decode cX1_prefix 21 = .ok (.getfield 26, 3) := by decide +kernel
theorem dX1_prefix_24 : decode cX1_prefix 24 = .ok (.iconst 3, 1) := by decide +kernel
theorem dX1_prefix_25 : decode cX1_prefix 25 = .ok (.iload_n 1, 1) := by decide +kernel
theorem dX1_prefix_26 : decode cX1_prefix 26 = .ok (.imul, 1) := by decide +kernel
theorem dX1_prefix_27 : decode cX1_prefix 27 = .ok (.iload_n 2, 1) := by decide +kernel
theorem dX1_prefix_28 : decode cX1_prefix 28 = .ok (.iadd, 1) := by decide +kernel
theorem dX1_prefix_29 : decode cX1_prefix 29 = .ok (.laload, 1) := by decide +kernel
theorem dX1_prefix_30 : decode cX1_prefix 30 = .ok (.lreturn, 1) := by decide +kernel
theorem dX1_prefix_31 : decode cX1_prefix 31 = .ok (.iinc 2 1, 3) := by decide +kernel
theorem dX1_prefix_34 : decode cX1_prefix 34 = .ok (.goto (-32), 3) := by decide +kernel
theorem dX1_prefix_37 : decode cX1_prefix 37 = .ok (.lconst 0, 1) := by decide +kernel
theorem dX1_prefix_38 : decode cX1_prefix 38 = .ok (.lreturn, 1) := by decide +kernel
theorem dX1_nth_0 : decode cX1_nth 0 = .ok (.iconst 0, 1) := by decide +kernel
theorem dX1_nth_1 : decode cX1_nth 1 = .ok (.istore_n 2, 1) := by decide +kernel
theorem dX1_nth_2 : decode cX1_nth 2 = .ok (.iload_n 2, 1) := by decide +kernel
theorem dX1_nth_3 : decode cX1_nth 3 = .ok (.aload_n 0, 1) := by decide +kernel
theorem dX1_nth_4 : decode cX1_nth 4 = .ok (.getfield 59, 3) := by decide +kernel
theorem dX1_nth_7 : decode cX1_nth 7 = .ok (.if_icmp .ge 59, 3) := by decide +kernel
theorem dX1_nth_10 : decode cX1_nth 10 = .ok (.iconst 0, 1) := by decide +kernel
theorem dX1_nth_11 : decode cX1_nth 11 = .ok (.istore_n 3, 1) := by decide +kernel
theorem dX1_nth_12 : decode cX1_nth 12 = .ok (.iconst 0, 1) := by decide +kernel
theorem dX1_nth_13 : decode cX1_nth 13 = .ok (.istore 4, 2) := by decide +kernel
theorem dX1_nth_15 : decode cX1_nth 15 = .ok (.iload 4, 2) := by decide +kernel
theorem dX1_nth_17 : decode cX1_nth 17 = .ok (.aload_n 0, 1) := by decide +kernel
theorem dX1_nth_18 : decode cX1_nth 18 = .ok (.getfield 59, 3) := by decide +kernel
theorem dX1_nth_21 : decode cX1_nth 21 = .ok (.if_icmp .ge 27, 3) := by decide +kernel
theorem dX1_nth_24 : decode cX1_nth 24 = .ok (.iload_n 3, 1) := by decide +kernel
theorem dX1_nth_25 : decode cX1_nth 25 = .ok (.aload_n 0, 1) := by decide +kernel
theorem dX1_nth_26 : decode cX1_nth 26 = .ok (.iload 4, 2) := by decide +kernel
theorem dX1_nth_28 : decode cX1_nth 28 = .ok (.iload_n 2, 1) := by decide +kernel
theorem dX1_nth_29 : decode cX1_nth 29 = .ok (.invokevirtual 80, 3) := by decide +kernel
theorem dX1_nth_32 : decode cX1_nth 32 = .ok (.ifCond .eq 7, 3) := by decide +kernel
theorem dX1_nth_35 : decode cX1_nth 35 = .ok (.iconst 1, 1) := by decide +kernel
theorem dX1_nth_36 : decode cX1_nth 36 = .ok (.goto 4, 3) := by decide +kernel
theorem dX1_nth_39 : decode cX1_nth 39 = .ok (.iconst 0, 1) := by decide +kernel
theorem dX1_nth_40 : decode cX1_nth 40 = .ok (.iadd, 1) := by decide +kernel
theorem dX1_nth_41 : decode cX1_nth 41 = .ok (.istore_n 3, 1) := by decide +kernel
theorem dX1_nth_42 : decode cX1_nth 42 = .ok (.iinc 4 1, 3) := by decide +kernel
theorem dX1_nth_45 : decode cX1_nth 45 = .ok (.goto (-30), 3) := by decide +kernel
theorem dX1_nth_48 : decode cX1_nth 48 = .ok (.iload_n 3, 1) := by decide +kernel
theorem dX1_nth_49 : decode cX1_nth 49 = .ok (.iload_n 1, 1) := by decide +kernel
theorem dX1_nth_50 : decode cX1_nth 50 = .ok (.if_icmp .ne 10, 3) := by decide +kernel
theorem dX1_nth_53 : decode cX1_nth 53 = .ok (.aload_n 0, 1) := by decide +kernel
theorem dX1_nth_54 : decode cX1_nth 54 = .ok (.getfield 13, 3) := by decide +kernel
theorem dX1_nth_57 : decode cX1_nth 57 = .ok (.iload_n 2, 1) := by decide +kernel
theorem dX1_nth_58 : decode cX1_nth 58 = .ok (.iaload, 1) := by decide +kernel
theorem dX1_nth_59 : decode cX1_nth 59 = .ok (.ireturn, 1) := by decide +kernel
theorem dX1_nth_60 : decode cX1_nth 60 = .ok (.iinc 2 1, 3) := by decide +kernel
theorem dX1_nth_63 : decode cX1_nth 63 = .ok (.goto (-61), 3) := by decide +kernel
theorem dX1_nth_66 : decode cX1_nth 66 = .ok (.bipush (-2), 2) := by decide +kernel
theorem dX1_nth_68 : decode cX1_nth 68 = .ok (.ireturn, 1) := by decide +kernel
theorem dX1_hits_0 : decode cX1_hits 0 = .ok (.aload_n 0, 1) := by decide +kernel
theorem dX1_hits_1 : decode cX1_hits 1 = .ok (.iload_n 1, 1) := by decide +kernel
theorem dX1_hits_2 : decode cX1_hits 2 = .ok (.invokevirtual 69, 3) := by decide +kernel
theorem dX1_hits_5 : decode cX1_hits 5 = .ok (.istore_n 2, 1) := by decide +kernel
theorem dX1_hits_6 : decode cX1_hits 6 = .ok (.iload_n 2, 1) := by decide +kernel
theorem dX1_hits_7 : decode cX1_hits 7 = .ok (.ifCond .ge 8, 3) := by decide +kernel
theorem dX1_hits_10 : decode cX1_hits 10 = .ok (.bipush (-2), 2) := by decide +kernel
theorem dX1_hits_12 : decode cX1_hits 12 = .ok (.goto 9, 3) := by decide +kernel
theorem dX1_hits_15 : decode cX1_hits 15 = .ok (.aload_n 0, 1) := by decide +kernel
theorem dX1_hits_16 : decode cX1_hits 16 = .ok (.getfield 19, 3) := by decide +kernel
theorem dX1_hits_19 : decode cX1_hits 19 = .ok (.iload_n 2, 1) := by decide +kernel
theorem dX1_hits_20 : decode cX1_hits 20 = .ok (.iaload, 1) := by decide +kernel
theorem dX1_hits_21 : decode cX1_hits 21 = .ok (.ireturn, 1) := by decide +kernel
theorem dX1_count_0 : decode cX1_count 0 = .ok (.iload_n 1, 1) := by decide +kernel
theorem dX1_count_1 : decode cX1_count 1 = .ok (.tableswitch 72 0 6 #[43, 48, 53, 58, 63, 63, 63], 43) := by decide +kernel
theorem dX1_count_44 : decode cX1_count 44 = .ok (.aload_n 0, 1) := by decide +kernel
theorem dX1_count_45 : decode cX1_count 45 = .ok (.getfield 38, 3) := by decide +kernel
theorem dX1_count_48 : decode cX1_count 48 = .ok (.ireturn, 1) := by decide +kernel
theorem dX1_count_49 : decode cX1_count 49 = .ok (.aload_n 0, 1) := by decide +kernel
theorem dX1_count_50 : decode cX1_count 50 = .ok (.getfield 42, 3) := by decide +kernel
theorem dX1_count_53 : decode cX1_count 53 = .ok (.ireturn, 1) := by decide +kernel
theorem dX1_count_54 : decode cX1_count 54 = .ok (.aload_n 0, 1) := by decide +kernel
theorem dX1_count_55 : decode cX1_count 55 = .ok (.getfield 59, 3) := by decide +kernel
theorem dX1_count_58 : decode cX1_count 58 = .ok (.ireturn, 1) := by decide +kernel
theorem dX1_count_59 : decode cX1_count 59 = .ok (.aload_n 0, 1) := by decide +kernel
theorem dX1_count_60 : decode cX1_count 60 = .ok (.getfield 83, 3) := by decide +kernel
theorem dX1_count_63 : decode cX1_count 63 = .ok (.ireturn, 1) := by decide +kernel
theorem dX1_count_64 : decode cX1_count 64 = .ok (.aload_n 0, 1) := by decide +kernel
theorem dX1_count_65 : decode cX1_count 65 = .ok (.getfield 7, 3) := by decide +kernel
theorem dX1_count_68 : decode cX1_count 68 = .ok (.iload_n 1, 1) := by decide +kernel
theorem dX1_count_69 : decode cX1_count 69 = .ok (.iconst 4, 1) := by decide +kernel
theorem dX1_count_70 : decode cX1_count 70 = .ok (.isub, 1) := by decide +kernel
theorem dX1_count_71 : decode cX1_count 71 = .ok (.iaload, 1) := by decide +kernel
theorem dX1_count_72 : decode cX1_count 72 = .ok (.ireturn, 1) := by decide +kernel
theorem dX1_count_73 : decode cX1_count 73 = .ok (.iconst (-1), 1) := by decide +kernel
theorem dX1_count_74 : decode cX1_count 74 = .ok (.ireturn, 1) := by decide +kernel
