section
-- ===== PART A: goes FIRST, ahead of the names: the tables' words, and 'selects' of the private methods out of them =====
/-- a private method of a class that the tables say can be made, by its rows of tables_1 -/
def lw_okq (q : MethodName × Nat) : Prop := (q.1.cls ≠ "java/lang/invoke/MethodHandle" ∧ q.1.cls ≠ "java/lang/invoke/VarHandle") ∧ Cond.instantiable q.1.cls q.2 ∈ tables_1 ∧ Cond.privateMethod q.1 ∈ tables_1 ∧ Cond.instanceMethod q.1 ∈ tables_1
theorem lw_p0 : lw_okq (⟨"EntryTable", "isDraftSound", "()Z"⟩, 16) := ⟨⟨by decide +kernel, by decide +kernel⟩, List.mem_of_getElem? (i := 6) (by decide +kernel), List.mem_of_getElem? (i := 79) (by decide +kernel), List.mem_of_getElem? (i := 80) (by decide +kernel)⟩
theorem lw_p1 : lw_okq (⟨"EntryTable", "isDraftKeySound", "(I)Z"⟩, 16) := ⟨⟨by decide +kernel, by decide +kernel⟩, List.mem_of_getElem? (i := 6) (by decide +kernel), List.mem_of_getElem? (i := 83) (by decide +kernel), List.mem_of_getElem? (i := 84) (by decide +kernel)⟩
theorem lw_p2 : lw_okq (⟨"EntryTable", "isNumber", "(J)Z"⟩, 16) := ⟨⟨by decide +kernel, by decide +kernel⟩, List.mem_of_getElem? (i := 6) (by decide +kernel), List.mem_of_getElem? (i := 87) (by decide +kernel), List.mem_of_getElem? (i := 88) (by decide +kernel)⟩
theorem lw_p3 : lw_okq (⟨"EntryTable", "draftBits", "(I)J"⟩, 16) := ⟨⟨by decide +kernel, by decide +kernel⟩, List.mem_of_getElem? (i := 6) (by decide +kernel), List.mem_of_getElem? (i := 91) (by decide +kernel), List.mem_of_getElem? (i := 92) (by decide +kernel)⟩
theorem lw_p4 : lw_okq (⟨"EntryTable", "isDraftThere", "(I)Z"⟩, 16) := ⟨⟨by decide +kernel, by decide +kernel⟩, List.mem_of_getElem? (i := 6) (by decide +kernel), List.mem_of_getElem? (i := 96) (by decide +kernel), List.mem_of_getElem? (i := 97) (by decide +kernel)⟩
theorem lw_p5 : lw_okq (⟨"EntryTable", "isDraftIn", "(I)Z"⟩, 16) := ⟨⟨by decide +kernel, by decide +kernel⟩, List.mem_of_getElem? (i := 6) (by decide +kernel), List.mem_of_getElem? (i := 100) (by decide +kernel), List.mem_of_getElem? (i := 101) (by decide +kernel)⟩
theorem lw_p6 : lw_okq (⟨"EntryTable", "rankForDraft", "(I)I"⟩, 16) := ⟨⟨by decide +kernel, by decide +kernel⟩, List.mem_of_getElem? (i := 6) (by decide +kernel), List.mem_of_getElem? (i := 104) (by decide +kernel), List.mem_of_getElem? (i := 105) (by decide +kernel)⟩
theorem lw_p7 : lw_okq (⟨"EntryTable", "draftPrefix", "()I"⟩, 16) := ⟨⟨by decide +kernel, by decide +kernel⟩, List.mem_of_getElem? (i := 6) (by decide +kernel), List.mem_of_getElem? (i := 108) (by decide +kernel), List.mem_of_getElem? (i := 109) (by decide +kernel)⟩
theorem lw_p8 : lw_okq (⟨"EntryTable", "takeSlot", "(I)I"⟩, 16) := ⟨⟨by decide +kernel, by decide +kernel⟩, List.mem_of_getElem? (i := 6) (by decide +kernel), List.mem_of_getElem? (i := 112) (by decide +kernel), List.mem_of_getElem? (i := 113) (by decide +kernel)⟩
theorem lw_p9 : lw_okq (⟨"EntryTable", "fillSlot", "(II)V"⟩, 16) := ⟨⟨by decide +kernel, by decide +kernel⟩, List.mem_of_getElem? (i := 6) (by decide +kernel), List.mem_of_getElem? (i := 119) (by decide +kernel), List.mem_of_getElem? (i := 120) (by decide +kernel)⟩
theorem lw_p10 : lw_okq (⟨"EntryTable", "clearDraft", "()V"⟩, 16) := ⟨⟨by decide +kernel, by decide +kernel⟩, List.mem_of_getElem? (i := 6) (by decide +kernel), List.mem_of_getElem? (i := 123) (by decide +kernel), List.mem_of_getElem? (i := 124) (by decide +kernel)⟩
theorem lw_p11 : lw_okq (⟨"EntryTable", "rankOf", "(I)I"⟩, 16) := ⟨⟨by decide +kernel, by decide +kernel⟩, List.mem_of_getElem? (i := 6) (by decide +kernel), List.mem_of_getElem? (i := 131) (by decide +kernel), List.mem_of_getElem? (i := 132) (by decide +kernel)⟩
theorem lw_p12 : lw_okq (⟨"EntryTable", "freeSlot", "(I)V"⟩, 16) := ⟨⟨by decide +kernel, by decide +kernel⟩, List.mem_of_getElem? (i := 6) (by decide +kernel), List.mem_of_getElem? (i := 135) (by decide +kernel), List.mem_of_getElem? (i := 136) (by decide +kernel)⟩
theorem lw_p13 : lw_okq (⟨"EntryTable", "fits", "(IIJ)Z"⟩, 16) := ⟨⟨by decide +kernel, by decide +kernel⟩, List.mem_of_getElem? (i := 6) (by decide +kernel), List.mem_of_getElem? (i := 143) (by decide +kernel), List.mem_of_getElem? (i := 144) (by decide +kernel)⟩
theorem lw_p14 : lw_okq (⟨"EntryTableModel", "good", "(I)Z"⟩, 14) := ⟨⟨by decide +kernel, by decide +kernel⟩, List.mem_of_getElem? (i := 162) (by decide +kernel), List.mem_of_getElem? (i := 219) (by decide +kernel), List.mem_of_getElem? (i := 220) (by decide +kernel)⟩
theorem lw_p15 : lw_okq (⟨"EntryTableModel", "fits", "(J)Z"⟩, 14) := ⟨⟨by decide +kernel, by decide +kernel⟩, List.mem_of_getElem? (i := 162) (by decide +kernel), List.mem_of_getElem? (i := 223) (by decide +kernel), List.mem_of_getElem? (i := 224) (by decide +kernel)⟩
def lw_privs_1 : List (MethodName × Nat) := [(⟨"EntryTable", "isDraftSound", "()Z"⟩, 16), (⟨"EntryTable", "isDraftKeySound", "(I)Z"⟩, 16), (⟨"EntryTable", "isNumber", "(J)Z"⟩, 16), (⟨"EntryTable", "draftBits", "(I)J"⟩, 16), (⟨"EntryTable", "isDraftThere", "(I)Z"⟩, 16), (⟨"EntryTable", "isDraftIn", "(I)Z"⟩, 16), (⟨"EntryTable", "rankForDraft", "(I)I"⟩, 16), (⟨"EntryTable", "draftPrefix", "()I"⟩, 16), (⟨"EntryTable", "takeSlot", "(I)I"⟩, 16), (⟨"EntryTable", "fillSlot", "(II)V"⟩, 16), (⟨"EntryTable", "clearDraft", "()V"⟩, 16), (⟨"EntryTable", "rankOf", "(I)I"⟩, 16), (⟨"EntryTable", "freeSlot", "(I)V"⟩, 16), (⟨"EntryTable", "fits", "(IIJ)Z"⟩, 16), (⟨"EntryTableModel", "good", "(I)Z"⟩, 14), (⟨"EntryTableModel", "fits", "(J)Z"⟩, 14)]
theorem lw_r1 : ∀ q ∈ lw_privs_1, lw_okq q := List.forall_mem_cons.mpr ⟨lw_p0, List.forall_mem_cons.mpr ⟨lw_p1, List.forall_mem_cons.mpr ⟨lw_p2, List.forall_mem_cons.mpr ⟨lw_p3, List.forall_mem_cons.mpr ⟨lw_p4, List.forall_mem_cons.mpr ⟨lw_p5, List.forall_mem_cons.mpr ⟨lw_p6, List.forall_mem_cons.mpr ⟨lw_p7, List.forall_mem_cons.mpr ⟨lw_p8, List.forall_mem_cons.mpr ⟨lw_p9, List.forall_mem_cons.mpr ⟨lw_p10, List.forall_mem_cons.mpr ⟨lw_p11, List.forall_mem_cons.mpr ⟨lw_p12, List.forall_mem_cons.mpr ⟨lw_p13, List.forall_mem_cons.mpr ⟨lw_p14, List.forall_mem_cons.mpr ⟨lw_p15, fun _ h => absurd h List.not_mem_nil⟩⟩⟩⟩⟩⟩⟩⟩⟩⟩⟩⟩⟩⟩⟩⟩
theorem lw_p16 : lw_okq (⟨"EntryTableModel", "bits", "(J)J"⟩, 14) := ⟨⟨by decide +kernel, by decide +kernel⟩, List.mem_of_getElem? (i := 162) (by decide +kernel), List.mem_of_getElem? (i := 228) (by decide +kernel), List.mem_of_getElem? (i := 229) (by decide +kernel)⟩
theorem lw_p17 : lw_okq (⟨"EntryTableModel", "like", "(II)Z"⟩, 14) := ⟨⟨by decide +kernel, by decide +kernel⟩, List.mem_of_getElem? (i := 162) (by decide +kernel), List.mem_of_getElem? (i := 232) (by decide +kernel), List.mem_of_getElem? (i := 233) (by decide +kernel)⟩
theorem lw_p18 : lw_okq (⟨"EntryTableModel", "place", "(I)I"⟩, 14) := ⟨⟨by decide +kernel, by decide +kernel⟩, List.mem_of_getElem? (i := 162) (by decide +kernel), List.mem_of_getElem? (i := 240) (by decide +kernel), List.mem_of_getElem? (i := 241) (by decide +kernel)⟩
theorem lw_p19 : lw_okq (⟨"EntryTableModel", "matches", "(I)Z"⟩, 14) := ⟨⟨by decide +kernel, by decide +kernel⟩, List.mem_of_getElem? (i := 162) (by decide +kernel), List.mem_of_getElem? (i := 248) (by decide +kernel), List.mem_of_getElem? (i := 249) (by decide +kernel)⟩
theorem lw_p20 : lw_okq (⟨"EntryTableModel", "before", "(II)Z"⟩, 14) := ⟨⟨by decide +kernel, by decide +kernel⟩, List.mem_of_getElem? (i := 162) (by decide +kernel), List.mem_of_getElem? (i := 252) (by decide +kernel), List.mem_of_getElem? (i := 253) (by decide +kernel)⟩
theorem lw_p21 : lw_okq (⟨"EntryTableModel", "prefix", "(I)J"⟩, 14) := ⟨⟨by decide +kernel, by decide +kernel⟩, List.mem_of_getElem? (i := 162) (by decide +kernel), List.mem_of_getElem? (i := 256) (by decide +kernel), List.mem_of_getElem? (i := 257) (by decide +kernel)⟩
def lw_privs_2 : List (MethodName × Nat) := [(⟨"EntryTableModel", "bits", "(J)J"⟩, 14), (⟨"EntryTableModel", "like", "(II)Z"⟩, 14), (⟨"EntryTableModel", "place", "(I)I"⟩, 14), (⟨"EntryTableModel", "matches", "(I)Z"⟩, 14), (⟨"EntryTableModel", "before", "(II)Z"⟩, 14), (⟨"EntryTableModel", "prefix", "(I)J"⟩, 14)]
theorem lw_r2 : ∀ q ∈ lw_privs_2, lw_okq q := List.forall_mem_cons.mpr ⟨lw_p16, List.forall_mem_cons.mpr ⟨lw_p17, List.forall_mem_cons.mpr ⟨lw_p18, List.forall_mem_cons.mpr ⟨lw_p19, List.forall_mem_cons.mpr ⟨lw_p20, List.forall_mem_cons.mpr ⟨lw_p21, fun _ h => absurd h List.not_mem_nil⟩⟩⟩⟩⟩⟩
def lw_privs : List (MethodName × Nat) := lw_privs_1 ++ (lw_privs_2)
def lw_tbl : List Cond := k2_sels lw_privs ++ tables_1
theorem lw_privs_ok : ∀ q ∈ lw_privs, lw_okq q := by
  show ∀ q ∈ lw_privs_1 ++ (lw_privs_2), lw_okq q
  exact List.forall_mem_append.mpr ⟨lw_r1, lw_r2⟩
end
section
/-! ===== BEGIN words of one list among another's, by their places ===== -/
theorem goodIn_r {big : List Cond} (ws : List Cond) (ps : List Nat) (hp : ws = ps.filterMap (fun i => big[i]?)) (h : ws.all goodWord = true) : GoodIn big ws := by
  intro w hw
  have h1 := List.all_eq_true.mp h w hw
  rw [hp] at hw
  obtain ⟨i, -, hi⟩ := List.mem_filterMap.mp hw
  have hm : w ∈ big := by first | exact List.mem_of_getElem? hi | exact List.getElem?_mem hi
  exact ⟨hm, good_of_word h1⟩
theorem goodIn_app {big a b : List Cond} (ha : GoodIn big a) (hb : GoodIn big b) : GoodIn big (a ++ b) := fun w h => (List.mem_append.mp h).elim (ha w) (hb w)
theorem goodIn_ca {big a b : List Cond} {c : Cond} (ha : GoodIn big (c :: a)) (hb : GoodIn big b) : GoodIn big (c :: (a ++ b)) := fun w h => (List.mem_cons.mp h).elim (fun e => ha w (List.mem_cons.mpr (Or.inl e))) (fun h => (List.mem_append.mp h).elim (fun h => ha w (List.mem_cons.mpr (Or.inr h))) (hb w))
theorem goodIn_sub {big ws : List Cond} (hm : ∀ w ∈ ws, w ∈ big) (h : ws.all goodWord = true) : GoodIn big ws := fun w hw => ⟨hm w hw, good_of_word (List.all_eq_true.mp h w hw)⟩
/-! ===== END ===== -/

/-! ===== BEGIN printed: names, fields, word lists, decode rows ===== -/
def RX0 : String := "EntryTable"
def TX0 : u_T := fun k => match k with
  | 0 => ("EntryTable", "keys", "I", true)
  | 1 => ("EntryTable", "width", "I", true)
  | 2 => ("EntryTable", "allBits", "J", true)
  | 3 => ("EntryTable", "kinds", "[I", true)
  | 4 => ("EntryTable", "draftValues", "[J", true)
  | 5 => ("EntryTable", "draftMasks", "[J", true)
  | 6 => ("EntryTable", "order", "[I", true)
  | 7 => ("EntryTable", "entries", "I", false)
  | 8 => ("EntryTable", "nextNumber", "I", false)
  | 9 => ("EntryTable", "misses", "I", false)
  | 10 => ("EntryTable", "numbers", "[I", true)
  | 11 => ("EntryTable", "priorities", "[I", true)
  | 12 => ("EntryTable", "prefixes", "[I", true)
  | 13 => ("EntryTable", "finds", "[I", true)
  | 14 => ("EntryTable", "values", "[J", true)
  | _ => ("EntryTable", "masks", "[J", true)
def tyX0 : Nat → FieldType := fun k => match k with
  | 0 => .int
  | 1 => .int
  | 2 => .long
  | 3 => .array .int
  | 4 => .array .long
  | 5 => .array .long
  | 6 => .array .int
  | 7 => .int
  | 8 => .int
  | 9 => .int
  | 10 => .array .int
  | 11 => .array .int
  | 12 => .array .int
  | 13 => .array .int
  | 14 => .array .long
  | _ => .array .long
abbrev wsX00 : List Cond := u_ws RX0 TX0 16
theorem nmX0 : ∀ a, a < 16 → ∀ b, b < 16 → a ≠ b → (TX0 a).2.1 ≠ (TX0 b).2.1 := by decide +kernel
theorem tyX0_ok : ∀ k, k < 16 → parseFieldDescriptor (TX0 k).2.2.1 = some (tyX0 k) := by decide +kernel
abbrev cX0_init : ByteArray := prog_1_method_1_code
def yX0_init : MethodName := ⟨RX0, "<init>", "(III)V"⟩
abbrev cX0_match : ByteArray := prog_1_method_2_code
def yX0_match : MethodName := ⟨RX0, "match", "(IJJ)I"⟩
abbrev cX0_insert : ByteArray := prog_1_method_3_code
def yX0_insert : MethodName := ⟨RX0, "insert", "(I)I"⟩
abbrev cX0_remove : ByteArray := prog_1_method_4_code
def yX0_remove : MethodName := ⟨RX0, "remove", "(I)I"⟩
abbrev cX0_find : ByteArray := prog_1_method_5_code
def yX0_find : MethodName := ⟨RX0, "find", "(JJJ)I"⟩
abbrev cX0_nth : ByteArray := prog_1_method_6_code
def yX0_nth : MethodName := ⟨RX0, "nth", "(I)I"⟩
abbrev cX0_hits : ByteArray := prog_1_method_7_code
def yX0_hits : MethodName := ⟨RX0, "hits", "(I)I"⟩
abbrev cX0_count : ByteArray := prog_1_method_8_code
def yX0_count : MethodName := ⟨RX0, "count", "(I)I"⟩
abbrev cX0_isDraftSound : ByteArray := prog_1_method_9_code
def yX0_isDraftSound : MethodName := ⟨RX0, "isDraftSound", "()Z"⟩
abbrev cX0_isDraftKeySound : ByteArray := prog_1_method_10_code
def yX0_isDraftKeySound : MethodName := ⟨RX0, "isDraftKeySound", "(I)Z"⟩
abbrev cX0_isNumber : ByteArray := prog_1_method_11_code
def yX0_isNumber : MethodName := ⟨RX0, "isNumber", "(J)Z"⟩
abbrev cX0_draftBits : ByteArray := prog_1_method_12_code
def yX0_draftBits : MethodName := ⟨RX0, "draftBits", "(I)J"⟩
abbrev cX0_draftPrefix : ByteArray := prog_1_method_13_code
def yX0_draftPrefix : MethodName := ⟨RX0, "draftPrefix", "()I"⟩
abbrev cX0_isDraftThere : ByteArray := prog_1_method_14_code
def yX0_isDraftThere : MethodName := ⟨RX0, "isDraftThere", "(I)Z"⟩
abbrev cX0_isDraftIn : ByteArray := prog_1_method_15_code
def yX0_isDraftIn : MethodName := ⟨RX0, "isDraftIn", "(I)Z"⟩
abbrev cX0_rankForDraft : ByteArray := prog_1_method_16_code
def yX0_rankForDraft : MethodName := ⟨RX0, "rankForDraft", "(I)I"⟩
abbrev cX0_takeSlot : ByteArray := prog_1_method_17_code
def yX0_takeSlot : MethodName := ⟨RX0, "takeSlot", "(I)I"⟩
abbrev cX0_freeSlot : ByteArray := prog_1_method_18_code
def yX0_freeSlot : MethodName := ⟨RX0, "freeSlot", "(I)V"⟩
abbrev cX0_fillSlot : ByteArray := prog_1_method_19_code
def yX0_fillSlot : MethodName := ⟨RX0, "fillSlot", "(II)V"⟩
abbrev cX0_clearDraft : ByteArray := prog_1_method_20_code
def yX0_clearDraft : MethodName := ⟨RX0, "clearDraft", "()V"⟩
abbrev cX0_rankOf : ByteArray := prog_1_method_21_code
def yX0_rankOf : MethodName := ⟨RX0, "rankOf", "(I)I"⟩
abbrev cX0_fits : ByteArray := prog_1_method_22_code
def yX0_fits : MethodName := ⟨RX0, "fits", "(IIJ)Z"⟩
def RX1 : String := "EntryTableModel"
def TX1 : u_T := fun k => match k with
  | 0 => ("EntryTableModel", "keys", "I", true)
  | 1 => ("EntryTableModel", "width", "I", true)
  | 2 => ("EntryTableModel", "kind", "[I", true)
  | 3 => ("EntryTableModel", "number", "[I", true)
  | 4 => ("EntryTableModel", "priority", "[I", true)
  | 5 => ("EntryTableModel", "hits", "[I", true)
  | 6 => ("EntryTableModel", "value", "[J", true)
  | 7 => ("EntryTableModel", "mask", "[J", true)
  | 8 => ("EntryTableModel", "madeValue", "[J", true)
  | 9 => ("EntryTableModel", "madeMask", "[J", true)
  | 10 => ("EntryTableModel", "asked", "[J", true)
  | 11 => ("EntryTableModel", "count", "I", false)
  | 12 => ("EntryTableModel", "numbers", "I", false)
  | _ => ("EntryTableModel", "missed", "I", false)
def tyX1 : Nat → FieldType := fun k => match k with
  | 0 => .int
  | 1 => .int
  | 2 => .array .int
  | 3 => .array .int
  | 4 => .array .int
  | 5 => .array .int
  | 6 => .array .long
  | 7 => .array .long
  | 8 => .array .long
  | 9 => .array .long
  | 10 => .array .long
  | 11 => .int
  | 12 => .int
  | _ => .int
abbrev wsX10 : List Cond := u_ws RX1 TX1 14
theorem nmX1 : ∀ a, a < 14 → ∀ b, b < 14 → a ≠ b → (TX1 a).2.1 ≠ (TX1 b).2.1 := by decide +kernel
theorem tyX1_ok : ∀ k, k < 14 → parseFieldDescriptor (TX1 k).2.2.1 = some (tyX1 k) := by decide +kernel
abbrev cX1_init : ByteArray := prog_3_method_1_code
def yX1_init : MethodName := ⟨RX1, "<init>", "(III)V"⟩
abbrev cX1_match : ByteArray := prog_3_method_2_code
def yX1_match : MethodName := ⟨RX1, "match", "(IJJ)I"⟩
abbrev cX1_fits : ByteArray := prog_3_method_3_code
def yX1_fits : MethodName := ⟨RX1, "fits", "(J)Z"⟩
abbrev cX1_bits : ByteArray := prog_3_method_4_code
def yX1_bits : MethodName := ⟨RX1, "bits", "(J)J"⟩
abbrev cX1_good : ByteArray := prog_3_method_5_code
def yX1_good : MethodName := ⟨RX1, "good", "(I)Z"⟩
abbrev cX1_like : ByteArray := prog_3_method_6_code
def yX1_like : MethodName := ⟨RX1, "like", "(II)Z"⟩
abbrev cX1_insert : ByteArray := prog_3_method_7_code
def yX1_insert : MethodName := ⟨RX1, "insert", "(I)I"⟩
abbrev cX1_remove : ByteArray := prog_3_method_9_code
def yX1_remove : MethodName := ⟨RX1, "remove", "(I)I"⟩
def RJ9 : String := "java/lang/Math"
def TJ9 : u_T := fun k => match k with
  | _ => ("", "", "", false)
def tyJ9 : Nat → FieldType := fun k => match k with
  | _ => .int
abbrev wsJ90 : List Cond := u_ws RJ9 TJ9 0
theorem nmJ9 : ∀ a, a < 0 → ∀ b, b < 0 → a ≠ b → (TJ9 a).2.1 ≠ (TJ9 b).2.1 := by decide +kernel
theorem tyJ9_ok : ∀ k, k < 0 → parseFieldDescriptor (TJ9 k).2.2.1 = some (tyJ9 k) := by decide +kernel
abbrev cJ9_max_7cf53 : ByteArray := prog_4_method_65_code
def yJ9_max_7cf53 : MethodName := ⟨RJ9, "max", "(II)I"⟩
abbrev cJ9_min_7cf53 : ByteArray := prog_4_method_69_code
def yJ9_min_7cf53 : MethodName := ⟨RJ9, "min", "(II)I"⟩
def RJ10 : String := "java/lang/System"
def TJ10 : u_T := fun k => match k with
  | _ => ("", "", "", false)
def tyJ10 : Nat → FieldType := fun k => match k with
  | _ => .int
abbrev wsJ100 : List Cond := u_ws RJ10 TJ10 0
theorem nmJ10 : ∀ a, a < 0 → ∀ b, b < 0 → a ≠ b → (TJ10 a).2.1 ≠ (TJ10 b).2.1 := by decide +kernel
theorem tyJ10_ok : ∀ k, k < 0 → parseFieldDescriptor (TJ10 k).2.2.1 = some (tyJ10 k) := by decide +kernel
def RL : String := "EntryTableLaw"
abbrev cL_cell : ByteArray := method_2_code
def yL_cell : MethodName := ⟨RL, "cell", "([II)I"⟩
abbrev cL_law : ByteArray := code
def yL_law : MethodName := ⟨RL, "law", "([I)Z"⟩
def wsX0_init_r1 : List Cond := [Cond.methodLink RX0 1 objectInit, Cond.instanceMethod objectInit, Cond.code objectInit ⟨#[0xb1]⟩ 1 none, Cond.arrayClass .int, Cond.fieldLink RX0 9 "EntryTable" "kinds" "[I", Cond.arrayClass .long, Cond.fieldLink RX0 13 "EntryTable" "draftValues" "[J", Cond.fieldLink RX0 17 "EntryTable" "draftMasks" "[J", Cond.fieldLink RX0 20 "EntryTable" "order" "[I", Cond.fieldLink RX0 23 "EntryTable" "entries" "I", Cond.fieldLink RX0 27 "EntryTable" "nextNumber" "I", Cond.fieldLink RX0 30 "EntryTable" "misses" "I", Cond.fieldLink RX0 33 "EntryTable" "numbers" "[I", Cond.fieldLink RX0 36 "EntryTable" "priorities" "[I", Cond.fieldLink RX0 39 "EntryTable" "prefixes" "[I", Cond.fieldLink RX0 42 "EntryTable" "finds" "[I", Cond.fieldLink RX0 45 "EntryTable" "values" "[J", Cond.fieldLink RX0 48 "EntryTable" "masks" "[J", Cond.methodLink RX0 51 Lib.Math.min.name, Cond.static Lib.Math.min.name, Cond.initialized "java/lang/Math", Cond.code Lib.Math.min.name Lib.Math.min.code 2 (some .int), Cond.methodLink RX0 57 Lib.Math.max.name, Cond.static Lib.Math.max.name]
def wsX0_init_r2 : List Cond := [Cond.code Lib.Math.max.name Lib.Math.max.code 2 (some .int), Cond.fieldLink RX0 60 "EntryTable" "keys" "I", Cond.fieldLink RX0 63 "EntryTable" "width" "I", Cond.fieldLink RX0 66 "EntryTable" "allBits" "J"]
def wsX0_init : List Cond := .code yX0_init cX0_init 8 none :: ((wsX0_init_r1 ++ wsX0_init_r2) ++ wsX00)
def wsX0_match : List Cond := .code yX0_match cX0_match 6 (some .int) :: ([.fieldLink RX0 13 "EntryTable" "draftValues" "[J", .fieldLink RX0 17 "EntryTable" "draftMasks" "[J"] ++ wsX00)
def wsX0_isNumber : List Cond := .code yX0_isNumber cX0_isNumber 3 (some .boolean) :: ([.fieldLink RX0 66 "EntryTable" "allBits" "J"] ++ wsX00)
def wsX0_draftBits : List Cond := .code yX0_draftBits cX0_draftBits 2 (some .long) :: ([.fieldLink RX0 9 "EntryTable" "kinds" "[I", .fieldLink RX0 66 "EntryTable" "allBits" "J", .fieldLink RX0 17 "EntryTable" "draftMasks" "[J"] ++ wsX00)
def wsX0_isDraftKeySound : List Cond := .code yX0_isDraftKeySound cX0_isDraftKeySound 3 (some .boolean) :: ([.fieldLink RX0 13 "EntryTable" "draftValues" "[J", .fieldLink RX0 9 "EntryTable" "kinds" "[I", .fieldLink RX0 17 "EntryTable" "draftMasks" "[J", .fieldLink RX0 63 "EntryTable" "width" "I", .constantLong RX0 114 (-1), .methodLink RX0 106 yX0_isNumber, .instanceMethod yX0_isNumber, .selects RX0 yX0_isNumber yX0_isNumber, .initialized RX0, .code yX0_isNumber cX0_isNumber 3 (some .boolean), .fieldLink RX0 66 "EntryTable" "allBits" "J", .methodLink RX0 110 yX0_draftBits, .instanceMethod yX0_draftBits, .selects RX0 yX0_draftBits yX0_draftBits, .code yX0_draftBits cX0_draftBits 2 (some .long)] ++ wsX00)
def wsX0_isDraftSound : List Cond := .code yX0_isDraftSound cX0_isDraftSound 2 (some .boolean) :: ([.fieldLink RX0 60 "EntryTable" "keys" "I", .methodLink RX0 103 yX0_isDraftKeySound, .instanceMethod yX0_isDraftKeySound, .selects RX0 yX0_isDraftKeySound yX0_isDraftKeySound, .initialized RX0, .code yX0_isDraftKeySound cX0_isDraftKeySound 3 (some .boolean), .fieldLink RX0 13 "EntryTable" "draftValues" "[J", .fieldLink RX0 9 "EntryTable" "kinds" "[I", .fieldLink RX0 17 "EntryTable" "draftMasks" "[J", .fieldLink RX0 63 "EntryTable" "width" "I", .constantLong RX0 114 (-1), .methodLink RX0 106 yX0_isNumber, .instanceMethod yX0_isNumber, .selects RX0 yX0_isNumber yX0_isNumber, .code yX0_isNumber cX0_isNumber 3 (some .boolean), .fieldLink RX0 66 "EntryTable" "allBits" "J", .methodLink RX0 110 yX0_draftBits, .instanceMethod yX0_draftBits, .selects RX0 yX0_draftBits yX0_draftBits, .code yX0_draftBits cX0_draftBits 2 (some .long)] ++ wsX00)
def wsX0_isDraftIn : List Cond := .code yX0_isDraftIn cX0_isDraftIn 4 (some .boolean) :: ([.fieldLink RX0 60 "EntryTable" "keys" "I", .fieldLink RX0 45 "EntryTable" "values" "[J", .fieldLink RX0 13 "EntryTable" "draftValues" "[J", .fieldLink RX0 48 "EntryTable" "masks" "[J", .methodLink RX0 110 yX0_draftBits, .instanceMethod yX0_draftBits, .selects RX0 yX0_draftBits yX0_draftBits, .initialized RX0, .code yX0_draftBits cX0_draftBits 2 (some .long), .fieldLink RX0 9 "EntryTable" "kinds" "[I", .fieldLink RX0 66 "EntryTable" "allBits" "J", .fieldLink RX0 17 "EntryTable" "draftMasks" "[J"] ++ wsX00)
def wsX0_isDraftThere : List Cond := .code yX0_isDraftThere cX0_isDraftThere 4 (some .boolean) :: ([.fieldLink RX0 23 "EntryTable" "entries" "I", .fieldLink RX0 20 "EntryTable" "order" "[I", .fieldLink RX0 36 "EntryTable" "priorities" "[I", .methodLink RX0 116 yX0_isDraftIn, .instanceMethod yX0_isDraftIn, .selects RX0 yX0_isDraftIn yX0_isDraftIn, .initialized RX0, .code yX0_isDraftIn cX0_isDraftIn 4 (some .boolean), .fieldLink RX0 60 "EntryTable" "keys" "I", .fieldLink RX0 45 "EntryTable" "values" "[J", .fieldLink RX0 13 "EntryTable" "draftValues" "[J", .fieldLink RX0 48 "EntryTable" "masks" "[J", .methodLink RX0 110 yX0_draftBits, .instanceMethod yX0_draftBits, .selects RX0 yX0_draftBits yX0_draftBits, .code yX0_draftBits cX0_draftBits 2 (some .long), .fieldLink RX0 9 "EntryTable" "kinds" "[I", .fieldLink RX0 66 "EntryTable" "allBits" "J", .fieldLink RX0 17 "EntryTable" "draftMasks" "[J"] ++ wsX00)
def wsX0_draftPrefix : List Cond := .code yX0_draftPrefix cX0_draftPrefix 2 (some .int) :: ([.fieldLink RX0 60 "EntryTable" "keys" "I", .fieldLink RX0 9 "EntryTable" "kinds" "[I", .fieldLink RX0 17 "EntryTable" "draftMasks" "[J"] ++ wsX00)
def wsX0_rankForDraft : List Cond := .code yX0_rankForDraft cX0_rankForDraft 5 (some .int) :: ([.fieldLink RX0 23 "EntryTable" "entries" "I", .fieldLink RX0 20 "EntryTable" "order" "[I", .fieldLink RX0 39 "EntryTable" "prefixes" "[I", .fieldLink RX0 36 "EntryTable" "priorities" "[I", .methodLink RX0 119 yX0_draftPrefix, .instanceMethod yX0_draftPrefix, .selects RX0 yX0_draftPrefix yX0_draftPrefix, .initialized RX0, .code yX0_draftPrefix cX0_draftPrefix 2 (some .int), .fieldLink RX0 60 "EntryTable" "keys" "I", .fieldLink RX0 9 "EntryTable" "kinds" "[I", .fieldLink RX0 17 "EntryTable" "draftMasks" "[J"] ++ wsX00)
def wsX0_takeSlot : List Cond := .code yX0_takeSlot cX0_takeSlot 3 (some .int) :: ([.fieldLink RX0 20 "EntryTable" "order" "[I", .fieldLink RX0 23 "EntryTable" "entries" "I", .methodLink RX0 123 arraycopyName, .native arraycopyName, .static arraycopyName, .initialized "java/lang/System"] ++ wsX00)
def wsX0_fillSlot : List Cond := .code yX0_fillSlot cX0_fillSlot 4 none :: ([.fieldLink RX0 33 "EntryTable" "numbers" "[I", .fieldLink RX0 27 "EntryTable" "nextNumber" "I", .fieldLink RX0 36 "EntryTable" "priorities" "[I", .fieldLink RX0 39 "EntryTable" "prefixes" "[I", .fieldLink RX0 42 "EntryTable" "finds" "[I", .fieldLink RX0 60 "EntryTable" "keys" "I", .fieldLink RX0 45 "EntryTable" "values" "[J", .fieldLink RX0 13 "EntryTable" "draftValues" "[J", .fieldLink RX0 48 "EntryTable" "masks" "[J", .methodLink RX0 119 yX0_draftPrefix, .instanceMethod yX0_draftPrefix, .selects RX0 yX0_draftPrefix yX0_draftPrefix, .initialized RX0, .code yX0_draftPrefix cX0_draftPrefix 2 (some .int), .fieldLink RX0 9 "EntryTable" "kinds" "[I", .fieldLink RX0 17 "EntryTable" "draftMasks" "[J", .methodLink RX0 110 yX0_draftBits, .instanceMethod yX0_draftBits, .selects RX0 yX0_draftBits yX0_draftBits, .code yX0_draftBits cX0_draftBits 2 (some .long), .fieldLink RX0 66 "EntryTable" "allBits" "J"] ++ wsX00)
def wsX0_clearDraft : List Cond := .code yX0_clearDraft cX0_clearDraft 2 none :: ([.fieldLink RX0 13 "EntryTable" "draftValues" "[J", .fieldLink RX0 17 "EntryTable" "draftMasks" "[J"] ++ wsX00)
def wsX0_insert_r1 : List Cond := [Cond.fieldLink RX0 23 "EntryTable" "entries" "I", Cond.fieldLink RX0 33 "EntryTable" "numbers" "[I", Cond.methodLink RX0 70 yX0_isDraftSound, Cond.instanceMethod yX0_isDraftSound, Cond.selects RX0 yX0_isDraftSound yX0_isDraftSound, Cond.initialized RX0, Cond.code yX0_isDraftSound cX0_isDraftSound 2 (some .boolean), Cond.fieldLink RX0 60 "EntryTable" "keys" "I", Cond.methodLink RX0 103 yX0_isDraftKeySound, Cond.instanceMethod yX0_isDraftKeySound, Cond.selects RX0 yX0_isDraftKeySound yX0_isDraftKeySound, Cond.code yX0_isDraftKeySound cX0_isDraftKeySound 3 (some .boolean), Cond.fieldLink RX0 13 "EntryTable" "draftValues" "[J", Cond.fieldLink RX0 9 "EntryTable" "kinds" "[I", Cond.fieldLink RX0 17 "EntryTable" "draftMasks" "[J", Cond.fieldLink RX0 63 "EntryTable" "width" "I", Cond.constantLong RX0 114 (-1), Cond.methodLink RX0 106 yX0_isNumber, Cond.instanceMethod yX0_isNumber, Cond.selects RX0 yX0_isNumber yX0_isNumber, Cond.code yX0_isNumber cX0_isNumber 3 (some .boolean), Cond.fieldLink RX0 66 "EntryTable" "allBits" "J", Cond.methodLink RX0 110 yX0_draftBits, Cond.instanceMethod yX0_draftBits]
def wsX0_insert_r2 : List Cond := [Cond.selects RX0 yX0_draftBits yX0_draftBits, Cond.code yX0_draftBits cX0_draftBits 2 (some .long), Cond.methodLink RX0 74 yX0_isDraftThere, Cond.instanceMethod yX0_isDraftThere, Cond.selects RX0 yX0_isDraftThere yX0_isDraftThere, Cond.code yX0_isDraftThere cX0_isDraftThere 4 (some .boolean), Cond.fieldLink RX0 20 "EntryTable" "order" "[I", Cond.fieldLink RX0 36 "EntryTable" "priorities" "[I", Cond.methodLink RX0 116 yX0_isDraftIn, Cond.instanceMethod yX0_isDraftIn, Cond.selects RX0 yX0_isDraftIn yX0_isDraftIn, Cond.code yX0_isDraftIn cX0_isDraftIn 4 (some .boolean), Cond.fieldLink RX0 45 "EntryTable" "values" "[J", Cond.fieldLink RX0 48 "EntryTable" "masks" "[J", Cond.methodLink RX0 78 yX0_rankForDraft, Cond.instanceMethod yX0_rankForDraft, Cond.selects RX0 yX0_rankForDraft yX0_rankForDraft, Cond.code yX0_rankForDraft cX0_rankForDraft 5 (some .int), Cond.fieldLink RX0 39 "EntryTable" "prefixes" "[I", Cond.methodLink RX0 119 yX0_draftPrefix, Cond.instanceMethod yX0_draftPrefix, Cond.selects RX0 yX0_draftPrefix yX0_draftPrefix, Cond.code yX0_draftPrefix cX0_draftPrefix 2 (some .int), Cond.methodLink RX0 82 yX0_takeSlot]
def wsX0_insert_r3 : List Cond := [Cond.instanceMethod yX0_takeSlot, Cond.selects RX0 yX0_takeSlot yX0_takeSlot, Cond.code yX0_takeSlot cX0_takeSlot 3 (some .int), Cond.methodLink RX0 123 arraycopyName, Cond.native arraycopyName, Cond.static arraycopyName, Cond.initialized "java/lang/System", Cond.methodLink RX0 85 yX0_fillSlot, Cond.instanceMethod yX0_fillSlot, Cond.selects RX0 yX0_fillSlot yX0_fillSlot, Cond.code yX0_fillSlot cX0_fillSlot 4 none, Cond.fieldLink RX0 27 "EntryTable" "nextNumber" "I", Cond.fieldLink RX0 42 "EntryTable" "finds" "[I", Cond.methodLink RX0 89 yX0_clearDraft, Cond.instanceMethod yX0_clearDraft, Cond.selects RX0 yX0_clearDraft yX0_clearDraft, Cond.code yX0_clearDraft cX0_clearDraft 2 none]
def wsX0_insert : List Cond := .code yX0_insert cX0_insert 3 (some .int) :: ((wsX0_insert_r1 ++ (wsX0_insert_r2 ++ wsX0_insert_r3)) ++ wsX00)
def wsX0_rankOf : List Cond := .code yX0_rankOf cX0_rankOf 3 (some .int) :: ([.fieldLink RX0 23 "EntryTable" "entries" "I", .fieldLink RX0 33 "EntryTable" "numbers" "[I", .fieldLink RX0 20 "EntryTable" "order" "[I"] ++ wsX00)
def wsX0_freeSlot : List Cond := .code yX0_freeSlot cX0_freeSlot 3 none :: ([.fieldLink RX0 20 "EntryTable" "order" "[I", .fieldLink RX0 23 "EntryTable" "entries" "I", .methodLink RX0 123 arraycopyName, .native arraycopyName, .static arraycopyName, .initialized "java/lang/System"] ++ wsX00)
def wsX0_remove : List Cond := .code yX0_remove cX0_remove 3 (some .int) :: ([.fieldLink RX0 23 "EntryTable" "entries" "I", .methodLink RX0 92 yX0_rankOf, .instanceMethod yX0_rankOf, .selects RX0 yX0_rankOf yX0_rankOf, .initialized RX0, .code yX0_rankOf cX0_rankOf 3 (some .int), .fieldLink RX0 33 "EntryTable" "numbers" "[I", .fieldLink RX0 20 "EntryTable" "order" "[I", .methodLink RX0 95 yX0_freeSlot, .instanceMethod yX0_freeSlot, .selects RX0 yX0_freeSlot yX0_freeSlot, .code yX0_freeSlot cX0_freeSlot 3 none, .methodLink RX0 123 arraycopyName, .native arraycopyName, .static arraycopyName, .initialized "java/lang/System"] ++ wsX00)
def wsX0_fits : List Cond := .code yX0_fits cX0_fits 6 (some .boolean) :: ([.fieldLink RX0 48 "EntryTable" "masks" "[J", .fieldLink RX0 45 "EntryTable" "values" "[J"] ++ wsX00)
def wsX0_find : List Cond := .code yX0_find cX0_find 9 (some .int) :: ([.fieldLink RX0 23 "EntryTable" "entries" "I", .fieldLink RX0 20 "EntryTable" "order" "[I", .fieldLink RX0 42 "EntryTable" "finds" "[I", .fieldLink RX0 33 "EntryTable" "numbers" "[I", .fieldLink RX0 30 "EntryTable" "misses" "I", .methodLink RX0 99 yX0_fits, .instanceMethod yX0_fits, .selects RX0 yX0_fits yX0_fits, .initialized RX0, .code yX0_fits cX0_fits 6 (some .boolean), .fieldLink RX0 48 "EntryTable" "masks" "[J", .fieldLink RX0 45 "EntryTable" "values" "[J"] ++ wsX00)
def wsX0_nth : List Cond := .code yX0_nth cX0_nth 2 (some .int) :: ([.fieldLink RX0 23 "EntryTable" "entries" "I", .fieldLink RX0 33 "EntryTable" "numbers" "[I", .fieldLink RX0 20 "EntryTable" "order" "[I"] ++ wsX00)
def wsX0_hits : List Cond := .code yX0_hits cX0_hits 3 (some .int) :: ([.fieldLink RX0 42 "EntryTable" "finds" "[I", .fieldLink RX0 20 "EntryTable" "order" "[I", .methodLink RX0 92 yX0_rankOf, .instanceMethod yX0_rankOf, .selects RX0 yX0_rankOf yX0_rankOf, .initialized RX0, .code yX0_rankOf cX0_rankOf 3 (some .int), .fieldLink RX0 23 "EntryTable" "entries" "I", .fieldLink RX0 33 "EntryTable" "numbers" "[I"] ++ wsX00)
def wsX0_count : List Cond := .code yX0_count cX0_count 2 (some .int) :: ([.fieldLink RX0 60 "EntryTable" "keys" "I", .fieldLink RX0 63 "EntryTable" "width" "I", .fieldLink RX0 23 "EntryTable" "entries" "I", .fieldLink RX0 30 "EntryTable" "misses" "I", .fieldLink RX0 9 "EntryTable" "kinds" "[I"] ++ wsX00)
def wsX1_init : List Cond := .code yX1_init cX1_init 7 none :: ([.methodLink RX1 1 objectInit, .instanceMethod objectInit, .code objectInit ⟨#[0xb1]⟩ 1 none, .arrayClass .int, .fieldLink RX1 7 "EntryTableModel" "kind" "[I", .fieldLink RX1 13 "EntryTableModel" "number" "[I", .fieldLink RX1 16 "EntryTableModel" "priority" "[I", .fieldLink RX1 19 "EntryTableModel" "hits" "[I", .arrayClass .long, .fieldLink RX1 22 "EntryTableModel" "value" "[J", .fieldLink RX1 26 "EntryTableModel" "mask" "[J", .fieldLink RX1 29 "EntryTableModel" "madeValue" "[J", .fieldLink RX1 32 "EntryTableModel" "madeMask" "[J", .fieldLink RX1 35 "EntryTableModel" "asked" "[J", .fieldLink RX1 38 "EntryTableModel" "keys" "I", .fieldLink RX1 42 "EntryTableModel" "width" "I"] ++ wsX10)
def wsX1_match : List Cond := .code yX1_match cX1_match 6 (some .int) :: ([.fieldLink RX1 29 "EntryTableModel" "madeValue" "[J", .fieldLink RX1 32 "EntryTableModel" "madeMask" "[J"] ++ wsX10)
def wsX1_fits : List Cond := .code yX1_fits cX1_fits 3 (some .boolean) :: ([.fieldLink RX1 42 "EntryTableModel" "width" "I"] ++ wsX10)
def wsX1_bits : List Cond := .code yX1_bits cX1_bits 3 (some .long) :: ([.fieldLink RX1 42 "EntryTableModel" "width" "I"] ++ wsX10)
def wsX1_good : List Cond := .code yX1_good cX1_good 2 (some .boolean) :: ([.fieldLink RX1 29 "EntryTableModel" "madeValue" "[J", .fieldLink RX1 7 "EntryTableModel" "kind" "[I", .fieldLink RX1 32 "EntryTableModel" "madeMask" "[J", .constantLong RX1 49 (-1), .fieldLink RX1 42 "EntryTableModel" "width" "I", .methodLink RX1 45 yX1_fits, .instanceMethod yX1_fits, .selects RX1 yX1_fits yX1_fits, .initialized RX1, .code yX1_fits cX1_fits 3 (some .boolean), .methodLink RX1 51 yX1_bits, .instanceMethod yX1_bits, .selects RX1 yX1_bits yX1_bits, .code yX1_bits cX1_bits 3 (some .long)] ++ wsX10)
def wsX1_like : List Cond := .code yX1_like cX1_like 5 (some .boolean) :: ([.fieldLink RX1 16 "EntryTableModel" "priority" "[I", .fieldLink RX1 38 "EntryTableModel" "keys" "I", .fieldLink RX1 22 "EntryTableModel" "value" "[J", .fieldLink RX1 29 "EntryTableModel" "madeValue" "[J", .fieldLink RX1 7 "EntryTableModel" "kind" "[I", .fieldLink RX1 26 "EntryTableModel" "mask" "[J", .fieldLink RX1 32 "EntryTableModel" "madeMask" "[J"] ++ wsX10)
def wsX1_insert_r1 : List Cond := [Cond.fieldLink RX1 38 "EntryTableModel" "keys" "I", Cond.fieldLink RX1 59 "EntryTableModel" "count" "I", Cond.fieldLink RX1 22 "EntryTableModel" "value" "[J", Cond.fieldLink RX1 29 "EntryTableModel" "madeValue" "[J", Cond.fieldLink RX1 26 "EntryTableModel" "mask" "[J", Cond.fieldLink RX1 32 "EntryTableModel" "madeMask" "[J", Cond.fieldLink RX1 13 "EntryTableModel" "number" "[I", Cond.fieldLink RX1 66 "EntryTableModel" "numbers" "I", Cond.fieldLink RX1 16 "EntryTableModel" "priority" "[I", Cond.fieldLink RX1 19 "EntryTableModel" "hits" "[I", Cond.methodLink RX1 55 yX1_good, Cond.instanceMethod yX1_good, Cond.selects RX1 yX1_good yX1_good, Cond.initialized RX1, Cond.code yX1_good cX1_good 2 (some .boolean), Cond.fieldLink RX1 7 "EntryTableModel" "kind" "[I", Cond.constantLong RX1 49 (-1), Cond.fieldLink RX1 42 "EntryTableModel" "width" "I", Cond.methodLink RX1 45 yX1_fits, Cond.instanceMethod yX1_fits, Cond.selects RX1 yX1_fits yX1_fits, Cond.code yX1_fits cX1_fits 3 (some .boolean), Cond.methodLink RX1 51 yX1_bits, Cond.instanceMethod yX1_bits]
def wsX1_insert_r2 : List Cond := [Cond.selects RX1 yX1_bits yX1_bits, Cond.code yX1_bits cX1_bits 3 (some .long), Cond.methodLink RX1 62 yX1_like, Cond.instanceMethod yX1_like, Cond.selects RX1 yX1_like yX1_like, Cond.code yX1_like cX1_like 5 (some .boolean)]
def wsX1_insert : List Cond := .code yX1_insert cX1_insert 3 (some .int) :: ((wsX1_insert_r1 ++ wsX1_insert_r2) ++ wsX10)
def wsX1_remove : List Cond := .code yX1_remove cX1_remove 5 (some .int) :: ([.fieldLink RX1 59 "EntryTableModel" "count" "I", .fieldLink RX1 13 "EntryTableModel" "number" "[I", .fieldLink RX1 16 "EntryTableModel" "priority" "[I", .fieldLink RX1 19 "EntryTableModel" "hits" "[I", .fieldLink RX1 22 "EntryTableModel" "value" "[J", .fieldLink RX1 26 "EntryTableModel" "mask" "[J"] ++ wsX10)
def wsJ9_max_7cf53 : List Cond := .code yJ9_max_7cf53 cJ9_max_7cf53 2 (some .int) :: ([])
def wsJ9_min_7cf53 : List Cond := .code yJ9_min_7cf53 cJ9_min_7cf53 2 (some .int) :: ([])
def wsL_cell : List Cond := .code yL_cell cL_cell 2 (some .int) :: ([])
def wsL_law_r1 : List Cond := [Cond.classLink RL 7 RX0, Cond.instantiable RX0 16, Cond.initialized RX0, Cond.classLink RL 18 RX1, Cond.instantiable RX1 14, Cond.initialized RX1, Cond.methodLink RL 9 yL_cell, Cond.static yL_cell, Cond.initialized RL, Cond.code yL_cell cL_cell 2 (some .int), Cond.methodLink RL 15 yX0_init, Cond.instanceMethod yX0_init, Cond.code yX0_init cX0_init 8 none, Cond.methodLink RX0 1 objectInit, Cond.instanceMethod objectInit, Cond.code objectInit ⟨#[0xb1]⟩ 1 none, Cond.arrayClass .int, Cond.fieldLink RX0 9 "EntryTable" "kinds" "[I", Cond.arrayClass .long, Cond.fieldLink RX0 13 "EntryTable" "draftValues" "[J", Cond.fieldLink RX0 17 "EntryTable" "draftMasks" "[J", Cond.fieldLink RX0 20 "EntryTable" "order" "[I", Cond.fieldLink RX0 23 "EntryTable" "entries" "I", Cond.fieldLink RX0 27 "EntryTable" "nextNumber" "I"]
def wsL_law_r2 : List Cond := [Cond.fieldLink RX0 30 "EntryTable" "misses" "I", Cond.fieldLink RX0 33 "EntryTable" "numbers" "[I", Cond.fieldLink RX0 36 "EntryTable" "priorities" "[I", Cond.fieldLink RX0 39 "EntryTable" "prefixes" "[I", Cond.fieldLink RX0 42 "EntryTable" "finds" "[I", Cond.fieldLink RX0 45 "EntryTable" "values" "[J", Cond.fieldLink RX0 48 "EntryTable" "masks" "[J", Cond.methodLink RX0 51 Lib.Math.min.name, Cond.static Lib.Math.min.name, Cond.initialized "java/lang/Math", Cond.code Lib.Math.min.name Lib.Math.min.code 2 (some .int), Cond.methodLink RX0 57 Lib.Math.max.name, Cond.static Lib.Math.max.name, Cond.code Lib.Math.max.name Lib.Math.max.code 2 (some .int), Cond.fieldLink RX0 60 "EntryTable" "keys" "I", Cond.fieldLink RX0 63 "EntryTable" "width" "I", Cond.fieldLink RX0 66 "EntryTable" "allBits" "J", Cond.methodLink RL 20 yX1_init, Cond.instanceMethod yX1_init, Cond.code yX1_init cX1_init 7 none, Cond.methodLink RX1 1 objectInit, Cond.fieldLink RX1 7 "EntryTableModel" "kind" "[I", Cond.fieldLink RX1 13 "EntryTableModel" "number" "[I", Cond.fieldLink RX1 16 "EntryTableModel" "priority" "[I"]
def wsL_law_r3 : List Cond := [Cond.fieldLink RX1 19 "EntryTableModel" "hits" "[I", Cond.fieldLink RX1 22 "EntryTableModel" "value" "[J", Cond.fieldLink RX1 26 "EntryTableModel" "mask" "[J", Cond.fieldLink RX1 29 "EntryTableModel" "madeValue" "[J", Cond.fieldLink RX1 32 "EntryTableModel" "madeMask" "[J", Cond.fieldLink RX1 35 "EntryTableModel" "asked" "[J", Cond.fieldLink RX1 38 "EntryTableModel" "keys" "I", Cond.fieldLink RX1 42 "EntryTableModel" "width" "I", Cond.methodLink RL 23 yX0_match, Cond.instanceMethod yX0_match, Cond.selects RX0 yX0_match yX0_match, Cond.code yX0_match cX0_match 6 (some .int), Cond.methodLink RL 27 yX1_match, Cond.instanceMethod yX1_match, Cond.selects RX1 yX1_match yX1_match, Cond.code yX1_match cX1_match 6 (some .int), Cond.methodLink RL 28 yX0_insert, Cond.instanceMethod yX0_insert, Cond.selects RX0 yX0_insert yX0_insert, Cond.code yX0_insert cX0_insert 3 (some .int), Cond.methodLink RX0 70 yX0_isDraftSound, Cond.instanceMethod yX0_isDraftSound, Cond.selects RX0 yX0_isDraftSound yX0_isDraftSound, Cond.code yX0_isDraftSound cX0_isDraftSound 2 (some .boolean)]
def wsL_law_r4 : List Cond := [Cond.methodLink RX0 103 yX0_isDraftKeySound, Cond.instanceMethod yX0_isDraftKeySound, Cond.selects RX0 yX0_isDraftKeySound yX0_isDraftKeySound, Cond.code yX0_isDraftKeySound cX0_isDraftKeySound 3 (some .boolean), Cond.constantLong RX0 114 (-1), Cond.methodLink RX0 106 yX0_isNumber, Cond.instanceMethod yX0_isNumber, Cond.selects RX0 yX0_isNumber yX0_isNumber, Cond.code yX0_isNumber cX0_isNumber 3 (some .boolean), Cond.methodLink RX0 110 yX0_draftBits, Cond.instanceMethod yX0_draftBits, Cond.selects RX0 yX0_draftBits yX0_draftBits, Cond.code yX0_draftBits cX0_draftBits 2 (some .long), Cond.methodLink RX0 74 yX0_isDraftThere, Cond.instanceMethod yX0_isDraftThere, Cond.selects RX0 yX0_isDraftThere yX0_isDraftThere, Cond.code yX0_isDraftThere cX0_isDraftThere 4 (some .boolean), Cond.methodLink RX0 116 yX0_isDraftIn, Cond.instanceMethod yX0_isDraftIn, Cond.selects RX0 yX0_isDraftIn yX0_isDraftIn, Cond.code yX0_isDraftIn cX0_isDraftIn 4 (some .boolean), Cond.methodLink RX0 78 yX0_rankForDraft, Cond.instanceMethod yX0_rankForDraft, Cond.selects RX0 yX0_rankForDraft yX0_rankForDraft]
def wsL_law_r5 : List Cond := [Cond.code yX0_rankForDraft cX0_rankForDraft 5 (some .int), Cond.methodLink RX0 119 yX0_draftPrefix, Cond.instanceMethod yX0_draftPrefix, Cond.selects RX0 yX0_draftPrefix yX0_draftPrefix, Cond.code yX0_draftPrefix cX0_draftPrefix 2 (some .int), Cond.methodLink RX0 82 yX0_takeSlot, Cond.instanceMethod yX0_takeSlot, Cond.selects RX0 yX0_takeSlot yX0_takeSlot, Cond.code yX0_takeSlot cX0_takeSlot 3 (some .int), Cond.methodLink RX0 123 arraycopyName, Cond.native arraycopyName, Cond.static arraycopyName, Cond.initialized "java/lang/System", Cond.methodLink RX0 85 yX0_fillSlot, Cond.instanceMethod yX0_fillSlot, Cond.selects RX0 yX0_fillSlot yX0_fillSlot, Cond.code yX0_fillSlot cX0_fillSlot 4 none, Cond.methodLink RX0 89 yX0_clearDraft, Cond.instanceMethod yX0_clearDraft, Cond.selects RX0 yX0_clearDraft yX0_clearDraft, Cond.code yX0_clearDraft cX0_clearDraft 2 none, Cond.methodLink RL 32 yX1_insert, Cond.instanceMethod yX1_insert, Cond.selects RX1 yX1_insert yX1_insert]
def wsL_law_r6 : List Cond := [Cond.code yX1_insert cX1_insert 3 (some .int), Cond.fieldLink RX1 59 "EntryTableModel" "count" "I", Cond.fieldLink RX1 66 "EntryTableModel" "numbers" "I", Cond.methodLink RX1 55 yX1_good, Cond.instanceMethod yX1_good, Cond.selects RX1 yX1_good yX1_good, Cond.code yX1_good cX1_good 2 (some .boolean), Cond.constantLong RX1 49 (-1), Cond.methodLink RX1 45 yX1_fits, Cond.instanceMethod yX1_fits, Cond.selects RX1 yX1_fits yX1_fits, Cond.code yX1_fits cX1_fits 3 (some .boolean), Cond.methodLink RX1 51 yX1_bits, Cond.instanceMethod yX1_bits, Cond.selects RX1 yX1_bits yX1_bits, Cond.code yX1_bits cX1_bits 3 (some .long), Cond.methodLink RX1 62 yX1_like, Cond.instanceMethod yX1_like, Cond.selects RX1 yX1_like yX1_like, Cond.code yX1_like cX1_like 5 (some .boolean), Cond.methodLink RL 33 yX0_remove, Cond.instanceMethod yX0_remove, Cond.selects RX0 yX0_remove yX0_remove, Cond.code yX0_remove cX0_remove 3 (some .int)]
def wsL_law_r7 : List Cond := [Cond.methodLink RX0 92 yX0_rankOf, Cond.instanceMethod yX0_rankOf, Cond.selects RX0 yX0_rankOf yX0_rankOf, Cond.code yX0_rankOf cX0_rankOf 3 (some .int), Cond.methodLink RX0 95 yX0_freeSlot, Cond.instanceMethod yX0_freeSlot, Cond.selects RX0 yX0_freeSlot yX0_freeSlot, Cond.code yX0_freeSlot cX0_freeSlot 3 none, Cond.methodLink RL 36 yX1_remove, Cond.instanceMethod yX1_remove, Cond.selects RX1 yX1_remove yX1_remove, Cond.code yX1_remove cX1_remove 5 (some .int), Cond.methodLink RL 37 yX0_find, Cond.instanceMethod yX0_find, Cond.selects RX0 yX0_find yX0_find, Cond.code yX0_find cX0_find 9 (some .int), Cond.methodLink RX0 99 yX0_fits, Cond.instanceMethod yX0_fits, Cond.selects RX0 yX0_fits yX0_fits, Cond.code yX0_fits cX0_fits 6 (some .boolean), Cond.methodLink RL 42 yX0_nth, Cond.instanceMethod yX0_nth, Cond.selects RX0 yX0_nth yX0_nth, Cond.code yX0_nth cX0_nth 2 (some .int)]
def wsL_law_r8 : List Cond := [Cond.methodLink RL 46 yX0_hits, Cond.instanceMethod yX0_hits, Cond.selects RX0 yX0_hits yX0_hits, Cond.code yX0_hits cX0_hits 3 (some .int), Cond.methodLink RL 50 yX0_count, Cond.instanceMethod yX0_count, Cond.selects RX0 yX0_count yX0_count, Cond.code yX0_count cX0_count 2 (some .int)]
def wsL_law : List Cond := (wsL_law_r1 ++ (wsL_law_r2 ++ (wsL_law_r3 ++ (wsL_law_r4 ++ (wsL_law_r5 ++ (wsL_law_r6 ++ (wsL_law_r7 ++ wsL_law_r8))))))) ++ wsX00 ++ wsX10 ++ ([] : List Cond)
set_option maxRecDepth 20000 in
theorem wsL_law_in : ∀ w ∈ wsL_law, w ∈ lw_tbl := fun w h => (goodIn_p wsL_law [182, 31, 34, 37, 40, 187, 95, 235, 99, 103, 107, 111, 115, 120, 124, 128, 132, 136, 143, 147, 239, 243, 247, 252, 256, 151, 155, 159, 260, 163, 167, 171, 175, 179] (by decide +kernel) (by decide +kernel) w h).1
theorem inlX0 : ∀ w ∈ wsX00, w ∈ wsL_law := fun _ h => List.mem_append_left _ (List.mem_append_left _ (List.mem_append_right _ h))
theorem inX0 : ∀ w ∈ wsX00, w ∈ lw_tbl := fun w h => wsL_law_in w (inlX0 w h)
theorem inlX1 : ∀ w ∈ wsX10, w ∈ wsL_law := fun _ h => List.mem_append_left _ (List.mem_append_right _ h)
theorem inX1 : ∀ w ∈ wsX10, w ∈ lw_tbl := fun w h => wsL_law_in w (inlX1 w h)
theorem inJ9 : ∀ w ∈ wsJ90, w ∈ lw_tbl := by decide +kernel
theorem inJ10 : ∀ w ∈ wsJ100, w ∈ lw_tbl := by decide +kernel
theorem dX0_init_0 : decode cX0_init 0 = .ok (.aload_n 0, 1) := by decide +kernel
theorem dX0_init_1 : decode cX0_init 1 = .ok (.invokespecial 1, 3) := by decide +kernel
theorem dX0_init_4 : decode cX0_init 4 = .ok (.aload_n 0, 1) := by decide +kernel
theorem dX0_init_5 : decode cX0_init 5 = .ok (.iconst 3, 1) := by decide +kernel
theorem dX0_init_6 : decode cX0_init 6 = .ok (.newarray .int, 2) := by decide +kernel
theorem dX0_init_8 : decode cX0_init 8 = .ok (.putfield 9, 3) := by decide +kernel
theorem dX0_init_11 : decode cX0_init 11 = .ok (.aload_n 0, 1) := by decide +kernel
theorem dX0_init_12 : decode cX0_init 12 = .ok (.iconst 3, 1) := by decide +kernel
theorem dX0_init_13 : decode cX0_init 13 = .ok (.newarray .long, 2) := by decide +kernel
theorem dX0_init_15 : decode cX0_init 15 = .ok (.putfield 13, 3) := by decide +kernel
theorem dX0_init_18 : decode cX0_init 18 = .ok (.aload_n 0, 1) := by decide +kernel
theorem dX0_init_19 : decode cX0_init 19 = .ok (.iconst 3, 1) := by decide +kernel
theorem dX0_init_20 : decode cX0_init 20 = .ok (.newarray .long, 2) := by decide +kernel
theorem dX0_init_22 : decode cX0_init 22 = .ok (.putfield 17, 3) := by decide +kernel
theorem dX0_init_25 : decode cX0_init 25 = .ok (.aload_n 0, 1) := by decide +kernel
theorem dX0_init_26 : decode cX0_init 26 = .ok (.bipush 24, 2) := by decide +kernel
theorem dX0_init_28 : decode cX0_init 28 = .ok (.newarray .int, 2) := by decide +kernel
theorem dX0_init_30 : decode cX0_init 30 = .ok (.putfield 20, 3) := by decide +kernel
theorem dX0_init_33 : decode cX0_init 33 = .ok (.aload_n 0, 1) := by decide +kernel
theorem dX0_init_34 : decode cX0_init 34 = .ok (.iconst 0, 1) := by decide +kernel
theorem dX0_init_35 : decode cX0_init 35 = .ok (.putfield 23, 3) := by decide +kernel
theorem dX0_init_38 : decode cX0_init 38 = .ok (.aload_n 0, 1) := by decide +kernel
theorem dX0_init_39 : decode cX0_init 39 = .ok (.iconst 0, 1) := by decide +kernel
theorem dX0_init_40 : decode cX0_init 40 = .ok (.putfield 27, 3) := by decide +kernel
theorem dX0_init_43 : decode cX0_init 43 = .ok (.aload_n 0, 1) := by decide +kernel
theorem dX0_init_44 : decode cX0_init 44 = .ok (.iconst 0, 1) := by decide +kernel
theorem dX0_init_45 : decode cX0_init 45 = .ok (.putfield 30, 3) := by decide +kernel
theorem dX0_init_48 : decode cX0_init 48 = .ok (.aload_n 0, 1) := by decide +kernel
theorem dX0_init_49 : decode cX0_init 49 = .ok (.bipush 24, 2) := by decide +kernel
theorem dX0_init_51 : decode cX0_init 51 = .ok (.newarray .int, 2) := by decide +kernel
theorem dX0_init_53 : decode cX0_init 53 = .ok (.putfield 33, 3) := by decide +kernel
theorem dX0_init_56 : decode cX0_init 56 = .ok (.aload_n 0, 1) := by decide +kernel
theorem dX0_init_57 : decode cX0_init 57 = .ok (.bipush 24, 2) := by decide +kernel
theorem dX0_init_59 : decode cX0_init 59 = .ok (.newarray .int, 2) := by decide +kernel
theorem dX0_init_61 : decode cX0_init 61 = .ok (.putfield 36, 3) := by decide +kernel
theorem dX0_init_64 : decode cX0_init 64 = .ok (.aload_n 0, 1) := by decide +kernel
theorem dX0_init_65 : decode cX0_init 65 = .ok (.bipush 24, 2) := by decide +kernel
theorem dX0_init_67 : decode cX0_init 67 = .ok (.newarray .int, 2) := by decide +kernel
theorem dX0_init_69 : decode cX0_init 69 = .ok (.putfield 39, 3) := by decide +kernel
theorem dX0_init_72 : decode cX0_init 72 = .ok (.aload_n 0, 1) := by decide +kernel
theorem dX0_init_73 : decode cX0_init 73 = .ok (.bipush 24, 2) := by decide +kernel
theorem dX0_init_75 : decode cX0_init 75 = .ok (.newarray .int, 2) := by decide +kernel
theorem dX0_init_77 : decode cX0_init 77 = .ok (.putfield 42, 3) := by decide +kernel
theorem dX0_init_80 : decode cX0_init 80 = .ok (.aload_n 0, 1) := by decide +kernel
theorem dX0_init_81 : decode cX0_init 81 = .ok (.bipush 72, 2) := by decide +kernel
theorem dX0_init_83 : decode cX0_init 83 = .ok (.newarray .long, 2) := by decide +kernel
theorem dX0_init_85 : decode cX0_init 85 = .ok (.putfield 45, 3) := by decide +kernel
theorem dX0_init_88 : decode cX0_init 88 = .ok (.aload_n 0, 1) := by decide +kernel
theorem dX0_init_89 : decode cX0_init 89 = .ok (.bipush 72, 2) := by decide +kernel
theorem dX0_init_91 : decode cX0_init 91 = .ok (.newarray .long, 2) := by decide +kernel
theorem dX0_init_93 : decode cX0_init 93 = .ok (.putfield 48, 3) := by decide +kernel
theorem dX0_init_96 : decode cX0_init 96 = .ok (.aload_n 0, 1) := by decide +kernel
theorem dX0_init_97 : decode cX0_init 97 = .ok (.iconst 1, 1) := by decide +kernel
theorem dX0_init_98 : decode cX0_init 98 = .ok (.iconst 3, 1) := by decide +kernel
theorem dX0_init_99 : decode cX0_init 99 = .ok (.iload_n 1, 1) := by decide +kernel
theorem dX0_init_100 : decode cX0_init 100 = .ok (.invokestatic 51, 3) := by decide +kernel
theorem dX0_init_103 : decode cX0_init 103 = .ok (.invokestatic 57, 3) := by decide +kernel
theorem dX0_init_106 : decode cX0_init 106 = .ok (.putfield 60, 3) := by decide +kernel
theorem dX0_init_109 : decode cX0_init 109 = .ok (.aload_n 0, 1) := by decide +kernel
theorem dX0_init_110 : decode cX0_init 110 = .ok (.iconst 1, 1) := by decide +kernel
theorem dX0_init_111 : decode cX0_init 111 = .ok (.bipush 48, 2) := by decide +kernel
theorem dX0_init_113 : decode cX0_init 113 = .ok (.iload_n 3, 1) := by decide +kernel
theorem dX0_init_114 : decode cX0_init 114 = .ok (.invokestatic 51, 3) := by decide +kernel
theorem dX0_init_117 : decode cX0_init 117 = .ok (.invokestatic 57, 3) := by decide +kernel
theorem dX0_init_120 : decode cX0_init 120 = .ok (.putfield 63, 3) := by decide +kernel
theorem dX0_init_123 : decode cX0_init 123 = .ok (.aload_n 0, 1) := by decide +kernel
theorem dX0_init_124 : decode cX0_init 124 = .ok (.lconst 1, 1) := by decide +kernel
theorem dX0_init_125 : decode cX0_init 125 = .ok (.aload_n 0, 1) := by decide +kernel
theorem dX0_init_126 : decode cX0_init 126 = .ok (.getfield 63, 3) := by decide +kernel
theorem dX0_init_129 : decode cX0_init 129 = .ok (.lshl, 1) := by decide +kernel
theorem dX0_init_130 : decode cX0_init 130 = .ok (.lconst 1, 1) := by decide +kernel
theorem dX0_init_131 : decode cX0_init 131 = .ok (.lsub, 1) := by decide +kernel
theorem dX0_init_132 : decode cX0_init 132 = .ok (.putfield 66, 3) := by decide +kernel
theorem dX0_init_135 : decode cX0_init 135 = .ok (.iconst 0, 1) := by decide +kernel
theorem dX0_init_136 : decode cX0_init 136 = .ok (.iload_n 2, 1) := by decide +kernel
theorem dX0_init_137 : decode cX0_init 137 = .ok (.invokestatic 57, 3) := by decide +kernel
theorem dX0_init_140 : decode cX0_init 140 = .ok (.istore 4, 2) := by decide +kernel
theorem dX0_init_142 : decode cX0_init 142 = .ok (.iconst 0, 1) := by decide +kernel
theorem dX0_init_143 : decode cX0_init 143 = .ok (.istore 5, 2) := by decide +kernel
theorem dX0_init_145 : decode cX0_init 145 = .ok (.iconst 0, 1) := by decide +kernel
theorem dX0_init_146 : decode cX0_init 146 = .ok (.istore 6, 2) := by decide +kernel
theorem dX0_init_148 : decode cX0_init 148 = .ok (.iload 6, 2) := by decide +kernel
theorem dX0_init_150 : decode cX0_init 150 = .ok (.iconst 3, 1) := by decide +kernel
theorem dX0_init_151 : decode cX0_init 151 = .ok (.if_icmp .ge 63, 3) := by decide +kernel
theorem dX0_init_154 : decode cX0_init 154 = .ok (.iload 4, 2) := by decide +kernel
theorem dX0_init_156 : decode cX0_init 156 = .ok (.iconst 3, 1) := by decide +kernel
theorem dX0_init_157 : decode cX0_init 157 = .ok (.irem, 1) := by decide +kernel
theorem dX0_init_158 : decode cX0_init 158 = .ok (.istore 7, 2) := by decide +kernel
theorem dX0_init_160 : decode cX0_init 160 = .ok (.iload 4, 2) := by decide +kernel
theorem dX0_init_162 : decode cX0_init 162 = .ok (.iconst 3, 1) := by decide +kernel
theorem dX0_init_163 : decode cX0_init 163 = .ok (.idiv, 1) := by decide +kernel
theorem dX0_init_164 : decode cX0_init 164 = .ok (.istore 4, 2) := by decide +kernel
theorem dX0_init_166 : decode cX0_init 166 = .ok (.aload_n 0, 1) := by decide +kernel
theorem dX0_init_167 : decode cX0_init 167 = .ok (.getfield 9, 3) := by decide +kernel
theorem dX0_init_170 : decode cX0_init 170 = .ok (.iload 6, 2) := by decide +kernel
theorem dX0_init_172 : decode cX0_init 172 = .ok (.iload 7, 2) := by decide +kernel
theorem dX0_init_174 : decode cX0_init 174 = .ok (.iconst 1, 1) := by decide +kernel
theorem dX0_init_175 : decode cX0_init 175 = .ok (.if_icmp .ne 12, 3) := by decide +kernel
theorem dX0_init_178 : decode cX0_init 178 = .ok (.iload 5, 2) := by decide +kernel
theorem dX0_init_180 : decode cX0_init 180 = .ok (.ifCond .eq 7, 3) := by decide +kernel
theorem dX0_init_183 : decode cX0_init 183 = .ok (.iconst 0, 1) := by decide +kernel
theorem dX0_init_184 : decode cX0_init 184 = .ok (.goto 5, 3) := by decide +kernel
theorem dX0_init_187 : decode cX0_init 187 = .ok (.iload 7, 2) := by decide +kernel
theorem dX0_init_189 : decode cX0_init 189 = .ok (.iastore, 1) := by decide +kernel
theorem dX0_init_190 : decode cX0_init 190 = .ok (.iload 5, 2) := by decide +kernel
theorem dX0_init_192 : decode cX0_init 192 = .ok (.ifCond .ne 9, 3) := by decide +kernel
theorem dX0_init_195 : decode cX0_init 195 = .ok (.iload 7, 2) := by decide +kernel
theorem dX0_init_197 : decode cX0_init 197 = .ok (.iconst 1, 1) := by decide +kernel
theorem dX0_init_198 : decode cX0_init 198 = .ok (.if_icmp .ne 7, 3) := by decide +kernel
theorem dX0_init_201 : decode cX0_init 201 = .ok (.iconst 1, 1) := by decide +kernel
theorem dX0_init_202 : decode cX0_init 202 = .ok (.goto 4, 3) := by decide +kernel
theorem dX0_init_205 : decode cX0_init 205 = .ok (.iconst 0, 1) := by decide +kernel
theorem dX0_init_206 : decode cX0_init 206 = .ok (.istore 5, 2) := by decide +kernel
theorem dX0_init_208 : decode cX0_init 208 = .ok (.iinc 6 1, 3) := by decide +kernel
theorem dX0_init_211 : decode cX0_init 211 = .ok (.goto (-63), 3) := by decide +kernel
theorem dX0_init_214 : decode cX0_init 214 = .ok (.iconst 0, 1) := by decide +kernel
theorem dX0_init_215 : decode cX0_init 215 = .ok (.istore 6, 2) := by decide +kernel
theorem dX0_init_217 : decode cX0_init 217 = .ok (.iload 6, 2) := by decide +kernel
theorem dX0_init_219 : decode cX0_init 219 = .ok (.bipush 24, 2) := by decide +kernel
theorem dX0_init_221 : decode cX0_init 221 = .ok (.if_icmp .ge 18, 3) := by decide +kernel
theorem dX0_init_224 : decode cX0_init 224 = .ok (.aload_n 0, 1) := by decide +kernel
theorem dX0_init_225 : decode cX0_init 225 = .ok (.getfield 20, 3) := by decide +kernel
theorem dX0_init_228 : decode cX0_init 228 = .ok (.iload 6, 2) := by decide +kernel
theorem dX0_init_230 : decode cX0_init 230 = .ok (.iload 6, 2) := by decide +kernel
theorem dX0_init_232 : decode cX0_init 232 = .ok (.iastore, 1) := by decide +kernel
theorem dX0_init_233 : decode cX0_init 233 = .ok (.iinc 6 1, 3) := by decide +kernel
theorem dX0_init_236 : decode cX0_init 236 = .ok (.goto (-19), 3) := by decide +kernel
theorem dX0_init_239 : decode cX0_init 239 = .ok (.return_, 1) := by decide +kernel
theorem dX0_match_0 : decode cX0_match 0 = .ok (.iload_n 1, 1) := by decide +kernel
theorem dX0_match_1 : decode cX0_match 1 = .ok (.ifCond .lt 8, 3) := by decide +kernel
theorem dX0_match_4 : decode cX0_match 4 = .ok (.iload_n 1, 1) := by decide +kernel
theorem dX0_match_5 : decode cX0_match 5 = .ok (.iconst 3, 1) := by decide +kernel
theorem dX0_match_6 : decode cX0_match 6 = .ok (.if_icmp .lt 5, 3) := by decide +kernel
theorem dX0_match_9 : decode cX0_match 9 = .ok (.iconst (-1), 1) := by decide +kernel
theorem dX0_match_10 : decode cX0_match 10 = .ok (.ireturn, 1) := by decide +kernel
theorem dX0_match_11 : decode cX0_match 11 = .ok (.aload_n 0, 1) := by decide +kernel
theorem dX0_match_12 : decode cX0_match 12 = .ok (.getfield 13, 3) := by decide +kernel
theorem dX0_match_15 : decode cX0_match 15 = .ok (.iload_n 1, 1) := by decide +kernel
theorem dX0_match_16 : decode cX0_match 16 = .ok (.lload_n 2, 1) := by decide +kernel
theorem dX0_match_17 : decode cX0_match 17 = .ok (.lastore, 1) := by decide +kernel
theorem dX0_match_18 : decode cX0_match 18 = .ok (.aload_n 0, 1) := by decide +kernel
theorem dX0_match_19 : decode cX0_match 19 = .ok (.getfield 17, 3) := by decide +kernel
theorem dX0_match_22 : decode cX0_match 22 = .ok (.iload_n 1, 1) := by decide +kernel
theorem dX0_match_23 : decode cX0_match 23 = .ok (.lload 4, 2) := by decide +kernel
theorem dX0_match_25 : decode cX0_match 25 = .ok (.lastore, 1) := by decide +kernel
theorem dX0_match_26 : decode cX0_match 26 = .ok (.iload_n 1, 1) := by decide +kernel
theorem dX0_match_27 : decode cX0_match 27 = .ok (.ireturn, 1) := by decide +kernel
set_option maxRecDepth 20000 in
theorem ggX0_insert_X0_isDraftSound : GoodIn wsX0_insert wsX0_isDraftSound := goodIn_r _ [7, 8, 9, 10, 11, 6, 12, 13, 14, 15, 16, 17, 18, 19, 20, 21, 22, 23, 24, 25, 26, 66, 67, 68, 69, 70, 71, 72, 73, 74, 75, 76, 77, 78, 79, 80, 81] (by decide +kernel) (by decide +kernel)
set_option maxRecDepth 20000 in
theorem gX0_insert_X0_isDraftSound : GoodIn wsX0_insert (wsV RX0 70 RX0 yX0_isDraftSound wsX0_isDraftSound) := goodIn_app (goodIn_of _ (by decide +kernel)) ggX0_insert_X0_isDraftSound
set_option maxRecDepth 20000 in
theorem ggX0_insert_X0_isDraftThere : GoodIn wsX0_insert wsX0_isDraftThere := goodIn_r _ [30, 1, 31, 32, 33, 34, 35, 6, 36, 8, 37, 13, 38, 23, 24, 25, 26, 14, 22, 15, 66, 67, 68, 69, 70, 71, 72, 73, 74, 75, 76, 77, 78, 79, 80, 81] (by decide +kernel) (by decide +kernel)
set_option maxRecDepth 20000 in
theorem gX0_insert_X0_isDraftThere : GoodIn wsX0_insert (wsV RX0 74 RX0 yX0_isDraftThere wsX0_isDraftThere) := goodIn_app (goodIn_of _ (by decide +kernel)) ggX0_insert_X0_isDraftThere
set_option maxRecDepth 20000 in
theorem ggX0_insert_X0_rankForDraft : GoodIn wsX0_insert wsX0_rankForDraft := goodIn_r _ [42, 1, 31, 43, 32, 44, 45, 46, 6, 47, 8, 14, 15, 66, 67, 68, 69, 70, 71, 72, 73, 74, 75, 76, 77, 78, 79, 80, 81] (by decide +kernel) (by decide +kernel)
set_option maxRecDepth 20000 in
theorem gX0_insert_X0_rankForDraft : GoodIn wsX0_insert (wsV RX0 78 RX0 yX0_rankForDraft wsX0_rankForDraft) := goodIn_app (goodIn_of _ (by decide +kernel)) ggX0_insert_X0_rankForDraft
set_option maxRecDepth 20000 in
theorem ggX0_insert_X0_takeSlot : GoodIn wsX0_insert wsX0_takeSlot := goodIn_r _ [51, 31, 1, 52, 53, 54, 55, 66, 67, 68, 69, 70, 71, 72, 73, 74, 75, 76, 77, 78, 79, 80, 81] (by decide +kernel) (by decide +kernel)
set_option maxRecDepth 20000 in
theorem gX0_insert_X0_takeSlot : GoodIn wsX0_insert (wsV RX0 82 RX0 yX0_takeSlot wsX0_takeSlot) := goodIn_app (goodIn_of _ (by decide +kernel)) ggX0_insert_X0_takeSlot
set_option maxRecDepth 20000 in
theorem ggX0_insert_X0_fillSlot : GoodIn wsX0_insert wsX0_fillSlot := goodIn_r _ [59, 2, 60, 32, 43, 61, 8, 37, 13, 38, 44, 45, 46, 6, 47, 14, 15, 23, 24, 25, 26, 22, 66, 67, 68, 69, 70, 71, 72, 73, 74, 75, 76, 77, 78, 79, 80, 81] (by decide +kernel) (by decide +kernel)
set_option maxRecDepth 20000 in
theorem gX0_insert_X0_fillSlot : GoodIn wsX0_insert (wsV RX0 85 RX0 yX0_fillSlot wsX0_fillSlot) := goodIn_app (goodIn_of _ (by decide +kernel)) ggX0_insert_X0_fillSlot
set_option maxRecDepth 20000 in
theorem ggX0_insert_X0_clearDraft : GoodIn wsX0_insert wsX0_clearDraft := goodIn_r _ [65, 13, 15, 66, 67, 68, 69, 70, 71, 72, 73, 74, 75, 76, 77, 78, 79, 80, 81] (by decide +kernel) (by decide +kernel)
set_option maxRecDepth 20000 in
theorem gX0_insert_X0_clearDraft : GoodIn wsX0_insert (wsV RX0 89 RX0 yX0_clearDraft wsX0_clearDraft) := goodIn_app (goodIn_of _ (by decide +kernel)) ggX0_insert_X0_clearDraft
theorem dX0_insert_0 : decode cX0_insert 0 = .ok (.aload_n 0, 1) := by decide +kernel
theorem dX0_insert_1 : decode cX0_insert 1 = .ok (.invokevirtual 70, 3) := by decide +kernel
theorem dX0_insert_4 : decode cX0_insert 4 = .ok (.ifCond .ne 5, 3) := by decide +kernel
theorem dX0_insert_7 : decode cX0_insert 7 = .ok (.iconst (-1), 1) := by decide +kernel
theorem dX0_insert_8 : decode cX0_insert 8 = .ok (.ireturn, 1) := by decide +kernel
theorem dX0_insert_9 : decode cX0_insert 9 = .ok (.aload_n 0, 1) := by decide +kernel
theorem dX0_insert_10 : decode cX0_insert 10 = .ok (.iload_n 1, 1) := by decide +kernel
theorem dX0_insert_11 : decode cX0_insert 11 = .ok (.invokevirtual 74, 3) := by decide +kernel
theorem dX0_insert_14 : decode cX0_insert 14 = .ok (.ifCond .eq 6, 3) := by decide +kernel
theorem dX0_insert_17 : decode cX0_insert 17 = .ok (.bipush (-4), 2) := by decide +kernel
theorem dX0_insert_19 : decode cX0_insert 19 = .ok (.ireturn, 1) := by decide +kernel
theorem dX0_insert_20 : decode cX0_insert 20 = .ok (.aload_n 0, 1) := by decide +kernel
theorem dX0_insert_21 : decode cX0_insert 21 = .ok (.getfield 23, 3) := by decide +kernel
theorem dX0_insert_24 : decode cX0_insert 24 = .ok (.bipush 24, 2) := by decide +kernel
theorem dX0_insert_26 : decode cX0_insert 26 = .ok (.if_icmp .lt 6, 3) := by decide +kernel
theorem dX0_insert_29 : decode cX0_insert 29 = .ok (.bipush (-3), 2) := by decide +kernel
theorem dX0_insert_31 : decode cX0_insert 31 = .ok (.ireturn, 1) := by decide +kernel
theorem dX0_insert_32 : decode cX0_insert 32 = .ok (.aload_n 0, 1) := by decide +kernel
theorem dX0_insert_33 : decode cX0_insert 33 = .ok (.aload_n 0, 1) := by decide +kernel
theorem dX0_insert_34 : decode cX0_insert 34 = .ok (.iload_n 1, 1) := by decide +kernel
theorem dX0_insert_35 : decode cX0_insert 35 = .ok (.invokevirtual 78, 3) := by decide +kernel
theorem dX0_insert_38 : decode cX0_insert 38 = .ok (.invokevirtual 82, 3) := by decide +kernel
theorem dX0_insert_41 : decode cX0_insert 41 = .ok (.istore_n 2, 1) := by decide +kernel
theorem dX0_insert_42 : decode cX0_insert 42 = .ok (.aload_n 0, 1) := by decide +kernel
theorem dX0_insert_43 : decode cX0_insert 43 = .ok (.iload_n 2, 1) := by decide +kernel
theorem dX0_insert_44 : decode cX0_insert 44 = .ok (.iload_n 1, 1) := by decide +kernel
theorem dX0_insert_45 : decode cX0_insert 45 = .ok (.invokevirtual 85, 3) := by decide +kernel
theorem dX0_insert_48 : decode cX0_insert 48 = .ok (.aload_n 0, 1) := by decide +kernel
theorem dX0_insert_49 : decode cX0_insert 49 = .ok (.invokevirtual 89, 3) := by decide +kernel
theorem dX0_insert_52 : decode cX0_insert 52 = .ok (.aload_n 0, 1) := by decide +kernel
theorem dX0_insert_53 : decode cX0_insert 53 = .ok (.getfield 33, 3) := by decide +kernel
theorem dX0_insert_56 : decode cX0_insert 56 = .ok (.iload_n 2, 1) := by decide +kernel
theorem dX0_insert_57 : decode cX0_insert 57 = .ok (.iaload, 1) := by decide +kernel
theorem dX0_insert_58 : decode cX0_insert 58 = .ok (.ireturn, 1) := by decide +kernel
set_option maxRecDepth 20000 in
theorem ggX0_remove_X0_rankOf : GoodIn wsX0_remove wsX0_rankOf := goodIn_r _ [6, 1, 7, 8, 17, 18, 19, 20, 21, 22, 23, 24, 25, 26, 27, 28, 29, 30, 31, 32] (by decide +kernel) (by decide +kernel)
set_option maxRecDepth 20000 in
theorem gX0_remove_X0_rankOf : GoodIn wsX0_remove (wsV RX0 92 RX0 yX0_rankOf wsX0_rankOf) := goodIn_app (goodIn_of _ (by decide +kernel)) ggX0_remove_X0_rankOf
set_option maxRecDepth 20000 in
theorem ggX0_remove_X0_freeSlot : GoodIn wsX0_remove wsX0_freeSlot := goodIn_r _ [12, 8, 1, 13, 14, 15, 16, 17, 18, 19, 20, 21, 22, 23, 24, 25, 26, 27, 28, 29, 30, 31, 32] (by decide +kernel) (by decide +kernel)
set_option maxRecDepth 20000 in
theorem gX0_remove_X0_freeSlot : GoodIn wsX0_remove (wsV RX0 95 RX0 yX0_freeSlot wsX0_freeSlot) := goodIn_app (goodIn_of _ (by decide +kernel)) ggX0_remove_X0_freeSlot
theorem dX0_remove_0 : decode cX0_remove 0 = .ok (.aload_n 0, 1) := by decide +kernel
theorem dX0_remove_1 : decode cX0_remove 1 = .ok (.iload_n 1, 1) := by decide +kernel
theorem dX0_remove_2 : decode cX0_remove 2 = .ok (.invokevirtual 92, 3) := by decide +kernel
theorem dX0_remove_5 : decode cX0_remove 5 = .ok (.istore_n 2, 1) := by decide +kernel
theorem dX0_remove_6 : decode cX0_remove 6 = .ok (.iload_n 2, 1) := by decide +kernel
theorem dX0_remove_7 : decode cX0_remove 7 = .ok (.iconst (-1), 1) := by decide +kernel
theorem dX0_remove_8 : decode cX0_remove 8 = .ok (.if_icmp .ne 6, 3) := by decide +kernel
theorem dX0_remove_11 : decode cX0_remove 11 = .ok (.bipush (-2), 2) := by decide +kernel
theorem dX0_remove_13 : decode cX0_remove 13 = .ok (.ireturn, 1) := by decide +kernel
theorem dX0_remove_14 : decode cX0_remove 14 = .ok (.aload_n 0, 1) := by decide +kernel
theorem dX0_remove_15 : decode cX0_remove 15 = .ok (.iload_n 2, 1) := by decide +kernel
theorem dX0_remove_16 : decode cX0_remove 16 = .ok (.invokevirtual 95, 3) := by decide +kernel
theorem dX0_remove_19 : decode cX0_remove 19 = .ok (.aload_n 0, 1) := by decide +kernel
theorem dX0_remove_20 : decode cX0_remove 20 = .ok (.getfield 23, 3) := by decide +kernel
theorem dX0_remove_23 : decode cX0_remove 23 = .ok (.ireturn, 1) := by decide +kernel
set_option maxRecDepth 20000 in
theorem ggX0_find_X0_fits : GoodIn wsX0_find wsX0_fits := goodIn_r _ [10, 11, 12, 13, 14, 15, 16, 17, 18, 19, 20, 21, 22, 23, 24, 25, 26, 27, 28] (by decide +kernel) (by decide +kernel)
set_option maxRecDepth 20000 in
theorem gX0_find_X0_fits : GoodIn wsX0_find (wsV RX0 99 RX0 yX0_fits wsX0_fits) := goodIn_app (goodIn_of _ (by decide +kernel)) ggX0_find_X0_fits
theorem dX0_find_0 : decode cX0_find 0 = .ok (.iconst 0, 1) := by decide +kernel
theorem dX0_find_1 : decode cX0_find 1 = .ok (.istore 7, 2) := by decide +kernel
theorem dX0_find_3 : decode cX0_find 3 = .ok (.iload 7, 2) := by decide +kernel
theorem dX0_find_5 : decode cX0_find 5 = .ok (.aload_n 0, 1) := by decide +kernel
theorem dX0_find_6 : decode cX0_find 6 = .ok (.getfield 23, 3) := by decide +kernel
theorem dX0_find_9 : decode cX0_find 9 = .ok (.if_icmp .ge 71, 3) := by decide +kernel
theorem dX0_find_12 : decode cX0_find 12 = .ok (.aload_n 0, 1) := by decide +kernel
theorem dX0_find_13 : decode cX0_find 13 = .ok (.getfield 20, 3) := by decide +kernel
theorem dX0_find_16 : decode cX0_find 16 = .ok (.iload 7, 2) := by decide +kernel
theorem dX0_find_18 : decode cX0_find 18 = .ok (.iaload, 1) := by decide +kernel
theorem dX0_find_19 : decode cX0_find 19 = .ok (.istore 8, 2) := by decide +kernel
theorem dX0_find_21 : decode cX0_find 21 = .ok (.aload_n 0, 1) := by decide +kernel
theorem dX0_find_22 : decode cX0_find 22 = .ok (.iload 8, 2) := by decide +kernel
theorem dX0_find_24 : decode cX0_find 24 = .ok (.iconst 0, 1) := by decide +kernel
theorem dX0_find_25 : decode cX0_find 25 = .ok (.lload_n 1, 1) := by decide +kernel
theorem dX0_find_26 : decode cX0_find 26 = .ok (.invokevirtual 99, 3) := by decide +kernel
theorem dX0_find_29 : decode cX0_find 29 = .ok (.ifCond .eq 45, 3) := by decide +kernel
theorem dX0_find_32 : decode cX0_find 32 = .ok (.aload_n 0, 1) := by decide +kernel
theorem dX0_find_33 : decode cX0_find 33 = .ok (.iload 8, 2) := by decide +kernel
theorem dX0_find_35 : decode cX0_find 35 = .ok (.iconst 1, 1) := by decide +kernel
theorem dX0_find_36 : decode cX0_find 36 = .ok (.lload_n 3, 1) := by decide +kernel
theorem dX0_find_37 : decode cX0_find 37 = .ok (.invokevirtual 99, 3) := by decide +kernel
theorem dX0_find_40 : decode cX0_find 40 = .ok (.ifCond .eq 34, 3) := by decide +kernel
theorem dX0_find_43 : decode cX0_find 43 = .ok (.aload_n 0, 1) := by decide +kernel
theorem dX0_find_44 : decode cX0_find 44 = .ok (.iload 8, 2) := by decide +kernel
theorem dX0_find_46 : decode cX0_find 46 = .ok (.iconst 2, 1) := by decide +kernel
theorem dX0_find_47 : decode cX0_find 47 = .ok (.lload 5, 2) := by decide +kernel
theorem dX0_find_49 : decode cX0_find 49 = .ok (.invokevirtual 99, 3) := by decide +kernel
theorem dX0_find_52 : decode cX0_find 52 = .ok (.ifCond .eq 22, 3) := by decide +kernel
theorem dX0_find_55 : decode cX0_find 55 = .ok (.aload_n 0, 1) := by decide +kernel
theorem dX0_find_56 : decode cX0_find 56 = .ok (.getfield 42, 3) := by decide +kernel
theorem dX0_find_59 : decode cX0_find 59 = .ok (.iload 8, 2) := by decide +kernel
theorem dX0_find_61 : decode cX0_find 61 = .ok (.dup2, 1) := by decide +kernel
theorem dX0_find_62 : decode cX0_find 62 = .ok (.iaload, 1) := by decide +kernel
theorem dX0_find_63 : decode cX0_find 63 = .ok (.iconst 1, 1) := by decide +kernel
theorem dX0_find_64 : decode cX0_find 64 = .ok (.iadd, 1) := by decide +kernel
theorem dX0_find_65 : decode cX0_find 65 = .ok (.iastore, 1) := by decide +kernel
theorem dX0_find_66 : decode cX0_find 66 = .ok (.aload_n 0, 1) := by decide +kernel
theorem dX0_find_67 : decode cX0_find 67 = .ok (.getfield 33, 3) := by decide +kernel
theorem dX0_find_70 : decode cX0_find 70 = .ok (.iload 8, 2) := by decide +kernel
theorem dX0_find_72 : decode cX0_find 72 = .ok (.iaload, 1) := by decide +kernel
theorem dX0_find_73 : decode cX0_find 73 = .ok (.ireturn, 1) := by decide +kernel
theorem dX0_find_74 : decode cX0_find 74 = .ok (.iinc 7 1, 3) := by decide +kernel
theorem dX0_find_77 : decode cX0_find 77 = .ok (.goto (-74), 3) := by decide +kernel
theorem dX0_find_80 : decode cX0_find 80 = .ok (.aload_n 0, 1) := by decide +kernel
theorem dX0_find_81 : decode cX0_find 81 = .ok (.dup, 1) := by decide +kernel
theorem dX0_find_82 : decode cX0_find 82 = .ok (.getfield 30, 3) := by decide +kernel
theorem dX0_find_85 : decode cX0_find 85 = .ok (.iconst 1, 1) := by decide +kernel
theorem dX0_find_86 : decode cX0_find 86 = .ok (.iadd, 1) := by decide +kernel
theorem dX0_find_87 : decode cX0_find 87 = .ok (.putfield 30, 3) := by decide +kernel
theorem dX0_find_90 : decode cX0_find 90 = .ok (.bipush (-2), 2) := by decide +kernel
theorem dX0_find_92 : decode cX0_find 92 = .ok (.ireturn, 1) := by decide +kernel
theorem dX0_nth_0 : decode cX0_nth 0 = .ok (.iload_n 1, 1) := by decide +kernel
theorem dX0_nth_1 : decode cX0_nth 1 = .ok (.ifCond .lt 11, 3) := by decide +kernel
theorem dX0_nth_4 : decode cX0_nth 4 = .ok (.iload_n 1, 1) := by decide +kernel
theorem dX0_nth_5 : decode cX0_nth 5 = .ok (.aload_n 0, 1) := by decide +kernel
theorem dX0_nth_6 : decode cX0_nth 6 = .ok (.getfield 23, 3) := by decide +kernel
theorem dX0_nth_9 : decode cX0_nth 9 = .ok (.if_icmp .lt 6, 3) := by decide +kernel
theorem dX0_nth_12 : decode cX0_nth 12 = .ok (.bipush (-2), 2) := by decide +kernel
theorem dX0_nth_14 : decode cX0_nth 14 = .ok (.ireturn, 1) := by decide +kernel
theorem dX0_nth_15 : decode cX0_nth 15 = .ok (.aload_n 0, 1) := by decide +kernel
theorem dX0_nth_16 : decode cX0_nth 16 = .ok (.getfield 33, 3) := by decide +kernel
theorem dX0_nth_19 : decode cX0_nth 19 = .ok (.aload_n 0, 1) := by decide +kernel
theorem dX0_nth_20 : decode cX0_nth 20 = .ok (.getfield 20, 3) := by decide +kernel
theorem dX0_nth_23 : decode cX0_nth 23 = .ok (.iload_n 1, 1) := by decide +kernel
theorem dX0_nth_24 : decode cX0_nth 24 = .ok (.iaload, 1) := by decide +kernel
theorem dX0_nth_25 : decode cX0_nth 25 = .ok (.iaload, 1) := by decide +kernel
theorem dX0_nth_26 : decode cX0_nth 26 = .ok (.ireturn, 1) := by decide +kernel
set_option maxRecDepth 20000 in
theorem ggX0_hits_X0_rankOf : GoodIn wsX0_hits wsX0_rankOf := goodIn_r _ [7, 8, 9, 2, 10, 11, 12, 13, 14, 15, 16, 17, 18, 19, 20, 21, 22, 23, 24, 25] (by decide +kernel) (by decide +kernel)
set_option maxRecDepth 20000 in
theorem gX0_hits_X0_rankOf : GoodIn wsX0_hits (wsV RX0 92 RX0 yX0_rankOf wsX0_rankOf) := goodIn_app (goodIn_of _ (by decide +kernel)) ggX0_hits_X0_rankOf
theorem dX0_hits_0 : decode cX0_hits 0 = .ok (.aload_n 0, 1) := by decide +kernel
theorem dX0_hits_1 : decode cX0_hits 1 = .ok (.iload_n 1, 1) := by decide +kernel
theorem dX0_hits_2 : decode cX0_hits 2 = .ok (.invokevirtual 92, 3) := by decide +kernel
theorem dX0_hits_5 : decode cX0_hits 5 = .ok (.istore_n 2, 1) := by decide +kernel
theorem dX0_hits_6 : decode cX0_hits 6 = .ok (.iload_n 2, 1) := by decide +kernel
theorem dX0_hits_7 : decode cX0_hits 7 = .ok (.iconst (-1), 1) := by decide +kernel
theorem dX0_hits_8 : decode cX0_hits 8 = .ok (.if_icmp .ne 6, 3) := by decide +kernel
theorem dX0_hits_11 : decode cX0_hits 11 = .ok (.bipush (-2), 2) := by decide +kernel
theorem dX0_hits_13 : decode cX0_hits 13 = .ok (.ireturn, 1) := by decide +kernel
theorem dX0_hits_14 : decode cX0_hits 14 = .ok (.aload_n 0, 1) := by decide +kernel
theorem dX0_hits_15 : decode cX0_hits 15 = .ok (.getfield 42, 3) := by decide +kernel
theorem dX0_hits_18 : decode cX0_hits 18 = .ok (.aload_n 0, 1) := by decide +kernel
theorem dX0_hits_19 : decode cX0_hits 19 = .ok (.getfield 20, 3) := by decide +kernel
theorem dX0_hits_22 : decode cX0_hits 22 = .ok (.iload_n 2, 1) := by decide +kernel
theorem dX0_hits_23 : decode cX0_hits 23 = .ok (.iaload, 1) := by decide +kernel
theorem dX0_hits_24 : decode cX0_hits 24 = .ok (.iaload, 1) := by decide +kernel
theorem dX0_hits_25 : decode cX0_hits 25 = .ok (.ireturn, 1) := by decide +kernel
theorem dX0_count_0 : decode cX0_count 0 = .ok (.iload_n 1, 1) := by decide +kernel
theorem dX0_count_1 : decode cX0_count 1 = .ok (.tableswitch 72 0 6 #[43, 48, 53, 58, 63, 63, 63], 43) := by decide +kernel
theorem dX0_count_44 : decode cX0_count 44 = .ok (.aload_n 0, 1) := by decide +kernel
theorem dX0_count_45 : decode cX0_count 45 = .ok (.getfield 60, 3) := by decide +kernel
theorem dX0_count_48 : decode cX0_count 48 = .ok (.ireturn, 1) := by decide +kernel
theorem dX0_count_49 : decode cX0_count 49 = .ok (.aload_n 0, 1) := by decide +kernel
theorem dX0_count_50 : decode cX0_count 50 = .ok (.getfield 63, 3) := by decide +kernel
theorem dX0_count_53 : decode cX0_count 53 = .ok (.ireturn, 1) := by decide +kernel
theorem dX0_count_54 : decode cX0_count 54 = .ok (.aload_n 0, 1) := by decide +kernel
theorem dX0_count_55 : decode cX0_count 55 = .ok (.getfield 23, 3) := by decide +kernel
theorem dX0_count_58 : decode cX0_count 58 = .ok (.ireturn, 1) := by decide +kernel
theorem dX0_count_59 : decode cX0_count 59 = .ok (.aload_n 0, 1) := by decide +kernel
theorem dX0_count_60 : decode cX0_count 60 = .ok (.getfield 30, 3) := by decide +kernel
theorem dX0_count_63 : decode cX0_count 63 = .ok (.ireturn, 1) := by decide +kernel
theorem dX0_count_64 : decode cX0_count 64 = .ok (.aload_n 0, 1) := by decide +kernel
theorem dX0_count_65 : decode cX0_count 65 = .ok (.getfield 9, 3) := by decide +kernel
theorem dX0_count_68 : decode cX0_count 68 = .ok (.iload_n 1, 1) := by decide +kernel
theorem dX0_count_69 : decode cX0_count 69 = .ok (.iconst 4, 1) := by decide +kernel
theorem dX0_count_70 : decode cX0_count 70 = .ok (.isub, 1) := by decide +kernel
theorem dX0_count_71 : decode cX0_count 71 = .ok (.iaload, 1) := by decide +kernel
theorem dX0_count_72 : decode cX0_count 72 = .ok (.ireturn, 1) := by decide +kernel
theorem dX0_count_73 : decode cX0_count 73 = .ok (.iconst (-1), 1) := by decide +kernel
theorem dX0_count_74 : decode cX0_count 74 = .ok (.ireturn, 1) := by decide +kernel
set_option maxRecDepth 20000 in
theorem ggX0_isDraftSound_X0_isDraftKeySound : GoodIn wsX0_isDraftSound wsX0_isDraftKeySound := goodIn_r _ [6, 7, 8, 9, 10, 11, 12, 13, 14, 5, 15, 16, 17, 18, 19, 20, 21, 22, 23, 24, 25, 26, 27, 28, 29, 30, 31, 32, 33, 34, 35, 36] (by decide +kernel) (by decide +kernel)
set_option maxRecDepth 20000 in
theorem gX0_isDraftSound_X0_isDraftKeySound : GoodIn wsX0_isDraftSound (wsV RX0 103 RX0 yX0_isDraftKeySound wsX0_isDraftKeySound) := goodIn_app (goodIn_of _ (by decide +kernel)) ggX0_isDraftSound_X0_isDraftKeySound
theorem dX0_isDraftSound_0 : decode cX0_isDraftSound 0 = .ok (.iconst 0, 1) := by decide +kernel
theorem dX0_isDraftSound_1 : decode cX0_isDraftSound 1 = .ok (.istore_n 1, 1) := by decide +kernel
theorem dX0_isDraftSound_2 : decode cX0_isDraftSound 2 = .ok (.iload_n 1, 1) := by decide +kernel
theorem dX0_isDraftSound_3 : decode cX0_isDraftSound 3 = .ok (.aload_n 0, 1) := by decide +kernel
theorem dX0_isDraftSound_4 : decode cX0_isDraftSound 4 = .ok (.getfield 60, 3) := by decide +kernel
theorem dX0_isDraftSound_7 : decode cX0_isDraftSound 7 = .ok (.if_icmp .ge 19, 3) := by decide +kernel
theorem dX0_isDraftSound_10 : decode cX0_isDraftSound 10 = .ok (.aload_n 0, 1) := by decide +kernel
theorem dX0_isDraftSound_11 : decode cX0_isDraftSound 11 = .ok (.iload_n 1, 1) := by decide +kernel
theorem dX0_isDraftSound_12 : decode cX0_isDraftSound 12 = .ok (.invokevirtual 103, 3) := by decide +kernel
theorem dX0_isDraftSound_15 : decode cX0_isDraftSound 15 = .ok (.ifCond .ne 5, 3) := by decide +kernel
theorem dX0_isDraftSound_18 : decode cX0_isDraftSound 18 = .ok (.iconst 0, 1) := by decide +kernel
theorem dX0_isDraftSound_19 : decode cX0_isDraftSound 19 = .ok (.ireturn, 1) := by decide +kernel
theorem dX0_isDraftSound_20 : decode cX0_isDraftSound 20 = .ok (.iinc 1 1, 3) := by decide +kernel
theorem dX0_isDraftSound_23 : decode cX0_isDraftSound 23 = .ok (.goto (-21), 3) := by decide +kernel
theorem dX0_isDraftSound_26 : decode cX0_isDraftSound 26 = .ok (.iconst 1, 1) := by decide +kernel
theorem dX0_isDraftSound_27 : decode cX0_isDraftSound 27 = .ok (.ireturn, 1) := by decide +kernel
set_option maxRecDepth 20000 in
theorem ggX0_isDraftKeySound_X0_isNumber : GoodIn wsX0_isDraftKeySound wsX0_isNumber := goodIn_r _ [10, 11, 16, 17, 18, 19, 20, 21, 22, 23, 24, 25, 26, 27, 28, 29, 30, 31] (by decide +kernel) (by decide +kernel)
set_option maxRecDepth 20000 in
theorem gX0_isDraftKeySound_X0_isNumber : GoodIn wsX0_isDraftKeySound (wsV RX0 106 RX0 yX0_isNumber wsX0_isNumber) := goodIn_app (goodIn_of _ (by decide +kernel)) ggX0_isDraftKeySound_X0_isNumber
set_option maxRecDepth 20000 in
theorem ggX0_isDraftKeySound_X0_draftBits : GoodIn wsX0_isDraftKeySound wsX0_draftBits := goodIn_r _ [15, 2, 11, 3, 16, 17, 18, 19, 20, 21, 22, 23, 24, 25, 26, 27, 28, 29, 30, 31] (by decide +kernel) (by decide +kernel)
set_option maxRecDepth 20000 in
theorem gX0_isDraftKeySound_X0_draftBits : GoodIn wsX0_isDraftKeySound (wsV RX0 110 RX0 yX0_draftBits wsX0_draftBits) := goodIn_app (goodIn_of _ (by decide +kernel)) ggX0_isDraftKeySound_X0_draftBits
theorem dX0_isDraftKeySound_0 : decode cX0_isDraftKeySound 0 = .ok (.aload_n 0, 1) := by decide +kernel
theorem dX0_isDraftKeySound_1 : decode cX0_isDraftKeySound 1 = .ok (.aload_n 0, 1) := by decide +kernel
theorem dX0_isDraftKeySound_2 : decode cX0_isDraftKeySound 2 = .ok (.getfield 13, 3) := by decide +kernel
theorem dX0_isDraftKeySound_5 : decode cX0_isDraftKeySound 5 = .ok (.iload_n 1, 1) := by decide +kernel
theorem dX0_isDraftKeySound_6 : decode cX0_isDraftKeySound 6 = .ok (.laload, 1) := by decide +kernel
theorem dX0_isDraftKeySound_7 : decode cX0_isDraftKeySound 7 = .ok (.invokevirtual 106, 3) := by decide +kernel
theorem dX0_isDraftKeySound_10 : decode cX0_isDraftKeySound 10 = .ok (.ifCond .ne 5, 3) := by decide +kernel
theorem dX0_isDraftKeySound_13 : decode cX0_isDraftKeySound 13 = .ok (.iconst 0, 1) := by decide +kernel
theorem dX0_isDraftKeySound_14 : decode cX0_isDraftKeySound 14 = .ok (.ireturn, 1) := by decide +kernel
theorem dX0_isDraftKeySound_15 : decode cX0_isDraftKeySound 15 = .ok (.aload_n 0, 1) := by decide +kernel
theorem dX0_isDraftKeySound_16 : decode cX0_isDraftKeySound 16 = .ok (.getfield 9, 3) := by decide +kernel
theorem dX0_isDraftKeySound_19 : decode cX0_isDraftKeySound 19 = .ok (.iload_n 1, 1) := by decide +kernel
theorem dX0_isDraftKeySound_20 : decode cX0_isDraftKeySound 20 = .ok (.iaload, 1) := by decide +kernel
theorem dX0_isDraftKeySound_21 : decode cX0_isDraftKeySound 21 = .ok (.ifCond .ne 5, 3) := by decide +kernel
theorem dX0_isDraftKeySound_24 : decode cX0_isDraftKeySound 24 = .ok (.iconst 1, 1) := by decide +kernel
theorem dX0_isDraftKeySound_25 : decode cX0_isDraftKeySound 25 = .ok (.ireturn, 1) := by decide +kernel
theorem dX0_isDraftKeySound_26 : decode cX0_isDraftKeySound 26 = .ok (.aload_n 0, 1) := by decide +kernel
theorem dX0_isDraftKeySound_27 : decode cX0_isDraftKeySound 27 = .ok (.getfield 9, 3) := by decide +kernel
theorem dX0_isDraftKeySound_30 : decode cX0_isDraftKeySound 30 = .ok (.iload_n 1, 1) := by decide +kernel
theorem dX0_isDraftKeySound_31 : decode cX0_isDraftKeySound 31 = .ok (.iaload, 1) := by decide +kernel
theorem dX0_isDraftKeySound_32 : decode cX0_isDraftKeySound 32 = .ok (.iconst 1, 1) := by decide +kernel
theorem dX0_isDraftKeySound_33 : decode cX0_isDraftKeySound 33 = .ok (.if_icmp .ne 37, 3) := by decide +kernel
theorem dX0_isDraftKeySound_36 : decode cX0_isDraftKeySound 36 = .ok (.aload_n 0, 1) := by decide +kernel
theorem dX0_isDraftKeySound_37 : decode cX0_isDraftKeySound 37 = .ok (.getfield 17, 3) := by decide +kernel
theorem dX0_isDraftKeySound_40 : decode cX0_isDraftKeySound 40 = .ok (.iload_n 1, 1) := by decide +kernel
theorem dX0_isDraftKeySound_41 : decode cX0_isDraftKeySound 41 = .ok (.laload, 1) := by decide +kernel
theorem dX0_isDraftKeySound_42 : decode cX0_isDraftKeySound 42 = .ok (.lconst 0, 1) := by decide +kernel
theorem dX0_isDraftKeySound_43 : decode cX0_isDraftKeySound 43 = .ok (.lcmp, 1) := by decide +kernel
theorem dX0_isDraftKeySound_44 : decode cX0_isDraftKeySound 44 = .ok (.ifCond .lt 22, 3) := by decide +kernel
theorem dX0_isDraftKeySound_47 : decode cX0_isDraftKeySound 47 = .ok (.aload_n 0, 1) := by decide +kernel
theorem dX0_isDraftKeySound_48 : decode cX0_isDraftKeySound 48 = .ok (.getfield 17, 3) := by decide +kernel
theorem dX0_isDraftKeySound_51 : decode cX0_isDraftKeySound 51 = .ok (.iload_n 1, 1) := by decide +kernel
theorem dX0_isDraftKeySound_52 : decode cX0_isDraftKeySound 52 = .ok (.laload, 1) := by decide +kernel
theorem dX0_isDraftKeySound_53 : decode cX0_isDraftKeySound 53 = .ok (.aload_n 0, 1) := by decide +kernel
theorem dX0_isDraftKeySound_54 : decode cX0_isDraftKeySound 54 = .ok (.getfield 63, 3) := by decide +kernel
theorem dX0_isDraftKeySound_57 : decode cX0_isDraftKeySound 57 = .ok (.i2l, 1) := by decide +kernel
theorem dX0_isDraftKeySound_58 : decode cX0_isDraftKeySound 58 = .ok (.lcmp, 1) := by decide +kernel
theorem dX0_isDraftKeySound_59 : decode cX0_isDraftKeySound 59 = .ok (.ifCond .gt 7, 3) := by decide +kernel
theorem dX0_isDraftKeySound_62 : decode cX0_isDraftKeySound 62 = .ok (.iconst 1, 1) := by decide +kernel
theorem dX0_isDraftKeySound_63 : decode cX0_isDraftKeySound 63 = .ok (.goto 17, 3) := by decide +kernel
theorem dX0_isDraftKeySound_66 : decode cX0_isDraftKeySound 66 = .ok (.iconst 0, 1) := by decide +kernel
theorem dX0_isDraftKeySound_67 : decode cX0_isDraftKeySound 67 = .ok (.goto 13, 3) := by decide +kernel
theorem dX0_isDraftKeySound_70 : decode cX0_isDraftKeySound 70 = .ok (.aload_n 0, 1) := by decide +kernel
theorem dX0_isDraftKeySound_71 : decode cX0_isDraftKeySound 71 = .ok (.aload_n 0, 1) := by decide +kernel
theorem dX0_isDraftKeySound_72 : decode cX0_isDraftKeySound 72 = .ok (.getfield 17, 3) := by decide +kernel
theorem dX0_isDraftKeySound_75 : decode cX0_isDraftKeySound 75 = .ok (.iload_n 1, 1) := by decide +kernel
theorem dX0_isDraftKeySound_76 : decode cX0_isDraftKeySound 76 = .ok (.laload, 1) := by decide +kernel
theorem dX0_isDraftKeySound_77 : decode cX0_isDraftKeySound 77 = .ok (.invokevirtual 106, 3) := by decide +kernel
theorem dX0_isDraftKeySound_80 : decode cX0_isDraftKeySound 80 = .ok (.istore_n 2, 1) := by decide +kernel
theorem dX0_isDraftKeySound_81 : decode cX0_isDraftKeySound 81 = .ok (.iload_n 2, 1) := by decide +kernel
theorem dX0_isDraftKeySound_82 : decode cX0_isDraftKeySound 82 = .ok (.ifCond .eq 28, 3) := by decide +kernel
theorem dX0_isDraftKeySound_85 : decode cX0_isDraftKeySound 85 = .ok (.aload_n 0, 1) := by decide +kernel
theorem dX0_isDraftKeySound_86 : decode cX0_isDraftKeySound 86 = .ok (.getfield 13, 3) := by decide +kernel
theorem dX0_isDraftKeySound_89 : decode cX0_isDraftKeySound 89 = .ok (.iload_n 1, 1) := by decide +kernel
theorem dX0_isDraftKeySound_90 : decode cX0_isDraftKeySound 90 = .ok (.laload, 1) := by decide +kernel
theorem dX0_isDraftKeySound_91 : decode cX0_isDraftKeySound 91 = .ok (.aload_n 0, 1) := by decide +kernel
theorem dX0_isDraftKeySound_92 : decode cX0_isDraftKeySound 92 = .ok (.iload_n 1, 1) := by decide +kernel
theorem dX0_isDraftKeySound_93 : decode cX0_isDraftKeySound 93 = .ok (.invokevirtual 110, 3) := by decide +kernel
theorem dX0_isDraftKeySound_96 : decode cX0_isDraftKeySound 96 = .ok (.ldc2_w 114, 3) := by decide +kernel
theorem dX0_isDraftKeySound_99 : decode cX0_isDraftKeySound 99 = .ok (.lxor, 1) := by decide +kernel
theorem dX0_isDraftKeySound_100 : decode cX0_isDraftKeySound 100 = .ok (.land, 1) := by decide +kernel
theorem dX0_isDraftKeySound_101 : decode cX0_isDraftKeySound 101 = .ok (.lconst 0, 1) := by decide +kernel
theorem dX0_isDraftKeySound_102 : decode cX0_isDraftKeySound 102 = .ok (.lcmp, 1) := by decide +kernel
theorem dX0_isDraftKeySound_103 : decode cX0_isDraftKeySound 103 = .ok (.ifCond .ne 7, 3) := by decide +kernel
theorem dX0_isDraftKeySound_106 : decode cX0_isDraftKeySound 106 = .ok (.iconst 1, 1) := by decide +kernel
theorem dX0_isDraftKeySound_107 : decode cX0_isDraftKeySound 107 = .ok (.goto 4, 3) := by decide +kernel
theorem dX0_isDraftKeySound_110 : decode cX0_isDraftKeySound 110 = .ok (.iconst 0, 1) := by decide +kernel
theorem dX0_isDraftKeySound_111 : decode cX0_isDraftKeySound 111 = .ok (.ireturn, 1) := by decide +kernel
theorem dX0_isNumber_0 : decode cX0_isNumber 0 = .ok (.lload_n 1, 1) := by decide +kernel
theorem dX0_isNumber_1 : decode cX0_isNumber 1 = .ok (.lconst 0, 1) := by decide +kernel
theorem dX0_isNumber_2 : decode cX0_isNumber 2 = .ok (.lcmp, 1) := by decide +kernel
theorem dX0_isNumber_3 : decode cX0_isNumber 3 = .ok (.ifCond .lt 16, 3) := by decide +kernel
theorem dX0_isNumber_6 : decode cX0_isNumber 6 = .ok (.lload_n 1, 1) := by decide +kernel
theorem dX0_isNumber_7 : decode cX0_isNumber 7 = .ok (.aload_n 0, 1) := by decide +kernel
theorem dX0_isNumber_8 : decode cX0_isNumber 8 = .ok (.getfield 66, 3) := by decide +kernel
theorem dX0_isNumber_11 : decode cX0_isNumber 11 = .ok (.lcmp, 1) := by decide +kernel
theorem dX0_isNumber_12 : decode cX0_isNumber 12 = .ok (.ifCond .gt 7, 3) := by decide +kernel
theorem dX0_isNumber_15 : decode cX0_isNumber 15 = .ok (.iconst 1, 1) := by decide +kernel
theorem dX0_isNumber_16 : decode cX0_isNumber 16 = .ok (.goto 4, 3) := by decide +kernel
theorem dX0_isNumber_19 : decode cX0_isNumber 19 = .ok (.iconst 0, 1) := by decide +kernel
theorem dX0_isNumber_20 : decode cX0_isNumber 20 = .ok (.ireturn, 1) := by decide +kernel
theorem dX0_draftBits_0 : decode cX0_draftBits 0 = .ok (.aload_n 0, 1) := by decide +kernel
theorem dX0_draftBits_1 : decode cX0_draftBits 1 = .ok (.getfield 9, 3) := by decide +kernel
theorem dX0_draftBits_4 : decode cX0_draftBits 4 = .ok (.iload_n 1, 1) := by decide +kernel
theorem dX0_draftBits_5 : decode cX0_draftBits 5 = .ok (.iaload, 1) := by decide +kernel
theorem dX0_draftBits_6 : decode cX0_draftBits 6 = .ok (.ifCond .ne 8, 3) := by decide +kernel
theorem dX0_draftBits_9 : decode cX0_draftBits 9 = .ok (.aload_n 0, 1) := by decide +kernel
theorem dX0_draftBits_10 : decode cX0_draftBits 10 = .ok (.getfield 66, 3) := by decide +kernel
theorem dX0_draftBits_13 : decode cX0_draftBits 13 = .ok (.lreturn, 1) := by decide +kernel
theorem dX0_draftBits_14 : decode cX0_draftBits 14 = .ok (.aload_n 0, 1) := by decide +kernel
theorem dX0_draftBits_15 : decode cX0_draftBits 15 = .ok (.getfield 9, 3) := by decide +kernel
theorem dX0_draftBits_18 : decode cX0_draftBits 18 = .ok (.iload_n 1, 1) := by decide +kernel
theorem dX0_draftBits_19 : decode cX0_draftBits 19 = .ok (.iaload, 1) := by decide +kernel
theorem dX0_draftBits_20 : decode cX0_draftBits 20 = .ok (.iconst 1, 1) := by decide +kernel
theorem dX0_draftBits_21 : decode cX0_draftBits 21 = .ok (.if_icmp .ne 21, 3) := by decide +kernel
theorem dX0_draftBits_24 : decode cX0_draftBits 24 = .ok (.aload_n 0, 1) := by decide +kernel
theorem dX0_draftBits_25 : decode cX0_draftBits 25 = .ok (.getfield 66, 3) := by decide +kernel
theorem dX0_draftBits_28 : decode cX0_draftBits 28 = .ok (.aload_n 0, 1) := by decide +kernel
theorem dX0_draftBits_29 : decode cX0_draftBits 29 = .ok (.getfield 66, 3) := by decide +kernel
theorem dX0_draftBits_32 : decode cX0_draftBits 32 = .ok (.aload_n 0, 1) := by decide +kernel
theorem dX0_draftBits_33 : decode cX0_draftBits 33 = .ok (.getfield 17, 3) := by decide +kernel
theorem dX0_draftBits_36 : decode cX0_draftBits 36 = .ok (.iload_n 1, 1) := by decide +kernel
theorem dX0_draftBits_37 : decode cX0_draftBits 37 = .ok (.laload, 1) := by decide +kernel
theorem dX0_draftBits_38 : decode cX0_draftBits 38 = .ok (.l2i, 1) := by decide +kernel
theorem dX0_draftBits_39 : decode cX0_draftBits 39 = .ok (.lushr, 1) := by decide +kernel
theorem dX0_draftBits_40 : decode cX0_draftBits 40 = .ok (.lxor, 1) := by decide +kernel
theorem dX0_draftBits_41 : decode cX0_draftBits 41 = .ok (.lreturn, 1) := by decide +kernel
theorem dX0_draftBits_42 : decode cX0_draftBits 42 = .ok (.aload_n 0, 1) := by decide +kernel
theorem dX0_draftBits_43 : decode cX0_draftBits 43 = .ok (.getfield 17, 3) := by decide +kernel
theorem dX0_draftBits_46 : decode cX0_draftBits 46 = .ok (.iload_n 1, 1) := by decide +kernel
theorem dX0_draftBits_47 : decode cX0_draftBits 47 = .ok (.laload, 1) := by decide +kernel
theorem dX0_draftBits_48 : decode cX0_draftBits 48 = .ok (.lreturn, 1) := by decide +kernel
theorem dX0_draftPrefix_0 : decode cX0_draftPrefix 0 = .ok (.iconst 0, 1) := by decide +kernel
theorem dX0_draftPrefix_1 : decode cX0_draftPrefix 1 = .ok (.istore_n 1, 1) := by decide +kernel
theorem dX0_draftPrefix_2 : decode cX0_draftPrefix 2 = .ok (.iload_n 1, 1) := by decide +kernel
theorem dX0_draftPrefix_3 : decode cX0_draftPrefix 3 = .ok (.aload_n 0, 1) := by decide +kernel
theorem dX0_draftPrefix_4 : decode cX0_draftPrefix 4 = .ok (.getfield 60, 3) := by decide +kernel
theorem dX0_draftPrefix_7 : decode cX0_draftPrefix 7 = .ok (.if_icmp .ge 27, 3) := by decide +kernel
theorem dX0_draftPrefix_10 : decode cX0_draftPrefix 10 = .ok (.aload_n 0, 1) := by decide +kernel
theorem dX0_draftPrefix_11 : decode cX0_draftPrefix 11 = .ok (.getfield 9, 3) := by decide +kernel
theorem dX0_draftPrefix_14 : decode cX0_draftPrefix 14 = .ok (.iload_n 1, 1) := by decide +kernel
theorem dX0_draftPrefix_15 : decode cX0_draftPrefix 15 = .ok (.iaload, 1) := by decide +kernel
theorem dX0_draftPrefix_16 : decode cX0_draftPrefix 16 = .ok (.iconst 1, 1) := by decide +kernel
theorem dX0_draftPrefix_17 : decode cX0_draftPrefix 17 = .ok (.if_icmp .ne 11, 3) := by decide +kernel
theorem dX0_draftPrefix_20 : decode cX0_draftPrefix 20 = .ok (.aload_n 0, 1) := by decide +kernel
theorem dX0_draftPrefix_21 : decode cX0_draftPrefix 21 = .ok (.getfield 17, 3) := by decide +kernel
theorem dX0_draftPrefix_24 : decode cX0_draftPrefix 24 = .ok (.iload_n 1, 1) := by decide +kernel
theorem dX0_draftPrefix_25 : decode cX0_draftPrefix 25 = .ok (.laload, 1) := by decide +kernel
theorem dX0_draftPrefix_26 : decode cX0_draftPrefix 26 = .ok (.l2i, 1) := by decide +kernel
theorem dX0_draftPrefix_27 : decode cX0_draftPrefix 27 = .ok (.ireturn, 1) := by decide +kernel
theorem dX0_draftPrefix_28 : decode cX0_draftPrefix 28 = .ok (.iinc 1 1, 3) := by decide +kernel
theorem dX0_draftPrefix_31 : decode cX0_draftPrefix 31 = .ok (.goto (-29), 3) := by decide +kernel
theorem dX0_draftPrefix_34 : decode cX0_draftPrefix 34 = .ok (.iconst 0, 1) := by decide +kernel
theorem dX0_draftPrefix_35 : decode cX0_draftPrefix 35 = .ok (.ireturn, 1) := by decide +kernel
set_option maxRecDepth 20000 in
theorem ggX0_isDraftThere_X0_isDraftIn : GoodIn wsX0_isDraftThere wsX0_isDraftIn := goodIn_r _ [8, 9, 10, 11, 12, 13, 14, 15, 7, 16, 17, 18, 19, 20, 21, 22, 23, 24, 25, 26, 27, 28, 29, 30, 31, 32, 33, 34, 35] (by decide +kernel) (by decide +kernel)
set_option maxRecDepth 20000 in
theorem gX0_isDraftThere_X0_isDraftIn : GoodIn wsX0_isDraftThere (wsV RX0 116 RX0 yX0_isDraftIn wsX0_isDraftIn) := goodIn_app (goodIn_of _ (by decide +kernel)) ggX0_isDraftThere_X0_isDraftIn
theorem dX0_isDraftThere_0 : decode cX0_isDraftThere 0 = .ok (.iconst 0, 1) := by decide +kernel
theorem dX0_isDraftThere_1 : decode cX0_isDraftThere 1 = .ok (.istore_n 2, 1) := by decide +kernel
theorem dX0_isDraftThere_2 : decode cX0_isDraftThere 2 = .ok (.iload_n 2, 1) := by decide +kernel
theorem dX0_isDraftThere_3 : decode cX0_isDraftThere 3 = .ok (.aload_n 0, 1) := by decide +kernel
theorem dX0_isDraftThere_4 : decode cX0_isDraftThere 4 = .ok (.getfield 23, 3) := by decide +kernel
theorem dX0_isDraftThere_7 : decode cX0_isDraftThere 7 = .ok (.if_icmp .ge 36, 3) := by decide +kernel
theorem dX0_isDraftThere_10 : decode cX0_isDraftThere 10 = .ok (.aload_n 0, 1) := by decide +kernel
theorem dX0_isDraftThere_11 : decode cX0_isDraftThere 11 = .ok (.getfield 20, 3) := by decide +kernel
theorem dX0_isDraftThere_14 : decode cX0_isDraftThere 14 = .ok (.iload_n 2, 1) := by decide +kernel
theorem dX0_isDraftThere_15 : decode cX0_isDraftThere 15 = .ok (.iaload, 1) := by decide +kernel
theorem dX0_isDraftThere_16 : decode cX0_isDraftThere 16 = .ok (.istore_n 3, 1) := by decide +kernel
theorem dX0_isDraftThere_17 : decode cX0_isDraftThere 17 = .ok (.aload_n 0, 1) := by decide +kernel
theorem dX0_isDraftThere_18 : decode cX0_isDraftThere 18 = .ok (.getfield 36, 3) := by decide +kernel
theorem dX0_isDraftThere_21 : decode cX0_isDraftThere 21 = .ok (.iload_n 3, 1) := by decide +kernel
theorem dX0_isDraftThere_22 : decode cX0_isDraftThere 22 = .ok (.iaload, 1) := by decide +kernel
theorem dX0_isDraftThere_23 : decode cX0_isDraftThere 23 = .ok (.iload_n 1, 1) := by decide +kernel
theorem dX0_isDraftThere_24 : decode cX0_isDraftThere 24 = .ok (.if_icmp .ne 13, 3) := by decide +kernel
theorem dX0_isDraftThere_27 : decode cX0_isDraftThere 27 = .ok (.aload_n 0, 1) := by decide +kernel
theorem dX0_isDraftThere_28 : decode cX0_isDraftThere 28 = .ok (.iload_n 3, 1) := by decide +kernel
theorem dX0_isDraftThere_29 : decode cX0_isDraftThere 29 = .ok (.invokevirtual 116, 3) := by decide +kernel
theorem dX0_isDraftThere_32 : decode cX0_isDraftThere 32 = .ok (.ifCond .eq 5, 3) := by decide +kernel
theorem dX0_isDraftThere_35 : decode cX0_isDraftThere 35 = .ok (.iconst 1, 1) := by decide +kernel
theorem dX0_isDraftThere_36 : decode cX0_isDraftThere 36 = .ok (.ireturn, 1) := by decide +kernel
theorem dX0_isDraftThere_37 : decode cX0_isDraftThere 37 = .ok (.iinc 2 1, 3) := by decide +kernel
theorem dX0_isDraftThere_40 : decode cX0_isDraftThere 40 = .ok (.goto (-38), 3) := by decide +kernel
theorem dX0_isDraftThere_43 : decode cX0_isDraftThere 43 = .ok (.iconst 0, 1) := by decide +kernel
theorem dX0_isDraftThere_44 : decode cX0_isDraftThere 44 = .ok (.ireturn, 1) := by decide +kernel
set_option maxRecDepth 20000 in
theorem ggX0_isDraftIn_X0_draftBits : GoodIn wsX0_isDraftIn wsX0_draftBits := goodIn_r _ [9, 10, 11, 12, 13, 14, 15, 16, 17, 18, 19, 20, 21, 22, 23, 24, 25, 26, 27, 28] (by decide +kernel) (by decide +kernel)
set_option maxRecDepth 20000 in
theorem gX0_isDraftIn_X0_draftBits : GoodIn wsX0_isDraftIn (wsV RX0 110 RX0 yX0_draftBits wsX0_draftBits) := goodIn_app (goodIn_of _ (by decide +kernel)) ggX0_isDraftIn_X0_draftBits
theorem dX0_isDraftIn_0 : decode cX0_isDraftIn 0 = .ok (.iconst 0, 1) := by decide +kernel
theorem dX0_isDraftIn_1 : decode cX0_isDraftIn 1 = .ok (.istore_n 2, 1) := by decide +kernel
theorem dX0_isDraftIn_2 : decode cX0_isDraftIn 2 = .ok (.iload_n 2, 1) := by decide +kernel
theorem dX0_isDraftIn_3 : decode cX0_isDraftIn 3 = .ok (.aload_n 0, 1) := by decide +kernel
theorem dX0_isDraftIn_4 : decode cX0_isDraftIn 4 = .ok (.getfield 60, 3) := by decide +kernel
theorem dX0_isDraftIn_7 : decode cX0_isDraftIn 7 = .ok (.if_icmp .ge 48, 3) := by decide +kernel
theorem dX0_isDraftIn_10 : decode cX0_isDraftIn 10 = .ok (.iload_n 1, 1) := by decide +kernel
theorem dX0_isDraftIn_11 : decode cX0_isDraftIn 11 = .ok (.iconst 3, 1) := by decide +kernel
theorem dX0_isDraftIn_12 : decode cX0_isDraftIn 12 = .ok (.imul, 1) := by decide +kernel
theorem dX0_isDraftIn_13 : decode cX0_isDraftIn 13 = .ok (.iload_n 2, 1) := by decide +kernel
theorem dX0_isDraftIn_14 : decode cX0_isDraftIn 14 = .ok (.iadd, 1) := by decide +kernel
theorem dX0_isDraftIn_15 : decode cX0_isDraftIn 15 = .ok (.istore_n 3, 1) := by decide +kernel
theorem dX0_isDraftIn_16 : decode cX0_isDraftIn 16 = .ok (.aload_n 0, 1) := by decide +kernel
theorem dX0_isDraftIn_17 : decode cX0_isDraftIn 17 = .ok (.getfield 45, 3) := by decide +kernel
theorem dX0_isDraftIn_20 : decode cX0_isDraftIn 20 = .ok (.iload_n 3, 1) := by decide +kernel
theorem dX0_isDraftIn_21 : decode cX0_isDraftIn 21 = .ok (.laload, 1) := by decide +kernel
theorem dX0_isDraftIn_22 : decode cX0_isDraftIn 22 = .ok (.aload_n 0, 1) := by decide +kernel
theorem dX0_isDraftIn_23 : decode cX0_isDraftIn 23 = .ok (.getfield 13, 3) := by decide +kernel
theorem dX0_isDraftIn_26 : decode cX0_isDraftIn 26 = .ok (.iload_n 2, 1) := by decide +kernel
theorem dX0_isDraftIn_27 : decode cX0_isDraftIn 27 = .ok (.laload, 1) := by decide +kernel
theorem dX0_isDraftIn_28 : decode cX0_isDraftIn 28 = .ok (.lcmp, 1) := by decide +kernel
theorem dX0_isDraftIn_29 : decode cX0_isDraftIn 29 = .ok (.ifCond .ne 18, 3) := by decide +kernel
theorem dX0_isDraftIn_32 : decode cX0_isDraftIn 32 = .ok (.aload_n 0, 1) := by decide +kernel
theorem dX0_isDraftIn_33 : decode cX0_isDraftIn 33 = .ok (.getfield 48, 3) := by decide +kernel
theorem dX0_isDraftIn_36 : decode cX0_isDraftIn 36 = .ok (.iload_n 3, 1) := by decide +kernel
theorem dX0_isDraftIn_37 : decode cX0_isDraftIn 37 = .ok (.laload, 1) := by decide +kernel
theorem dX0_isDraftIn_38 : decode cX0_isDraftIn 38 = .ok (.aload_n 0, 1) := by decide +kernel
theorem dX0_isDraftIn_39 : decode cX0_isDraftIn 39 = .ok (.iload_n 2, 1) := by decide +kernel
theorem dX0_isDraftIn_40 : decode cX0_isDraftIn 40 = .ok (.invokevirtual 110, 3) := by decide +kernel
theorem dX0_isDraftIn_43 : decode cX0_isDraftIn 43 = .ok (.lcmp, 1) := by decide +kernel
theorem dX0_isDraftIn_44 : decode cX0_isDraftIn 44 = .ok (.ifCond .eq 5, 3) := by decide +kernel
theorem dX0_isDraftIn_47 : decode cX0_isDraftIn 47 = .ok (.iconst 0, 1) := by decide +kernel
theorem dX0_isDraftIn_48 : decode cX0_isDraftIn 48 = .ok (.ireturn, 1) := by decide +kernel
theorem dX0_isDraftIn_49 : decode cX0_isDraftIn 49 = .ok (.iinc 2 1, 3) := by decide +kernel
theorem dX0_isDraftIn_52 : decode cX0_isDraftIn 52 = .ok (.goto (-50), 3) := by decide +kernel
theorem dX0_isDraftIn_55 : decode cX0_isDraftIn 55 = .ok (.iconst 1, 1) := by decide +kernel
theorem dX0_isDraftIn_56 : decode cX0_isDraftIn 56 = .ok (.ireturn, 1) := by decide +kernel
set_option maxRecDepth 20000 in
theorem ggX0_rankForDraft_X0_draftPrefix : GoodIn wsX0_rankForDraft wsX0_draftPrefix := goodIn_r _ [9, 10, 11, 12, 13, 14, 15, 16, 17, 18, 19, 20, 21, 22, 23, 24, 25, 26, 27, 28] (by decide +kernel) (by decide +kernel)
set_option maxRecDepth 20000 in
theorem gX0_rankForDraft_X0_draftPrefix : GoodIn wsX0_rankForDraft (wsV RX0 119 RX0 yX0_draftPrefix wsX0_draftPrefix) := goodIn_app (goodIn_of _ (by decide +kernel)) ggX0_rankForDraft_X0_draftPrefix
theorem dX0_rankForDraft_0 : decode cX0_rankForDraft 0 = .ok (.aload_n 0, 1) := by decide +kernel
theorem dX0_rankForDraft_1 : decode cX0_rankForDraft 1 = .ok (.invokevirtual 119, 3) := by decide +kernel
theorem dX0_rankForDraft_4 : decode cX0_rankForDraft 4 = .ok (.istore_n 2, 1) := by decide +kernel
theorem dX0_rankForDraft_5 : decode cX0_rankForDraft 5 = .ok (.iconst 0, 1) := by decide +kernel
theorem dX0_rankForDraft_6 : decode cX0_rankForDraft 6 = .ok (.istore_n 3, 1) := by decide +kernel
theorem dX0_rankForDraft_7 : decode cX0_rankForDraft 7 = .ok (.iload_n 3, 1) := by decide +kernel
theorem dX0_rankForDraft_8 : decode cX0_rankForDraft 8 = .ok (.aload_n 0, 1) := by decide +kernel
theorem dX0_rankForDraft_9 : decode cX0_rankForDraft 9 = .ok (.getfield 23, 3) := by decide +kernel
theorem dX0_rankForDraft_12 : decode cX0_rankForDraft 12 = .ok (.if_icmp .ge 52, 3) := by decide +kernel
theorem dX0_rankForDraft_15 : decode cX0_rankForDraft 15 = .ok (.aload_n 0, 1) := by decide +kernel
theorem dX0_rankForDraft_16 : decode cX0_rankForDraft 16 = .ok (.getfield 20, 3) := by decide +kernel
theorem dX0_rankForDraft_19 : decode cX0_rankForDraft 19 = .ok (.iload_n 3, 1) := by decide +kernel
theorem dX0_rankForDraft_20 : decode cX0_rankForDraft 20 = .ok (.iaload, 1) := by decide +kernel
theorem dX0_rankForDraft_21 : decode cX0_rankForDraft 21 = .ok (.istore 4, 2) := by decide +kernel
theorem dX0_rankForDraft_23 : decode cX0_rankForDraft 23 = .ok (.aload_n 0, 1) := by decide +kernel
theorem dX0_rankForDraft_24 : decode cX0_rankForDraft 24 = .ok (.getfield 39, 3) := by decide +kernel
theorem dX0_rankForDraft_27 : decode cX0_rankForDraft 27 = .ok (.iload 4, 2) := by decide +kernel
theorem dX0_rankForDraft_29 : decode cX0_rankForDraft 29 = .ok (.iaload, 1) := by decide +kernel
theorem dX0_rankForDraft_30 : decode cX0_rankForDraft 30 = .ok (.iload_n 2, 1) := by decide +kernel
theorem dX0_rankForDraft_31 : decode cX0_rankForDraft 31 = .ok (.if_icmp .lt 25, 3) := by decide +kernel
theorem dX0_rankForDraft_34 : decode cX0_rankForDraft 34 = .ok (.aload_n 0, 1) := by decide +kernel
theorem dX0_rankForDraft_35 : decode cX0_rankForDraft 35 = .ok (.getfield 39, 3) := by decide +kernel
theorem dX0_rankForDraft_38 : decode cX0_rankForDraft 38 = .ok (.iload 4, 2) := by decide +kernel
theorem dX0_rankForDraft_40 : decode cX0_rankForDraft 40 = .ok (.iaload, 1) := by decide +kernel
theorem dX0_rankForDraft_41 : decode cX0_rankForDraft 41 = .ok (.iload_n 2, 1) := by decide +kernel
theorem dX0_rankForDraft_42 : decode cX0_rankForDraft 42 = .ok (.if_icmp .ne 16, 3) := by decide +kernel
theorem dX0_rankForDraft_45 : decode cX0_rankForDraft 45 = .ok (.aload_n 0, 1) := by decide +kernel
theorem dX0_rankForDraft_46 : decode cX0_rankForDraft 46 = .ok (.getfield 36, 3) := by decide +kernel
theorem dX0_rankForDraft_49 : decode cX0_rankForDraft 49 = .ok (.iload 4, 2) := by decide +kernel
theorem dX0_rankForDraft_51 : decode cX0_rankForDraft 51 = .ok (.iaload, 1) := by decide +kernel
theorem dX0_rankForDraft_52 : decode cX0_rankForDraft 52 = .ok (.iload_n 1, 1) := by decide +kernel
theorem dX0_rankForDraft_53 : decode cX0_rankForDraft 53 = .ok (.if_icmp .ge 5, 3) := by decide +kernel
theorem dX0_rankForDraft_56 : decode cX0_rankForDraft 56 = .ok (.iload_n 3, 1) := by decide +kernel
theorem dX0_rankForDraft_57 : decode cX0_rankForDraft 57 = .ok (.ireturn, 1) := by decide +kernel
theorem dX0_rankForDraft_58 : decode cX0_rankForDraft 58 = .ok (.iinc 3 1, 3) := by decide +kernel
theorem dX0_rankForDraft_61 : decode cX0_rankForDraft 61 = .ok (.goto (-54), 3) := by decide +kernel
theorem dX0_rankForDraft_64 : decode cX0_rankForDraft 64 = .ok (.aload_n 0, 1) := by decide +kernel
theorem dX0_rankForDraft_65 : decode cX0_rankForDraft 65 = .ok (.getfield 23, 3) := by decide +kernel
theorem dX0_rankForDraft_68 : decode cX0_rankForDraft 68 = .ok (.ireturn, 1) := by decide +kernel
theorem dX0_takeSlot_0 : decode cX0_takeSlot 0 = .ok (.aload_n 0, 1) := by decide +kernel
theorem dX0_takeSlot_1 : decode cX0_takeSlot 1 = .ok (.getfield 20, 3) := by decide +kernel
theorem dX0_takeSlot_4 : decode cX0_takeSlot 4 = .ok (.aload_n 0, 1) := by decide +kernel
theorem dX0_takeSlot_5 : decode cX0_takeSlot 5 = .ok (.getfield 23, 3) := by decide +kernel
theorem dX0_takeSlot_8 : decode cX0_takeSlot 8 = .ok (.iaload, 1) := by decide +kernel
theorem dX0_takeSlot_9 : decode cX0_takeSlot 9 = .ok (.istore_n 2, 1) := by decide +kernel
theorem dX0_takeSlot_10 : decode cX0_takeSlot 10 = .ok (.aload_n 0, 1) := by decide +kernel
theorem dX0_takeSlot_11 : decode cX0_takeSlot 11 = .ok (.getfield 20, 3) := by decide +kernel
theorem dX0_takeSlot_14 : decode cX0_takeSlot 14 = .ok (.iload_n 1, 1) := by decide +kernel
theorem dX0_takeSlot_15 : decode cX0_takeSlot 15 = .ok (.aload_n 0, 1) := by decide +kernel
theorem dX0_takeSlot_16 : decode cX0_takeSlot 16 = .ok (.getfield 20, 3) := by decide +kernel
theorem dX0_takeSlot_19 : decode cX0_takeSlot 19 = .ok (.iload_n 1, 1) := by decide +kernel
theorem dX0_takeSlot_20 : decode cX0_takeSlot 20 = .ok (.iconst 1, 1) := by decide +kernel
theorem dX0_takeSlot_21 : decode cX0_takeSlot 21 = .ok (.iadd, 1) := by decide +kernel
theorem dX0_takeSlot_22 : decode cX0_takeSlot 22 = .ok (.aload_n 0, 1) := by decide +kernel
theorem dX0_takeSlot_23 : decode cX0_takeSlot 23 = .ok (.getfield 23, 3) := by decide +kernel
theorem dX0_takeSlot_26 : decode cX0_takeSlot 26 = .ok (.iload_n 1, 1) := by decide +kernel
theorem dX0_takeSlot_27 : decode cX0_takeSlot 27 = .ok (.isub, 1) := by decide +kernel
theorem dX0_takeSlot_28 : decode cX0_takeSlot 28 = .ok (.invokestatic 123, 3) := by decide +kernel
theorem dX0_takeSlot_31 : decode cX0_takeSlot 31 = .ok (.aload_n 0, 1) := by decide +kernel
theorem dX0_takeSlot_32 : decode cX0_takeSlot 32 = .ok (.getfield 20, 3) := by decide +kernel
theorem dX0_takeSlot_35 : decode cX0_takeSlot 35 = .ok (.iload_n 1, 1) := by decide +kernel
theorem dX0_takeSlot_36 : decode cX0_takeSlot 36 = .ok (.iload_n 2, 1) := by decide +kernel
theorem dX0_takeSlot_37 : decode cX0_takeSlot 37 = .ok (.iastore, 1) := by decide +kernel
theorem dX0_takeSlot_38 : decode cX0_takeSlot 38 = .ok (.aload_n 0, 1) := by decide +kernel
theorem dX0_takeSlot_39 : decode cX0_takeSlot 39 = .ok (.dup, 1) := by decide +kernel
theorem dX0_takeSlot_40 : decode cX0_takeSlot 40 = .ok (.getfield 23, 3) := by decide +kernel
theorem dX0_takeSlot_43 : decode cX0_takeSlot 43 = .ok (.iconst 1, 1) := by decide +kernel
theorem dX0_takeSlot_44 : decode cX0_takeSlot 44 = .ok (.iadd, 1) := by decide +kernel
theorem dX0_takeSlot_45 : decode cX0_takeSlot 45 = .ok (.putfield 23, 3) := by decide +kernel
theorem dX0_takeSlot_48 : decode cX0_takeSlot 48 = .ok (.iload_n 2, 1) := by decide +kernel
theorem dX0_takeSlot_49 : decode cX0_takeSlot 49 = .ok (.ireturn, 1) := by decide +kernel
theorem dX0_freeSlot_0 : decode cX0_freeSlot 0 = .ok (.aload_n 0, 1) := by decide +kernel
theorem dX0_freeSlot_1 : decode cX0_freeSlot 1 = .ok (.getfield 20, 3) := by decide +kernel
theorem dX0_freeSlot_4 : decode cX0_freeSlot 4 = .ok (.iload_n 1, 1) := by decide +kernel
theorem dX0_freeSlot_5 : decode cX0_freeSlot 5 = .ok (.iaload, 1) := by decide +kernel
theorem dX0_freeSlot_6 : decode cX0_freeSlot 6 = .ok (.istore_n 2, 1) := by decide +kernel
theorem dX0_freeSlot_7 : decode cX0_freeSlot 7 = .ok (.aload_n 0, 1) := by decide +kernel
theorem dX0_freeSlot_8 : decode cX0_freeSlot 8 = .ok (.dup, 1) := by decide +kernel
theorem dX0_freeSlot_9 : decode cX0_freeSlot 9 = .ok (.getfield 23, 3) := by decide +kernel
theorem dX0_freeSlot_12 : decode cX0_freeSlot 12 = .ok (.iconst 1, 1) := by decide +kernel
theorem dX0_freeSlot_13 : decode cX0_freeSlot 13 = .ok (.isub, 1) := by decide +kernel
theorem dX0_freeSlot_14 : decode cX0_freeSlot 14 = .ok (.putfield 23, 3) := by decide +kernel
theorem dX0_freeSlot_17 : decode cX0_freeSlot 17 = .ok (.aload_n 0, 1) := by decide +kernel
theorem dX0_freeSlot_18 : decode cX0_freeSlot 18 = .ok (.getfield 20, 3) := by decide +kernel
theorem dX0_freeSlot_21 : decode cX0_freeSlot 21 = .ok (.iload_n 1, 1) := by decide +kernel
theorem dX0_freeSlot_22 : decode cX0_freeSlot 22 = .ok (.iconst 1, 1) := by decide +kernel
theorem dX0_freeSlot_23 : decode cX0_freeSlot 23 = .ok (.iadd, 1) := by decide +kernel
theorem dX0_freeSlot_24 : decode cX0_freeSlot 24 = .ok (.aload_n 0, 1) := by decide +kernel
theorem dX0_freeSlot_25 : decode cX0_freeSlot 25 = .ok (.getfield 20, 3) := by decide +kernel
theorem dX0_freeSlot_28 : decode cX0_freeSlot 28 = .ok (.iload_n 1, 1) := by decide +kernel
theorem dX0_freeSlot_29 : decode cX0_freeSlot 29 = .ok (.aload_n 0, 1) := by decide +kernel
theorem dX0_freeSlot_30 : decode cX0_freeSlot 30 = .ok (.getfield 23, 3) := by decide +kernel
theorem dX0_freeSlot_33 : decode cX0_freeSlot 33 = .ok (.iload_n 1, 1) := by decide +kernel
theorem dX0_freeSlot_34 : decode cX0_freeSlot 34 = .ok (.isub, 1) := by decide +kernel
theorem dX0_freeSlot_35 : decode cX0_freeSlot 35 = .ok (.invokestatic 123, 3) := by decide +kernel
theorem dX0_freeSlot_38 : decode cX0_freeSlot 38 = .ok (.aload_n 0, 1) := by decide +kernel
theorem dX0_freeSlot_39 : decode cX0_freeSlot 39 = .ok (.getfield 20, 3) := by decide +kernel
theorem dX0_freeSlot_42 : decode cX0_freeSlot 42 = .ok (.aload_n 0, 1) := by decide +kernel
theorem dX0_freeSlot_43 : decode cX0_freeSlot 43 = .ok (.getfield 23, 3) := by decide +kernel
theorem dX0_freeSlot_46 : decode cX0_freeSlot 46 = .ok (.iload_n 2, 1) := by decide +kernel
theorem dX0_freeSlot_47 : decode cX0_freeSlot 47 = .ok (.iastore, 1) := by decide +kernel
theorem dX0_freeSlot_48 : decode cX0_freeSlot 48 = .ok (.return_, 1) := by decide +kernel
set_option maxRecDepth 20000 in
theorem ggX0_fillSlot_X0_draftPrefix : GoodIn wsX0_fillSlot wsX0_draftPrefix := goodIn_r _ [14, 6, 15, 16, 22, 23, 24, 25, 26, 27, 28, 29, 30, 31, 32, 33, 34, 35, 36, 37] (by decide +kernel) (by decide +kernel)
set_option maxRecDepth 20000 in
theorem gX0_fillSlot_X0_draftPrefix : GoodIn wsX0_fillSlot (wsV RX0 119 RX0 yX0_draftPrefix wsX0_draftPrefix) := goodIn_app (goodIn_of _ (by decide +kernel)) ggX0_fillSlot_X0_draftPrefix
set_option maxRecDepth 20000 in
theorem ggX0_fillSlot_X0_draftBits : GoodIn wsX0_fillSlot wsX0_draftBits := goodIn_r _ [20, 15, 21, 16, 22, 23, 24, 25, 26, 27, 28, 29, 30, 31, 32, 33, 34, 35, 36, 37] (by decide +kernel) (by decide +kernel)
set_option maxRecDepth 20000 in
theorem gX0_fillSlot_X0_draftBits : GoodIn wsX0_fillSlot (wsV RX0 110 RX0 yX0_draftBits wsX0_draftBits) := goodIn_app (goodIn_of _ (by decide +kernel)) ggX0_fillSlot_X0_draftBits
theorem dX0_fillSlot_0 : decode cX0_fillSlot 0 = .ok (.aload_n 0, 1) := by decide +kernel
theorem dX0_fillSlot_1 : decode cX0_fillSlot 1 = .ok (.getfield 33, 3) := by decide +kernel
theorem dX0_fillSlot_4 : decode cX0_fillSlot 4 = .ok (.iload_n 1, 1) := by decide +kernel
theorem dX0_fillSlot_5 : decode cX0_fillSlot 5 = .ok (.aload_n 0, 1) := by decide +kernel
theorem dX0_fillSlot_6 : decode cX0_fillSlot 6 = .ok (.getfield 27, 3) := by decide +kernel
theorem dX0_fillSlot_9 : decode cX0_fillSlot 9 = .ok (.iastore, 1) := by decide +kernel
theorem dX0_fillSlot_10 : decode cX0_fillSlot 10 = .ok (.aload_n 0, 1) := by decide +kernel
theorem dX0_fillSlot_11 : decode cX0_fillSlot 11 = .ok (.dup, 1) := by decide +kernel
theorem dX0_fillSlot_12 : decode cX0_fillSlot 12 = .ok (.getfield 27, 3) := by decide +kernel
theorem dX0_fillSlot_15 : decode cX0_fillSlot 15 = .ok (.iconst 1, 1) := by decide +kernel
theorem dX0_fillSlot_16 : decode cX0_fillSlot 16 = .ok (.iadd, 1) := by decide +kernel
theorem dX0_fillSlot_17 : decode cX0_fillSlot 17 = .ok (.putfield 27, 3) := by decide +kernel
theorem dX0_fillSlot_20 : decode cX0_fillSlot 20 = .ok (.aload_n 0, 1) := by decide +kernel
theorem dX0_fillSlot_21 : decode cX0_fillSlot 21 = .ok (.getfield 36, 3) := by decide +kernel
theorem dX0_fillSlot_24 : decode cX0_fillSlot 24 = .ok (.iload_n 1, 1) := by decide +kernel
theorem dX0_fillSlot_25 : decode cX0_fillSlot 25 = .ok (.iload_n 2, 1) := by decide +kernel
theorem dX0_fillSlot_26 : decode cX0_fillSlot 26 = .ok (.iastore, 1) := by decide +kernel
theorem dX0_fillSlot_27 : decode cX0_fillSlot 27 = .ok (.aload_n 0, 1) := by decide +kernel
theorem dX0_fillSlot_28 : decode cX0_fillSlot 28 = .ok (.getfield 39, 3) := by decide +kernel
theorem dX0_fillSlot_31 : decode cX0_fillSlot 31 = .ok (.iload_n 1, 1) := by decide +kernel
theorem dX0_fillSlot_32 : decode cX0_fillSlot 32 = .ok (.aload_n 0, 1) := by decide +kernel
theorem dX0_fillSlot_33 : decode cX0_fillSlot 33 = .ok (.invokevirtual 119, 3) := by decide +kernel
theorem dX0_fillSlot_36 : decode cX0_fillSlot 36 = .ok (.iastore, 1) := by decide +kernel
theorem dX0_fillSlot_37 : decode cX0_fillSlot 37 = .ok (.aload_n 0, 1) := by decide +kernel
theorem dX0_fillSlot_38 : decode cX0_fillSlot 38 = .ok (.getfield 42, 3) := by decide +kernel
theorem dX0_fillSlot_41 : decode cX0_fillSlot 41 = .ok (.iload_n 1, 1) := by decide +kernel
theorem dX0_fillSlot_42 : decode cX0_fillSlot 42 = .ok (.iconst 0, 1) := by decide +kernel
theorem dX0_fillSlot_43 : decode cX0_fillSlot 43 = .ok (.iastore, 1) := by decide +kernel
theorem dX0_fillSlot_44 : decode cX0_fillSlot 44 = .ok (.iconst 0, 1) := by decide +kernel
theorem dX0_fillSlot_45 : decode cX0_fillSlot 45 = .ok (.istore_n 3, 1) := by decide +kernel
theorem dX0_fillSlot_46 : decode cX0_fillSlot 46 = .ok (.iload_n 3, 1) := by decide +kernel
theorem dX0_fillSlot_47 : decode cX0_fillSlot 47 = .ok (.aload_n 0, 1) := by decide +kernel
theorem dX0_fillSlot_48 : decode cX0_fillSlot 48 = .ok (.getfield 60, 3) := by decide +kernel
theorem dX0_fillSlot_51 : decode cX0_fillSlot 51 = .ok (.if_icmp .ge 40, 3) := by decide +kernel
theorem dX0_fillSlot_54 : decode cX0_fillSlot 54 = .ok (.aload_n 0, 1) := by decide +kernel
theorem dX0_fillSlot_55 : decode cX0_fillSlot 55 = .ok (.getfield 45, 3) := by decide +kernel
theorem dX0_fillSlot_58 : decode cX0_fillSlot 58 = .ok (.iload_n 1, 1) := by decide +kernel
theorem dX0_fillSlot_59 : decode cX0_fillSlot 59 = .ok (.iconst 3, 1) := by decide +kernel
theorem dX0_fillSlot_60 : decode cX0_fillSlot 60 = .ok (.imul, 1) := by decide +kernel
theorem dX0_fillSlot_61 : decode cX0_fillSlot 61 = .ok (.iload_n 3, 1) := by decide +kernel
theorem dX0_fillSlot_62 : decode cX0_fillSlot 62 = .ok (.iadd, 1) := by decide +kernel
theorem dX0_fillSlot_63 : decode cX0_fillSlot 63 = .ok (.aload_n 0, 1) := by decide +kernel
theorem dX0_fillSlot_64 : decode cX0_fillSlot 64 = .ok (.getfield 13, 3) := by decide +kernel
theorem dX0_fillSlot_67 : decode cX0_fillSlot 67 = .ok (.iload_n 3, 1) := by decide +kernel
theorem dX0_fillSlot_68 : decode cX0_fillSlot 68 = .ok (.laload, 1) := by decide +kernel
theorem dX0_fillSlot_69 : decode cX0_fillSlot 69 = .ok (.lastore, 1) := by decide +kernel
theorem dX0_fillSlot_70 : decode cX0_fillSlot 70 = .ok (.aload_n 0, 1) := by decide +kernel
theorem dX0_fillSlot_71 : decode cX0_fillSlot 71 = .ok (.getfield 48, 3) := by decide +kernel
theorem dX0_fillSlot_74 : decode cX0_fillSlot 74 = .ok (.iload_n 1, 1) := by decide +kernel
theorem dX0_fillSlot_75 : decode cX0_fillSlot 75 = .ok (.iconst 3, 1) := by decide +kernel
theorem dX0_fillSlot_76 : decode cX0_fillSlot 76 = .ok (.imul, 1) := by decide +kernel
theorem dX0_fillSlot_77 : decode cX0_fillSlot 77 = .ok (.iload_n 3, 1) := by decide +kernel
theorem dX0_fillSlot_78 : decode cX0_fillSlot 78 = .ok (.iadd, 1) := by decide +kernel
theorem dX0_fillSlot_79 : decode cX0_fillSlot 79 = .ok (.aload_n 0, 1) := by decide +kernel
theorem dX0_fillSlot_80 : decode cX0_fillSlot 80 = .ok (.iload_n 3, 1) := by decide +kernel
theorem dX0_fillSlot_81 : decode cX0_fillSlot 81 = .ok (.invokevirtual 110, 3) := by decide +kernel
theorem dX0_fillSlot_84 : decode cX0_fillSlot 84 = .ok (.lastore, 1) := by decide +kernel
theorem dX0_fillSlot_85 : decode cX0_fillSlot 85 = .ok (.iinc 3 1, 3) := by decide +kernel
theorem dX0_fillSlot_88 : decode cX0_fillSlot 88 = .ok (.goto (-42), 3) := by decide +kernel
theorem dX0_fillSlot_91 : decode cX0_fillSlot 91 = .ok (.return_, 1) := by decide +kernel
theorem dX0_clearDraft_0 : decode cX0_clearDraft 0 = .ok (.iconst 0, 1) := by decide +kernel
theorem dX0_clearDraft_1 : decode cX0_clearDraft 1 = .ok (.istore_n 1, 1) := by decide +kernel
theorem dX0_clearDraft_2 : decode cX0_clearDraft 2 = .ok (.iload_n 1, 1) := by decide +kernel
theorem dX0_clearDraft_3 : decode cX0_clearDraft 3 = .ok (.iconst 3, 1) := by decide +kernel
theorem dX0_clearDraft_4 : decode cX0_clearDraft 4 = .ok (.if_icmp .ge 23, 3) := by decide +kernel
theorem dX0_clearDraft_7 : decode cX0_clearDraft 7 = .ok (.aload_n 0, 1) := by decide +kernel
theorem dX0_clearDraft_8 : decode cX0_clearDraft 8 = .ok (.getfield 13, 3) := by decide +kernel
theorem dX0_clearDraft_11 : decode cX0_clearDraft 11 = .ok (.iload_n 1, 1) := by decide +kernel
theorem dX0_clearDraft_12 : decode cX0_clearDraft 12 = .ok (.lconst 0, 1) := by decide +kernel
theorem dX0_clearDraft_13 : decode cX0_clearDraft 13 = .ok (.lastore, 1) := by decide +kernel
theorem dX0_clearDraft_14 : decode cX0_clearDraft 14 = .ok (.aload_n 0, 1) := by decide +kernel
theorem dX0_clearDraft_15 : decode cX0_clearDraft 15 = .ok (.getfield 17, 3) := by decide +kernel
theorem dX0_clearDraft_18 : decode cX0_clearDraft 18 = .ok (.iload_n 1, 1) := by decide +kernel
theorem dX0_clearDraft_19 : decode cX0_clearDraft 19 = .ok (.lconst 0, 1) := by decide +kernel
theorem dX0_clearDraft_20 : decode cX0_clearDraft 20 = .ok (.lastore, 1) := by decide +kernel
theorem dX0_clearDraft_21 : decode cX0_clearDraft 21 = .ok (.iinc 1 1, 3) := by decide +kernel
theorem dX0_clearDraft_24 : decode cX0_clearDraft 24 = .ok (.goto (-22), 3) := by decide +kernel
theorem dX0_clearDraft_27 : decode cX0_clearDraft 27 = .ok (.return_, 1) := by decide +kernel
theorem dX0_rankOf_0 : decode cX0_rankOf 0 = .ok (.iconst 0, 1) := by decide +kernel
theorem dX0_rankOf_1 : decode cX0_rankOf 1 = .ok (.istore_n 2, 1) := by decide +kernel
theorem dX0_rankOf_2 : decode cX0_rankOf 2 = .ok (.iload_n 2, 1) := by decide +kernel
theorem dX0_rankOf_3 : decode cX0_rankOf 3 = .ok (.aload_n 0, 1) := by decide +kernel
theorem dX0_rankOf_4 : decode cX0_rankOf 4 = .ok (.getfield 23, 3) := by decide +kernel
theorem dX0_rankOf_7 : decode cX0_rankOf 7 = .ok (.if_icmp .ge 26, 3) := by decide +kernel
theorem dX0_rankOf_10 : decode cX0_rankOf 10 = .ok (.aload_n 0, 1) := by decide +kernel
theorem dX0_rankOf_11 : decode cX0_rankOf 11 = .ok (.getfield 33, 3) := by decide +kernel
theorem dX0_rankOf_14 : decode cX0_rankOf 14 = .ok (.aload_n 0, 1) := by decide +kernel
theorem dX0_rankOf_15 : decode cX0_rankOf 15 = .ok (.getfield 20, 3) := by decide +kernel
theorem dX0_rankOf_18 : decode cX0_rankOf 18 = .ok (.iload_n 2, 1) := by decide +kernel
theorem dX0_rankOf_19 : decode cX0_rankOf 19 = .ok (.iaload, 1) := by decide +kernel
theorem dX0_rankOf_20 : decode cX0_rankOf 20 = .ok (.iaload, 1) := by decide +kernel
theorem dX0_rankOf_21 : decode cX0_rankOf 21 = .ok (.iload_n 1, 1) := by decide +kernel
theorem dX0_rankOf_22 : decode cX0_rankOf 22 = .ok (.if_icmp .ne 5, 3) := by decide +kernel
theorem dX0_rankOf_25 : decode cX0_rankOf 25 = .ok (.iload_n 2, 1) := by decide +kernel
theorem dX0_rankOf_26 : decode cX0_rankOf 26 = .ok (.ireturn, 1) := by decide +kernel
theorem dX0_rankOf_27 : decode cX0_rankOf 27 = .ok (.iinc 2 1, 3) := by decide +kernel
theorem dX0_rankOf_30 : decode cX0_rankOf 30 = .ok (.goto (-28), 3) := by decide +kernel
theorem dX0_rankOf_33 : decode cX0_rankOf 33 = .ok (.iconst (-1), 1) := by decide +kernel
theorem dX0_rankOf_34 : decode cX0_rankOf 34 = .ok (.ireturn, 1) := by decide +kernel
theorem dX0_fits_0 : decode cX0_fits 0 = .ok (.iload_n 1, 1) := by decide +kernel
theorem dX0_fits_1 : decode cX0_fits 1 = .ok (.iconst 3, 1) := by decide +kernel
theorem dX0_fits_2 : decode cX0_fits 2 = .ok (.imul, 1) := by decide +kernel
theorem dX0_fits_3 : decode cX0_fits 3 = .ok (.iload_n 2, 1) := by decide +kernel
theorem dX0_fits_4 : decode cX0_fits 4 = .ok (.iadd, 1) := by decide +kernel
theorem dX0_fits_5 : decode cX0_fits 5 = .ok (.istore 5, 2) := by decide +kernel
theorem dX0_fits_7 : decode cX0_fits 7 = .ok (.lload_n 3, 1) := by decide +kernel
theorem dX0_fits_8 : decode cX0_fits 8 = .ok (.aload_n 0, 1) := by decide +kernel
theorem dX0_fits_9 : decode cX0_fits 9 = .ok (.getfield 48, 3) := by decide +kernel
theorem dX0_fits_12 : decode cX0_fits 12 = .ok (.iload 5, 2) := by decide +kernel
theorem dX0_fits_14 : decode cX0_fits 14 = .ok (.laload, 1) := by decide +kernel
theorem dX0_fits_15 : decode cX0_fits 15 = .ok (.land, 1) := by decide +kernel
theorem dX0_fits_16 : decode cX0_fits 16 = .ok (.aload_n 0, 1) := by decide +kernel
theorem dX0_fits_17 : decode cX0_fits 17 = .ok (.getfield 45, 3) := by decide +kernel
theorem dX0_fits_20 : decode cX0_fits 20 = .ok (.iload 5, 2) := by decide +kernel
theorem dX0_fits_22 : decode cX0_fits 22 = .ok (.laload, 1) := by decide +kernel
theorem dX0_fits_23 : decode cX0_fits 23 = .ok (.lcmp, 1) := by decide +kernel
theorem dX0_fits_24 : decode cX0_fits 24 = .ok (.ifCond .ne 7, 3) := by decide +kernel
theorem dX0_fits_27 : decode cX0_fits 27 = .ok (.iconst 1, 1) := by decide +kernel
theorem dX0_fits_28 : decode cX0_fits 28 = .ok (.goto 4, 3) := by decide +kernel
theorem dX0_fits_31 : decode cX0_fits 31 = .ok (.iconst 0, 1) := by decide +kernel
theorem dX0_fits_32 : decode cX0_fits 32 = .ok (.ireturn, 1) := by decide +kernel
theorem dX1_init_0 : decode cX1_init 0 = .ok (.aload_n 0, 1) := by decide +kernel
theorem dX1_init_1 : decode cX1_init 1 = .ok (.invokespecial 1, 3) := by decide +kernel
theorem dX1_init_4 : decode cX1_init 4 = .ok (.aload_n 0, 1) := by decide +kernel
theorem dX1_init_5 : decode cX1_init 5 = .ok (.iconst 3, 1) := by decide +kernel
theorem dX1_init_6 : decode cX1_init 6 = .ok (.newarray .int, 2) := by decide +kernel
theorem dX1_init_8 : decode cX1_init 8 = .ok (.putfield 7, 3) := by decide +kernel
theorem dX1_init_11 : decode cX1_init 11 = .ok (.aload_n 0, 1) := by decide +kernel
theorem dX1_init_12 : decode cX1_init 12 = .ok (.bipush 24, 2) := by decide +kernel
theorem dX1_init_14 : decode cX1_init 14 = .ok (.newarray .int, 2) := by decide +kernel
theorem dX1_init_16 : decode cX1_init 16 = .ok (.putfield 13, 3) := by decide +kernel
theorem dX1_init_19 : decode cX1_init 19 = .ok (.aload_n 0, 1) := by decide +kernel
theorem dX1_init_20 : decode cX1_init 20 = .ok (.bipush 24, 2) := by decide +kernel
theorem dX1_init_22 : decode cX1_init 22 = .ok (.newarray .int, 2) := by decide +kernel
theorem dX1_init_24 : decode cX1_init 24 = .ok (.putfield 16, 3) := by decide +kernel
theorem dX1_init_27 : decode cX1_init 27 = .ok (.aload_n 0, 1) := by decide +kernel
theorem dX1_init_28 : decode cX1_init 28 = .ok (.bipush 24, 2) := by decide +kernel
theorem dX1_init_30 : decode cX1_init 30 = .ok (.newarray .int, 2) := by decide +kernel
theorem dX1_init_32 : decode cX1_init 32 = .ok (.putfield 19, 3) := by decide +kernel
theorem dX1_init_35 : decode cX1_init 35 = .ok (.aload_n 0, 1) := by decide +kernel
theorem dX1_init_36 : decode cX1_init 36 = .ok (.bipush 72, 2) := by decide +kernel
theorem dX1_init_38 : decode cX1_init 38 = .ok (.newarray .long, 2) := by decide +kernel
theorem dX1_init_40 : decode cX1_init 40 = .ok (.putfield 22, 3) := by decide +kernel
theorem dX1_init_43 : decode cX1_init 43 = .ok (.aload_n 0, 1) := by decide +kernel
theorem dX1_init_44 : decode cX1_init 44 = .ok (.bipush 72, 2) := by decide +kernel
theorem dX1_init_46 : decode cX1_init 46 = .ok (.newarray .long, 2) := by decide +kernel
theorem dX1_init_48 : decode cX1_init 48 = .ok (.putfield 26, 3) := by decide +kernel
theorem dX1_init_51 : decode cX1_init 51 = .ok (.aload_n 0, 1) := by decide +kernel
theorem dX1_init_52 : decode cX1_init 52 = .ok (.iconst 3, 1) := by decide +kernel
theorem dX1_init_53 : decode cX1_init 53 = .ok (.newarray .long, 2) := by decide +kernel
theorem dX1_init_55 : decode cX1_init 55 = .ok (.putfield 29, 3) := by decide +kernel
theorem dX1_init_58 : decode cX1_init 58 = .ok (.aload_n 0, 1) := by decide +kernel
theorem dX1_init_59 : decode cX1_init 59 = .ok (.iconst 3, 1) := by decide +kernel
theorem dX1_init_60 : decode cX1_init 60 = .ok (.newarray .long, 2) := by decide +kernel
theorem dX1_init_62 : decode cX1_init 62 = .ok (.putfield 32, 3) := by decide +kernel
theorem dX1_init_65 : decode cX1_init 65 = .ok (.aload_n 0, 1) := by decide +kernel
theorem dX1_init_66 : decode cX1_init 66 = .ok (.iconst 3, 1) := by decide +kernel
theorem dX1_init_67 : decode cX1_init 67 = .ok (.newarray .long, 2) := by decide +kernel
theorem dX1_init_69 : decode cX1_init 69 = .ok (.putfield 35, 3) := by decide +kernel
theorem dX1_init_72 : decode cX1_init 72 = .ok (.aload_n 0, 1) := by decide +kernel
theorem dX1_init_73 : decode cX1_init 73 = .ok (.iload_n 1, 1) := by decide +kernel
theorem dX1_init_74 : decode cX1_init 74 = .ok (.iconst 1, 1) := by decide +kernel
theorem dX1_init_75 : decode cX1_init 75 = .ok (.if_icmp .ge 7, 3) := by decide +kernel
theorem dX1_init_78 : decode cX1_init 78 = .ok (.iconst 1, 1) := by decide +kernel
theorem dX1_init_79 : decode cX1_init 79 = .ok (.goto 13, 3) := by decide +kernel
theorem dX1_init_82 : decode cX1_init 82 = .ok (.iload_n 1, 1) := by decide +kernel
theorem dX1_init_83 : decode cX1_init 83 = .ok (.iconst 3, 1) := by decide +kernel
theorem dX1_init_84 : decode cX1_init 84 = .ok (.if_icmp .le 7, 3) := by decide +kernel
theorem dX1_init_87 : decode cX1_init 87 = .ok (.iconst 3, 1) := by decide +kernel
theorem dX1_init_88 : decode cX1_init 88 = .ok (.goto 4, 3) := by decide +kernel
theorem dX1_init_91 : decode cX1_init 91 = .ok (.iload_n 1, 1) := by decide +kernel
theorem dX1_init_92 : decode cX1_init 92 = .ok (.putfield 38, 3) := by decide +kernel
theorem dX1_init_95 : decode cX1_init 95 = .ok (.aload_n 0, 1) := by decide +kernel
theorem dX1_init_96 : decode cX1_init 96 = .ok (.iload_n 3, 1) := by decide +kernel
theorem dX1_init_97 : decode cX1_init 97 = .ok (.iconst 1, 1) := by decide +kernel
theorem dX1_init_98 : decode cX1_init 98 = .ok (.if_icmp .ge 7, 3) := by decide +kernel
theorem dX1_init_101 : decode cX1_init 101 = .ok (.iconst 1, 1) := by decide +kernel
theorem dX1_init_102 : decode cX1_init 102 = .ok (.goto 15, 3) := by decide +kernel
theorem dX1_init_105 : decode cX1_init 105 = .ok (.iload_n 3, 1) := by decide +kernel
theorem dX1_init_106 : decode cX1_init 106 = .ok (.bipush 48, 2) := by decide +kernel
theorem dX1_init_108 : decode cX1_init 108 = .ok (.if_icmp .le 8, 3) := by decide +kernel
theorem dX1_init_111 : decode cX1_init 111 = .ok (.bipush 48, 2) := by decide +kernel
theorem dX1_init_113 : decode cX1_init 113 = .ok (.goto 4, 3) := by decide +kernel
theorem dX1_init_116 : decode cX1_init 116 = .ok (.iload_n 3, 1) := by decide +kernel
theorem dX1_init_117 : decode cX1_init 117 = .ok (.putfield 42, 3) := by decide +kernel
theorem dX1_init_120 : decode cX1_init 120 = .ok (.iload_n 2, 1) := by decide +kernel
theorem dX1_init_121 : decode cX1_init 121 = .ok (.ifCond .ge 7, 3) := by decide +kernel
theorem dX1_init_124 : decode cX1_init 124 = .ok (.iconst 0, 1) := by decide +kernel
theorem dX1_init_125 : decode cX1_init 125 = .ok (.goto 4, 3) := by decide +kernel
theorem dX1_init_128 : decode cX1_init 128 = .ok (.iload_n 2, 1) := by decide +kernel
theorem dX1_init_129 : decode cX1_init 129 = .ok (.istore 4, 2) := by decide +kernel
theorem dX1_init_131 : decode cX1_init 131 = .ok (.iconst 0, 1) := by decide +kernel
theorem dX1_init_132 : decode cX1_init 132 = .ok (.istore 5, 2) := by decide +kernel
theorem dX1_init_134 : decode cX1_init 134 = .ok (.iconst 0, 1) := by decide +kernel
theorem dX1_init_135 : decode cX1_init 135 = .ok (.istore 6, 2) := by decide +kernel
theorem dX1_init_137 : decode cX1_init 137 = .ok (.iload 6, 2) := by decide +kernel
theorem dX1_init_139 : decode cX1_init 139 = .ok (.iconst 3, 1) := by decide +kernel
theorem dX1_init_140 : decode cX1_init 140 = .ok (.if_icmp .ge 73, 3) := by decide +kernel
theorem dX1_init_143 : decode cX1_init 143 = .ok (.aload_n 0, 1) := by decide +kernel
theorem dX1_init_144 : decode cX1_init 144 = .ok (.getfield 7, 3) := by decide +kernel
theorem dX1_init_147 : decode cX1_init 147 = .ok (.iload 6, 2) := by decide +kernel
theorem dX1_init_149 : decode cX1_init 149 = .ok (.iload 4, 2) := by decide +kernel
theorem dX1_init_151 : decode cX1_init 151 = .ok (.iconst 3, 1) := by decide +kernel
theorem dX1_init_152 : decode cX1_init 152 = .ok (.irem, 1) := by decide +kernel
theorem dX1_init_153 : decode cX1_init 153 = .ok (.iastore, 1) := by decide +kernel
theorem dX1_init_154 : decode cX1_init 154 = .ok (.iload 4, 2) := by decide +kernel
theorem dX1_init_156 : decode cX1_init 156 = .ok (.iconst 3, 1) := by decide +kernel
theorem dX1_init_157 : decode cX1_init 157 = .ok (.idiv, 1) := by decide +kernel
theorem dX1_init_158 : decode cX1_init 158 = .ok (.istore 4, 2) := by decide +kernel
theorem dX1_init_160 : decode cX1_init 160 = .ok (.aload_n 0, 1) := by decide +kernel
theorem dX1_init_161 : decode cX1_init 161 = .ok (.getfield 7, 3) := by decide +kernel
theorem dX1_init_164 : decode cX1_init 164 = .ok (.iload 6, 2) := by decide +kernel
theorem dX1_init_166 : decode cX1_init 166 = .ok (.iaload, 1) := by decide +kernel
theorem dX1_init_167 : decode cX1_init 167 = .ok (.iconst 1, 1) := by decide +kernel
theorem dX1_init_168 : decode cX1_init 168 = .ok (.if_icmp .ne 16, 3) := by decide +kernel
theorem dX1_init_171 : decode cX1_init 171 = .ok (.iload 5, 2) := by decide +kernel
theorem dX1_init_173 : decode cX1_init 173 = .ok (.ifCond .eq 11, 3) := by decide +kernel
theorem dX1_init_176 : decode cX1_init 176 = .ok (.aload_n 0, 1) := by decide +kernel
theorem dX1_init_177 : decode cX1_init 177 = .ok (.getfield 7, 3) := by decide +kernel
theorem dX1_init_180 : decode cX1_init 180 = .ok (.iload 6, 2) := by decide +kernel
theorem dX1_init_182 : decode cX1_init 182 = .ok (.iconst 0, 1) := by decide +kernel
theorem dX1_init_183 : decode cX1_init 183 = .ok (.iastore, 1) := by decide +kernel
theorem dX1_init_184 : decode cX1_init 184 = .ok (.iload 5, 2) := by decide +kernel
theorem dX1_init_186 : decode cX1_init 186 = .ok (.ifCond .ne 14, 3) := by decide +kernel
theorem dX1_init_189 : decode cX1_init 189 = .ok (.aload_n 0, 1) := by decide +kernel
theorem dX1_init_190 : decode cX1_init 190 = .ok (.getfield 7, 3) := by decide +kernel
theorem dX1_init_193 : decode cX1_init 193 = .ok (.iload 6, 2) := by decide +kernel
theorem dX1_init_195 : decode cX1_init 195 = .ok (.iaload, 1) := by decide +kernel
theorem dX1_init_196 : decode cX1_init 196 = .ok (.iconst 1, 1) := by decide +kernel
theorem dX1_init_197 : decode cX1_init 197 = .ok (.if_icmp .ne 7, 3) := by decide +kernel
theorem dX1_init_200 : decode cX1_init 200 = .ok (.iconst 1, 1) := by decide +kernel
theorem dX1_init_201 : decode cX1_init 201 = .ok (.goto 4, 3) := by decide +kernel
theorem dX1_init_204 : decode cX1_init 204 = .ok (.iconst 0, 1) := by decide +kernel
theorem dX1_init_205 : decode cX1_init 205 = .ok (.istore 5, 2) := by decide +kernel
theorem dX1_init_207 : decode cX1_init 207 = .ok (.iinc 6 1, 3) := by decide +kernel
theorem dX1_init_210 : decode cX1_init 210 = .ok (.goto (-73), 3) := by decide +kernel
theorem dX1_init_213 : decode cX1_init 213 = .ok (.return_, 1) := by decide +kernel
theorem dX1_match_0 : decode cX1_match 0 = .ok (.iload_n 1, 1) := by decide +kernel
theorem dX1_match_1 : decode cX1_match 1 = .ok (.ifCond .lt 8, 3) := by decide +kernel
theorem dX1_match_4 : decode cX1_match 4 = .ok (.iload_n 1, 1) := by decide +kernel
theorem dX1_match_5 : decode cX1_match 5 = .ok (.iconst 2, 1) := by decide +kernel
theorem dX1_match_6 : decode cX1_match 6 = .ok (.if_icmp .le 5, 3) := by decide +kernel
theorem dX1_match_9 : decode cX1_match 9 = .ok (.iconst (-1), 1) := by decide +kernel
theorem dX1_match_10 : decode cX1_match 10 = .ok (.ireturn, 1) := by decide +kernel
theorem dX1_match_11 : decode cX1_match 11 = .ok (.aload_n 0, 1) := by decide +kernel
theorem dX1_match_12 : decode cX1_match 12 = .ok (.getfield 29, 3) := by decide +kernel
theorem dX1_match_15 : decode cX1_match 15 = .ok (.iload_n 1, 1) := by decide +kernel
theorem dX1_match_16 : decode cX1_match 16 = .ok (.lload_n 2, 1) := by decide +kernel
theorem dX1_match_17 : decode cX1_match 17 = .ok (.lastore, 1) := by decide +kernel
theorem dX1_match_18 : decode cX1_match 18 = .ok (.aload_n 0, 1) := by decide +kernel
theorem dX1_match_19 : decode cX1_match 19 = .ok (.getfield 32, 3) := by decide +kernel
theorem dX1_match_22 : decode cX1_match 22 = .ok (.iload_n 1, 1) := by decide +kernel
theorem dX1_match_23 : decode cX1_match 23 = .ok (.lload 4, 2) := by decide +kernel
theorem dX1_match_25 : decode cX1_match 25 = .ok (.lastore, 1) := by decide +kernel
theorem dX1_match_26 : decode cX1_match 26 = .ok (.iload_n 1, 1) := by decide +kernel
theorem dX1_match_27 : decode cX1_match 27 = .ok (.ireturn, 1) := by decide +kernel
theorem dX1_fits_0 : decode cX1_fits 0 = .ok (.lload_n 1, 1) := by decide +kernel
theorem dX1_fits_1 : decode cX1_fits 1 = .ok (.lconst 0, 1) := by decide +kernel
theorem dX1_fits_2 : decode cX1_fits 2 = .ok (.lcmp, 1) := by decide +kernel
theorem dX1_fits_3 : decode cX1_fits 3 = .ok (.ifCond .lt 18, 3) := by decide +kernel
theorem dX1_fits_6 : decode cX1_fits 6 = .ok (.lload_n 1, 1) := by decide +kernel
theorem dX1_fits_7 : decode cX1_fits 7 = .ok (.aload_n 0, 1) := by decide +kernel
theorem dX1_fits_8 : decode cX1_fits 8 = .ok (.getfield 42, 3) := by decide +kernel
theorem dX1_fits_11 : decode cX1_fits 11 = .ok (.lshr, 1) := by decide +kernel
theorem dX1_fits_12 : decode cX1_fits 12 = .ok (.lconst 0, 1) := by decide +kernel
theorem dX1_fits_13 : decode cX1_fits 13 = .ok (.lcmp, 1) := by decide +kernel
theorem dX1_fits_14 : decode cX1_fits 14 = .ok (.ifCond .ne 7, 3) := by decide +kernel
theorem dX1_fits_17 : decode cX1_fits 17 = .ok (.iconst 1, 1) := by decide +kernel
theorem dX1_fits_18 : decode cX1_fits 18 = .ok (.goto 4, 3) := by decide +kernel
theorem dX1_fits_21 : decode cX1_fits 21 = .ok (.iconst 0, 1) := by decide +kernel
theorem dX1_fits_22 : decode cX1_fits 22 = .ok (.ireturn, 1) := by decide +kernel
theorem dX1_bits_0 : decode cX1_bits 0 = .ok (.lload_n 1, 1) := by decide +kernel
theorem dX1_bits_1 : decode cX1_bits 1 = .ok (.lconst 0, 1) := by decide +kernel
theorem dX1_bits_2 : decode cX1_bits 2 = .ok (.lcmp, 1) := by decide +kernel
theorem dX1_bits_3 : decode cX1_bits 3 = .ok (.ifCond .ne 7, 3) := by decide +kernel
theorem dX1_bits_6 : decode cX1_bits 6 = .ok (.lconst 0, 1) := by decide +kernel
theorem dX1_bits_7 : decode cX1_bits 7 = .ok (.goto 29, 3) := by decide +kernel
theorem dX1_bits_10 : decode cX1_bits 10 = .ok (.lconst 1, 1) := by decide +kernel
theorem dX1_bits_11 : decode cX1_bits 11 = .ok (.aload_n 0, 1) := by decide +kernel
theorem dX1_bits_12 : decode cX1_bits 12 = .ok (.getfield 42, 3) := by decide +kernel
theorem dX1_bits_15 : decode cX1_bits 15 = .ok (.lshl, 1) := by decide +kernel
theorem dX1_bits_16 : decode cX1_bits 16 = .ok (.lconst 1, 1) := by decide +kernel
theorem dX1_bits_17 : decode cX1_bits 17 = .ok (.lsub, 1) := by decide +kernel
theorem dX1_bits_18 : decode cX1_bits 18 = .ok (.aload_n 0, 1) := by decide +kernel
theorem dX1_bits_19 : decode cX1_bits 19 = .ok (.getfield 42, 3) := by decide +kernel
theorem dX1_bits_22 : decode cX1_bits 22 = .ok (.i2l, 1) := by decide +kernel
theorem dX1_bits_23 : decode cX1_bits 23 = .ok (.lload_n 1, 1) := by decide +kernel
theorem dX1_bits_24 : decode cX1_bits 24 = .ok (.lsub, 1) := by decide +kernel
theorem dX1_bits_25 : decode cX1_bits 25 = .ok (.l2i, 1) := by decide +kernel
theorem dX1_bits_26 : decode cX1_bits 26 = .ok (.lshr, 1) := by decide +kernel
theorem dX1_bits_27 : decode cX1_bits 27 = .ok (.aload_n 0, 1) := by decide +kernel
theorem dX1_bits_28 : decode cX1_bits 28 = .ok (.getfield 42, 3) := by decide +kernel
theorem dX1_bits_31 : decode cX1_bits 31 = .ok (.i2l, 1) := by decide +kernel
theorem dX1_bits_32 : decode cX1_bits 32 = .ok (.lload_n 1, 1) := by decide +kernel
theorem dX1_bits_33 : decode cX1_bits 33 = .ok (.lsub, 1) := by decide +kernel
theorem dX1_bits_34 : decode cX1_bits 34 = .ok (.l2i, 1) := by decide +kernel
theorem dX1_bits_35 : decode cX1_bits 35 = .ok (.lshl, 1) := by decide +kernel
theorem dX1_bits_36 : decode cX1_bits 36 = .ok (.lreturn, 1) := by decide +kernel
set_option maxRecDepth 20000 in
theorem ggX1_good_X1_fits : GoodIn wsX1_good wsX1_fits := goodIn_r _ [10, 5, 15, 16, 17, 18, 19, 20, 21, 22, 23, 24, 25, 26, 27, 28] (by decide +kernel) (by decide +kernel)
set_option maxRecDepth 20000 in
theorem gX1_good_X1_fits : GoodIn wsX1_good (wsV RX1 45 RX1 yX1_fits wsX1_fits) := goodIn_app (goodIn_of _ (by decide +kernel)) ggX1_good_X1_fits
set_option maxRecDepth 20000 in
theorem ggX1_good_X1_bits : GoodIn wsX1_good wsX1_bits := goodIn_r _ [14, 5, 15, 16, 17, 18, 19, 20, 21, 22, 23, 24, 25, 26, 27, 28] (by decide +kernel) (by decide +kernel)
set_option maxRecDepth 20000 in
theorem gX1_good_X1_bits : GoodIn wsX1_good (wsV RX1 51 RX1 yX1_bits wsX1_bits) := goodIn_app (goodIn_of _ (by decide +kernel)) ggX1_good_X1_bits
theorem dX1_good_0 : decode cX1_good 0 = .ok (.aload_n 0, 1) := by decide +kernel
theorem dX1_good_1 : decode cX1_good 1 = .ok (.aload_n 0, 1) := by decide +kernel
theorem dX1_good_2 : decode cX1_good 2 = .ok (.getfield 29, 3) := by decide +kernel
theorem dX1_good_5 : decode cX1_good 5 = .ok (.iload_n 1, 1) := by decide +kernel
theorem dX1_good_6 : decode cX1_good 6 = .ok (.laload, 1) := by decide +kernel
theorem dX1_good_7 : decode cX1_good 7 = .ok (.invokevirtual 45, 3) := by decide +kernel
theorem dX1_good_10 : decode cX1_good 10 = .ok (.ifCond .ne 5, 3) := by decide +kernel
theorem dX1_good_13 : decode cX1_good 13 = .ok (.iconst 0, 1) := by decide +kernel
theorem dX1_good_14 : decode cX1_good 14 = .ok (.ireturn, 1) := by decide +kernel
theorem dX1_good_15 : decode cX1_good 15 = .ok (.aload_n 0, 1) := by decide +kernel
theorem dX1_good_16 : decode cX1_good 16 = .ok (.getfield 7, 3) := by decide +kernel
theorem dX1_good_19 : decode cX1_good 19 = .ok (.iload_n 1, 1) := by decide +kernel
theorem dX1_good_20 : decode cX1_good 20 = .ok (.iaload, 1) := by decide +kernel
theorem dX1_good_21 : decode cX1_good 21 = .ok (.ifCond .ne 5, 3) := by decide +kernel
theorem dX1_good_24 : decode cX1_good 24 = .ok (.iconst 1, 1) := by decide +kernel
theorem dX1_good_25 : decode cX1_good 25 = .ok (.ireturn, 1) := by decide +kernel
theorem dX1_good_26 : decode cX1_good 26 = .ok (.aload_n 0, 1) := by decide +kernel
theorem dX1_good_27 : decode cX1_good 27 = .ok (.getfield 7, 3) := by decide +kernel
theorem dX1_good_30 : decode cX1_good 30 = .ok (.iload_n 1, 1) := by decide +kernel
theorem dX1_good_31 : decode cX1_good 31 = .ok (.iaload, 1) := by decide +kernel
theorem dX1_good_32 : decode cX1_good 32 = .ok (.iconst 2, 1) := by decide +kernel
theorem dX1_good_33 : decode cX1_good 33 = .ok (.if_icmp .ne 44, 3) := by decide +kernel
theorem dX1_good_36 : decode cX1_good 36 = .ok (.aload_n 0, 1) := by decide +kernel
theorem dX1_good_37 : decode cX1_good 37 = .ok (.aload_n 0, 1) := by decide +kernel
theorem dX1_good_38 : decode cX1_good 38 = .ok (.getfield 32, 3) := by decide +kernel
theorem dX1_good_41 : decode cX1_good 41 = .ok (.iload_n 1, 1) := by decide +kernel
theorem dX1_good_42 : decode cX1_good 42 = .ok (.laload, 1) := by decide +kernel
theorem dX1_good_43 : decode cX1_good 43 = .ok (.invokevirtual 45, 3) := by decide +kernel
theorem dX1_good_46 : decode cX1_good 46 = .ok (.ifCond .eq 29, 3) := by decide +kernel
theorem dX1_good_49 : decode cX1_good 49 = .ok (.aload_n 0, 1) := by decide +kernel
theorem dX1_good_50 : decode cX1_good 50 = .ok (.getfield 29, 3) := by decide +kernel
theorem dX1_good_53 : decode cX1_good 53 = .ok (.iload_n 1, 1) := by decide +kernel
theorem dX1_good_54 : decode cX1_good 54 = .ok (.laload, 1) := by decide +kernel
theorem dX1_good_55 : decode cX1_good 55 = .ok (.aload_n 0, 1) := by decide +kernel
theorem dX1_good_56 : decode cX1_good 56 = .ok (.getfield 32, 3) := by decide +kernel
theorem dX1_good_59 : decode cX1_good 59 = .ok (.iload_n 1, 1) := by decide +kernel
theorem dX1_good_60 : decode cX1_good 60 = .ok (.laload, 1) := by decide +kernel
theorem dX1_good_61 : decode cX1_good 61 = .ok (.ldc2_w 49, 3) := by decide +kernel
theorem dX1_good_64 : decode cX1_good 64 = .ok (.lxor, 1) := by decide +kernel
theorem dX1_good_65 : decode cX1_good 65 = .ok (.land, 1) := by decide +kernel
theorem dX1_good_66 : decode cX1_good 66 = .ok (.lconst 0, 1) := by decide +kernel
theorem dX1_good_67 : decode cX1_good 67 = .ok (.lcmp, 1) := by decide +kernel
theorem dX1_good_68 : decode cX1_good 68 = .ok (.ifCond .ne 7, 3) := by decide +kernel
theorem dX1_good_71 : decode cX1_good 71 = .ok (.iconst 1, 1) := by decide +kernel
theorem dX1_good_72 : decode cX1_good 72 = .ok (.goto 4, 3) := by decide +kernel
theorem dX1_good_75 : decode cX1_good 75 = .ok (.iconst 0, 1) := by decide +kernel
theorem dX1_good_76 : decode cX1_good 76 = .ok (.ireturn, 1) := by decide +kernel
theorem dX1_good_77 : decode cX1_good 77 = .ok (.aload_n 0, 1) := by decide +kernel
theorem dX1_good_78 : decode cX1_good 78 = .ok (.getfield 32, 3) := by decide +kernel
theorem dX1_good_81 : decode cX1_good 81 = .ok (.iload_n 1, 1) := by decide +kernel
theorem dX1_good_82 : decode cX1_good 82 = .ok (.laload, 1) := by decide +kernel
theorem dX1_good_83 : decode cX1_good 83 = .ok (.lconst 0, 1) := by decide +kernel
theorem dX1_good_84 : decode cX1_good 84 = .ok (.lcmp, 1) := by decide +kernel
theorem dX1_good_85 : decode cX1_good 85 = .ok (.ifCond .lt 48, 3) := by decide +kernel
theorem dX1_good_88 : decode cX1_good 88 = .ok (.aload_n 0, 1) := by decide +kernel
theorem dX1_good_89 : decode cX1_good 89 = .ok (.getfield 32, 3) := by decide +kernel
theorem dX1_good_92 : decode cX1_good 92 = .ok (.iload_n 1, 1) := by decide +kernel
theorem dX1_good_93 : decode cX1_good 93 = .ok (.laload, 1) := by decide +kernel
theorem dX1_good_94 : decode cX1_good 94 = .ok (.aload_n 0, 1) := by decide +kernel
theorem dX1_good_95 : decode cX1_good 95 = .ok (.getfield 42, 3) := by decide +kernel
theorem dX1_good_98 : decode cX1_good 98 = .ok (.i2l, 1) := by decide +kernel
theorem dX1_good_99 : decode cX1_good 99 = .ok (.lcmp, 1) := by decide +kernel
theorem dX1_good_100 : decode cX1_good 100 = .ok (.ifCond .gt 33, 3) := by decide +kernel
theorem dX1_good_103 : decode cX1_good 103 = .ok (.aload_n 0, 1) := by decide +kernel
theorem dX1_good_104 : decode cX1_good 104 = .ok (.getfield 29, 3) := by decide +kernel
theorem dX1_good_107 : decode cX1_good 107 = .ok (.iload_n 1, 1) := by decide +kernel
theorem dX1_good_108 : decode cX1_good 108 = .ok (.laload, 1) := by decide +kernel
theorem dX1_good_109 : decode cX1_good 109 = .ok (.aload_n 0, 1) := by decide +kernel
theorem dX1_good_110 : decode cX1_good 110 = .ok (.aload_n 0, 1) := by decide +kernel
theorem dX1_good_111 : decode cX1_good 111 = .ok (.getfield 32, 3) := by decide +kernel
theorem dX1_good_114 : decode cX1_good 114 = .ok (.iload_n 1, 1) := by decide +kernel
theorem dX1_good_115 : decode cX1_good 115 = .ok (.laload, 1) := by decide +kernel
theorem dX1_good_116 : decode cX1_good 116 = .ok (.invokevirtual 51, 3) := by decide +kernel
theorem dX1_good_119 : decode cX1_good 119 = .ok (.ldc2_w 49, 3) := by decide +kernel
theorem dX1_good_122 : decode cX1_good 122 = .ok (.lxor, 1) := by decide +kernel
theorem dX1_good_123 : decode cX1_good 123 = .ok (.land, 1) := by decide +kernel
theorem dX1_good_124 : decode cX1_good 124 = .ok (.lconst 0, 1) := by decide +kernel
theorem dX1_good_125 : decode cX1_good 125 = .ok (.lcmp, 1) := by decide +kernel
theorem dX1_good_126 : decode cX1_good 126 = .ok (.ifCond .ne 7, 3) := by decide +kernel
theorem dX1_good_129 : decode cX1_good 129 = .ok (.iconst 1, 1) := by decide +kernel
theorem dX1_good_130 : decode cX1_good 130 = .ok (.goto 4, 3) := by decide +kernel
theorem dX1_good_133 : decode cX1_good 133 = .ok (.iconst 0, 1) := by decide +kernel
theorem dX1_good_134 : decode cX1_good 134 = .ok (.ireturn, 1) := by decide +kernel
theorem dX1_like_0 : decode cX1_like 0 = .ok (.aload_n 0, 1) := by decide +kernel
theorem dX1_like_1 : decode cX1_like 1 = .ok (.getfield 16, 3) := by decide +kernel
theorem dX1_like_4 : decode cX1_like 4 = .ok (.iload_n 1, 1) := by decide +kernel
theorem dX1_like_5 : decode cX1_like 5 = .ok (.iaload, 1) := by decide +kernel
theorem dX1_like_6 : decode cX1_like 6 = .ok (.iload_n 2, 1) := by decide +kernel
theorem dX1_like_7 : decode cX1_like 7 = .ok (.if_icmp .ne 7, 3) := by decide +kernel
theorem dX1_like_10 : decode cX1_like 10 = .ok (.iconst 1, 1) := by decide +kernel
theorem dX1_like_11 : decode cX1_like 11 = .ok (.goto 4, 3) := by decide +kernel
theorem dX1_like_14 : decode cX1_like 14 = .ok (.iconst 0, 1) := by decide +kernel
theorem dX1_like_15 : decode cX1_like 15 = .ok (.istore_n 3, 1) := by decide +kernel
theorem dX1_like_16 : decode cX1_like 16 = .ok (.iconst 0, 1) := by decide +kernel
theorem dX1_like_17 : decode cX1_like 17 = .ok (.istore 4, 2) := by decide +kernel
theorem dX1_like_19 : decode cX1_like 19 = .ok (.iload 4, 2) := by decide +kernel
theorem dX1_like_21 : decode cX1_like 21 = .ok (.aload_n 0, 1) := by decide +kernel
theorem dX1_like_22 : decode cX1_like 22 = .ok (.getfield 38, 3) := by decide +kernel
theorem dX1_like_25 : decode cX1_like 25 = .ok (.if_icmp .ge 73, 3) := by decide +kernel
theorem dX1_like_28 : decode cX1_like 28 = .ok (.iload_n 3, 1) := by decide +kernel
theorem dX1_like_29 : decode cX1_like 29 = .ok (.ifCond .eq 61, 3) := by decide +kernel
theorem dX1_like_32 : decode cX1_like 32 = .ok (.aload_n 0, 1) := by decide +kernel
theorem dX1_like_33 : decode cX1_like 33 = .ok (.getfield 22, 3) := by decide +kernel
theorem dX1_like_36 : decode cX1_like 36 = .ok (.iconst 3, 1) := by decide +kernel
theorem dX1_like_37 : decode cX1_like 37 = .ok (.iload_n 1, 1) := by decide +kernel
theorem dX1_like_38 : decode cX1_like 38 = .ok (.imul, 1) := by decide +kernel
theorem dX1_like_39 : decode cX1_like 39 = .ok (.iload 4, 2) := by decide +kernel
theorem dX1_like_41 : decode cX1_like 41 = .ok (.iadd, 1) := by decide +kernel
theorem dX1_like_42 : decode cX1_like 42 = .ok (.laload, 1) := by decide +kernel
theorem dX1_like_43 : decode cX1_like 43 = .ok (.aload_n 0, 1) := by decide +kernel
theorem dX1_like_44 : decode cX1_like 44 = .ok (.getfield 29, 3) := by decide +kernel
theorem dX1_like_47 : decode cX1_like 47 = .ok (.iload 4, 2) := by decide +kernel
theorem dX1_like_49 : decode cX1_like 49 = .ok (.laload, 1) := by decide +kernel
theorem dX1_like_50 : decode cX1_like 50 = .ok (.lcmp, 1) := by decide +kernel
theorem dX1_like_51 : decode cX1_like 51 = .ok (.ifCond .ne 39, 3) := by decide +kernel
theorem dX1_like_54 : decode cX1_like 54 = .ok (.aload_n 0, 1) := by decide +kernel
theorem dX1_like_55 : decode cX1_like 55 = .ok (.getfield 7, 3) := by decide +kernel
theorem dX1_like_58 : decode cX1_like 58 = .ok (.iload 4, 2) := by decide +kernel
theorem dX1_like_60 : decode cX1_like 60 = .ok (.iaload, 1) := by decide +kernel
theorem dX1_like_61 : decode cX1_like 61 = .ok (.ifCond .eq 25, 3) := by decide +kernel
theorem dX1_like_64 : decode cX1_like 64 = .ok (.aload_n 0, 1) := by decide +kernel
theorem dX1_like_65 : decode cX1_like 65 = .ok (.getfield 26, 3) := by decide +kernel
theorem dX1_like_68 : decode cX1_like 68 = .ok (.iconst 3, 1) := by decide +kernel
theorem dX1_like_69 : decode cX1_like 69 = .ok (.iload_n 1, 1) := by decide +kernel
theorem dX1_like_70 : decode cX1_like 70 = .ok (.imul, 1) := by decide +kernel
theorem dX1_like_71 : decode cX1_like 71 = .ok (.iload 4, 2) := by decide +kernel
theorem dX1_like_73 : decode cX1_like 73 = .ok (.iadd, 1) := by decide +kernel
theorem dX1_like_74 : decode cX1_like 74 = .ok (.laload, 1) := by decide +kernel
theorem dX1_like_75 : decode cX1_like 75 = .ok (.aload_n 0, 1) := by decide +kernel
theorem dX1_like_76 : decode cX1_like 76 = .ok (.getfield 32, 3) := by decide +kernel
theorem dX1_like_79 : decode cX1_like 79 = .ok (.iload 4, 2) := by decide +kernel
theorem dX1_like_81 : decode cX1_like 81 = .ok (.laload, 1) := by decide +kernel
theorem dX1_like_82 : decode cX1_like 82 = .ok (.lcmp, 1) := by decide +kernel
theorem dX1_like_83 : decode cX1_like 83 = .ok (.ifCond .ne 7, 3) := by decide +kernel
theorem dX1_like_86 : decode cX1_like 86 = .ok (.iconst 1, 1) := by decide +kernel
theorem dX1_like_87 : decode cX1_like 87 = .ok (.goto 4, 3) := by decide +kernel
theorem dX1_like_90 : decode cX1_like 90 = .ok (.iconst 0, 1) := by decide +kernel
theorem dX1_like_91 : decode cX1_like 91 = .ok (.istore_n 3, 1) := by decide +kernel
theorem dX1_like_92 : decode cX1_like 92 = .ok (.iinc 4 1, 3) := by decide +kernel
theorem dX1_like_95 : decode cX1_like 95 = .ok (.goto (-76), 3) := by decide +kernel
theorem dX1_like_98 : decode cX1_like 98 = .ok (.iload_n 3, 1) := by decide +kernel
theorem dX1_like_99 : decode cX1_like 99 = .ok (.ireturn, 1) := by decide +kernel
set_option maxRecDepth 20000 in
theorem ggX1_insert_X1_good : GoodIn wsX1_insert wsX1_good := goodIn_r _ [15, 4, 16, 6, 17, 18, 19, 20, 21, 14, 22, 23, 24, 25, 26, 31, 32, 33, 34, 35, 36, 37, 38, 39, 40, 41, 42, 43, 44] (by decide +kernel) (by decide +kernel)
set_option maxRecDepth 20000 in
theorem gX1_insert_X1_good : GoodIn wsX1_insert (wsV RX1 55 RX1 yX1_good wsX1_good) := goodIn_app (goodIn_of _ (by decide +kernel)) ggX1_insert_X1_good
set_option maxRecDepth 20000 in
theorem ggX1_insert_X1_like : GoodIn wsX1_insert wsX1_like := goodIn_r _ [30, 9, 1, 3, 4, 16, 5, 6, 31, 32, 33, 34, 35, 36, 37, 38, 39, 40, 41, 42, 43, 44] (by decide +kernel) (by decide +kernel)
set_option maxRecDepth 20000 in
theorem gX1_insert_X1_like : GoodIn wsX1_insert (wsV RX1 62 RX1 yX1_like wsX1_like) := goodIn_app (goodIn_of _ (by decide +kernel)) ggX1_insert_X1_like
theorem dX1_insert_0 : decode cX1_insert 0 = .ok (.iconst 0, 1) := by decide +kernel
theorem dX1_insert_1 : decode cX1_insert 1 = .ok (.istore_n 2, 1) := by decide +kernel
theorem dX1_insert_2 : decode cX1_insert 2 = .ok (.iload_n 2, 1) := by decide +kernel
theorem dX1_insert_3 : decode cX1_insert 3 = .ok (.aload_n 0, 1) := by decide +kernel
theorem dX1_insert_4 : decode cX1_insert 4 = .ok (.getfield 38, 3) := by decide +kernel
theorem dX1_insert_7 : decode cX1_insert 7 = .ok (.if_icmp .ge 19, 3) := by decide +kernel
theorem dX1_insert_10 : decode cX1_insert 10 = .ok (.aload_n 0, 1) := by decide +kernel
theorem dX1_insert_11 : decode cX1_insert 11 = .ok (.iload_n 2, 1) := by decide +kernel
theorem dX1_insert_12 : decode cX1_insert 12 = .ok (.invokevirtual 55, 3) := by decide +kernel
theorem dX1_insert_15 : decode cX1_insert 15 = .ok (.ifCond .ne 5, 3) := by decide +kernel
theorem dX1_insert_18 : decode cX1_insert 18 = .ok (.iconst (-1), 1) := by decide +kernel
theorem dX1_insert_19 : decode cX1_insert 19 = .ok (.ireturn, 1) := by decide +kernel
theorem dX1_insert_20 : decode cX1_insert 20 = .ok (.iinc 2 1, 3) := by decide +kernel
theorem dX1_insert_23 : decode cX1_insert 23 = .ok (.goto (-21), 3) := by decide +kernel
theorem dX1_insert_26 : decode cX1_insert 26 = .ok (.iconst 0, 1) := by decide +kernel
theorem dX1_insert_27 : decode cX1_insert 27 = .ok (.istore_n 2, 1) := by decide +kernel
theorem dX1_insert_28 : decode cX1_insert 28 = .ok (.iload_n 2, 1) := by decide +kernel
theorem dX1_insert_29 : decode cX1_insert 29 = .ok (.aload_n 0, 1) := by decide +kernel
theorem dX1_insert_30 : decode cX1_insert 30 = .ok (.getfield 59, 3) := by decide +kernel
theorem dX1_insert_33 : decode cX1_insert 33 = .ok (.if_icmp .ge 21, 3) := by decide +kernel
theorem dX1_insert_36 : decode cX1_insert 36 = .ok (.aload_n 0, 1) := by decide +kernel
theorem dX1_insert_37 : decode cX1_insert 37 = .ok (.iload_n 2, 1) := by decide +kernel
theorem dX1_insert_38 : decode cX1_insert 38 = .ok (.iload_n 1, 1) := by decide +kernel
theorem dX1_insert_39 : decode cX1_insert 39 = .ok (.invokevirtual 62, 3) := by decide +kernel
theorem dX1_insert_42 : decode cX1_insert 42 = .ok (.ifCond .eq 6, 3) := by decide +kernel
theorem dX1_insert_45 : decode cX1_insert 45 = .ok (.bipush (-4), 2) := by decide +kernel
theorem dX1_insert_47 : decode cX1_insert 47 = .ok (.ireturn, 1) := by decide +kernel
theorem dX1_insert_48 : decode cX1_insert 48 = .ok (.iinc 2 1, 3) := by decide +kernel
theorem dX1_insert_51 : decode cX1_insert 51 = .ok (.goto (-23), 3) := by decide +kernel
theorem dX1_insert_54 : decode cX1_insert 54 = .ok (.aload_n 0, 1) := by decide +kernel
theorem dX1_insert_55 : decode cX1_insert 55 = .ok (.getfield 59, 3) := by decide +kernel
theorem dX1_insert_58 : decode cX1_insert 58 = .ok (.bipush 24, 2) := by decide +kernel
theorem dX1_insert_60 : decode cX1_insert 60 = .ok (.if_icmp .ne 6, 3) := by decide +kernel
theorem dX1_insert_63 : decode cX1_insert 63 = .ok (.bipush (-3), 2) := by decide +kernel
theorem dX1_insert_65 : decode cX1_insert 65 = .ok (.ireturn, 1) := by decide +kernel
theorem dX1_insert_66 : decode cX1_insert 66 = .ok (.iconst 0, 1) := by decide +kernel
theorem dX1_insert_67 : decode cX1_insert 67 = .ok (.istore_n 2, 1) := by decide +kernel
theorem dX1_insert_68 : decode cX1_insert 68 = .ok (.iload_n 2, 1) := by decide +kernel
theorem dX1_insert_69 : decode cX1_insert 69 = .ok (.iconst 3, 1) := by decide +kernel
theorem dX1_insert_70 : decode cX1_insert 70 = .ok (.if_icmp .ge 61, 3) := by decide +kernel
theorem dX1_insert_73 : decode cX1_insert 73 = .ok (.aload_n 0, 1) := by decide +kernel
theorem dX1_insert_74 : decode cX1_insert 74 = .ok (.getfield 22, 3) := by decide +kernel
theorem dX1_insert_77 : decode cX1_insert 77 = .ok (.iconst 3, 1) := by decide +kernel
theorem dX1_insert_78 : decode cX1_insert 78 = .ok (.aload_n 0, 1) := by decide +kernel
theorem dX1_insert_79 : decode cX1_insert 79 = .ok (.getfield 59, 3) := by decide +kernel
theorem dX1_insert_82 : decode cX1_insert 82 = .ok (.imul, 1) := by decide +kernel
theorem dX1_insert_83 : decode cX1_insert 83 = .ok (.iload_n 2, 1) := by decide +kernel
theorem dX1_insert_84 : decode cX1_insert 84 = .ok (.iadd, 1) := by decide +kernel
theorem dX1_insert_85 : decode cX1_insert 85 = .ok (.aload_n 0, 1) := by decide +kernel
theorem dX1_insert_86 : decode cX1_insert 86 = .ok (.getfield 29, 3) := by decide +kernel
theorem dX1_insert_89 : decode cX1_insert 89 = .ok (.iload_n 2, 1) := by decide +kernel
theorem dX1_insert_90 : decode cX1_insert 90 = .ok (.laload, 1) := by decide +kernel
theorem dX1_insert_91 : decode cX1_insert 91 = .ok (.lastore, 1) := by decide +kernel
theorem dX1_insert_92 : decode cX1_insert 92 = .ok (.aload_n 0, 1) := by decide +kernel
theorem dX1_insert_93 : decode cX1_insert 93 = .ok (.getfield 26, 3) := by decide +kernel
theorem dX1_insert_96 : decode cX1_insert 96 = .ok (.iconst 3, 1) := by decide +kernel
theorem dX1_insert_97 : decode cX1_insert 97 = .ok (.aload_n 0, 1) := by decide +kernel
theorem dX1_insert_98 : decode cX1_insert 98 = .ok (.getfield 59, 3) := by decide +kernel
theorem dX1_insert_101 : decode cX1_insert 101 = .ok (.imul, 1) := by decide +kernel
theorem dX1_insert_102 : decode cX1_insert 102 = .ok (.iload_n 2, 1) := by decide +kernel
theorem dX1_insert_103 : decode cX1_insert 103 = .ok (.iadd, 1) := by decide +kernel
theorem dX1_insert_104 : decode cX1_insert 104 = .ok (.aload_n 0, 1) := by decide +kernel
theorem dX1_insert_105 : decode cX1_insert 105 = .ok (.getfield 32, 3) := by decide +kernel
theorem dX1_insert_108 : decode cX1_insert 108 = .ok (.iload_n 2, 1) := by decide +kernel
theorem dX1_insert_109 : decode cX1_insert 109 = .ok (.laload, 1) := by decide +kernel
theorem dX1_insert_110 : decode cX1_insert 110 = .ok (.lastore, 1) := by decide +kernel
theorem dX1_insert_111 : decode cX1_insert 111 = .ok (.aload_n 0, 1) := by decide +kernel
theorem dX1_insert_112 : decode cX1_insert 112 = .ok (.getfield 29, 3) := by decide +kernel
theorem dX1_insert_115 : decode cX1_insert 115 = .ok (.iload_n 2, 1) := by decide +kernel
theorem dX1_insert_116 : decode cX1_insert 116 = .ok (.lconst 0, 1) := by decide +kernel
theorem dX1_insert_117 : decode cX1_insert 117 = .ok (.lastore, 1) := by decide +kernel
theorem dX1_insert_118 : decode cX1_insert 118 = .ok (.aload_n 0, 1) := by decide +kernel
theorem dX1_insert_119 : decode cX1_insert 119 = .ok (.getfield 32, 3) := by decide +kernel
theorem dX1_insert_122 : decode cX1_insert 122 = .ok (.iload_n 2, 1) := by decide +kernel
theorem dX1_insert_123 : decode cX1_insert 123 = .ok (.lconst 0, 1) := by decide +kernel
theorem dX1_insert_124 : decode cX1_insert 124 = .ok (.lastore, 1) := by decide +kernel
theorem dX1_insert_125 : decode cX1_insert 125 = .ok (.iinc 2 1, 3) := by decide +kernel
theorem dX1_insert_128 : decode cX1_insert 128 = .ok (.goto (-60), 3) := by decide +kernel
theorem dX1_insert_131 : decode cX1_insert 131 = .ok (.aload_n 0, 1) := by decide +kernel
theorem dX1_insert_132 : decode cX1_insert 132 = .ok (.getfield 13, 3) := by decide +kernel
theorem dX1_insert_135 : decode cX1_insert 135 = .ok (.aload_n 0, 1) := by decide +kernel
theorem dX1_insert_136 : decode cX1_insert 136 = .ok (.getfield 59, 3) := by decide +kernel
theorem dX1_insert_139 : decode cX1_insert 139 = .ok (.aload_n 0, 1) := by decide +kernel
theorem dX1_insert_140 : decode cX1_insert 140 = .ok (.getfield 66, 3) := by decide +kernel
theorem dX1_insert_143 : decode cX1_insert 143 = .ok (.iastore, 1) := by decide +kernel
theorem dX1_insert_144 : decode cX1_insert 144 = .ok (.aload_n 0, 1) := by decide +kernel
theorem dX1_insert_145 : decode cX1_insert 145 = .ok (.getfield 16, 3) := by decide +kernel
theorem dX1_insert_148 : decode cX1_insert 148 = .ok (.aload_n 0, 1) := by decide +kernel
theorem dX1_insert_149 : decode cX1_insert 149 = .ok (.getfield 59, 3) := by decide +kernel
theorem dX1_insert_152 : decode cX1_insert 152 = .ok (.iload_n 1, 1) := by decide +kernel
theorem dX1_insert_153 : decode cX1_insert 153 = .ok (.iastore, 1) := by decide +kernel
theorem dX1_insert_154 : decode cX1_insert 154 = .ok (.aload_n 0, 1) := by decide +kernel
theorem dX1_insert_155 : decode cX1_insert 155 = .ok (.getfield 19, 3) := by decide +kernel
theorem dX1_insert_158 : decode cX1_insert 158 = .ok (.aload_n 0, 1) := by decide +kernel
theorem dX1_insert_159 : decode cX1_insert 159 = .ok (.getfield 59, 3) := by decide +kernel
theorem dX1_insert_162 : decode cX1_insert 162 = .ok (.iconst 0, 1) := by decide +kernel
theorem dX1_insert_163 : decode cX1_insert 163 = .ok (.iastore, 1) := by decide +kernel
theorem dX1_insert_164 : decode cX1_insert 164 = .ok (.aload_n 0, 1) := by decide +kernel
theorem dX1_insert_165 : decode cX1_insert 165 = .ok (.dup, 1) := by decide +kernel
theorem dX1_insert_166 : decode cX1_insert 166 = .ok (.getfield 59, 3) := by decide +kernel
theorem dX1_insert_169 : decode cX1_insert 169 = .ok (.iconst 1, 1) := by decide +kernel
theorem dX1_insert_170 : decode cX1_insert 170 = .ok (.iadd, 1) := by decide +kernel
theorem dX1_insert_171 : decode cX1_insert 171 = .ok (.putfield 59, 3) := by decide +kernel
theorem dX1_insert_174 : decode cX1_insert 174 = .ok (.aload_n 0, 1) := by decide +kernel
theorem dX1_insert_175 : decode cX1_insert 175 = .ok (.dup, 1) := by decide +kernel
theorem dX1_insert_176 : decode cX1_insert 176 = .ok (.getfield 66, 3) := by decide +kernel
theorem dX1_insert_179 : decode cX1_insert 179 = .ok (.iconst 1, 1) := by decide +kernel
theorem dX1_insert_180 : decode cX1_insert 180 = .ok (.iadd, 1) := by decide +kernel
theorem dX1_insert_181 : decode cX1_insert 181 = .ok (.putfield 66, 3) := by decide +kernel
theorem dX1_insert_184 : decode cX1_insert 184 = .ok (.aload_n 0, 1) := by decide +kernel
theorem dX1_insert_185 : decode cX1_insert 185 = .ok (.getfield 66, 3) := by decide +kernel
theorem dX1_insert_188 : decode cX1_insert 188 = .ok (.iconst 1, 1) := by decide +kernel
theorem dX1_insert_189 : decode cX1_insert 189 = .ok (.isub, 1) := by decide +kernel
theorem dX1_insert_190 : decode cX1_insert 190 = .ok (.ireturn, 1) := by decide +kernel
theorem dX1_remove_0 : decode cX1_remove 0 = .ok (.aload_n 0, 1) := by decide +kernel
theorem dX1_remove_1 : decode cX1_remove 1 = .ok (.iload_n 1, 1) := by decide +kernel
theorem dX1_remove_2 : decode cX1_remove 2 = .ok (.invokevirtual 69, 3) := by decide +kernel
theorem dX1_remove_5 : decode cX1_remove 5 = .ok (.istore_n 2, 1) := by decide +kernel
theorem dX1_remove_6 : decode cX1_remove 6 = .ok (.iload_n 2, 1) := by decide +kernel
theorem dX1_remove_7 : decode cX1_remove 7 = .ok (.ifCond .ge 6, 3) := by decide +kernel
theorem dX1_remove_10 : decode cX1_remove 10 = .ok (.bipush (-2), 2) := by decide +kernel
theorem dX1_remove_12 : decode cX1_remove 12 = .ok (.ireturn, 1) := by decide +kernel
theorem dX1_remove_13 : decode cX1_remove 13 = .ok (.aload_n 0, 1) := by decide +kernel
theorem dX1_remove_14 : decode cX1_remove 14 = .ok (.dup, 1) := by decide +kernel
theorem dX1_remove_15 : decode cX1_remove 15 = .ok (.getfield 59, 3) := by decide +kernel
theorem dX1_remove_18 : decode cX1_remove 18 = .ok (.iconst 1, 1) := by decide +kernel
theorem dX1_remove_19 : decode cX1_remove 19 = .ok (.isub, 1) := by decide +kernel
theorem dX1_remove_20 : decode cX1_remove 20 = .ok (.putfield 59, 3) := by decide +kernel
theorem dX1_remove_23 : decode cX1_remove 23 = .ok (.iload_n 2, 1) := by decide +kernel
theorem dX1_remove_24 : decode cX1_remove 24 = .ok (.istore_n 3, 1) := by decide +kernel
theorem dX1_remove_25 : decode cX1_remove 25 = .ok (.iload_n 3, 1) := by decide +kernel
theorem dX1_remove_26 : decode cX1_remove 26 = .ok (.aload_n 0, 1) := by decide +kernel
theorem dX1_remove_27 : decode cX1_remove 27 = .ok (.getfield 59, 3) := by decide +kernel
theorem dX1_remove_30 : decode cX1_remove 30 = .ok (.if_icmp .ge 114, 3) := by decide +kernel
theorem dX1_remove_33 : decode cX1_remove 33 = .ok (.aload_n 0, 1) := by decide +kernel
theorem dX1_remove_34 : decode cX1_remove 34 = .ok (.getfield 13, 3) := by decide +kernel
theorem dX1_remove_37 : decode cX1_remove 37 = .ok (.iload_n 3, 1) := by decide +kernel
theorem dX1_remove_38 : decode cX1_remove 38 = .ok (.aload_n 0, 1) := by decide +kernel
theorem dX1_remove_39 : decode cX1_remove 39 = .ok (.getfield 13, 3) := by decide +kernel
theorem dX1_remove_42 : decode cX1_remove 42 = .ok (.iload_n 3, 1) := by decide +kernel
theorem dX1_remove_43 : decode cX1_remove 43 = .ok (.iconst 1, 1) := by decide +kernel
theorem dX1_remove_44 : decode cX1_remove 44 = .ok (.iadd, 1) := by decide +kernel
theorem dX1_remove_45 : decode cX1_remove 45 = .ok (.iaload, 1) := by decide +kernel
theorem dX1_remove_46 : decode cX1_remove 46 = .ok (.iastore, 1) := by decide +kernel
theorem dX1_remove_47 : decode cX1_remove 47 = .ok (.aload_n 0, 1) := by decide +kernel
theorem dX1_remove_48 : decode cX1_remove 48 = .ok (.getfield 16, 3) := by decide +kernel
theorem dX1_remove_51 : decode cX1_remove 51 = .ok (.iload_n 3, 1) := by decide +kernel
theorem dX1_remove_52 : decode cX1_remove 52 = .ok (.aload_n 0, 1) := by decide +kernel
theorem dX1_remove_53 : decode cX1_remove 53 = .ok (.getfield 16, 3) := by decide +kernel
theorem dX1_remove_56 : decode cX1_remove 56 = .ok (.iload_n 3, 1) := by decide +kernel
theorem dX1_remove_57 : decode cX1_remove 57 = .ok (.iconst 1, 1) := by decide +kernel
theorem dX1_remove_58 : decode cX1_remove 58 = .ok (.iadd, 1) := by decide +kernel
theorem dX1_remove_59 : decode cX1_remove 59 = .ok (.iaload, 1) := by decide +kernel
theorem dX1_remove_60 : decode cX1_remove 60 = .ok (.iastore, 1) := by decide +kernel
theorem dX1_remove_61 : decode cX1_remove 61 = .ok (.aload_n 0, 1) := by decide +kernel
theorem dX1_remove_62 : decode cX1_remove 62 = .ok (.getfield 19, 3) := by decide +kernel
theorem dX1_remove_65 : decode cX1_remove 65 = .ok (.iload_n 3, 1) := by decide +kernel
theorem dX1_remove_66 : decode cX1_remove 66 = .ok (.aload_n 0, 1) := by decide +kernel
theorem dX1_remove_67 : decode cX1_remove 67 = .ok (.getfield 19, 3) := by decide +kernel
theorem dX1_remove_70 : decode cX1_remove 70 = .ok (.iload_n 3, 1) := by decide +kernel
theorem dX1_remove_71 : decode cX1_remove 71 = .ok (.iconst 1, 1) := by decide +kernel
theorem dX1_remove_72 : decode cX1_remove 72 = .ok (.iadd, 1) := by decide +kernel
theorem dX1_remove_73 : decode cX1_remove 73 = .ok (.iaload, 1) := by decide +kernel
theorem dX1_remove_74 : decode cX1_remove 74 = .ok (.iastore, 1) := by decide +kernel
theorem dX1_remove_75 : decode cX1_remove 75 = .ok (.iconst 0, 1) := by decide +kernel
theorem dX1_remove_76 : decode cX1_remove 76 = .ok (.istore 4, 2) := by decide +kernel
theorem dX1_remove_78 : decode cX1_remove 78 = .ok (.iload 4, 2) := by decide +kernel
theorem dX1_remove_80 : decode cX1_remove 80 = .ok (.iconst 3, 1) := by decide +kernel
theorem dX1_remove_81 : decode cX1_remove 81 = .ok (.if_icmp .ge 57, 3) := by decide +kernel
theorem dX1_remove_84 : decode cX1_remove 84 = .ok (.aload_n 0, 1) := by decide +kernel
theorem dX1_remove_85 : decode cX1_remove 85 = .ok (.getfield 22, 3) := by decide +kernel
theorem dX1_remove_88 : decode cX1_remove 88 = .ok (.iconst 3, 1) := by decide +kernel
theorem dX1_remove_89 : decode cX1_remove 89 = .ok (.iload_n 3, 1) := by decide +kernel
theorem dX1_remove_90 : decode cX1_remove 90 = .ok (.imul, 1) := by decide +kernel
theorem dX1_remove_91 : decode cX1_remove 91 = .ok (.iload 4, 2) := by decide +kernel
theorem dX1_remove_93 : decode cX1_remove 93 = .ok (.iadd, 1) := by decide +kernel
theorem dX1_remove_94 : decode cX1_remove 94 = .ok (.aload_n 0, 1) := by decide +kernel
theorem dX1_remove_95 : decode cX1_remove 95 = .ok (.getfield 22, 3) := by decide +kernel
theorem dX1_remove_98 : decode cX1_remove 98 = .ok (.iconst 3, 1) := by decide +kernel
theorem dX1_remove_99 : decode cX1_remove 99 = .ok (.iload_n 3, 1) := by decide +kernel
theorem dX1_remove_100 : decode cX1_remove 100 = .ok (.imul, 1) := by decide +kernel
theorem dX1_remove_101 : decode cX1_remove 101 = .ok (.iconst 3, 1) := by decide +kernel
theorem dX1_remove_102 : decode cX1_remove 102 = .ok (.iadd, 1) := by decide +kernel
theorem dX1_remove_103 : decode cX1_remove 103 = .ok (.iload 4, 2) := by decide +kernel
theorem dX1_remove_105 : decode cX1_remove 105 = .ok (.iadd, 1) := by decide +kernel
theorem dX1_remove_106 : decode cX1_remove 106 = .ok (.laload, 1) := by decide +kernel
theorem dX1_remove_107 : decode cX1_remove 107 = .ok (.lastore, 1) := by decide +kernel
theorem dX1_remove_108 : decode cX1_remove 108 = .ok (.aload_n 0, 1) := by decide +kernel
theorem dX1_remove_109 : decode cX1_remove 109 = .ok (.getfield 26, 3) := by decide +kernel
theorem dX1_remove_112 : decode cX1_remove 112 = .ok (.iconst 3, 1) := by decide +kernel
theorem dX1_remove_113 : decode cX1_remove 113 = .ok (.iload_n 3, 1) := by decide +kernel
theorem dX1_remove_114 : decode cX1_remove 114 = .ok (.imul, 1) := by decide +kernel
theorem dX1_remove_115 : decode cX1_remove 115 = .ok (.iload 4, 2) := by decide +kernel
theorem dX1_remove_117 : decode cX1_remove 117 = .ok (.iadd, 1) := by decide +kernel
theorem dX1_remove_118 : decode cX1_remove 118 = .ok (.aload_n 0, 1) := by decide +kernel
theorem dX1_remove_119 : decode cX1_remove 119 = .ok (.getfield 26, 3) := by decide +kernel
theorem dX1_remove_122 : decode cX1_remove 122 = .ok (.iconst 3, 1) := by decide +kernel
theorem dX1_remove_123 : decode cX1_remove 123 = .ok (.iload_n 3, 1) := by decide +kernel
theorem dX1_remove_124 : decode cX1_remove 124 = .ok (.imul, 1) := by decide +kernel
theorem dX1_remove_125 : decode cX1_remove 125 = .ok (.iconst 3, 1) := by decide +kernel
theorem dX1_remove_126 : decode cX1_remove 126 = .ok (.iadd, 1) := by decide +kernel
theorem dX1_remove_127 : decode cX1_remove 127 = .ok (.iload 4, 2) := by decide +kernel
theorem dX1_remove_129 : decode cX1_remove 129 = .ok (.iadd, 1) := by decide +kernel
theorem dX1_remove_130 : decode cX1_remove 130 = .ok (.laload, 1) := by decide +kernel
theorem dX1_remove_131 : decode cX1_remove 131 = .ok (.lastore, 1) := by decide +kernel
theorem dX1_remove_132 : decode cX1_remove 132 = .ok (.iinc 4 1, 3) := by decide +kernel
theorem dX1_remove_135 : decode cX1_remove 135 = .ok (.goto (-57), 3) := by decide +kernel
theorem dX1_remove_138 : decode cX1_remove 138 = .ok (.iinc 3 1, 3) := by decide +kernel
theorem dX1_remove_141 : decode cX1_remove 141 = .ok (.goto (-116), 3) := by decide +kernel
theorem dX1_remove_144 : decode cX1_remove 144 = .ok (.aload_n 0, 1) := by decide +kernel
theorem dX1_remove_145 : decode cX1_remove 145 = .ok (.getfield 59, 3) := by decide +kernel
theorem dX1_remove_148 : decode cX1_remove 148 = .ok (.ireturn, 1) := by decide +kernel
theorem dJ9_max_7cf53_0 : decode cJ9_max_7cf53 0 = .ok (.iload_n 0, 1) := by decide +kernel
theorem dJ9_max_7cf53_1 : decode cJ9_max_7cf53 1 = .ok (.iload_n 1, 1) := by decide +kernel
theorem dJ9_max_7cf53_2 : decode cJ9_max_7cf53 2 = .ok (.if_icmp .lt 7, 3) := by decide +kernel
theorem dJ9_max_7cf53_5 : decode cJ9_max_7cf53 5 = .ok (.iload_n 0, 1) := by decide +kernel
theorem dJ9_max_7cf53_6 : decode cJ9_max_7cf53 6 = .ok (.goto 4, 3) := by decide +kernel
theorem dJ9_max_7cf53_9 : decode cJ9_max_7cf53 9 = .ok (.iload_n 1, 1) := by decide +kernel
theorem dJ9_max_7cf53_10 : decode cJ9_max_7cf53 10 = .ok (.ireturn, 1) := by decide +kernel
theorem dJ9_min_7cf53_0 : decode cJ9_min_7cf53 0 = .ok (.iload_n 0, 1) := by decide +kernel
theorem dJ9_min_7cf53_1 : decode cJ9_min_7cf53 1 = .ok (.iload_n 1, 1) := by decide +kernel
theorem dJ9_min_7cf53_2 : decode cJ9_min_7cf53 2 = .ok (.if_icmp .gt 7, 3) := by decide +kernel
theorem dJ9_min_7cf53_5 : decode cJ9_min_7cf53 5 = .ok (.iload_n 0, 1) := by decide +kernel
theorem dJ9_min_7cf53_6 : decode cJ9_min_7cf53 6 = .ok (.goto 4, 3) := by decide +kernel
theorem dJ9_min_7cf53_9 : decode cJ9_min_7cf53 9 = .ok (.iload_n 1, 1) := by decide +kernel
theorem dJ9_min_7cf53_10 : decode cJ9_min_7cf53 10 = .ok (.ireturn, 1) := by decide +kernel
theorem dL_cell_0 : decode cL_cell 0 = .ok (.iload_n 1, 1) := by decide +kernel
theorem dL_cell_1 : decode cL_cell 1 = .ok (.aload_n 0, 1) := by decide +kernel
theorem dL_cell_2 : decode cL_cell 2 = .ok (.arraylength, 1) := by decide +kernel
theorem dL_cell_3 : decode cL_cell 3 = .ok (.if_icmp .ge 9, 3) := by decide +kernel
theorem dL_cell_6 : decode cL_cell 6 = .ok (.aload_n 0, 1) := by decide +kernel
theorem dL_cell_7 : decode cL_cell 7 = .ok (.iload_n 1, 1) := by decide +kernel
theorem dL_cell_8 : decode cL_cell 8 = .ok (.iaload, 1) := by decide +kernel
theorem dL_cell_9 : decode cL_cell 9 = .ok (.goto 4, 3) := by decide +kernel
theorem dL_cell_12 : decode cL_cell 12 = .ok (.iconst 0, 1) := by decide +kernel
theorem dL_cell_13 : decode cL_cell 13 = .ok (.ireturn, 1) := by decide +kernel
set_option maxRecDepth 20000 in
theorem ggL_law_L_cell : GoodIn wsL_law wsL_cell := goodIn_r _ [9] (by decide +kernel) (by decide +kernel)
set_option maxRecDepth 20000 in
theorem gL_law_L_cell : GoodIn wsL_law (va_wsS RL 9 yL_cell wsL_cell) := goodIn_app (goodIn_of _ (by decide +kernel)) ggL_law_L_cell
set_option maxRecDepth 20000 in
theorem ggL_law_X0_init : GoodIn wsL_law wsX0_init := goodIn_r _ [12, 13, 14, 15, 16, 17, 18, 19, 20, 21, 22, 23, 24, 25, 26, 27, 28, 29, 30, 31, 32, 33, 34, 35, 36, 37, 38, 39, 40, 176, 177, 178, 179, 180, 181, 182, 183, 184, 185, 186, 187, 188, 189, 190, 191] (by decide +kernel) (by decide +kernel)
set_option maxRecDepth 20000 in
theorem gL_law_X0_init : GoodIn wsL_law (wsX0_init) := ggL_law_X0_init
set_option maxRecDepth 20000 in
theorem ggL_law_X1_init : GoodIn wsL_law wsX1_init := goodIn_r _ [43, 44, 14, 15, 16, 45, 46, 47, 48, 18, 49, 50, 51, 52, 53, 54, 55, 192, 193, 194, 195, 196, 197, 198, 199, 200, 201, 202, 203, 204, 205] (by decide +kernel) (by decide +kernel)
set_option maxRecDepth 20000 in
theorem gL_law_X1_init : GoodIn wsL_law (wsX1_init) := ggL_law_X1_init
set_option maxRecDepth 20000 in
theorem ggL_law_X0_match : GoodIn wsL_law wsX0_match := goodIn_r _ [59, 19, 20, 176, 177, 178, 179, 180, 181, 182, 183, 184, 185, 186, 187, 188, 189, 190, 191] (by decide +kernel) (by decide +kernel)
set_option maxRecDepth 20000 in
theorem gL_law_X0_match : GoodIn wsL_law (wsV RL 23 RX0 yX0_match wsX0_match) := goodIn_app (goodIn_of _ (by decide +kernel)) ggL_law_X0_match
set_option maxRecDepth 20000 in
theorem ggL_law_X1_match : GoodIn wsL_law wsX1_match := goodIn_r _ [63, 51, 52, 192, 193, 194, 195, 196, 197, 198, 199, 200, 201, 202, 203, 204, 205] (by decide +kernel) (by decide +kernel)
set_option maxRecDepth 20000 in
theorem gL_law_X1_match : GoodIn wsL_law (wsV RL 27 RX1 yX1_match wsX1_match) := goodIn_app (goodIn_of _ (by decide +kernel)) ggL_law_X1_match
set_option maxRecDepth 20000 in
theorem ggL_law_X0_insert : GoodIn wsL_law wsX0_insert := goodIn_r _ [67, 22, 25, 68, 69, 70, 2, 71, 38, 72, 73, 74, 75, 19, 17, 20, 39, 76, 77, 78, 79, 80, 40, 81, 82, 83, 84, 85, 86, 87, 88, 21, 26, 89, 90, 91, 92, 29, 30, 93, 94, 95, 96, 27, 97, 98, 99, 100, 101, 102, 103, 104, 105, 106, 107, 108, 109, 110, 111, 112, 23, 28, 113, 114, 115, 116, 176, 177, 178, 179, 180, 181, 182, 183, 184, 185, 186, 187, 188, 189, 190, 191] (by decide +kernel) (by decide +kernel)
set_option maxRecDepth 20000 in
theorem gL_law_X0_insert : GoodIn wsL_law (wsV RL 28 RX0 yX0_insert wsX0_insert) := goodIn_app (goodIn_of _ (by decide +kernel)) ggL_law_X0_insert
set_option maxRecDepth 20000 in
theorem ggL_law_X1_insert : GoodIn wsL_law wsX1_insert := goodIn_r _ [120, 54, 121, 49, 51, 50, 52, 46, 122, 47, 48, 123, 124, 125, 5, 126, 45, 127, 55, 128, 129, 130, 131, 132, 133, 134, 135, 136, 137, 138, 139, 192, 193, 194, 195, 196, 197, 198, 199, 200, 201, 202, 203, 204, 205] (by decide +kernel) (by decide +kernel)
set_option maxRecDepth 20000 in
theorem gL_law_X1_insert : GoodIn wsL_law (wsV RL 32 RX1 yX1_insert wsX1_insert) := goodIn_app (goodIn_of _ (by decide +kernel)) ggL_law_X1_insert
set_option maxRecDepth 20000 in
theorem ggL_law_X0_remove : GoodIn wsL_law wsX0_remove := goodIn_r _ [143, 22, 144, 145, 146, 2, 147, 25, 21, 148, 149, 150, 151, 105, 106, 107, 108, 176, 177, 178, 179, 180, 181, 182, 183, 184, 185, 186, 187, 188, 189, 190, 191] (by decide +kernel) (by decide +kernel)
set_option maxRecDepth 20000 in
theorem gL_law_X0_remove : GoodIn wsL_law (wsV RL 33 RX0 yX0_remove wsX0_remove) := goodIn_app (goodIn_of _ (by decide +kernel)) ggL_law_X0_remove
set_option maxRecDepth 20000 in
theorem ggL_law_X1_remove : GoodIn wsL_law wsX1_remove := goodIn_r _ [155, 121, 46, 47, 48, 49, 50, 192, 193, 194, 195, 196, 197, 198, 199, 200, 201, 202, 203, 204, 205] (by decide +kernel) (by decide +kernel)
set_option maxRecDepth 20000 in
theorem gL_law_X1_remove : GoodIn wsL_law (wsV RL 36 RX1 yX1_remove wsX1_remove) := goodIn_app (goodIn_of _ (by decide +kernel)) ggL_law_X1_remove
set_option maxRecDepth 20000 in
theorem ggL_law_X0_find : GoodIn wsL_law wsX0_find := goodIn_r _ [159, 22, 21, 28, 25, 24, 160, 161, 162, 2, 163, 30, 29, 176, 177, 178, 179, 180, 181, 182, 183, 184, 185, 186, 187, 188, 189, 190, 191] (by decide +kernel) (by decide +kernel)
set_option maxRecDepth 20000 in
theorem gL_law_X0_find : GoodIn wsL_law (wsV RL 37 RX0 yX0_find wsX0_find) := goodIn_app (goodIn_of _ (by decide +kernel)) ggL_law_X0_find
set_option maxRecDepth 20000 in
theorem ggL_law_X0_nth : GoodIn wsL_law wsX0_nth := goodIn_r _ [167, 22, 25, 21, 176, 177, 178, 179, 180, 181, 182, 183, 184, 185, 186, 187, 188, 189, 190, 191] (by decide +kernel) (by decide +kernel)
set_option maxRecDepth 20000 in
theorem gL_law_X0_nth : GoodIn wsL_law (wsV RL 42 RX0 yX0_nth wsX0_nth) := goodIn_app (goodIn_of _ (by decide +kernel)) ggL_law_X0_nth
set_option maxRecDepth 20000 in
theorem ggL_law_X0_hits : GoodIn wsL_law wsX0_hits := goodIn_r _ [171, 28, 21, 144, 145, 146, 2, 147, 22, 25, 176, 177, 178, 179, 180, 181, 182, 183, 184, 185, 186, 187, 188, 189, 190, 191] (by decide +kernel) (by decide +kernel)
set_option maxRecDepth 20000 in
theorem gL_law_X0_hits : GoodIn wsL_law (wsV RL 46 RX0 yX0_hits wsX0_hits) := goodIn_app (goodIn_of _ (by decide +kernel)) ggL_law_X0_hits
set_option maxRecDepth 20000 in
theorem ggL_law_X0_count : GoodIn wsL_law wsX0_count := goodIn_r _ [175, 38, 39, 22, 24, 17, 176, 177, 178, 179, 180, 181, 182, 183, 184, 185, 186, 187, 188, 189, 190, 191] (by decide +kernel) (by decide +kernel)
set_option maxRecDepth 20000 in
theorem gL_law_X0_count : GoodIn wsL_law (wsV RL 50 RX0 yX0_count wsX0_count) := goodIn_app (goodIn_of _ (by decide +kernel)) ggL_law_X0_count
theorem dL_law_0 : decode cL_law 0 = .ok (.new 7, 3) := by decide +kernel
theorem dL_law_3 : decode cL_law 3 = .ok (.dup, 1) := by decide +kernel
theorem dL_law_4 : decode cL_law 4 = .ok (.aload_n 0, 1) := by decide +kernel
theorem dL_law_5 : decode cL_law 5 = .ok (.iconst 0, 1) := by decide +kernel
theorem dL_law_6 : decode cL_law 6 = .ok (.invokestatic 9, 3) := by decide +kernel
theorem dL_law_9 : decode cL_law 9 = .ok (.aload_n 0, 1) := by decide +kernel
theorem dL_law_10 : decode cL_law 10 = .ok (.iconst 1, 1) := by decide +kernel
theorem dL_law_11 : decode cL_law 11 = .ok (.invokestatic 9, 3) := by decide +kernel
theorem dL_law_14 : decode cL_law 14 = .ok (.aload_n 0, 1) := by decide +kernel
theorem dL_law_15 : decode cL_law 15 = .ok (.iconst 2, 1) := by decide +kernel
theorem dL_law_16 : decode cL_law 16 = .ok (.invokestatic 9, 3) := by decide +kernel
theorem dL_law_19 : decode cL_law 19 = .ok (.invokespecial 15, 3) := by decide +kernel
theorem dL_law_22 : decode cL_law 22 = .ok (.astore_n 1, 1) := by decide +kernel
theorem dL_law_23 : decode cL_law 23 = .ok (.new 18, 3) := by decide +kernel
theorem dL_law_26 : decode cL_law 26 = .ok (.dup, 1) := by decide +kernel
theorem dL_law_27 : decode cL_law 27 = .ok (.aload_n 0, 1) := by decide +kernel
theorem dL_law_28 : decode cL_law 28 = .ok (.iconst 0, 1) := by decide +kernel
theorem dL_law_29 : decode cL_law 29 = .ok (.invokestatic 9, 3) := by decide +kernel
theorem dL_law_32 : decode cL_law 32 = .ok (.aload_n 0, 1) := by decide +kernel
theorem dL_law_33 : decode cL_law 33 = .ok (.iconst 1, 1) := by decide +kernel
theorem dL_law_34 : decode cL_law 34 = .ok (.invokestatic 9, 3) := by decide +kernel
theorem dL_law_37 : decode cL_law 37 = .ok (.aload_n 0, 1) := by decide +kernel
theorem dL_law_38 : decode cL_law 38 = .ok (.iconst 2, 1) := by decide +kernel
theorem dL_law_39 : decode cL_law 39 = .ok (.invokestatic 9, 3) := by decide +kernel
theorem dL_law_42 : decode cL_law 42 = .ok (.invokespecial 20, 3) := by decide +kernel
theorem dL_law_45 : decode cL_law 45 = .ok (.astore_n 2, 1) := by decide +kernel
theorem dL_law_46 : decode cL_law 46 = .ok (.iconst 3, 1) := by decide +kernel
theorem dL_law_47 : decode cL_law 47 = .ok (.istore_n 3, 1) := by decide +kernel
theorem dL_law_48 : decode cL_law 48 = .ok (.iload_n 3, 1) := by decide +kernel
theorem dL_law_49 : decode cL_law 49 = .ok (.aload_n 0, 1) := by decide +kernel
theorem dL_law_50 : decode cL_law 50 = .ok (.arraylength, 1) := by decide +kernel
theorem dL_law_51 : decode cL_law 51 = .ok (.bipush 7, 2) := by decide +kernel
theorem dL_law_53 : decode cL_law 53 = .ok (.isub, 1) := by decide +kernel
theorem dL_law_54 : decode cL_law 54 = .ok (.if_icmp .gt 409, 3) := by decide +kernel
theorem dL_law_57 : decode cL_law 57 = .ok (.aload_n 0, 1) := by decide +kernel
theorem dL_law_58 : decode cL_law 58 = .ok (.iload_n 3, 1) := by decide +kernel
theorem dL_law_59 : decode cL_law 59 = .ok (.iaload, 1) := by decide +kernel
theorem dL_law_60 : decode cL_law 60 = .ok (.bipush 7, 2) := by decide +kernel
theorem dL_law_62 : decode cL_law 62 = .ok (.iand, 1) := by decide +kernel
theorem dL_law_63 : decode cL_law 63 = .ok (.tableswitch 394 0 6 #[41, 144, 167, 190, 325, 348, 371], 41) := by decide +kernel
theorem dL_law_104 : decode cL_law 104 = .ok (.aload_n 1, 1) := by decide +kernel
theorem dL_law_105 : decode cL_law 105 = .ok (.aload_n 0, 1) := by decide +kernel
theorem dL_law_106 : decode cL_law 106 = .ok (.iload_n 3, 1) := by decide +kernel
theorem dL_law_107 : decode cL_law 107 = .ok (.iconst 1, 1) := by decide +kernel
theorem dL_law_108 : decode cL_law 108 = .ok (.iadd, 1) := by decide +kernel
theorem dL_law_109 : decode cL_law 109 = .ok (.iaload, 1) := by decide +kernel
theorem dL_law_110 : decode cL_law 110 = .ok (.aload_n 0, 1) := by decide +kernel
theorem dL_law_111 : decode cL_law 111 = .ok (.iload_n 3, 1) := by decide +kernel
theorem dL_law_112 : decode cL_law 112 = .ok (.iconst 2, 1) := by decide +kernel
theorem dL_law_113 : decode cL_law 113 = .ok (.iadd, 1) := by decide +kernel
theorem dL_law_114 : decode cL_law 114 = .ok (.iaload, 1) := by decide +kernel
theorem dL_law_115 : decode cL_law 115 = .ok (.i2l, 1) := by decide +kernel
theorem dL_law_116 : decode cL_law 116 = .ok (.bipush 32, 2) := by decide +kernel
theorem dL_law_118 : decode cL_law 118 = .ok (.lshl, 1) := by decide +kernel
theorem dL_law_119 : decode cL_law 119 = .ok (.aload_n 0, 1) := by decide +kernel
theorem dL_law_120 : decode cL_law 120 = .ok (.iload_n 3, 1) := by decide +kernel
theorem dL_law_121 : decode cL_law 121 = .ok (.iconst 3, 1) := by decide +kernel
theorem dL_law_122 : decode cL_law 122 = .ok (.iadd, 1) := by decide +kernel
theorem dL_law_123 : decode cL_law 123 = .ok (.iaload, 1) := by decide +kernel
theorem dL_law_124 : decode cL_law 124 = .ok (.i2l, 1) := by decide +kernel
theorem dL_law_125 : decode cL_law 125 = .ok (.ldc2_w 21, 3) := by decide +kernel
theorem dL_law_128 : decode cL_law 128 = .ok (.land, 1) := by decide +kernel
theorem dL_law_129 : decode cL_law 129 = .ok (.lor, 1) := by decide +kernel
theorem dL_law_130 : decode cL_law 130 = .ok (.aload_n 0, 1) := by decide +kernel
theorem dL_law_131 : decode cL_law 131 = .ok (.iload_n 3, 1) := by decide +kernel
theorem dL_law_132 : decode cL_law 132 = .ok (.iconst 4, 1) := by decide +kernel
theorem dL_law_133 : decode cL_law 133 = .ok (.iadd, 1) := by decide +kernel
theorem dL_law_134 : decode cL_law 134 = .ok (.iaload, 1) := by decide +kernel
theorem dL_law_135 : decode cL_law 135 = .ok (.i2l, 1) := by decide +kernel
theorem dL_law_136 : decode cL_law 136 = .ok (.bipush 32, 2) := by decide +kernel
theorem dL_law_138 : decode cL_law 138 = .ok (.lshl, 1) := by decide +kernel
theorem dL_law_139 : decode cL_law 139 = .ok (.aload_n 0, 1) := by decide +kernel
theorem dL_law_140 : decode cL_law 140 = .ok (.iload_n 3, 1) := by decide +kernel
theorem dL_law_141 : decode cL_law 141 = .ok (.iconst 5, 1) := by decide +kernel
theorem dL_law_142 : decode cL_law 142 = .ok (.iadd, 1) := by decide +kernel
theorem dL_law_143 : decode cL_law 143 = .ok (.iaload, 1) := by decide +kernel
theorem dL_law_144 : decode cL_law 144 = .ok (.i2l, 1) := by decide +kernel
theorem dL_law_145 : decode cL_law 145 = .ok (.ldc2_w 21, 3) := by decide +kernel
theorem dL_law_148 : decode cL_law 148 = .ok (.land, 1) := by decide +kernel
theorem dL_law_149 : decode cL_law 149 = .ok (.lor, 1) := by decide +kernel
theorem dL_law_150 : decode cL_law 150 = .ok (.invokevirtual 23, 3) := by decide +kernel
theorem dL_law_153 : decode cL_law 153 = .ok (.aload_n 2, 1) := by decide +kernel
theorem dL_law_154 : decode cL_law 154 = .ok (.aload_n 0, 1) := by decide +kernel
theorem dL_law_155 : decode cL_law 155 = .ok (.iload_n 3, 1) := by decide +kernel
theorem dL_law_156 : decode cL_law 156 = .ok (.iconst 1, 1) := by decide +kernel
theorem dL_law_157 : decode cL_law 157 = .ok (.iadd, 1) := by decide +kernel
theorem dL_law_158 : decode cL_law 158 = .ok (.iaload, 1) := by decide +kernel
theorem dL_law_159 : decode cL_law 159 = .ok (.aload_n 0, 1) := by decide +kernel
theorem dL_law_160 : decode cL_law 160 = .ok (.iload_n 3, 1) := by decide +kernel
theorem dL_law_161 : decode cL_law 161 = .ok (.iconst 2, 1) := by decide +kernel
theorem dL_law_162 : decode cL_law 162 = .ok (.iadd, 1) := by decide +kernel
theorem dL_law_163 : decode cL_law 163 = .ok (.iaload, 1) := by decide +kernel
theorem dL_law_164 : decode cL_law 164 = .ok (.i2l, 1) := by decide +kernel
theorem dL_law_165 : decode cL_law 165 = .ok (.bipush 32, 2) := by decide +kernel
theorem dL_law_167 : decode cL_law 167 = .ok (.lshl, 1) := by decide +kernel
theorem dL_law_168 : decode cL_law 168 = .ok (.aload_n 0, 1) := by decide +kernel
theorem dL_law_169 : decode cL_law 169 = .ok (.iload_n 3, 1) := by decide +kernel
theorem dL_law_170 : decode cL_law 170 = .ok (.iconst 3, 1) := by decide +kernel
theorem dL_law_171 : decode cL_law 171 = .ok (.iadd, 1) := by decide +kernel
theorem dL_law_172 : decode cL_law 172 = .ok (.iaload, 1) := by decide +kernel
theorem dL_law_173 : decode cL_law 173 = .ok (.i2l, 1) := by decide +kernel
theorem dL_law_174 : decode cL_law 174 = .ok (.ldc2_w 21, 3) := by decide +kernel
theorem dL_law_177 : decode cL_law 177 = .ok (.land, 1) := by decide +kernel
theorem dL_law_178 : decode cL_law 178 = .ok (.lor, 1) := by decide +kernel
theorem dL_law_179 : decode cL_law 179 = .ok (.aload_n 0, 1) := by decide +kernel
theorem dL_law_180 : decode cL_law 180 = .ok (.iload_n 3, 1) := by decide +kernel
theorem dL_law_181 : decode cL_law 181 = .ok (.iconst 4, 1) := by decide +kernel
theorem dL_law_182 : decode cL_law 182 = .ok (.iadd, 1) := by decide +kernel
theorem dL_law_183 : decode cL_law 183 = .ok (.iaload, 1) := by decide +kernel
theorem dL_law_184 : decode cL_law 184 = .ok (.i2l, 1) := by decide +kernel
theorem dL_law_185 : decode cL_law 185 = .ok (.bipush 32, 2) := by decide +kernel
theorem dL_law_187 : decode cL_law 187 = .ok (.lshl, 1) := by decide +kernel
theorem dL_law_188 : decode cL_law 188 = .ok (.aload_n 0, 1) := by decide +kernel
theorem dL_law_189 : decode cL_law 189 = .ok (.iload_n 3, 1) := by decide +kernel
theorem dL_law_190 : decode cL_law 190 = .ok (.iconst 5, 1) := by decide +kernel
theorem dL_law_191 : decode cL_law 191 = .ok (.iadd, 1) := by decide +kernel
theorem dL_law_192 : decode cL_law 192 = .ok (.iaload, 1) := by decide +kernel
theorem dL_law_193 : decode cL_law 193 = .ok (.i2l, 1) := by decide +kernel
theorem dL_law_194 : decode cL_law 194 = .ok (.ldc2_w 21, 3) := by decide +kernel
theorem dL_law_197 : decode cL_law 197 = .ok (.land, 1) := by decide +kernel
theorem dL_law_198 : decode cL_law 198 = .ok (.lor, 1) := by decide +kernel
theorem dL_law_199 : decode cL_law 199 = .ok (.invokevirtual 27, 3) := by decide +kernel
theorem dL_law_202 : decode cL_law 202 = .ok (.if_icmp .eq 255, 3) := by decide +kernel
theorem dL_law_205 : decode cL_law 205 = .ok (.iconst 0, 1) := by decide +kernel
theorem dL_law_206 : decode cL_law 206 = .ok (.ireturn, 1) := by decide +kernel
theorem dL_law_207 : decode cL_law 207 = .ok (.aload_n 1, 1) := by decide +kernel
theorem dL_law_208 : decode cL_law 208 = .ok (.aload_n 0, 1) := by decide +kernel
theorem dL_law_209 : decode cL_law 209 = .ok (.iload_n 3, 1) := by decide +kernel
theorem dL_law_210 : decode cL_law 210 = .ok (.iconst 1, 1) := by decide +kernel
theorem dL_law_211 : decode cL_law 211 = .ok (.iadd, 1) := by decide +kernel
theorem dL_law_212 : decode cL_law 212 = .ok (.iaload, 1) := by decide +kernel
theorem dL_law_213 : decode cL_law 213 = .ok (.invokevirtual 28, 3) := by decide +kernel
theorem dL_law_216 : decode cL_law 216 = .ok (.aload_n 2, 1) := by decide +kernel
theorem dL_law_217 : decode cL_law 217 = .ok (.aload_n 0, 1) := by decide +kernel
theorem dL_law_218 : decode cL_law 218 = .ok (.iload_n 3, 1) := by decide +kernel
theorem dL_law_219 : decode cL_law 219 = .ok (.iconst 1, 1) := by decide +kernel
theorem dL_law_220 : decode cL_law 220 = .ok (.iadd, 1) := by decide +kernel
theorem dL_law_221 : decode cL_law 221 = .ok (.iaload, 1) := by decide +kernel
theorem dL_law_222 : decode cL_law 222 = .ok (.invokevirtual 32, 3) := by decide +kernel
theorem dL_law_225 : decode cL_law 225 = .ok (.if_icmp .eq 232, 3) := by decide +kernel
theorem dL_law_228 : decode cL_law 228 = .ok (.iconst 0, 1) := by decide +kernel
theorem dL_law_229 : decode cL_law 229 = .ok (.ireturn, 1) := by decide +kernel
theorem dL_law_230 : decode cL_law 230 = .ok (.aload_n 1, 1) := by decide +kernel
theorem dL_law_231 : decode cL_law 231 = .ok (.aload_n 0, 1) := by decide +kernel
theorem dL_law_232 : decode cL_law 232 = .ok (.iload_n 3, 1) := by decide +kernel
theorem dL_law_233 : decode cL_law 233 = .ok (.iconst 1, 1) := by decide +kernel
theorem dL_law_234 : decode cL_law 234 = .ok (.iadd, 1) := by decide +kernel
theorem dL_law_235 : decode cL_law 235 = .ok (.iaload, 1) := by decide +kernel
theorem dL_law_236 : decode cL_law 236 = .ok (.invokevirtual 33, 3) := by decide +kernel
theorem dL_law_239 : decode cL_law 239 = .ok (.aload_n 2, 1) := by decide +kernel
theorem dL_law_240 : decode cL_law 240 = .ok (.aload_n 0, 1) := by decide +kernel
theorem dL_law_241 : decode cL_law 241 = .ok (.iload_n 3, 1) := by decide +kernel
theorem dL_law_242 : decode cL_law 242 = .ok (.iconst 1, 1) := by decide +kernel
theorem dL_law_243 : decode cL_law 243 = .ok (.iadd, 1) := by decide +kernel
theorem dL_law_244 : decode cL_law 244 = .ok (.iaload, 1) := by decide +kernel
theorem dL_law_245 : decode cL_law 245 = .ok (.invokevirtual 36, 3) := by decide +kernel
theorem dL_law_248 : decode cL_law 248 = .ok (.if_icmp .eq 209, 3) := by decide +kernel
theorem dL_law_251 : decode cL_law 251 = .ok (.iconst 0, 1) := by decide +kernel
theorem dL_law_252 : decode cL_law 252 = .ok (.ireturn, 1) := by decide +kernel
theorem dL_law_253 : decode cL_law 253 = .ok (.aload_n 1, 1) := by decide +kernel
theorem dL_law_254 : decode cL_law 254 = .ok (.aload_n 0, 1) := by decide +kernel
theorem dL_law_255 : decode cL_law 255 = .ok (.iload_n 3, 1) := by decide +kernel
theorem dL_law_256 : decode cL_law 256 = .ok (.iconst 1, 1) := by decide +kernel
theorem dL_law_257 : decode cL_law 257 = .ok (.iadd, 1) := by decide +kernel
theorem dL_law_258 : decode cL_law 258 = .ok (.iaload, 1) := by decide +kernel
theorem dL_law_259 : decode cL_law 259 = .ok (.i2l, 1) := by decide +kernel
theorem dL_law_260 : decode cL_law 260 = .ok (.bipush 32, 2) := by decide +kernel
theorem dL_law_262 : decode cL_law 262 = .ok (.lshl, 1) := by decide +kernel
theorem dL_law_263 : decode cL_law 263 = .ok (.aload_n 0, 1) := by decide +kernel
theorem dL_law_264 : decode cL_law 264 = .ok (.iload_n 3, 1) := by decide +kernel
theorem dL_law_265 : decode cL_law 265 = .ok (.iconst 2, 1) := by decide +kernel
theorem dL_law_266 : decode cL_law 266 = .ok (.iadd, 1) := by decide +kernel
theorem dL_law_267 : decode cL_law 267 = .ok (.iaload, 1) := by decide +kernel
theorem dL_law_268 : decode cL_law 268 = .ok (.i2l, 1) := by decide +kernel
theorem dL_law_269 : decode cL_law 269 = .ok (.ldc2_w 21, 3) := by decide +kernel
theorem dL_law_272 : decode cL_law 272 = .ok (.land, 1) := by decide +kernel
theorem dL_law_273 : decode cL_law 273 = .ok (.lor, 1) := by decide +kernel
theorem dL_law_274 : decode cL_law 274 = .ok (.aload_n 0, 1) := by decide +kernel
theorem dL_law_275 : decode cL_law 275 = .ok (.iload_n 3, 1) := by decide +kernel
theorem dL_law_276 : decode cL_law 276 = .ok (.iconst 3, 1) := by decide +kernel
theorem dL_law_277 : decode cL_law 277 = .ok (.iadd, 1) := by decide +kernel
theorem dL_law_278 : decode cL_law 278 = .ok (.iaload, 1) := by decide +kernel
theorem dL_law_279 : decode cL_law 279 = .ok (.i2l, 1) := by decide +kernel
theorem dL_law_280 : decode cL_law 280 = .ok (.bipush 32, 2) := by decide +kernel
theorem dL_law_282 : decode cL_law 282 = .ok (.lshl, 1) := by decide +kernel
theorem dL_law_283 : decode cL_law 283 = .ok (.aload_n 0, 1) := by decide +kernel
theorem dL_law_284 : decode cL_law 284 = .ok (.iload_n 3, 1) := by decide +kernel
theorem dL_law_285 : decode cL_law 285 = .ok (.iconst 4, 1) := by decide +kernel
theorem dL_law_286 : decode cL_law 286 = .ok (.iadd, 1) := by decide +kernel
theorem dL_law_287 : decode cL_law 287 = .ok (.iaload, 1) := by decide +kernel
theorem dL_law_288 : decode cL_law 288 = .ok (.i2l, 1) := by decide +kernel
theorem dL_law_289 : decode cL_law 289 = .ok (.ldc2_w 21, 3) := by decide +kernel
theorem dL_law_292 : decode cL_law 292 = .ok (.land, 1) := by decide +kernel
theorem dL_law_293 : decode cL_law 293 = .ok (.lor, 1) := by decide +kernel
theorem dL_law_294 : decode cL_law 294 = .ok (.aload_n 0, 1) := by decide +kernel
theorem dL_law_295 : decode cL_law 295 = .ok (.iload_n 3, 1) := by decide +kernel
theorem dL_law_296 : decode cL_law 296 = .ok (.iconst 5, 1) := by decide +kernel
theorem dL_law_297 : decode cL_law 297 = .ok (.iadd, 1) := by decide +kernel
theorem dL_law_298 : decode cL_law 298 = .ok (.iaload, 1) := by decide +kernel
theorem dL_law_299 : decode cL_law 299 = .ok (.i2l, 1) := by decide +kernel
theorem dL_law_300 : decode cL_law 300 = .ok (.bipush 32, 2) := by decide +kernel
theorem dL_law_302 : decode cL_law 302 = .ok (.lshl, 1) := by decide +kernel
theorem dL_law_303 : decode cL_law 303 = .ok (.aload_n 0, 1) := by decide +kernel
theorem dL_law_304 : decode cL_law 304 = .ok (.iload_n 3, 1) := by decide +kernel
theorem dL_law_305 : decode cL_law 305 = .ok (.bipush 6, 2) := by decide +kernel
theorem dL_law_307 : decode cL_law 307 = .ok (.iadd, 1) := by decide +kernel
theorem dL_law_308 : decode cL_law 308 = .ok (.iaload, 1) := by decide +kernel
theorem dL_law_309 : decode cL_law 309 = .ok (.i2l, 1) := by decide +kernel
theorem dL_law_310 : decode cL_law 310 = .ok (.ldc2_w 21, 3) := by decide +kernel
theorem dL_law_313 : decode cL_law 313 = .ok (.land, 1) := by decide +kernel
theorem dL_law_314 : decode cL_law 314 = .ok (.lor, 1) := by decide +kernel
theorem dL_law_315 : decode cL_law 315 = .ok (.invokevirtual 37, 3) := by decide +kernel
theorem dL_law_318 : decode cL_law 318 = .ok (.aload_n 2, 1) := by decide +kernel
theorem dL_law_319 : decode cL_law 319 = .ok (.aload_n 0, 1) := by decide +kernel
theorem dL_law_320 : decode cL_law 320 = .ok (.iload_n 3, 1) := by decide +kernel
theorem dL_law_321 : decode cL_law 321 = .ok (.iconst 1, 1) := by decide +kernel
theorem dL_law_322 : decode cL_law 322 = .ok (.iadd, 1) := by decide +kernel
theorem dL_law_323 : decode cL_law 323 = .ok (.iaload, 1) := by decide +kernel
theorem dL_law_324 : decode cL_law 324 = .ok (.i2l, 1) := by decide +kernel
theorem dL_law_325 : decode cL_law 325 = .ok (.bipush 32, 2) := by decide +kernel
theorem dL_law_327 : decode cL_law 327 = .ok (.lshl, 1) := by decide +kernel
theorem dL_law_328 : decode cL_law 328 = .ok (.aload_n 0, 1) := by decide +kernel
theorem dL_law_329 : decode cL_law 329 = .ok (.iload_n 3, 1) := by decide +kernel
theorem dL_law_330 : decode cL_law 330 = .ok (.iconst 2, 1) := by decide +kernel
theorem dL_law_331 : decode cL_law 331 = .ok (.iadd, 1) := by decide +kernel
theorem dL_law_332 : decode cL_law 332 = .ok (.iaload, 1) := by decide +kernel
theorem dL_law_333 : decode cL_law 333 = .ok (.i2l, 1) := by decide +kernel
theorem dL_law_334 : decode cL_law 334 = .ok (.ldc2_w 21, 3) := by decide +kernel
theorem dL_law_337 : decode cL_law 337 = .ok (.land, 1) := by decide +kernel
theorem dL_law_338 : decode cL_law 338 = .ok (.lor, 1) := by decide +kernel
theorem dL_law_339 : decode cL_law 339 = .ok (.aload_n 0, 1) := by decide +kernel
theorem dL_law_340 : decode cL_law 340 = .ok (.iload_n 3, 1) := by decide +kernel
theorem dL_law_341 : decode cL_law 341 = .ok (.iconst 3, 1) := by decide +kernel
theorem dL_law_342 : decode cL_law 342 = .ok (.iadd, 1) := by decide +kernel
theorem dL_law_343 : decode cL_law 343 = .ok (.iaload, 1) := by decide +kernel
theorem dL_law_344 : decode cL_law 344 = .ok (.i2l, 1) := by decide +kernel
theorem dL_law_345 : decode cL_law 345 = .ok (.bipush 32, 2) := by decide +kernel
theorem dL_law_347 : decode cL_law 347 = .ok (.lshl, 1) := by decide +kernel
theorem dL_law_348 : decode cL_law 348 = .ok (.aload_n 0, 1) := by decide +kernel
theorem dL_law_349 : decode cL_law 349 = .ok (.iload_n 3, 1) := by decide +kernel
theorem dL_law_350 : decode cL_law 350 = .ok (.iconst 4, 1) := by decide +kernel
theorem dL_law_351 : decode cL_law 351 = .ok (.iadd, 1) := by decide +kernel
theorem dL_law_352 : decode cL_law 352 = .ok (.iaload, 1) := by decide +kernel
theorem dL_law_353 : decode cL_law 353 = .ok (.i2l, 1) := by decide +kernel
theorem dL_law_354 : decode cL_law 354 = .ok (.ldc2_w 21, 3) := by decide +kernel
theorem dL_law_357 : decode cL_law 357 = .ok (.land, 1) := by decide +kernel
theorem dL_law_358 : decode cL_law 358 = .ok (.lor, 1) := by decide +kernel
theorem dL_law_359 : decode cL_law 359 = .ok (.aload_n 0, 1) := by decide +kernel
theorem dL_law_360 : decode cL_law 360 = .ok (.iload_n 3, 1) := by decide +kernel
theorem dL_law_361 : decode cL_law 361 = .ok (.iconst 5, 1) := by decide +kernel
theorem dL_law_362 : decode cL_law 362 = .ok (.iadd, 1) := by decide +kernel
theorem dL_law_363 : decode cL_law 363 = .ok (.iaload, 1) := by decide +kernel
theorem dL_law_364 : decode cL_law 364 = .ok (.i2l, 1) := by decide +kernel
theorem dL_law_365 : decode cL_law 365 = .ok (.bipush 32, 2) := by decide +kernel
theorem dL_law_367 : decode cL_law 367 = .ok (.lshl, 1) := by decide +kernel
theorem dL_law_368 : decode cL_law 368 = .ok (.aload_n 0, 1) := by decide +kernel
theorem dL_law_369 : decode cL_law 369 = .ok (.iload_n 3, 1) := by decide +kernel
theorem dL_law_370 : decode cL_law 370 = .ok (.bipush 6, 2) := by decide +kernel
theorem dL_law_372 : decode cL_law 372 = .ok (.iadd, 1) := by decide +kernel
theorem dL_law_373 : decode cL_law 373 = .ok (.iaload, 1) := by decide +kernel
theorem dL_law_374 : decode cL_law 374 = .ok (.i2l, 1) := by decide +kernel
theorem dL_law_375 : decode cL_law 375 = .ok (.ldc2_w 21, 3) := by decide +kernel
theorem dL_law_378 : decode cL_law 378 = .ok (.land, 1) := by decide +kernel
theorem dL_law_379 : decode cL_law 379 = .ok (.lor, 1) := by decide +kernel
theorem dL_law_380 : decode cL_law 380 = .ok (.invokevirtual 41, 3) := by decide +kernel
theorem dL_law_383 : decode cL_law 383 = .ok (.if_icmp .eq 74, 3) := by decide +kernel
theorem dL_law_386 : decode cL_law 386 = .ok (.iconst 0, 1) := by decide +kernel
theorem dL_law_387 : decode cL_law 387 = .ok (.ireturn, 1) := by decide +kernel
theorem dL_law_388 : decode cL_law 388 = .ok (.aload_n 1, 1) := by decide +kernel
theorem dL_law_389 : decode cL_law 389 = .ok (.aload_n 0, 1) := by decide +kernel
theorem dL_law_390 : decode cL_law 390 = .ok (.iload_n 3, 1) := by decide +kernel
theorem dL_law_391 : decode cL_law 391 = .ok (.iconst 1, 1) := by decide +kernel
theorem dL_law_392 : decode cL_law 392 = .ok (.iadd, 1) := by decide +kernel
theorem dL_law_393 : decode cL_law 393 = .ok (.iaload, 1) := by decide +kernel
theorem dL_law_394 : decode cL_law 394 = .ok (.invokevirtual 42, 3) := by decide +kernel
theorem dL_law_397 : decode cL_law 397 = .ok (.aload_n 2, 1) := by decide +kernel
theorem dL_law_398 : decode cL_law 398 = .ok (.aload_n 0, 1) := by decide +kernel
theorem dL_law_399 : decode cL_law 399 = .ok (.iload_n 3, 1) := by decide +kernel
theorem dL_law_400 : decode cL_law 400 = .ok (.iconst 1, 1) := by decide +kernel
theorem dL_law_401 : decode cL_law 401 = .ok (.iadd, 1) := by decide +kernel
theorem dL_law_402 : decode cL_law 402 = .ok (.iaload, 1) := by decide +kernel
theorem dL_law_403 : decode cL_law 403 = .ok (.invokevirtual 45, 3) := by decide +kernel
theorem dL_law_406 : decode cL_law 406 = .ok (.if_icmp .eq 51, 3) := by decide +kernel
theorem dL_law_409 : decode cL_law 409 = .ok (.iconst 0, 1) := by decide +kernel
theorem dL_law_410 : decode cL_law 410 = .ok (.ireturn, 1) := by decide +kernel
theorem dL_law_411 : decode cL_law 411 = .ok (.aload_n 1, 1) := by decide +kernel
theorem dL_law_412 : decode cL_law 412 = .ok (.aload_n 0, 1) := by decide +kernel
theorem dL_law_413 : decode cL_law 413 = .ok (.iload_n 3, 1) := by decide +kernel
theorem dL_law_414 : decode cL_law 414 = .ok (.iconst 1, 1) := by decide +kernel
theorem dL_law_415 : decode cL_law 415 = .ok (.iadd, 1) := by decide +kernel
theorem dL_law_416 : decode cL_law 416 = .ok (.iaload, 1) := by decide +kernel
theorem dL_law_417 : decode cL_law 417 = .ok (.invokevirtual 46, 3) := by decide +kernel
theorem dL_law_420 : decode cL_law 420 = .ok (.aload_n 2, 1) := by decide +kernel
theorem dL_law_421 : decode cL_law 421 = .ok (.aload_n 0, 1) := by decide +kernel
theorem dL_law_422 : decode cL_law 422 = .ok (.iload_n 3, 1) := by decide +kernel
theorem dL_law_423 : decode cL_law 423 = .ok (.iconst 1, 1) := by decide +kernel
theorem dL_law_424 : decode cL_law 424 = .ok (.iadd, 1) := by decide +kernel
theorem dL_law_425 : decode cL_law 425 = .ok (.iaload, 1) := by decide +kernel
theorem dL_law_426 : decode cL_law 426 = .ok (.invokevirtual 49, 3) := by decide +kernel
theorem dL_law_429 : decode cL_law 429 = .ok (.if_icmp .eq 28, 3) := by decide +kernel
theorem dL_law_432 : decode cL_law 432 = .ok (.iconst 0, 1) := by decide +kernel
theorem dL_law_433 : decode cL_law 433 = .ok (.ireturn, 1) := by decide +kernel
theorem dL_law_434 : decode cL_law 434 = .ok (.aload_n 1, 1) := by decide +kernel
theorem dL_law_435 : decode cL_law 435 = .ok (.aload_n 0, 1) := by decide +kernel
theorem dL_law_436 : decode cL_law 436 = .ok (.iload_n 3, 1) := by decide +kernel
theorem dL_law_437 : decode cL_law 437 = .ok (.iconst 1, 1) := by decide +kernel
theorem dL_law_438 : decode cL_law 438 = .ok (.iadd, 1) := by decide +kernel
theorem dL_law_439 : decode cL_law 439 = .ok (.iaload, 1) := by decide +kernel
theorem dL_law_440 : decode cL_law 440 = .ok (.invokevirtual 50, 3) := by decide +kernel
theorem dL_law_443 : decode cL_law 443 = .ok (.aload_n 2, 1) := by decide +kernel
theorem dL_law_444 : decode cL_law 444 = .ok (.aload_n 0, 1) := by decide +kernel
theorem dL_law_445 : decode cL_law 445 = .ok (.iload_n 3, 1) := by decide +kernel
theorem dL_law_446 : decode cL_law 446 = .ok (.iconst 1, 1) := by decide +kernel
theorem dL_law_447 : decode cL_law 447 = .ok (.iadd, 1) := by decide +kernel
theorem dL_law_448 : decode cL_law 448 = .ok (.iaload, 1) := by decide +kernel
theorem dL_law_449 : decode cL_law 449 = .ok (.invokevirtual 53, 3) := by decide +kernel
theorem dL_law_452 : decode cL_law 452 = .ok (.if_icmp .eq 5, 3) := by decide +kernel
theorem dL_law_455 : decode cL_law 455 = .ok (.iconst 0, 1) := by decide +kernel
theorem dL_law_456 : decode cL_law 456 = .ok (.ireturn, 1) := by decide +kernel
theorem dL_law_457 : decode cL_law 457 = .ok (.iinc 3 7, 3) := by decide +kernel
theorem dL_law_460 : decode cL_law 460 = .ok (.goto (-412), 3) := by decide +kernel
theorem dL_law_463 : decode cL_law 463 = .ok (.iconst 1, 1) := by decide +kernel
theorem dL_law_464 : decode cL_law 464 = .ok (.ireturn, 1) := by decide +kernel
abbrev vwCl : List vw_C := [(RX0, TX0, 16), (RX1, TX1, 14)]
end
section
/-! What a table IS, without the machine: entries as lists, in the order of their making (the reference) and in the order in which they count (the class). -/
/-- an entry: number, priority, hits, values and masks as they were told -/
abbrev et_E : Type := Nat × Int32 × Int32 × (Nat → Int64) × (Nat → Int64)
abbrev et_n (x : et_E) : Nat := x.1
abbrev et_p (x : et_E) : Int32 := x.2.1
abbrev et_h (x : et_E) : Int32 := x.2.2.1
abbrev et_v (x : et_E) : Nat → Int64 := x.2.2.2.1
abbrev et_m (x : et_E) : Nat → Int64 := x.2.2.2.2
/-- the mask told of the first key, from i on, n of them, that is a PREFIX; else 0 -/
def et_pg (kd : Nat → Int32) (f : Nat → Int64) : Nat → Nat → Int64
  | _, 0 => 0
  | i, n + 1 => if kd i = 1 then f i else et_pg kd f (i + 1) n
abbrev et_pf (K : Nat) (kd : Nat → Int32) (f : Nat → Int64) : Int64 := et_pg kd f 0 K
/-- the bits that a key looks at, by kind, as the class has them -/
def et_db (ab : Int64) (kk : Int32) (m : Int64) : Int64 := if kk = 0 then ab else if kk = 1 then ab ^^^ (ab.toUInt64 >>> (m.toInt32.toInt64.toUInt64 &&& Int64.toUInt64 63)).toInt64 else m
def et_num (ab x : Int64) : Prop := 0 ≤ x ∧ x ≤ ab
/-- a key of the entry that is made up is sound, as the class asks -/
def et_ks (ab : Int64) (W : Int32) (kk : Int32) (v m : Int64) : Prop := et_num ab v ∧ (kk = 0 ∨ ((if kk = 1 then 0 ≤ m ∧ m ≤ W.toInt64 else et_num ab m) ∧ v &&& (et_db ab kk m ^^^ (-1)) = 0))
def et_snd (K : Nat) (ab : Int64) (W : Int32) (kd : Nat → Int32) (v m : Nat → Int64) : Prop := ∀ k, k < K → et_ks ab W (kd k) (v k) (m k)
def et_ab (w : Nat) : Int64 := lN (2 ^ w - 1)
/-- x counts before y -/
abbrev et_bf (K : Nat) (kd : Nat → Int32) (x y : et_E) : Prop := et_pf K kd (et_m y) < et_pf K kd (et_m x) ∨ (et_pf K kd (et_m x) = et_pf K kd (et_m y) ∧ (et_p y < et_p x ∨ (et_p x = et_p y ∧ et_n x < et_n y)))
theorem et_bf_irr {K : Nat} {kd : Nat → Int32} {x : et_E} : ¬ et_bf K kd x x := by
  rintro (h | ⟨-, h | ⟨-, h⟩⟩)
  · rw [Int64.lt_iff_toInt_lt] at h; omega
  · rw [Int32.lt_iff_toInt_lt] at h; omega
  · omega
theorem et_bf_tr {K : Nat} {kd : Nat → Int32} {x y z : et_E} (h1 : et_bf K kd x y) (h2 : et_bf K kd y z) : et_bf K kd x z := by
  unfold et_bf at *
  rw [Int64.lt_iff_toInt_lt, Int32.lt_iff_toInt_lt, ← Int64.toInt_inj, ← Int32.toInt_inj] at *
  omega
theorem et_bf_as {K : Nat} {kd : Nat → Int32} {x y : et_E} (h1 : et_bf K kd x y) : ¬ et_bf K kd y x := fun h2 => et_bf_irr (et_bf_tr h1 h2)
/-- an entry's rank is the number of those before it -/
theorem et_rank {K : Nat} {kd : Nat → Int32} : ∀ {L : List et_E} {r : Nat} {x : et_E}, L.Pairwise (et_bf K kd) → L[r]? = some x → L.countP (fun z => decide (et_bf K kd z x)) = r
  | [], r, x, _, h => by simp at h
  | y :: t, 0, x, hp, h => by
    rw [List.getElem?_cons_zero] at h
    cases h
    rw [List.pairwise_cons] at hp
    rw [List.countP_cons]
    have h0 : t.countP (fun z => decide (et_bf K kd z y)) = 0 := by
      rw [List.countP_eq_zero]
      intro z hz
      simp only [decide_eq_true_eq]
      exact et_bf_as (hp.1 z hz)
    rw [h0]
    simp only [decide_eq_true_eq]
    rw [if_neg et_bf_irr]
  | y :: t, r + 1, x, hp, h => by
    rw [List.getElem?_cons_succ] at h
    rw [List.pairwise_cons] at hp
    rw [List.countP_cons, et_rank hp.2 h]
    simp only [decide_eq_true_eq]
    rw [if_pos (hp.1 x (List.mem_of_getElem? h))]
/-- what both sides keep of each other -/
def et_IV (K w : Nat) (kd : Nat → Int32) (N : Nat) (A L : List et_E) : Prop :=
  A.Perm L ∧ A.Pairwise (fun x y => et_n x < et_n y) ∧ L.Pairwise (et_bf K kd) ∧ ∀ x ∈ A, et_n x < N ∧ et_snd K (et_ab w) (nI w) kd (et_v x) (et_m x)
theorem et_uniq {A : List et_E} (h : A.Pairwise (fun x y => et_n x < et_n y)) {x y : et_E} (hx : x ∈ A) (hy : y ∈ A) (e : et_n x = et_n y) : x = y := by
  induction A with
  | nil => cases hx
  | cons a t ih =>
    rw [List.pairwise_cons] at h
    rcases List.mem_cons.mp hx with rfl | hx1 <;> rcases List.mem_cons.mp hy with rfl | hy1
    · rfl
    · exact absurd (h.1 y hy1) (by omega)
    · exact absurd (h.1 x hx1) (by omega)
    · exact ih h.2 hx1 hy1
theorem et_perm_erase {α : Type} : ∀ {l : List α} {i : Nat} {x : α}, l[i]? = some x → l.Perm (x :: l.eraseIdx i)
  | [], i, x, h => by simp at h
  | y :: t, 0, x, h => by
    rw [List.getElem?_cons_zero] at h
    cases h
    exact List.Perm.refl _
  | y :: t, i + 1, x, h => by
    rw [List.getElem?_cons_succ] at h
    rw [List.eraseIdx_cons_succ]
    exact ((et_perm_erase h).cons y).trans (List.Perm.swap x y _)
theorem et_perm_set {α : Type} : ∀ {l : List α} {i : Nat} {x : α} (z : α), l[i]? = some x → (l.set i z).Perm (z :: l.eraseIdx i)
  | [], i, x, z, h => by simp at h
  | y :: t, 0, x, z, h => by
    rw [List.set_cons_zero]
    exact List.Perm.refl _
  | y :: t, i + 1, x, z, h => by
    rw [List.getElem?_cons_succ] at h
    rw [List.eraseIdx_cons_succ, List.set_cons_succ]
    exact ((et_perm_set z h).cons y).trans (List.Perm.swap z y _)
theorem et_IV_del {K w : Nat} {kd : Nat → Int32} {N : Nat} {A L : List et_E} (h : et_IV K w kd N A L) {i j : Nat} {x : et_E} (hi : A[i]? = some x) (hj : L[j]? = some x) : et_IV K w kd N (A.eraseIdx i) (L.eraseIdx j) := by
  obtain ⟨h1, h2, h3, h4⟩ := h
  refine ⟨List.Perm.cons_inv ((et_perm_erase hi).symm.trans (h1.trans (et_perm_erase hj))), h2.eraseIdx i, h3.eraseIdx j, fun x hx => h4 x (List.mem_of_mem_eraseIdx hx)⟩
/-- a pair of places of a list with one entry changed in what no order looks at -/
theorem et_pw_set {α : Type} {Rl : α → α → Prop} {l : List α} {i : Nat} {x z : α} (h : l.Pairwise Rl) (hi : l[i]? = some x) (h1 : ∀ y, Rl x y → Rl z y) (h2 : ∀ y, Rl y x → Rl y z) : (l.set i z).Pairwise Rl := by
  induction l generalizing i with
  | nil => simp at hi
  | cons a t ih =>
    rw [List.pairwise_cons] at h
    cases i with
    | zero =>
      rw [List.getElem?_cons_zero] at hi
      cases hi
      rw [List.set_cons_zero, List.pairwise_cons]
      exact ⟨fun y hy => h1 y (h.1 y hy), h.2⟩
    | succ i =>
      rw [List.getElem?_cons_succ] at hi
      rw [List.set_cons_succ, List.pairwise_cons]
      refine ⟨fun y hy => ?_, ih h.2 hi⟩
      rcases List.mem_or_eq_of_mem_set hy with hy | rfl
      · exact h.1 y hy
      · exact h2 a (h.1 x (List.mem_of_getElem? hi))
abbrev et_hit (x : et_E) : et_E := (et_n x, et_p x, et_h x + 1, et_v x, et_m x)
theorem et_IV_hit {K w : Nat} {kd : Nat → Int32} {N : Nat} {A L : List et_E} (h : et_IV K w kd N A L) {i j : Nat} {x : et_E} (hi : A[i]? = some x) (hj : L[j]? = some x) : et_IV K w kd N (A.set i (et_hit x)) (L.set j (et_hit x)) := by
  obtain ⟨h1, h2, h3, h4⟩ := h
  have e1 := List.Perm.cons_inv ((et_perm_erase hi).symm.trans (h1.trans (et_perm_erase hj)))
  refine ⟨(et_perm_set _ hi).trans ((e1.cons _).trans (et_perm_set _ hj).symm), et_pw_set h2 hi (fun y hy => hy) (fun y hy => hy), et_pw_set h3 hj (fun y hy => hy) (fun y hy => hy), fun y hy => ?_⟩
  rcases List.mem_or_eq_of_mem_set hy with hy | rfl
  · exact h4 y hy
  · exact h4 x (List.mem_of_getElem? hi)
/-- where a new entry goes: behind all that are no lower, before the first that is lower -/
def et_lo (K : Nat) (kd : Nat → Int32) (p : Int32) (m : Nat → Int64) (x : et_E) : Prop := et_pf K kd (et_m x) < et_pf K kd m ∨ (et_pf K kd (et_m x) = et_pf K kd m ∧ et_p x < p)
theorem et_IV_ins {K w : Nat} {kd : Nat → Int32} {N : Nat} {A L : List et_E} (h : et_IV K w kd N A L) {j : Nat} {p hh : Int32} {v m : Nat → Int64} (hj : j ≤ L.length) (hs : et_snd K (et_ab w) (nI w) kd v m) (hlt : ∀ i x, i < j → L[i]? = some x → ¬ et_lo K kd p m x) (hge : ∀ x, L[j]? = some x → et_lo K kd p m x) :
    et_IV K w kd (N + 1) (A ++ [(N, p, hh, v, m)]) (L.insertIdx j (N, p, hh, v, m)) := by
  obtain ⟨h1, h2, h3, h4⟩ := h
  have hnL : ∀ x ∈ L, et_n x < N := fun x hx => (h4 x (h1.mem_iff.mpr hx)).1
  refine ⟨?_, ?_, ?_, ?_⟩
  · exact (List.perm_append_singleton _ _).trans ((h1.cons _).trans (List.perm_insertIdx _ L hj).symm)
  · rw [List.pairwise_append]
    refine ⟨h2, List.pairwise_singleton _ _, fun a ha b hb => ?_⟩
    rw [List.mem_singleton] at hb
    subst hb
    exact (h4 a ha).1
  · rw [List.pairwise_iff_getElem] at h3 ⊢
    have key : ∀ (i : Nat) (x : et_E), L[i]? = some x → (i < j → et_bf K kd x (N, p, hh, v, m)) ∧ (j ≤ i → et_bf K kd (N, p, hh, v, m) x) := by
      intro i x hx
      have hN := hnL x (List.mem_of_getElem? hx)
      refine ⟨fun hij => ?_, fun hij => ?_⟩
      · have := hlt i x hij hx
        unfold et_lo at this
        unfold et_bf
        dsimp only [et_m, et_p, et_n] at *
        rw [Int64.lt_iff_toInt_lt, Int32.lt_iff_toInt_lt, ← Int64.toInt_inj] at *
        rw [← Int32.toInt_inj]
        omega
      · have hjl : j < L.length := by have := (List.getElem?_eq_some_iff.mp hx).1; omega
        have hxj := hge L[j] (List.getElem?_eq_getElem hjl)
        have hb : et_bf K kd (N, p, hh, v, m) L[j] := by
          unfold et_lo at hxj
          unfold et_bf
          dsimp only [et_m, et_p, et_n] at *
          rcases hxj with hxj | ⟨e1, e2⟩
          · exact Or.inl hxj
          · exact Or.inr ⟨e1.symm, Or.inl e2⟩
        by_cases e : j = i
        · subst e
          rw [List.getElem?_eq_getElem hjl] at hx
          cases hx
          exact hb
        · obtain ⟨hil, rfl⟩ := List.getElem?_eq_some_iff.mp hx
          exact et_bf_tr hb (h3 j i hjl hil (by omega))
    intro a b ha hb hab
    have la : (L.insertIdx j (N, p, hh, v, m)).length = L.length + 1 := List.length_insertIdx_of_le_length hj _
    rcases Nat.lt_trichotomy b j with hbj | hbj | hbj
    · rw [List.getElem_insertIdx_of_lt (by omega), List.getElem_insertIdx_of_lt hbj]
      exact h3 a b (by omega) (by omega) hab
    · subst hbj
      rw [List.getElem_insertIdx_of_lt hab, List.getElem_insertIdx_self]
      exact (key a _ (List.getElem?_eq_getElem (by omega))).1 hab
    · rcases Nat.lt_trichotomy a j with haj | haj | haj
      · rw [List.getElem_insertIdx_of_lt haj, List.getElem_insertIdx_of_gt hbj]
        exact h3 a (b - 1) (by omega) (by omega) (by omega)
      · subst haj
        rw [List.getElem_insertIdx_self, List.getElem_insertIdx_of_gt hbj]
        exact (key (b - 1) _ (List.getElem?_eq_getElem (by omega))).2 (by omega)
      · rw [List.getElem_insertIdx_of_gt haj, List.getElem_insertIdx_of_gt hbj]
        exact h3 (a - 1) (b - 1) (by omega) (by omega) (by omega)
  · intro x hx
    rcases List.mem_append.mp hx with hx | hx
    · exact ⟨Nat.lt_succ_of_lt (h4 x hx).1, (h4 x hx).2⟩
    · rw [List.mem_singleton] at hx
      subst hx
      exact ⟨Nat.lt_succ_self N, hs⟩
end
section
/-! How the class's rows, and the reference's, hold lists of entries. -/
def et_CR (K w : Nat) (kd : Nat → Int32) (L : List et_E) (o : Nat → Nat) (ord nums pris pres fins : Nat → Int32) (vals msks : Nat → Int64) : Prop :=
  (∀ r, r < 24 → ord r = nI (o r) ∧ o r < 24) ∧ (∀ i j, i < 24 → j < 24 → o i = o j → i = j) ∧ L.length ≤ 24 ∧
  (∀ r x, L[r]? = some x → nums (o r) = nI (et_n x) ∧ pris (o r) = et_p x ∧ pres (o r) = (et_pf K kd (et_m x)).toInt32 ∧ fins (o r) = et_h x ∧ ∀ k, k < K → vals (o r * 3 + k) = et_v x k ∧ msks (o r * 3 + k) = et_db (et_ab w) (kd k) (et_m x k)) ∧
  (∀ i k, i < 24 → K ≤ k → k < 3 → vals (i * 3 + k) = 0 ∧ msks (i * 3 + k) = 0)
def et_RR (A : List et_E) (num pri hit : Nat → Int32) (val msk : Nat → Int64) : Prop :=
  A.length ≤ 24 ∧ ∀ i x, A[i]? = some x → num i = nI (et_n x) ∧ pri i = et_p x ∧ hit i = et_h x ∧ ∀ k, k < 3 → val (3 * i + k) = et_v x k ∧ msk (3 * i + k) = et_m x k
def et_i1 (j E r : Nat) : Nat := if r = j then E else if j < r ∧ r ≤ E then r - 1 else r
def et_i2 (j E r : Nat) : Nat := if r = E - 1 then j else if j ≤ r ∧ r < E - 1 then r + 1 else r
theorem et_i1_inj {j E a b : Nat} (hj : j ≤ E) (h : et_i1 j E a = et_i1 j E b) : a = b := by
  unfold et_i1 at h
  split at h <;> split at h <;> (try split at h) <;> (try split at h) <;> omega
theorem et_i2_inj {j E a b : Nat} (hj : j < E) (h : et_i2 j E a = et_i2 j E b) : a = b := by
  unfold et_i2 at h
  split at h <;> split at h <;> (try split at h) <;> (try split at h) <;> omega
theorem et_o1 {ord : Nat → Int32} {j E r : Nat} (hj : j ≤ E) : upd (va_cpy ord ord j (j + 1) (E - j)) j (ord E) r = ord (et_i1 j E r) := by
  unfold upd va_cpy et_i1
  by_cases h1 : r = j
  · rw [if_pos h1, if_pos h1]
  · rw [if_neg h1, if_neg h1]
    by_cases h2 : j < r ∧ r ≤ E
    · rw [if_pos h2, if_pos (by omega)]
      congr 1; omega
    · rw [if_neg h2, if_neg (by omega)]
theorem et_o2 {ord : Nat → Int32} {j E r : Nat} (hj : j < E) : upd (va_cpy ord ord (j + 1) j (E - 1 - j)) (E - 1) (ord j) r = ord (et_i2 j E r) := by
  unfold upd va_cpy et_i2
  by_cases h1 : r = E - 1
  · rw [if_pos h1, if_pos h1]
  · rw [if_neg h1, if_neg h1]
    by_cases h2 : j ≤ r ∧ r < E - 1
    · rw [if_pos h2, if_pos (by omega)]
      congr 1; omega
    · rw [if_neg h2, if_neg (by omega)]
theorem et_CR_ins {K w : Nat} {kd : Nat → Int32} {L : List et_E} {o : Nat → Nat} {ord nums pris pres fins : Nat → Int32} {vals msks vals' msks' : Nat → Int64} (h : et_CR K w kd L o ord nums pris pres fins vals msks) (hK : K ≤ 3) {E j N : Nat} (hE : L.length = E) (hE2 : E < 24) (hj : j ≤ E) {p : Int32} {v m : Nat → Int64}
    (ho : ∀ i, (i < o E * 3 ∨ o E * 3 + K ≤ i) → vals' i = vals i ∧ msks' i = msks i) (hi : ∀ k, k < K → vals' (o E * 3 + k) = v k ∧ msks' (o E * 3 + k) = et_db (et_ab w) (kd k) (m k)) :
    et_CR K w kd (L.insertIdx j (N, p, 0, v, m)) (fun r => o (et_i1 j E r)) (upd (va_cpy ord ord j (j + 1) (E - j)) j (ord E)) (upd nums (o E) (nI N)) (upd pris (o E) p) (upd pres (o E) (et_pf K kd m).toInt32) (upd fins (o E) 0) vals' msks' := by
  obtain ⟨h1, h2, h3, h4, h5⟩ := h
  have hlt : ∀ r, r < 24 → et_i1 j E r < 24 := by
    intro r hr
    unfold et_i1
    split
    · omega
    · split <;> omega
  have ap : ∀ r x, L[r]? = some x → upd nums (o E) (nI N) (o r) = nI (et_n x) ∧ upd pris (o E) p (o r) = et_p x ∧ upd pres (o E) (et_pf K kd m).toInt32 (o r) = (et_pf K kd (et_m x)).toInt32 ∧ upd fins (o E) 0 (o r) = et_h x ∧ ∀ k, k < K → vals' (o r * 3 + k) = et_v x k ∧ msks' (o r * 3 + k) = et_db (et_ab w) (kd k) (et_m x k) := by
    intro r x hx
    have hr : r < L.length := (List.getElem?_eq_some_iff.mp hx).1
    have hne : o r ≠ o E := fun q => by have := h2 r E (by omega) hE2 q; omega
    obtain ⟨a1, a2, a3, a4, a5⟩ := h4 r x hx
    refine ⟨by rw [pk_un hne]; exact a1, by rw [pk_un hne]; exact a2, by rw [pk_un hne]; exact a3, by rw [pk_un hne]; exact a4, fun k hk => ?_⟩
    obtain ⟨b1, b2⟩ := ho (o r * 3 + k) (by omega)
    rw [b1, b2]
    exact a5 k hk
  refine ⟨fun r hr => ?_, fun a b ha hb hab => ?_, ?_, fun r x hx => ?_, fun i k hi2 hk1 hk2 => ?_⟩
  · rw [et_o1 hj]
    exact h1 _ (hlt r hr)
  · exact et_i1_inj hj (h2 _ _ (hlt a ha) (hlt b hb) hab)
  · rw [List.length_insertIdx_of_le_length (by omega)]
    omega
  · rcases Nat.lt_trichotomy r j with hrj | hrj | hrj
    · rw [List.getElem?_insertIdx_of_lt hrj] at hx
      have e : et_i1 j E r = r := by unfold et_i1; rw [if_neg (by omega), if_neg (by omega)]
      dsimp only
      rw [e]
      exact ap r x hx
    · subst hrj
      rw [List.getElem?_insertIdx_self, if_pos (by omega)] at hx
      cases hx
      have e : et_i1 r E r = E := by unfold et_i1; rw [if_pos rfl]
      dsimp only
      rw [e]
      exact ⟨pk_us, pk_us, pk_us, pk_us, hi⟩
    · rw [List.getElem?_insertIdx_of_gt hrj] at hx
      have hr : r - 1 < L.length := (List.getElem?_eq_some_iff.mp hx).1
      have e : et_i1 j E r = r - 1 := by unfold et_i1; rw [if_neg (by omega), if_pos (by omega)]
      dsimp only
      rw [e]
      exact ap (r - 1) x hx
  · obtain ⟨b1, b2⟩ := ho (i * 3 + k) (by omega)
    rw [b1, b2]
    exact h5 i k hi2 hk1 hk2
theorem et_CR_del {K w : Nat} {kd : Nat → Int32} {L : List et_E} {o : Nat → Nat} {ord nums pris pres fins : Nat → Int32} {vals msks : Nat → Int64} (h : et_CR K w kd L o ord nums pris pres fins vals msks) {E j : Nat} (hE : L.length = E) (hj : j < E) :
    et_CR K w kd (L.eraseIdx j) (fun r => o (et_i2 j E r)) (upd (va_cpy ord ord (j + 1) j (E - 1 - j)) (E - 1) (ord j)) nums pris pres fins vals msks := by
  obtain ⟨h1, h2, h3, h4, h5⟩ := h
  have hlt : ∀ r, r < 24 → et_i2 j E r < 24 := by
    intro r hr
    unfold et_i2
    split
    · omega
    · split <;> omega
  refine ⟨fun r hr => ?_, fun a b ha hb hab => ?_, ?_, fun r x hx => ?_, h5⟩
  · rw [et_o2 hj]
    exact h1 _ (hlt r hr)
  · exact et_i2_inj hj (h2 _ _ (hlt a ha) (hlt b hb) hab)
  · exact Nat.le_trans (List.length_eraseIdx_le L j) h3
  · by_cases hrj : r < j
    · rw [List.getElem?_eraseIdx_of_lt hrj] at hx
      have e : et_i2 j E r = r := by unfold et_i2; rw [if_neg (by omega), if_neg (by omega)]
      dsimp only
      rw [e]
      exact h4 r x hx
    · rw [List.getElem?_eraseIdx_of_ge (by omega)] at hx
      have hr : r + 1 < L.length := (List.getElem?_eq_some_iff.mp hx).1
      have e : et_i2 j E r = r + 1 := by unfold et_i2; rw [if_neg (by omega), if_pos (by omega)]
      dsimp only
      rw [e]
      exact h4 (r + 1) x hx
theorem et_CR_hit {K w : Nat} {kd : Nat → Int32} {L : List et_E} {o : Nat → Nat} {ord nums pris pres fins : Nat → Int32} {vals msks : Nat → Int64} (h : et_CR K w kd L o ord nums pris pres fins vals msks) {j : Nat} {x : et_E} (hj : L[j]? = some x) :
    et_CR K w kd (L.set j (et_hit x)) o ord nums pris pres (upd fins (o j) (fins (o j) + 1)) vals msks := by
  obtain ⟨h1, h2, h3, h4, h5⟩ := h
  have hjl : j < L.length := (List.getElem?_eq_some_iff.mp hj).1
  refine ⟨h1, h2, by rw [List.length_set]; exact h3, fun r y hy => ?_, h5⟩
  by_cases e : r = j
  · subst e
    rw [List.getElem?_set_self hjl] at hy
    cases hy
    obtain ⟨a1, a2, a3, a4, a5⟩ := h4 r x hj
    exact ⟨a1, a2, a3, by rw [pk_us, a4], a5⟩
  · rw [List.getElem?_set_ne (Ne.symm e)] at hy
    have hr : r < L.length := (List.getElem?_eq_some_iff.mp hy).1
    obtain ⟨a1, a2, a3, a4, a5⟩ := h4 r y hy
    exact ⟨a1, a2, a3, by rw [pk_un (fun q => e (h2 r j (by omega) (by omega) q))]; exact a4, a5⟩
theorem et_RR_ins {A : List et_E} {num pri hit num' pri' hit' : Nat → Int32} {val msk val' msk' : Nat → Int64} (h : et_RR A num pri hit val msk) {x : et_E} (hC : A.length < 24) (h1 : ∀ i, i < A.length → num' i = num i ∧ pri' i = pri i ∧ hit' i = hit i) (h2 : ∀ i, i < 3 * A.length → val' i = val i ∧ msk' i = msk i)
    (h3 : num' A.length = nI (et_n x) ∧ pri' A.length = et_p x ∧ hit' A.length = et_h x) (h4 : ∀ k, k < 3 → val' (3 * A.length + k) = et_v x k ∧ msk' (3 * A.length + k) = et_m x k) : et_RR (A ++ [x]) num' pri' hit' val' msk' := by
  refine ⟨by rw [List.length_append]; exact hC, fun i y hy => ?_⟩
  by_cases hi : i < A.length
  · rw [List.getElem?_append_left hi] at hy
    obtain ⟨a1, a2, a3, a4⟩ := h.2 i y hy
    obtain ⟨b1, b2, b3⟩ := h1 i hi
    refine ⟨by rw [b1]; exact a1, by rw [b2]; exact a2, by rw [b3]; exact a3, fun k hk => ?_⟩
    obtain ⟨c1, c2⟩ := h2 (3 * i + k) (by omega)
    rw [c1, c2]
    exact a4 k hk
  · rw [List.getElem?_append_right (by omega)] at hy
    have hz : i - A.length < 1 := (List.getElem?_eq_some_iff.mp hy).1
    have e : i = A.length := by omega
    subst e
    rw [Nat.sub_self] at hy
    cases hy
    exact ⟨h3.1, h3.2.1, h3.2.2, h4⟩
theorem et_RR_del {A : List et_E} {num pri hit num' pri' hit' : Nat → Int32} {val msk val' msk' : Nat → Int64} (h : et_RR A num pri hit val msk) {j : Nat} (hj : j < A.length) (h1 : ∀ i, i < j → num' i = num i ∧ pri' i = pri i ∧ hit' i = hit i) (h2 : ∀ i, i < 3 * j → val' i = val i ∧ msk' i = msk i)
    (h3 : ∀ i, j ≤ i → i + 1 < A.length → num' i = num (i + 1) ∧ pri' i = pri (i + 1) ∧ hit' i = hit (i + 1)) (h4 : ∀ i, j ≤ i → i + 1 < A.length → ∀ k, k < 3 → val' (3 * i + k) = val (3 * i + 3 + k) ∧ msk' (3 * i + k) = msk (3 * i + 3 + k)) : et_RR (A.eraseIdx j) num' pri' hit' val' msk' := by
  refine ⟨Nat.le_trans (List.length_eraseIdx_le A j) h.1, fun i y hy => ?_⟩
  by_cases hi : i < j
  · rw [List.getElem?_eraseIdx_of_lt hi] at hy
    obtain ⟨a1, a2, a3, a4⟩ := h.2 i y hy
    obtain ⟨b1, b2, b3⟩ := h1 i hi
    refine ⟨by rw [b1]; exact a1, by rw [b2]; exact a2, by rw [b3]; exact a3, fun k hk => ?_⟩
    obtain ⟨c1, c2⟩ := h2 (3 * i + k) (by omega)
    rw [c1, c2]
    exact a4 k hk
  · rw [List.getElem?_eraseIdx_of_ge (by omega)] at hy
    have hr : i + 1 < A.length := (List.getElem?_eq_some_iff.mp hy).1
    obtain ⟨a1, a2, a3, a4⟩ := h.2 (i + 1) y hy
    obtain ⟨b1, b2, b3⟩ := h3 i (by omega) hr
    refine ⟨by rw [b1]; exact a1, by rw [b2]; exact a2, by rw [b3]; exact a3, fun k hk => ?_⟩
    obtain ⟨c1, c2⟩ := h4 i (by omega) hr k hk
    rw [c1, c2]
    exact a4 k hk
theorem et_RR_hit {A : List et_E} {num pri hit : Nat → Int32} {val msk : Nat → Int64} (h : et_RR A num pri hit val msk) {j : Nat} {x : et_E} (hj : A[j]? = some x) : et_RR (A.set j (et_hit x)) num pri (upd hit j (hit j + 1)) val msk := by
  have hjl : j < A.length := (List.getElem?_eq_some_iff.mp hj).1
  refine ⟨by rw [List.length_set]; exact h.1, fun i y hy => ?_⟩
  by_cases e : i = j
  · subst e
    rw [List.getElem?_set_self hjl] at hy
    cases hy
    obtain ⟨a1, a2, a3, a4⟩ := h.2 i x hj
    exact ⟨a1, a2, by rw [pk_us, a3], a4⟩
  · rw [List.getElem?_set_ne (Ne.symm e)] at hy
    obtain ⟨a1, a2, a3, a4⟩ := h.2 i y hy
    exact ⟨a1, a2, by rw [pk_un e]; exact a3, a4⟩
end
section
/-! Numbers of w bits, prefixes and masks: class and reference ask the same. -/
/-- the reference's words -/
def et_rn (W : Int32) (v : Int64) : Prop := 0 ≤ v ∧ v >>> (W.toInt64 &&& 63) = 0
def et_rb (W : Int32) (p : Int64) : Int64 := if p = 0 then 0 else (((1 : Int64) <<< (W.toInt64 &&& 63)) - 1) >>> ((W.toInt64 - p).toInt32.toInt64 &&& 63) <<< ((W.toInt64 - p).toInt32.toInt64 &&& 63)
def et_rs (W : Int32) (kk : Int32) (v m : Int64) : Prop := et_rn W v ∧ (kk = 0 ∨ (¬ kk = 0 ∧ kk = 2 ∧ et_rn W m ∧ v &&& (m ^^^ (-1)) = 0) ∨ (¬ kk = 0 ∧ ¬ kk = 2 ∧ (0 ≤ m ∧ m ≤ W.toInt64) ∧ v &&& (et_rb W m ^^^ (-1)) = 0))
/-- what the reference lays over the number asked -/
def et_rm (W : Int32) (kk : Int32) (m : Int64) : Int64 := if kk = 0 then (-1) else if kk = 1 then et_rb W m else m
def et_kk (kk : Int32) : Prop := kk = 0 ∨ kk = 1 ∨ kk = 2
theorem et_abW : ∀ w, w < 49 → ((1 : Int64) <<< ((nI w).toInt64 &&& 63)) - 1 = et_ab w := by decide +kernel
theorem et_dbW : ∀ w, w < 49 → ∀ i, i < w + 1 → et_db (et_ab w) 1 (lN i) = lN (2 ^ w - 2 ^ (w - i)) := by decide +kernel
theorem et_rbW : ∀ w, w < 49 → ∀ i, i < w + 1 → et_rb (nI w) (lN i) = lN (2 ^ w - 2 ^ (w - i)) := by decide +kernel
theorem et_anW : ∀ w, w < 49 → ∀ i, i < w + 1 → et_ab w &&& lN (2 ^ w - 2 ^ (w - i)) = lN (2 ^ w - 2 ^ (w - i)) := by decide +kernel
theorem et_smW : ∀ w, w < 49 → (((nI w).toInt64 &&& 63).toBitVec.smod 64).toNat = w := by decide +kernel
theorem et_p48 {w : Nat} (h : w < 49) : 2 ^ w ≤ 2 ^ 48 := Nat.pow_le_pow_right (by decide) (by omega)
theorem et_num_iff {w : Nat} (hw : w < 49) (x : Int64) : et_num (et_ab w) x ↔ ∃ n, n < 2 ^ w ∧ x = lN n := by
  have h48 := et_p48 hw
  have hp : 0 < 2 ^ w := Nat.two_pow_pos w
  unfold et_num et_ab
  constructor
  · rintro ⟨h1, h2⟩
    obtain ⟨k, hk, rfl⟩ := pk_lOf (x := x) (by rw [Int64.lt_iff_toInt_lt]; rw [Int64.le_iff_toInt_le] at h1; omega)
    rw [pk_lLE hk (by omega)] at h2
    exact ⟨k, by omega, rfl⟩
  · rintro ⟨n, hn, rfl⟩
    exact ⟨(pk_lLE (a := 0) (by omega) (by omega)).mpr (Nat.zero_le _), (pk_lLE (by omega) (by omega)).mpr (by omega)⟩
theorem et_rn_iff {w : Nat} (hw : w < 49) (x : Int64) : et_rn (nI w) x ↔ ∃ n, n < 2 ^ w ∧ x = lN n := by
  have h48 := et_p48 hw
  have key : ∀ k : Nat, k < 2 ^ 63 → (lN k >>> ((nI w).toInt64 &&& 63) = 0 ↔ k < 2 ^ w) := by
    intro k hk
    have e : (lN k >>> ((nI w).toInt64 &&& 63)).toInt = (lN k).toInt >>> w := by
      have hs := et_smW w hw
      show ((lN k).toBitVec.sshiftRight (((nI w).toInt64 &&& 63).toBitVec.smod 64).toNat).toInt = _
      rw [hs, BitVec.toInt_sshiftRight]
      rfl
    rw [← Int64.toInt_inj, e, pk_lT hk, Int.shiftRight_eq_div_pow]
    have h0 : (0 : Int64).toInt = 0 := by decide
    rw [h0]
    have e2 : ((k : Int) / ((2 ^ w : Nat) : Int)) = ((k / 2 ^ w : Nat) : Int) := (Int.natCast_ediv k (2 ^ w)).symm
    rw [e2]
    have hp : 0 < 2 ^ w := Nat.two_pow_pos w
    constructor
    · intro h
      have h3 : k / 2 ^ w = 0 := by omega
      rcases Nat.div_eq_zero_iff.mp h3 with h4 | h4
      · omega
      · exact h4
    · intro h
      rw [Nat.div_eq_of_lt h]; rfl
  unfold et_rn
  constructor
  · rintro ⟨h1, h2⟩
    obtain ⟨k, hk, rfl⟩ := pk_lOf (x := x) (by rw [Int64.lt_iff_toInt_lt]; rw [Int64.le_iff_toInt_le] at h1; omega)
    exact ⟨k, (key k hk).mp h2, rfl⟩
  · rintro ⟨n, hn, rfl⟩
    exact ⟨(pk_lLE (a := 0) (by omega) (by omega)).mpr (Nat.zero_le _), (key n (by omega)).mpr hn⟩
theorem et_pre_iff {w : Nat} (hw : w < 49) (x : Int64) : (0 ≤ x ∧ x ≤ (nI w).toInt64) ↔ ∃ i, i < w + 1 ∧ x = lN i := by
  rw [nI_l (show w < 2 ^ 31 by omega)]
  constructor
  · rintro ⟨h1, h2⟩
    obtain ⟨k, hk, rfl⟩ := pk_lOf (x := x) (by rw [Int64.lt_iff_toInt_lt]; rw [Int64.le_iff_toInt_le] at h1; omega)
    rw [pk_lLE hk (by omega)] at h2
    exact ⟨k, by omega, rfl⟩
  · rintro ⟨n, hn, rfl⟩
    exact ⟨(pk_lLE (a := 0) (by omega) (by omega)).mpr (Nat.zero_le _), (pk_lLE (by omega) (by omega)).mpr (by omega)⟩
theorem et_01 : ¬ (1 : Int32) = 0 := by decide
theorem et_20 : ¬ (2 : Int32) = 0 := by decide
theorem et_21 : ¬ (2 : Int32) = 1 := by decide
theorem et_12 : ¬ (1 : Int32) = 2 := by decide
theorem et_ks_iff {w : Nat} (hw : w < 49) {kk : Int32} (hk : et_kk kk) (v m : Int64) : et_ks (et_ab w) (nI w) kk v m ↔ et_rs (nI w) kk v m := by
  unfold et_ks et_rs
  rw [et_num_iff hw v, et_rn_iff hw v]
  rcases hk with rfl | rfl | rfl
  · simp
  · simp only [et_01, et_12, if_true, false_or, not_false_eq_true, true_and, false_and]
    constructor
    · rintro ⟨h1, h2, h3⟩
      obtain ⟨i, hi, rfl⟩ := (et_pre_iff hw m).mp h2
      rw [et_dbW w hw i hi] at h3
      rw [et_rbW w hw i hi]
      exact ⟨h1, h2, h3⟩
    · rintro ⟨h1, h2, h3⟩
      obtain ⟨i, hi, rfl⟩ := (et_pre_iff hw m).mp h2
      rw [et_rbW w hw i hi] at h3
      rw [et_dbW w hw i hi]
      exact ⟨h1, h2, h3⟩
  · simp only [et_20, et_21, if_false, false_or, not_false_eq_true, true_and, not_true_eq_false, false_and, or_false]
    rw [et_num_iff hw m, et_rn_iff hw m]
    have e : et_db (et_ab w) 2 m = m := by unfold et_db; rw [if_neg et_20, if_neg et_21]
    rw [e]
theorem et_db_inj {w : Nat} (hw : w < 49) {kk : Int32} (hk : et_kk kk) {v m v' m' : Int64} (h : et_ks (et_ab w) (nI w) kk v m) (h' : et_ks (et_ab w) (nI w) kk v' m') : et_db (et_ab w) kk m = et_db (et_ab w) kk m' ↔ (kk = 0 ∨ m = m') := by
  have h48 := et_p48 hw
  rcases hk with rfl | rfl | rfl
  · simp [et_db]
  · obtain ⟨-, h2⟩ := h
    obtain ⟨-, h2'⟩ := h'
    simp only [et_01, if_true, false_or] at h2 h2' ⊢
    obtain ⟨i, hi, rfl⟩ := (et_pre_iff hw m).mp h2.1
    obtain ⟨i', hi', rfl⟩ := (et_pre_iff hw m').mp h2'.1
    rw [et_dbW w hw i hi, et_dbW w hw i' hi']
    have a1 : 2 ^ (w - i) ≤ 2 ^ w := Nat.pow_le_pow_right (by decide) (by omega)
    have a2 : 2 ^ (w - i') ≤ 2 ^ w := Nat.pow_le_pow_right (by decide) (by omega)
    have b1 : 2 ^ w - 2 ^ (w - i) < 2 ^ 63 := Nat.lt_of_le_of_lt (Nat.sub_le _ _) (by omega)
    have b2 : 2 ^ w - 2 ^ (w - i') < 2 ^ 63 := Nat.lt_of_le_of_lt (Nat.sub_le _ _) (by omega)
    rw [pk_lEQ b1 b2, pk_lEQ (by omega) (by omega)]
    constructor
    · intro e
      have e2 : 2 ^ (w - i) = 2 ^ (w - i') := by omega
      rcases Nat.lt_trichotomy (w - i) (w - i') with q | q | q
      · have := Nat.pow_lt_pow_right (a := 2) (by decide) q
        omega
      · omega
      · have := Nat.pow_lt_pow_right (a := 2) (by decide) q
        omega
    · rintro rfl
      rfl
  · simp [et_db]
theorem et_mt_iff {w : Nat} (hw : w < 49) {kk : Int32} (hk : et_kk kk) {v m : Int64} (h : et_ks (et_ab w) (nI w) kk v m) (key : Int64) : key &&& et_db (et_ab w) kk m = (key &&& et_ab w) &&& et_rm (nI w) kk m := by
  have h48 := et_p48 hw
  rw [Int64.and_assoc]
  congr 1
  unfold et_rm
  rcases hk with rfl | rfl | rfl
  · unfold et_db
    rw [if_pos rfl, if_pos rfl, Int64.and_neg_one]
  · obtain ⟨-, h2⟩ := h
    simp only [et_01, if_true, false_or] at h2
    obtain ⟨i, hi, rfl⟩ := (et_pre_iff hw m).mp h2.1
    rw [if_neg et_01, if_pos rfl, et_dbW w hw i hi, et_rbW w hw i hi, et_anW w hw i hi]
  · obtain ⟨-, h2⟩ := h
    simp only [et_20, et_21, if_false, false_or] at h2
    obtain ⟨n, hn, rfl⟩ := (et_num_iff hw m).mp h2.1
    rw [if_neg et_20, if_neg et_21]
    unfold et_db et_ab
    rw [if_neg et_20, if_neg et_21, Int64.and_comm]
    apply Int64.toBitVec_inj.mp
    rw [Int64.toBitVec_and]
    show BitVec.ofNat 64 n = BitVec.ofNat 64 n &&& BitVec.ofNat 64 (2 ^ w - 1)
    apply BitVec.eq_of_toNat_eq
    rw [BitVec.toNat_and, BitVec.toNat_ofNat, BitVec.toNat_ofNat, Nat.mod_eq_of_lt (by omega), Nat.mod_eq_of_lt (by omega), Nat.and_two_pow_sub_one_eq_mod, Nat.mod_eq_of_lt hn]
/-- a sound entry's prefix is a small number -/
theorem et_pg_small {w : Nat} (hw : w < 49) {kd : Nat → Int32} {v m : Nat → Int64} : ∀ (n i : Nat), (∀ k, i ≤ k → k < i + n → et_ks (et_ab w) (nI w) (kd k) (v k) (m k)) → ∃ t, t < 49 ∧ et_pg kd m i n = lN t
  | 0, i, _ => ⟨0, by decide, rfl⟩
  | n + 1, i, h => by
    unfold et_pg
    by_cases hk : kd i = 1
    · rw [if_pos hk]
      obtain ⟨-, h2⟩ := h i (Nat.le_refl _) (by omega)
      rw [hk] at h2
      simp only [et_01, if_true, false_or] at h2
      obtain ⟨t, ht, e⟩ := (et_pre_iff hw (m i)).mp h2.1
      exact ⟨t, by omega, e⟩
    · rw [if_neg hk]
      exact et_pg_small hw n (i + 1) (fun k h1 h2 => h k (by omega) (by omega))
theorem et_pf_small {w K : Nat} (hw : w < 49) {kd : Nat → Int32} {v m : Nat → Int64} (h : et_snd K (et_ab w) (nI w) kd v m) : ∃ t, t < 49 ∧ et_pf K kd m = lN t := et_pg_small hw K 0 (fun k _ h2 => h k (by omega))
theorem et_pf_lt {a b : Int64} (ha : ∃ t, t < 49 ∧ a = lN t) (hb : ∃ t, t < 49 ∧ b = lN t) : (a.toInt32 < b.toInt32 ↔ a < b) ∧ (a.toInt32 = b.toInt32 ↔ a = b) := by
  obtain ⟨t, ht, rfl⟩ := ha
  obtain ⟨u, hu, rfl⟩ := hb
  rw [lN_i, lN_i]
  exact ⟨by rw [nI_ltI (by omega) (by omega), pk_lLT (by omega) (by omega)], by rw [nI_eq (by omega) (by omega), pk_lEQ (by omega) (by omega)]⟩
end
section
/-! Our own rows on top of the kit: arrays by natural indices, a counting loop, contracts over one whole world, calls inside it. -/
section EB
variable {p : Program} {l : Launch} {e : Env} {R : Room} {s : State} {m : MethodId} {args : Array Value} {below : List Frame} {meth : Method} {c : Code} {H : Heap} {locs : List Loc} {cells slots : Nat} {Q : State → Prop}
variable {cc : ByteArray} {pc : Nat} {ls : Array Slot} {rest st : List Value} {D : va_G} {cl : List vw_C} {A : Nat → Prop} {a : Nat} {tys : List (ClassId × FieldType)} {ws : va_W} {H0 : Heap}
theorem eb_iald (hexec : p.tables.exec = Jvm.exec) (hb : c.code = cc) (hK : va_K D cl tys s) (hP : va_P D cl ws H) (q0 t0 : Nat) {cA : ClassId} {n : Nat} {f : Nat → Int32} (ha : ws[q0]? = some (a, .inl (cA, n, .inl f))) (ht : tys[t0]? = some (cA, .int)) (j : Nat) (hj : j < n) (hn : n < 2 ^ 31) (hdg : decode cc pc = .ok (.iaload, 1))
    (kk : W p l e R s m args below meth c H locs cells slots Q (F0 m (pc + 1) ls (.int (f j) :: rest))) : W p l e R s m args below meth c H locs cells slots Q (F0 m pc ls (.int (nI j) :: .ref a :: rest)) := by
  refine va_iald hexec hb hK hP q0 t0 ha ht (vp_in_nI hj hn) hdg ?_
  rw [nI_clamp (Nat.lt_trans hj hn)]
  exact kk
theorem eb_lald (hexec : p.tables.exec = Jvm.exec) (hb : c.code = cc) (hK : va_K D cl tys s) (hP : va_P D cl ws H) (q0 t0 : Nat) {cA : ClassId} {n : Nat} {f : Nat → Int64} (ha : ws[q0]? = some (a, .inl (cA, n, .inr (.inl f)))) (ht : tys[t0]? = some (cA, .long)) (j : Nat) (hj : j < n) (hn : n < 2 ^ 31) (hdg : decode cc pc = .ok (.laload, 1))
    (kk : W p l e R s m args below meth c H locs cells slots Q (F0 m (pc + 1) ls (.long (f j) :: rest))) : W p l e R s m args below meth c H locs cells slots Q (F0 m pc ls (.int (nI j) :: .ref a :: rest)) := by
  refine va_lald hexec hb hK hP q0 t0 ha ht (vp_in_nI hj hn) hdg ?_
  rw [nI_clamp (Nat.lt_trans hj hn)]
  exact kk
theorem eb_iast (hexec : p.tables.exec = Jvm.exec) (hb : c.code = cc) (hK : va_K D cl tys s) (hP : va_P D cl ws H) (hD : va_D A ws) (hS : va_S A H0 H locs) (q0 t0 : Nat) {cA : ClassId} {n : Nat} {f : Nat → Int32} (ha : ws[q0]? = some (a, .inl (cA, n, .inl f))) (ht : tys[t0]? = some (cA, .int)) (j : Nat) {x : Int32} (hj : j < n) (hn : n < 2 ^ 31) (hdg : decode cc pc = .ok (.iastore, 1))
    (kk : ∀ (H1 : Heap) (locs1 : List Loc), va_P D cl (ws.set q0 (a, .inl (cA, n, .inl (upd f j x)))) H1 → va_D A (ws.set q0 (a, .inl (cA, n, .inl (upd f j x)))) → va_S A H0 H1 locs1 → W p l e R s m args below meth c H1 locs1 cells slots Q (F0 m (pc + 1) ls rest)) : W p l e R s m args below meth c H locs cells slots Q (F0 m pc ls (.int x :: .int (nI j) :: .ref a :: rest)) := by
  refine va_iast hexec hb hK hP hD hS q0 t0 ha ht (vp_in_nI hj hn) hdg (fun H1 locs1 h1 h2 h3 => ?_)
  rw [nI_clamp (Nat.lt_trans hj hn)] at h1 h2
  exact kk H1 locs1 h1 h2 h3
theorem eb_last (hexec : p.tables.exec = Jvm.exec) (hb : c.code = cc) (hK : va_K D cl tys s) (hP : va_P D cl ws H) (hD : va_D A ws) (hS : va_S A H0 H locs) (q0 t0 : Nat) {cA : ClassId} {n : Nat} {f : Nat → Int64} (ha : ws[q0]? = some (a, .inl (cA, n, .inr (.inl f)))) (ht : tys[t0]? = some (cA, .long)) (j : Nat) {x : Int64} (hj : j < n) (hn : n < 2 ^ 31) (hdg : decode cc pc = .ok (.lastore, 1))
    (kk : ∀ (H1 : Heap) (locs1 : List Loc), va_P D cl (ws.set q0 (a, .inl (cA, n, .inr (.inl (vp_updL f j x))))) H1 → va_D A (ws.set q0 (a, .inl (cA, n, .inr (.inl (vp_updL f j x))))) → va_S A H0 H1 locs1 → W p l e R s m args below meth c H1 locs1 cells slots Q (F0 m (pc + 1) ls rest)) : W p l e R s m args below meth c H locs cells slots Q (F0 m pc ls (.long x :: .int (nI j) :: .ref a :: rest)) := by
  refine va_last hexec hb hK hP hD hS q0 t0 ha ht (vp_in_nI hj hn) hdg (fun H1 locs1 h1 h2 h3 => ?_)
  rw [nI_clamp (Nat.lt_trans hj hn)] at h1 h2
  exact kk H1 locs1 h1 h2 h3
/-- a computed number, told otherwise -/
theorem eb_ti {x : Int32} (y : Int32) (h : x = y) (k : W p l e R s m args below meth c H locs cells slots Q (F0 m pc ls (.int y :: rest))) : W p l e R s m args below meth c H locs cells slots Q (F0 m pc ls (.int x :: rest)) := by
  rw [h]; exact k
theorem eb_tl {x : Int64} (y : Int64) (h : x = y) (k : W p l e R s m args below meth c H locs cells slots Q (F0 m pc ls (.long y :: rest))) : W p l e R s m args below meth c H locs cells slots Q (F0 m pc ls (.long x :: rest)) := by
  rw [h]; exact k
/-- a loop that counts up to e0 -/
theorem eb_for (I : Nat → Array Slot → Heap → List Loc → Prop) (pc e0 : Nat)
    (step : ∀ (r : Nat) (ls : Array Slot) (H : Heap) (locs : List Loc), r ≤ e0 → I r ls H locs → (∀ (ls' : Array Slot) (H' : Heap) (locs' : List Loc), r < e0 → I (r + 1) ls' H' locs' → W p l e R s m args below meth c H' locs' cells slots Q (F0 m pc ls' [])) → W p l e R s m args below meth c H locs cells slots Q (F0 m pc ls [])) :
    ∀ (n r : Nat) (ls : Array Slot) (H : Heap) (locs : List Loc), r + n = e0 → I r ls H locs → W p l e R s m args below meth c H locs cells slots Q (F0 m pc ls []) := by
  intro n
  induction n with
  | zero => intro r ls H locs hr hI; exact step r ls H locs (by omega) hI (fun _ _ _ h _ => absurd h (by omega))
  | succ n ih => intro r ls H locs hr hI; exact step r ls H locs (by omega) hI (fun ls' H' locs' _ h => ih (r + 1) ls' H' locs' (by omega) h)
/-- how a contract over one world begins and ends -/
abbrev eb_pre (D : va_G) (cl : List vw_C) (tys : List (ClassId × FieldType)) (w0 : va_W) (sz : Nat) : State → Prop := fun U => U.heap.size = sz ∧ va_P D cl w0 U.heap ∧ va_K D cl tys U ∧ va_D (fun _ => True) w0
abbrev eb_end (D : va_G) (cl : List vw_C) (tys : List (ClassId × FieldType)) (A : Nat → Prop) : va_W → State → Prop := fun w t => va_P D cl w t.heap ∧ va_K D cl tys t ∧ va_D A w
abbrev eb_MI (l : Launch) (D : va_G) (cl : List vw_C) (tys : List (ClassId × FieldType)) (y : MethodName) (ws : List Cond) (rm : Room) (av : List Value) (w0 : va_W) (post : Int32 → va_W → Prop) : Prop := ∀ sz : Nat, Met l y ws rm (va_Pc av (eb_pre D cl tys w0 sz)) (va_Qi post (eb_end D cl tys (va_A w0 sz)) (va_A w0 sz)) 0 0 (va_A w0 sz)
abbrev eb_ML (l : Launch) (D : va_G) (cl : List vw_C) (tys : List (ClassId × FieldType)) (y : MethodName) (ws : List Cond) (rm : Room) (av : List Value) (w0 : va_W) (post : Int64 → va_W → Prop) : Prop := ∀ sz : Nat, Met l y ws rm (va_Pc av (eb_pre D cl tys w0 sz)) (va_Ql post (eb_end D cl tys (va_A w0 sz)) (va_A w0 sz)) 0 0 (va_A w0 sz)
abbrev eb_MV (l : Launch) (D : va_G) (cl : List vw_C) (tys : List (ClassId × FieldType)) (y : MethodName) (ws : List Cond) (rm : Room) (av : List Value) (w0 : va_W) (post : va_W → Prop) : Prop := ∀ sz : Nat, Met l y ws rm (va_Pc av (eb_pre D cl tys w0 sz)) (va_Qv post (eb_end D cl tys (va_A w0 sz)) (va_A w0 sz)) 0 0 (va_A w0 sz)
theorem eb_blind {av : List Value} {w0 : va_W} {sz : Nat} : FrameBlind (va_Pc av (eb_pre D cl tys w0 sz)) := fun a U g mk q => by
  obtain ⟨q0, q1, qP, qK, qD⟩ := q
  exact ⟨q0, q1, qP, va_K.moved (u := U) (U := U.calling g mk a) (Vm.Alike.refl U.vm) qK, qD⟩
theorem eb_preV {As : List Value} {w0 : va_W} {C : String} {b ci : Nat} {q : vw_C} {fs : List Value} (hK : va_K D cl tys s) (hP : va_P D cl w0 H) (hD : va_D A w0) (hc : cl[ci]? = some q) (hCq : q.1 = C) (he : w0[0]? = some (b, .inr (ci, fs))) : PreV s H C b (va_Pc (.ref b :: As) (eb_pre D cl tys w0 H.size)) As :=
  ⟨eb_blind, by rw [← hCq]; exact va_recv hK hP hc he, fun U hU hW => ⟨rfl, by rw [hU], by rw [hU]; exact hP, va_K.moved hW.alike hK, hD.weaken (fun _ _ _ _ => trivial)⟩⟩
theorem eb_freeA {w0 : va_W} (hD : va_D A w0) (hS : va_S A H0 H locs) (hA : ∀ q, H0.size ≤ q → A q) : ∀ x, va_A w0 H.size x → A x := by
  intro x h
  rcases h with ⟨k, ee, h⟩ | h
  · exact hD.2 k _ h
  · exact hA x (Nat.le_trans hS.1 h)
section EBC
variable {nL maxL index n ci b : Nat} {Ts wsy : List Cond} {own C : String} {y : MethodName} {bytes : ByteArray} {ret : Option FieldType} {rm : Room} {As : List Value} {w0 : va_W} {q : vw_C} {fs : List Value}
theorem eb_calli {post : Int32 → va_W → Prop} (S : CallFix p m c cc nL s args Ts own) (hM : eb_MI l D cl tys y wsy rm (.ref b :: As) w0 post) (cw : CallW R s args own C index y bytes maxL ret wsy rm 0 0 n) (hK : va_K D cl tys s) (hP : va_P D cl w0 H) (hD : va_D A w0) (hS : va_S A H0 H locs) (hA : ∀ q, H0.size ≤ q → A q) (hc : cl[ci]? = some q) (hCq : q.1 = C) (he : w0[0]? = some (b, .inr (ci, fs)))
    (hn : As.length = n) (hsize : ls.size = nL) (hst : st = As.reverse ++ .ref b :: rest) (hW : (rest.map fun v => v.category).sum ≤ 8) (hdg : decode cc pc = .ok (.invokevirtual index, 3)) (hf : cells ≤ R.cells ∧ slots ≤ R.slots)
    (kk : ∀ (r : Int32) (w1 : va_W) (H1 : Heap) (locs1 : List Loc), post r w1 → va_P D cl w1 H1 → va_D A w1 → va_S A H0 H1 locs1 → W p l e R s m args below meth c H1 locs1 cells slots Q (F0 m (pc + 3) ls (.int r :: rest))) : W p l e R s m args below meth c H locs cells slots Q (F0 m pc ls st) := by
  have hF := eb_freeA hD hS hA
  refine va_calli (va_runV (As := As) (rest := rest) S (hM H.size) cw (eb_preV hK hP hD hc hCq he) rfl hn hsize hst (lv_room hW) hdg hf) hS (fun x _ h => hF x h) hF (fun r u t H1 locs1 ht hvm hw hB hz1 hk1 hS1 => ?_)
  obtain ⟨hP1, hK1, hD1⟩ := hB
  rw [ht] at hP1
  exact kk r u H1 locs1 hw hP1 (hD1.weaken (fun k x _ h => hF x.1 h)) hS1
theorem eb_calll {post : Int64 → va_W → Prop} (S : CallFix p m c cc nL s args Ts own) (hM : eb_ML l D cl tys y wsy rm (.ref b :: As) w0 post) (cw : CallW R s args own C index y bytes maxL ret wsy rm 0 0 n) (hK : va_K D cl tys s) (hP : va_P D cl w0 H) (hD : va_D A w0) (hS : va_S A H0 H locs) (hA : ∀ q, H0.size ≤ q → A q) (hc : cl[ci]? = some q) (hCq : q.1 = C) (he : w0[0]? = some (b, .inr (ci, fs)))
    (hn : As.length = n) (hsize : ls.size = nL) (hst : st = As.reverse ++ .ref b :: rest) (hW : (rest.map fun v => v.category).sum ≤ 8) (hdg : decode cc pc = .ok (.invokevirtual index, 3)) (hf : cells ≤ R.cells ∧ slots ≤ R.slots)
    (kk : ∀ (r : Int64) (w1 : va_W) (H1 : Heap) (locs1 : List Loc), post r w1 → va_P D cl w1 H1 → va_D A w1 → va_S A H0 H1 locs1 → W p l e R s m args below meth c H1 locs1 cells slots Q (F0 m (pc + 3) ls (.long r :: rest))) : W p l e R s m args below meth c H locs cells slots Q (F0 m pc ls st) := by
  have hF := eb_freeA hD hS hA
  refine va_calll (va_runV (As := As) (rest := rest) S (hM H.size) cw (eb_preV hK hP hD hc hCq he) rfl hn hsize hst (lv_room hW) hdg hf) hS (fun x _ h => hF x h) hF (fun r u t H1 locs1 ht hvm hw hB hz1 hk1 hS1 => ?_)
  obtain ⟨hP1, hK1, hD1⟩ := hB
  rw [ht] at hP1
  exact kk r u H1 locs1 hw hP1 (hD1.weaken (fun k x _ h => hF x.1 h)) hS1
theorem eb_callv {post : va_W → Prop} (S : CallFix p m c cc nL s args Ts own) (hM : eb_MV l D cl tys y wsy rm (.ref b :: As) w0 post) (cw : CallW R s args own C index y bytes maxL ret wsy rm 0 0 n) (hK : va_K D cl tys s) (hP : va_P D cl w0 H) (hD : va_D A w0) (hS : va_S A H0 H locs) (hA : ∀ q, H0.size ≤ q → A q) (hc : cl[ci]? = some q) (hCq : q.1 = C) (he : w0[0]? = some (b, .inr (ci, fs)))
    (hn : As.length = n) (hsize : ls.size = nL) (hst : st = As.reverse ++ .ref b :: rest) (hW : (rest.map fun v => v.category).sum ≤ 8) (hdg : decode cc pc = .ok (.invokevirtual index, 3)) (hf : cells ≤ R.cells ∧ slots ≤ R.slots)
    (kk : ∀ (w1 : va_W) (H1 : Heap) (locs1 : List Loc), post w1 → va_P D cl w1 H1 → va_D A w1 → va_S A H0 H1 locs1 → W p l e R s m args below meth c H1 locs1 cells slots Q (F0 m (pc + 3) ls rest)) : W p l e R s m args below meth c H locs cells slots Q (F0 m pc ls st) := by
  have hF := eb_freeA hD hS hA
  refine va_callv (va_runV (As := As) (rest := rest) S (hM H.size) cw (eb_preV hK hP hD hc hCq he) rfl hn hsize hst (lv_room hW) hdg hf) hS (fun x _ h => hF x h) hF (fun u t H1 locs1 ht hvm hw hB hz1 hk1 hS1 => ?_)
  obtain ⟨hP1, hK1, hD1⟩ := hB
  rw [ht] at hP1
  exact kk u H1 locs1 hw hP1 (hD1.weaken (fun k x _ h => hF x.1 h)) hS1
end EBC
theorem eb_iret {post : Int32 → va_W → Prop} {w1 : va_W} {v : Int32} (hx : p.tables.exec = Jvm.exec) (hb : c.code = cc) (hr : meth.sig.returnType = some .int) (hlk : meth.locks = false) (hK : va_K D cl tys s) (hP : va_P D cl w1 H) (hD : va_D A w1) (hS : va_S A s.heap H locs) (hdg : decode cc pc = .ok (.ireturn, 1)) (hpost : post v w1) :
    W p l e R s m args below meth c H locs 0 0 (MQ below (va_Qi post (eb_end D cl tys A) A) args s 0 0 A) (F0 m pc ls [.int v]) :=
  W.iret (v := v) hx hb hr (fun t ht hW => ⟨⟨v, w1, rfl, hpost, by rw [ht]; exact hP, va_K.moved hW.alike hK, hD⟩, hS.F ht⟩) hS.2.2 hdg hlk
theorem eb_zret {post : Int32 → va_W → Prop} {w1 : va_W} {v : Int32} (hx : p.tables.exec = Jvm.exec) (hb : c.code = cc) (hr : meth.sig.returnType = some .boolean) (hlk : meth.locks = false) (hK : va_K D cl tys s) (hP : va_P D cl w1 H) (hD : va_D A w1) (hS : va_S A s.heap H locs) (hdg : decode cc pc = .ok (.ireturn, 1)) (hn : narrow .boolean (.int v) = .int v) (hpost : post v w1) :
    W p l e R s m args below meth c H locs 0 0 (MQ below (va_Qi post (eb_end D cl tys A) A) args s 0 0 A) (F0 m pc ls [.int v]) :=
  W.zret (v := v) hx hb hr hn (fun t ht hW => ⟨⟨v, w1, rfl, hpost, by rw [ht]; exact hP, va_K.moved hW.alike hK, hD⟩, hS.F ht⟩) hS.2.2 hdg hlk
theorem eb_lret {post : Int64 → va_W → Prop} {w1 : va_W} {v : Int64} (hx : p.tables.exec = Jvm.exec) (hb : c.code = cc) (hr : meth.sig.returnType = some .long) (hlk : meth.locks = false) (hK : va_K D cl tys s) (hP : va_P D cl w1 H) (hD : va_D A w1) (hS : va_S A s.heap H locs) (hdg : decode cc pc = .ok (.lreturn, 1)) (hpost : post v w1) :
    W p l e R s m args below meth c H locs 0 0 (MQ below (va_Ql post (eb_end D cl tys A) A) args s 0 0 A) (F0 m pc ls [.long v]) :=
  W.lret (v := v) hx hb hr (fun t ht hW => ⟨⟨v, w1, rfl, hpost, by rw [ht]; exact hP, va_K.moved hW.alike hK, hD⟩, hS.F ht⟩) hS.2.2 hdg hlk
theorem eb_vret {post : va_W → Prop} {w1 : va_W} (hx : p.tables.exec = Jvm.exec) (hb : c.code = cc) (hr : meth.sig.returnType = none) (hlk : meth.locks = false) (hK : va_K D cl tys s) (hP : va_P D cl w1 H) (hD : va_D A w1) (hS : va_S A s.heap H locs) (hdg : decode cc pc = .ok (.return_, 1)) (hpost : post w1) :
    W p l e R s m args below meth c H locs 0 0 (MQ below (va_Qv post (eb_end D cl tys A) A) args s 0 0 A) (F0 m pc ls []) :=
  W.vret hx hb hr (fun t ht hW => ⟨⟨w1, rfl, hpost, by rw [ht]; exact hP, va_K.moved hW.alike hK, hD⟩, hS.F ht⟩) hS.2.2 hdg hlk
end EB
/-- a contract from the walk of its body -/
theorem eb_openI {l : Launch} {D : va_G} {cl : List vw_C} {tys : List (ClassId × FieldType)} {y : MethodName} {ws ws' : List Cond} {rm : Room} {cc : ByteArray} {maxL : Nat} {ret : Option FieldType} {av : List Value} {w0 : va_W} {post : Int32 → va_W → Prop} (hy : plainName y.cls = true) (hw : ws = Cond.code y cc maxL ret :: ws') (hnl : (lg_sl av).length ≤ maxL)
    (body : ∀ (p : Program) (e : Env) (s : State) (m : MethodId) (below : List Frame) (meth : Method) (c : Code) (A : Nat → Prop) (ls : Array Slot) (H : Heap) (locs : List Loc), p.tables.exec = Jvm.exec → c.code = cc → meth.sig.returnType = ret → (∀ w ∈ ws, w.before av.toArray s = true) → s.vm.findClass y.cls = some m.cls → meth.locks = false → c.maxLocals = maxL → va_P D cl w0 H → va_K D cl tys s → va_D A w0 → (∀ q : Nat, s.heap.size ≤ q → A q) → va_S A s.heap H locs → lv_has ls maxL (lv_args 0 av) → W p l e rm s m av.toArray below meth c H locs 0 0 (MQ below (va_Qi post (eb_end D cl tys A) A) av.toArray s 0 0 A) (F0 m 0 ls [])) : eb_MI l D cl tys y ws rm av w0 post := by
  intro sz
  refine Met.ofW (cc := cc) (maxL := maxL) (ret := ret) hy hw ?_
  intro p e s m args below meth c s₁ B hml hv
  obtain ⟨rfl, hsz, hP, hK, hD0⟩ := hv
  subst hsz
  have hl := lv_entry av (n := maxL) hnl
  rw [lg_entry_eq]
  exact body p e s m below meth c (va_A w0 s.heap.size) _ _ _ B.exec B.bytes B.returns (atoms_spec (ws := ws) B.pre) (findClass_of_methodNamed B.named) B.notSynchronized hml hP hK (hD0.self (sz := s.heap.size)) (fun q h => Or.inr h) va_S.rf hl
theorem eb_openL {l : Launch} {D : va_G} {cl : List vw_C} {tys : List (ClassId × FieldType)} {y : MethodName} {ws ws' : List Cond} {rm : Room} {cc : ByteArray} {maxL : Nat} {ret : Option FieldType} {av : List Value} {w0 : va_W} {post : Int64 → va_W → Prop} (hy : plainName y.cls = true) (hw : ws = Cond.code y cc maxL ret :: ws') (hnl : (lg_sl av).length ≤ maxL)
    (body : ∀ (p : Program) (e : Env) (s : State) (m : MethodId) (below : List Frame) (meth : Method) (c : Code) (A : Nat → Prop) (ls : Array Slot) (H : Heap) (locs : List Loc), p.tables.exec = Jvm.exec → c.code = cc → meth.sig.returnType = ret → (∀ w ∈ ws, w.before av.toArray s = true) → s.vm.findClass y.cls = some m.cls → meth.locks = false → c.maxLocals = maxL → va_P D cl w0 H → va_K D cl tys s → va_D A w0 → (∀ q : Nat, s.heap.size ≤ q → A q) → va_S A s.heap H locs → lv_has ls maxL (lv_args 0 av) → W p l e rm s m av.toArray below meth c H locs 0 0 (MQ below (va_Ql post (eb_end D cl tys A) A) av.toArray s 0 0 A) (F0 m 0 ls [])) : eb_ML l D cl tys y ws rm av w0 post := by
  intro sz
  refine Met.ofW (cc := cc) (maxL := maxL) (ret := ret) hy hw ?_
  intro p e s m args below meth c s₁ B hml hv
  obtain ⟨rfl, hsz, hP, hK, hD0⟩ := hv
  subst hsz
  have hl := lv_entry av (n := maxL) hnl
  rw [lg_entry_eq]
  exact body p e s m below meth c (va_A w0 s.heap.size) _ _ _ B.exec B.bytes B.returns (atoms_spec (ws := ws) B.pre) (findClass_of_methodNamed B.named) B.notSynchronized hml hP hK (hD0.self (sz := s.heap.size)) (fun q h => Or.inr h) va_S.rf hl
theorem eb_openV {l : Launch} {D : va_G} {cl : List vw_C} {tys : List (ClassId × FieldType)} {y : MethodName} {ws ws' : List Cond} {rm : Room} {cc : ByteArray} {maxL : Nat} {ret : Option FieldType} {av : List Value} {w0 : va_W} {post : va_W → Prop} (hy : plainName y.cls = true) (hw : ws = Cond.code y cc maxL ret :: ws') (hnl : (lg_sl av).length ≤ maxL)
    (body : ∀ (p : Program) (e : Env) (s : State) (m : MethodId) (below : List Frame) (meth : Method) (c : Code) (A : Nat → Prop) (ls : Array Slot) (H : Heap) (locs : List Loc), p.tables.exec = Jvm.exec → c.code = cc → meth.sig.returnType = ret → (∀ w ∈ ws, w.before av.toArray s = true) → s.vm.findClass y.cls = some m.cls → meth.locks = false → c.maxLocals = maxL → va_P D cl w0 H → va_K D cl tys s → va_D A w0 → (∀ q : Nat, s.heap.size ≤ q → A q) → va_S A s.heap H locs → lv_has ls maxL (lv_args 0 av) → W p l e rm s m av.toArray below meth c H locs 0 0 (MQ below (va_Qv post (eb_end D cl tys A) A) av.toArray s 0 0 A) (F0 m 0 ls [])) : eb_MV l D cl tys y ws rm av w0 post := by
  intro sz
  refine Met.ofW (cc := cc) (maxL := maxL) (ret := ret) hy hw ?_
  intro p e s m args below meth c s₁ B hml hv
  obtain ⟨rfl, hsz, hP, hK, hD0⟩ := hv
  subst hsz
  have hl := lv_entry av (n := maxL) hnl
  rw [lg_entry_eq]
  exact body p e s m below meth c (va_A w0 s.heap.size) _ _ _ B.exec B.bytes B.returns (atoms_spec (ws := ws) B.pre) (findClass_of_methodNamed B.named) B.notSynchronized hml hP hK (hD0.self (sz := s.heap.size)) (fun q h => Or.inr h) va_S.rf hl
theorem et_b1 {P : Prop} {r : Int32} (h : (P ∧ r = 1) ∨ (¬ P ∧ r = 0)) (hr : ¬ r = 0) : P := h.elim (fun q => q.1) (fun q => absurd q.2 hr)
theorem et_b0 {P : Prop} {r : Int32} (h : (P ∧ r = 1) ∨ (¬ P ∧ r = 0)) (hr : r = 0) : ¬ P := h.elim (fun q => absurd (q.2.symm.trans hr) (by decide)) (fun q => q.1)
theorem et_pg_at {kd : Nat → Int32} {f : Nat → Int64} {k K : Nat} (h : k < K) : et_pg kd f k (K - k) = if kd k = 1 then f k else et_pg kd f (k + 1) (K - (k + 1)) := by
  rw [show K - k = (K - (k + 1)) + 1 by omega]; rfl
def et_zz (f : Nat → Int64) (i : Nat) : Nat → Int64 := fun k => if k < i then 0 else f k
theorem et_zz_0 {f : Nat → Int64} : et_zz f 0 = f := by
  funext k; unfold et_zz; rw [if_neg (Nat.not_lt_zero k)]
theorem et_zz_at {f : Nat → Int64} {i : Nat} : et_zz f i i = f i := by
  unfold et_zz; rw [if_neg (Nat.lt_irrefl i)]
theorem et_zz_s {f : Nat → Int64} {i : Nat} : vp_updL (et_zz f i) i 0 = et_zz f (i + 1) := by
  funext k
  unfold vp_updL et_zz
  by_cases h1 : k = i
  · rw [if_pos h1, if_pos (by omega)]
  · rw [if_neg h1]
    by_cases h2 : k < i
    · rw [if_pos h2, if_pos (by omega)]
    · rw [if_neg h2, if_neg (by omega)]
section EJ
variable {p : Program} {l : Launch} {e : Env} {R : Room} {s : State} {m : MethodId} {args : Array Value} {below : List Frame} {meth : Method} {c : Code} {H : Heap} {locs : List Loc} {cells slots : Nat} {Q : State → Prop}
variable {pc : Nat} {ls : Array Slot} {rest st : List Value}
/-- roads that meet again with an int, or a long, on the stack -/
theorem eb_jn {D : va_G} {cl : List vw_C} {A : Nat → Prop} {H0 : Heap} (w : va_W) (hP : va_P D cl w H) (hS : va_S A H0 H locs) (pc2 : Nat) (P : Int32 → Prop) (k1 : (∀ (x : Int32) (H1 : Heap) (locs1 : List Loc), P x → va_P D cl w H1 → va_S A H0 H1 locs1 → W p l e R s m args below meth c H1 locs1 cells slots Q (F0 m pc2 ls (.int x :: st))) → W p l e R s m args below meth c H locs cells slots Q (F0 m pc ls st)) (k2 : ∀ (x : Int32) (H1 : Heap) (locs1 : List Loc), P x → va_P D cl w H1 → va_S A H0 H1 locs1 → W p l e R s m args below meth c H1 locs1 cells slots Q (F0 m pc2 ls (.int x :: st))) : W p l e R s m args below meth c H locs cells slots Q (F0 m pc ls st) := k1 k2
theorem eb_jl {D : va_G} {cl : List vw_C} {A : Nat → Prop} {H0 : Heap} (w : va_W) (hP : va_P D cl w H) (hS : va_S A H0 H locs) (pc2 : Nat) (y : Int64) (k1 : (∀ (x : Int64) (H1 : Heap) (locs1 : List Loc), x = y → va_P D cl w H1 → va_S A H0 H1 locs1 → W p l e R s m args below meth c H1 locs1 cells slots Q (F0 m pc2 ls (.long x :: st))) → W p l e R s m args below meth c H locs cells slots Q (F0 m pc ls st)) (k2 : ∀ (H1 : Heap) (locs1 : List Loc), va_P D cl w H1 → va_S A H0 H1 locs1 → W p l e R s m args below meth c H1 locs1 cells slots Q (F0 m pc2 ls (.long y :: st))) : W p l e R s m args below meth c H locs cells slots Q (F0 m pc ls st) := k1 (fun x H1 locs1 h => by rw [h]; exact k2 H1 locs1)
end EJ
end
section
/-! Two worlds side by side: a call on the one leaves the other. -/
section E2
variable {D : va_G} {cl : List vw_C} {A : Nat → Prop} {wx wm w1 : va_W} {H H1 : Heap} {t1 t2 : List (ClassId × FieldType)} {U : State}
theorem e2_l {k : Nat} {q : Nat × va_E} (h : wx[k]? = some q) : (wx ++ wm)[k]? = some q := by
  rw [List.getElem?_append_left (List.getElem?_eq_some_iff.mp h).1]; exact h
theorem e2_r {k : Nat} {q : Nat × va_E} (h : wm[k]? = some q) : (wx ++ wm)[wx.length + k]? = some q := by
  rw [List.getElem?_append_right (by omega), show wx.length + k - wx.length = k by omega]; exact h
theorem e2_Pl (h : va_P D cl (wx ++ wm) H) : va_P D cl wx H := fun k q hk => h k q (e2_l hk)
theorem e2_Pr (h : va_P D cl (wx ++ wm) H) : va_P D cl wm H := fun k q hk => h (wx.length + k) q (e2_r hk)
theorem e2_Dl (h : va_D A (wx ++ wm)) : va_D A wx := ⟨fun i j p q hi hj e => h.1 i j p q (e2_l hi) (e2_l hj) e, fun k q hk => h.2 k q (e2_l hk)⟩
theorem e2_Dr (h : va_D A (wx ++ wm)) : va_D A wm := ⟨fun i j p q hi hj e => by have := h.1 _ _ p q (e2_r (wx := wx) hi) (e2_r (wx := wx) hj) e; omega, fun k q hk => h.2 _ q (e2_r hk)⟩
theorem e2_ap (h : va_D A (wx ++ wm)) {i j : Nat} {p q : Nat × va_E} (hi : wx[i]? = some p) (hj : wm[j]? = some q) : p.1 ≠ q.1 := fun e => by
  have := h.1 _ _ p q (e2_l hi) (e2_r (wx := wx) hj) e
  have := (List.getElem?_eq_some_iff.mp hi).1
  omega
theorem e2_Kl (h : va_K D cl (t1 ++ t2) U) : va_K D cl t1 U := ⟨h.1, fun k q hk => h.2 k q (by rw [List.getElem?_append_left (List.getElem?_eq_some_iff.mp hk).1]; exact hk)⟩
theorem e2_Kr (h : va_K D cl (t1 ++ t2) U) : va_K D cl t2 U := ⟨h.1, fun k q hk => h.2 (t1.length + k) q (by rw [List.getElem?_append_right (by omega), show t1.length + k - t1.length = k by omega]; exact hk)⟩
theorem e2_jl (hP : va_P D cl (wx ++ wm) H) (hD : va_D A (wx ++ wm)) (hk : ∀ q : Nat, q < H.size → ¬ va_A wx H.size q → H1[q]? = H[q]?) (hF : ∀ x, va_A wx H.size x → A x) (hP1 : va_P D cl w1 H1) (hD1 : va_D (va_A wx H.size) w1) : va_P D cl (w1 ++ wm) H1 ∧ va_D A (w1 ++ wm) := by
  have ap : ∀ (j : Nat) (q : Nat × va_E), wm[j]? = some q → q.1 < H.size ∧ ¬ va_A wx H.size q.1 := by
    intro j q hj
    have hl := (e2_Pr hP j q hj).lt
    refine ⟨hl, fun h => ?_⟩
    rcases h with ⟨k, ee, h⟩ | h
    · exact e2_ap hD h hj rfl
    · omega
  refine ⟨hP1.app (fun j q hj => (e2_Pr hP j q hj).kept (hk q.1 (ap j q hj).1 (ap j q hj).2)), va_D.app (hD1.weaken (fun k q _ h => hF q.1 h)) (e2_Dr hD) (fun i j p q hi hj e => ?_)⟩
  exact (ap j q hj).2 (by rw [← e]; exact hD1.2 i p hi)
theorem e2_jr (hP : va_P D cl (wx ++ wm) H) (hD : va_D A (wx ++ wm)) (hk : ∀ q : Nat, q < H.size → ¬ va_A wm H.size q → H1[q]? = H[q]?) (hF : ∀ x, va_A wm H.size x → A x) (hP1 : va_P D cl w1 H1) (hD1 : va_D (va_A wm H.size) w1) : va_P D cl (wx ++ w1) H1 ∧ va_D A (wx ++ w1) := by
  have ap : ∀ (j : Nat) (q : Nat × va_E), wx[j]? = some q → q.1 < H.size ∧ ¬ va_A wm H.size q.1 := by
    intro j q hj
    have hl := (e2_Pl hP j q hj).lt
    refine ⟨hl, fun h => ?_⟩
    rcases h with ⟨k, ee, h⟩ | h
    · exact e2_ap hD hj h rfl
    · omega
  refine ⟨va_P.app (fun j q hj => (e2_Pl hP j q hj).kept (hk q.1 (ap j q hj).1 (ap j q hj).2)) hP1, va_D.app (e2_Dl hD) (hD1.weaken (fun k q _ h => hF q.1 h)) (fun i j p q hi hj e => ?_)⟩
  exact (ap i p hi).2 (by rw [e]; exact hD1.2 j q hj)
end E2
section E3
variable {p : Program} {l : Launch} {e : Env} {R : Room} {s : State} {m : MethodId} {args : Array Value} {below : List Frame} {meth : Method} {c : Code} {H : Heap} {locs : List Loc} {cells slots : Nat} {Q : State → Prop}
variable {cc : ByteArray} {pc : Nat} {ls : Array Slot} {rest st : List Value} {D : va_G} {cl : List vw_C} {A : Nat → Prop} {t1 t2 : List (ClassId × FieldType)} {wx wm : va_W} {H0 : Heap}
variable {nL maxL index n ci b : Nat} {Ts wsy : List Cond} {own C : String} {y : MethodName} {bytes : ByteArray} {ret : Option FieldType} {rm : Room} {As : List Value} {q : vw_C} {fs : List Value}
theorem e3_calll {post : Int32 → va_W → Prop} (S : CallFix p m c cc nL s args Ts own) (hM : eb_MI l D cl t1 y wsy rm (.ref b :: As) wx post) (cw : CallW R s args own C index y bytes maxL ret wsy rm 0 0 n) (hK : va_K D cl (t1 ++ t2) s) (hP : va_P D cl (wx ++ wm) H) (hD : va_D A (wx ++ wm)) (hS : va_S A H0 H locs) (hA : ∀ q, H0.size ≤ q → A q) (hc : cl[ci]? = some q) (hCq : q.1 = C) (he : wx[0]? = some (b, .inr (ci, fs)))
    (hn : As.length = n) (hsize : ls.size = nL) (hst : st = As.reverse ++ .ref b :: rest) (hW : (rest.map fun v => v.category).sum ≤ 8) (hdg : decode cc pc = .ok (.invokevirtual index, 3)) (hf : cells ≤ R.cells ∧ slots ≤ R.slots)
    (kk : ∀ (r : Int32) (w1 : va_W) (H1 : Heap) (locs1 : List Loc), post r w1 → va_P D cl (w1 ++ wm) H1 → va_D A (w1 ++ wm) → va_S A H0 H1 locs1 → W p l e R s m args below meth c H1 locs1 cells slots Q (F0 m (pc + 3) ls (.int r :: rest))) : W p l e R s m args below meth c H locs cells slots Q (F0 m pc ls st) := by
  have hF := eb_freeA (e2_Dl hD) hS hA
  refine va_calli (va_runV (As := As) (rest := rest) S (hM H.size) cw (eb_preV (e2_Kl hK) (e2_Pl hP) (e2_Dl hD) hc hCq he) rfl hn hsize hst (lv_room hW) hdg hf) hS (fun x _ h => hF x h) hF (fun r u t H1 locs1 ht hvm hw hB hz1 hk1 hS1 => ?_)
  obtain ⟨hP1, hK1, hD1⟩ := hB
  rw [ht] at hP1
  obtain ⟨hP2, hD2⟩ := e2_jl hP hD hk1 hF hP1 hD1
  exact kk r u H1 locs1 hw hP2 hD2 hS1
theorem e3_callr {post : Int32 → va_W → Prop} (S : CallFix p m c cc nL s args Ts own) (hM : eb_MI l D cl t2 y wsy rm (.ref b :: As) wm post) (cw : CallW R s args own C index y bytes maxL ret wsy rm 0 0 n) (hK : va_K D cl (t1 ++ t2) s) (hP : va_P D cl (wx ++ wm) H) (hD : va_D A (wx ++ wm)) (hS : va_S A H0 H locs) (hA : ∀ q, H0.size ≤ q → A q) (hc : cl[ci]? = some q) (hCq : q.1 = C) (he : wm[0]? = some (b, .inr (ci, fs)))
    (hn : As.length = n) (hsize : ls.size = nL) (hst : st = As.reverse ++ .ref b :: rest) (hW : (rest.map fun v => v.category).sum ≤ 8) (hdg : decode cc pc = .ok (.invokevirtual index, 3)) (hf : cells ≤ R.cells ∧ slots ≤ R.slots)
    (kk : ∀ (r : Int32) (w1 : va_W) (H1 : Heap) (locs1 : List Loc), post r w1 → va_P D cl (wx ++ w1) H1 → va_D A (wx ++ w1) → va_S A H0 H1 locs1 → W p l e R s m args below meth c H1 locs1 cells slots Q (F0 m (pc + 3) ls (.int r :: rest))) : W p l e R s m args below meth c H locs cells slots Q (F0 m pc ls st) := by
  have hF := eb_freeA (e2_Dr hD) hS hA
  refine va_calli (va_runV (As := As) (rest := rest) S (hM H.size) cw (eb_preV (e2_Kr hK) (e2_Pr hP) (e2_Dr hD) hc hCq he) rfl hn hsize hst (lv_room hW) hdg hf) hS (fun x _ h => hF x h) hF (fun r u t H1 locs1 ht hvm hw hB hz1 hk1 hS1 => ?_)
  obtain ⟨hP1, hK1, hD1⟩ := hB
  rw [ht] at hP1
  obtain ⟨hP2, hD2⟩ := e2_jr hP hD hk1 hF hP1 hD1
  exact kk r u H1 locs1 hw hP2 hD2 hS1
end E3
end
section
/-! What each call says of both sides, in lists; and that the two then agree. StX, StM: what is left of the two worlds (draft, next number, misses, list). -/
abbrev et_F : Type := Nat → Int64
abbrev et_St : Type := et_F → et_F → Nat → Int32 → List et_E → va_W → Prop
abbrev et_z (f : et_F) : et_F := et_zz f 3
def et_Qm (St : et_St) (dv dm : et_F) (N : Nat) (ms : Int32) (L : List et_E) (k : Int32) (v m : Int64) (r : Int32) (w1 : va_W) : Prop :=
  ((k < 0 ∨ 3 ≤ k) ∧ r = -1 ∧ St dv dm N ms L w1) ∨ (∃ j : Nat, j < 3 ∧ k = nI j ∧ r = k ∧ St (vp_updL dv j v) (vp_updL dm j m) N ms L w1)
/-- the class's insert -/
def et_XT (K : Nat) (ab : Int64) (kd : Nat → Int32) (p : Int32) (dv dm : et_F) (x : et_E) : Prop := et_p x = p ∧ ∀ k, k < K → et_v x k = dv k ∧ et_db ab (kd k) (et_m x k) = et_db ab (kd k) (dm k)
def et_Xlo (K : Nat) (kd : Nat → Int32) (p : Int32) (dm : et_F) (x : et_E) : Prop := (et_pf K kd (et_m x)).toInt32 < (et_pf K kd dm).toInt32 ∨ ((et_pf K kd (et_m x)).toInt32 = (et_pf K kd dm).toInt32 ∧ et_p x < p)
def et_QXi (St : et_St) (K w : Nat) (kd : Nat → Int32) (dv dm : et_F) (N : Nat) (ms : Int32) (L : List et_E) (p : Int32) (r : Int32) (w1 : va_W) : Prop :=
  (¬ et_snd K (et_ab w) (nI w) kd dv dm ∧ r = -1 ∧ St dv dm N ms L w1) ∨
  (et_snd K (et_ab w) (nI w) kd dv dm ∧ (∃ x ∈ L, et_XT K (et_ab w) kd p dv dm x) ∧ r = -4 ∧ St dv dm N ms L w1) ∨
  (et_snd K (et_ab w) (nI w) kd dv dm ∧ (∀ x ∈ L, ¬ et_XT K (et_ab w) kd p dv dm x) ∧ 24 ≤ L.length ∧ r = -3 ∧ St dv dm N ms L w1) ∨
  (et_snd K (et_ab w) (nI w) kd dv dm ∧ (∀ x ∈ L, ¬ et_XT K (et_ab w) kd p dv dm x) ∧ L.length < 24 ∧ r = nI N ∧ ∃ j, j ≤ L.length ∧ (∀ i x, i < j → L[i]? = some x → ¬ et_Xlo K kd p dm x) ∧ (∀ x, L[j]? = some x → et_Xlo K kd p dm x) ∧ St (et_z dv) (et_z dm) (N + 1) ms (L.insertIdx j (N, p, 0, dv, dm)) w1)
/-- the reference's insert -/
def et_MT (K : Nat) (kd : Nat → Int32) (p : Int32) (dv dm : et_F) (x : et_E) : Prop := et_p x = p ∧ ∀ k, k < K → et_v x k = dv k ∧ (kd k = 0 ∨ et_m x k = dm k)
def et_Msnd (K : Nat) (W : Int32) (kd : Nat → Int32) (v m : et_F) : Prop := ∀ k, k < K → et_rs W (kd k) (v k) (m k)
def et_QMi (St : et_St) (K w : Nat) (kd : Nat → Int32) (dv dm : et_F) (N : Nat) (ms : Int32) (A : List et_E) (p : Int32) (r : Int32) (w1 : va_W) : Prop :=
  (¬ et_Msnd K (nI w) kd dv dm ∧ r = -1 ∧ St dv dm N ms A w1) ∨
  (et_Msnd K (nI w) kd dv dm ∧ (∃ x ∈ A, et_MT K kd p dv dm x) ∧ r = -4 ∧ St dv dm N ms A w1) ∨
  (et_Msnd K (nI w) kd dv dm ∧ (∀ x ∈ A, ¬ et_MT K kd p dv dm x) ∧ 24 ≤ A.length ∧ r = -3 ∧ St dv dm N ms A w1) ∨
  (et_Msnd K (nI w) kd dv dm ∧ (∀ x ∈ A, ¬ et_MT K kd p dv dm x) ∧ A.length < 24 ∧ r = nI N ∧ St (et_z dv) (et_z dm) (N + 1) ms (A ++ [(N, p, 0, dv, dm)]) w1)
def et_Qr (St : et_St) (dv dm : et_F) (N : Nat) (ms : Int32) (L : List et_E) (e : Int32) (r : Int32) (w1 : va_W) : Prop :=
  ((∀ x ∈ L, ¬ nI (et_n x) = e) ∧ r = -2 ∧ St dv dm N ms L w1) ∨ (∃ (j : Nat) (x : et_E), L[j]? = some x ∧ nI (et_n x) = e ∧ r = nI (L.length - 1) ∧ St dv dm N ms (L.eraseIdx j) w1)
def et_Xmt (K : Nat) (ab : Int64) (kd : Nat → Int32) (kf : et_F) (x : et_E) : Prop := ∀ k, k < K → kf k &&& et_db ab (kd k) (et_m x k) = et_v x k
def et_QXf (St : et_St) (K w : Nat) (kd : Nat → Int32) (dv dm : et_F) (N : Nat) (ms : Int32) (L : List et_E) (kf : et_F) (r : Int32) (w1 : va_W) : Prop :=
  ((∀ x ∈ L, ¬ et_Xmt K (et_ab w) kd kf x) ∧ r = -2 ∧ St dv dm N (ms + 1) L w1) ∨ (∃ (j : Nat) (x : et_E), L[j]? = some x ∧ et_Xmt K (et_ab w) kd kf x ∧ (∀ i y, i < j → L[i]? = some y → ¬ et_Xmt K (et_ab w) kd kf y) ∧ r = nI (et_n x) ∧ St dv dm N ms (L.set j (et_hit x)) w1)
def et_Mmt (K w : Nat) (kd : Nat → Int32) (kf : et_F) (x : et_E) : Prop := ∀ k, k < K → (kf k &&& et_ab w) &&& et_rm (nI w) (kd k) (et_m x k) = et_v x k
def et_QMf (St : et_St) (K w : Nat) (kd : Nat → Int32) (dv dm : et_F) (N : Nat) (ms : Int32) (A : List et_E) (kf : et_F) (r : Int32) (w1 : va_W) : Prop :=
  ((∀ x ∈ A, ¬ et_Mmt K w kd kf x) ∧ r = -2 ∧ St dv dm N (ms + 1) A w1) ∨ (∃ (i : Nat) (x : et_E), A[i]? = some x ∧ et_Mmt K w kd kf x ∧ (∀ y ∈ A, et_Mmt K w kd kf y → ¬ et_bf K kd y x) ∧ r = nI (et_n x) ∧ St dv dm N ms (A.set i (et_hit x)) w1)
def et_QXn (St : et_St) (dv dm : et_F) (N : Nat) (ms : Int32) (L : List et_E) (k : Int32) (r : Int32) (w1 : va_W) : Prop :=
  St dv dm N ms L w1 ∧ (((∀ j, j < L.length → ¬ k = nI j) ∧ r = -2) ∨ (∃ (j : Nat) (x : et_E), L[j]? = some x ∧ k = nI j ∧ r = nI (et_n x)))
def et_QMn (St : et_St) (K : Nat) (kd : Nat → Int32) (dv dm : et_F) (N : Nat) (ms : Int32) (A : List et_E) (k : Int32) (r : Int32) (w1 : va_W) : Prop :=
  St dv dm N ms A w1 ∧ (((∀ x ∈ A, ¬ k = nI (A.countP (fun z => decide (et_bf K kd z x)))) ∧ r = -2) ∨ (∃ x ∈ A, k = nI (A.countP (fun z => decide (et_bf K kd z x))) ∧ r = nI (et_n x)))
def et_Qh (St : et_St) (dv dm : et_F) (N : Nat) (ms : Int32) (L : List et_E) (e : Int32) (r : Int32) (w1 : va_W) : Prop :=
  St dv dm N ms L w1 ∧ (((∀ x ∈ L, ¬ nI (et_n x) = e) ∧ r = -2) ∨ (∃ x ∈ L, nI (et_n x) = e ∧ r = et_h x))
def et_cnt (K w : Nat) (kd : Nat → Int32) (ms : Int32) (n : Nat) (what : Int32) : Int32 := if what = 0 then nI K else if what = 1 then nI w else if what = 2 then nI n else if what = 3 then ms else if what = 4 then kd 0 else if what = 5 then kd 1 else if what = 6 then kd 2 else -1
def et_Qc (St : et_St) (K w : Nat) (kd : Nat → Int32) (dv dm : et_F) (N : Nat) (ms : Int32) (L : List et_E) (what : Int32) (r : Int32) (w1 : va_W) : Prop :=
  St dv dm N ms L w1 ∧ r = et_cnt K w kd ms L.length what
/-- both sides behind a call -/
def et_Go (StX StM : et_St) (K w : Nat) (kd : Nat → Int32) (N : Nat) (w1 w2 : va_W) : Prop :=
  ∃ (dv dm : et_F) (N' : Nat) (ms : Int32) (A L : List et_E), N' ≤ N + 1 ∧ et_IV K w kd N' A L ∧ StX dv dm N' ms L w1 ∧ StM dv dm N' ms A w2
section AG
variable {StX StM : et_St} {K w : Nat} {kd : Nat → Int32} {dv dm : et_F} {N : Nat} {ms : Int32} {A L : List et_E} {w1 w2 : va_W} {r1 r2 : Int32}
theorem et_same (h : et_IV K w kd N A L) (hx : StX dv dm N ms L w1) (hm : StM dv dm N ms A w2) : et_Go StX StM K w kd N w1 w2 := ⟨dv, dm, N, ms, A, L, Nat.le_succ N, h, hx, hm⟩
theorem et_agm {k : Int32} {v m : Int64} (h : et_IV K w kd N A L) (hx : et_Qm StX dv dm N ms L k v m r1 w1) (hm : et_Qm StM dv dm N ms A k v m r2 w2) : r1 = r2 ∧ et_Go StX StM K w kd N w1 w2 := by
  have no : ∀ j : Nat, j < 3 → k = nI j → ¬ (k < 0 ∨ 3 ≤ k) := by
    rintro j hj rfl (q | q)
    · exact nI_pos (by omega) q
    · exact nI_ge hj (by decide) q
  rcases hx with ⟨a1, a2, a3⟩ | ⟨j, a1, a2, a3, a4⟩ <;> rcases hm with ⟨b1, b2, b3⟩ | ⟨i, b1, b2, b3, b4⟩
  · exact ⟨by rw [a2, b2], et_same h a3 b3⟩
  · exact absurd a1 (no i b1 b2)
  · exact absurd b1 (no j a1 a2)
  · have e : j = i := (nI_eq (by omega) (by omega)).mp (a2.symm.trans b2)
    subst e
    exact ⟨by rw [a3, b3], et_same h a4 b4⟩
theorem et_agi {p : Int32} (hK : K ≤ 3) (hw : w < 49) (hkd : ∀ k, k < 3 → et_kk (kd k)) (h : et_IV K w kd N A L) (hx : et_QXi StX K w kd dv dm N ms L p r1 w1) (hm : et_QMi StM K w kd dv dm N ms A p r2 w2) : r1 = r2 ∧ et_Go StX StM K w kd N w1 w2 := by
  have hsm : et_snd K (et_ab w) (nI w) kd dv dm ↔ et_Msnd K (nI w) kd dv dm := by
    constructor
    · intro q k hk; exact (et_ks_iff hw (hkd k (by omega)) _ _).mp (q k hk)
    · intro q k hk; exact (et_ks_iff hw (hkd k (by omega)) _ _).mpr (q k hk)
  have hlen : A.length = L.length := h.1.length_eq
  have hT : et_snd K (et_ab w) (nI w) kd dv dm → ∀ x ∈ A, (et_XT K (et_ab w) kd p dv dm x ↔ et_MT K kd p dv dm x) := by
    intro hs x hx
    have hsx := (h.2.2.2 x hx).2
    unfold et_XT et_MT
    constructor
    · rintro ⟨q1, q2⟩
      exact ⟨q1, fun k hk => ⟨(q2 k hk).1, (et_db_inj hw (hkd k (by omega)) (hsx k hk) (hs k hk)).mp (q2 k hk).2⟩⟩
    · rintro ⟨q1, q2⟩
      exact ⟨q1, fun k hk => ⟨(q2 k hk).1, (et_db_inj hw (hkd k (by omega)) (hsx k hk) (hs k hk)).mpr (q2 k hk).2⟩⟩
  rcases hx with ⟨a1, a2, a3⟩ | ⟨a1, ⟨x, a2, a3⟩, a4, a5⟩ | ⟨a1, a2, a3, a4, a5⟩ | ⟨a1, a2, a3, a4, j, a5, a6, a7, a8⟩
  · rcases hm with ⟨b1, b2, b3⟩ | ⟨b1, -⟩ | ⟨b1, -⟩ | ⟨b1, -⟩
    · exact ⟨by rw [a2, b2], et_same h a3 b3⟩
    · exact absurd (hsm.mpr b1) a1
    · exact absurd (hsm.mpr b1) a1
    · exact absurd (hsm.mpr b1) a1
  · have hxA : x ∈ A := h.1.mem_iff.mpr a2
    rcases hm with ⟨b1, -⟩ | ⟨b1, b2, b3, b4⟩ | ⟨b1, b2, -⟩ | ⟨b1, b2, -⟩
    · exact absurd (hsm.mp a1) b1
    · exact ⟨by rw [a4, b3], et_same h a5 b4⟩
    · exact absurd ((hT a1 x hxA).mp a3) (b2 x hxA)
    · exact absurd ((hT a1 x hxA).mp a3) (b2 x hxA)
  · rcases hm with ⟨b1, -⟩ | ⟨b1, ⟨x, b2, b3⟩, -⟩ | ⟨b1, b2, b3, b4, b5⟩ | ⟨b1, b2, b3, -⟩
    · exact absurd (hsm.mp a1) b1
    · exact absurd ((hT a1 x b2).mpr b3) (a2 x (h.1.mem_iff.mp b2))
    · exact ⟨by rw [a4, b4], et_same h a5 b5⟩
    · omega
  · rcases hm with ⟨b1, -⟩ | ⟨b1, ⟨x, b2, b3⟩, -⟩ | ⟨b1, b2, b3, -⟩ | ⟨b1, b2, b3, b4, b5⟩
    · exact absurd (hsm.mp a1) b1
    · exact absurd ((hT a1 x b2).mpr b3) (a2 x (h.1.mem_iff.mp b2))
    · omega
    · have hlo : ∀ x ∈ L, (et_Xlo K kd p dm x ↔ et_lo K kd p dm x) := by
        intro x hx
        obtain ⟨q1, q2⟩ := et_pf_lt (et_pf_small hw (h.2.2.2 x (h.1.mem_iff.mpr hx)).2) (et_pf_small hw a1)
        unfold et_Xlo et_lo
        rw [q1, q2]
      refine ⟨by rw [a4, b4], et_z dv, et_z dm, N + 1, ms, _, _, Nat.le_refl _, et_IV_ins h a5 a1 (fun i x hi hx q => a6 i x hi hx ((hlo x (List.mem_of_getElem? hx)).mpr q)) (fun x hx => (hlo x (List.mem_of_getElem? hx)).mp (a7 x hx)), a8, b5⟩
theorem et_nE {x y : et_E} {e : Int32} (hx : et_n x < 2 ^ 31) (hy : et_n y < 2 ^ 31) (h1 : nI (et_n x) = e) (h2 : nI (et_n y) = e) : et_n x = et_n y := (nI_eq hx hy).mp (h1.trans h2.symm)
theorem et_agr {e : Int32} (hN : N ≤ 2 ^ 31) (h : et_IV K w kd N A L) (hx : et_Qr StX dv dm N ms L e r1 w1) (hm : et_Qr StM dv dm N ms A e r2 w2) : r1 = r2 ∧ et_Go StX StM K w kd N w1 w2 := by
  have hlen : A.length = L.length := h.1.length_eq
  rcases hx with ⟨a1, a2, a3⟩ | ⟨j, x, a1, a2, a3, a4⟩ <;> rcases hm with ⟨b1, b2, b3⟩ | ⟨i, y, b1, b2, b3, b4⟩
  · exact ⟨by rw [a2, b2], et_same h a3 b3⟩
  · exact absurd b2 (a1 y (h.1.mem_iff.mp (List.mem_of_getElem? b1)))
  · exact absurd a2 (b1 x (h.1.mem_iff.mpr (List.mem_of_getElem? a1)))
  · have hxA := h.1.mem_iff.mpr (List.mem_of_getElem? a1)
    have hyA := List.mem_of_getElem? b1
    have e1 : x = y := et_uniq h.2.1 hxA hyA (et_nE (Nat.lt_of_lt_of_le (h.2.2.2 x hxA).1 hN) (Nat.lt_of_lt_of_le (h.2.2.2 y hyA).1 hN) a2 b2)
    subst e1
    exact ⟨by rw [a3, b3, hlen], dv, dm, N, ms, _, _, Nat.le_succ N, et_IV_del h b1 a1, a4, b4⟩
theorem et_agf {kf : et_F} (hK : K ≤ 3) (hw : w < 49) (hkd : ∀ k, k < 3 → et_kk (kd k)) (h : et_IV K w kd N A L) (hx : et_QXf StX K w kd dv dm N ms L kf r1 w1) (hm : et_QMf StM K w kd dv dm N ms A kf r2 w2) : r1 = r2 ∧ et_Go StX StM K w kd N w1 w2 := by
  have hT : ∀ x ∈ A, (et_Xmt K (et_ab w) kd kf x ↔ et_Mmt K w kd kf x) := by
    intro x hx
    have hsx := (h.2.2.2 x hx).2
    unfold et_Xmt et_Mmt
    constructor
    · intro q k hk; rw [← et_mt_iff hw (hkd k (by omega)) (hsx k hk)]; exact q k hk
    · intro q k hk; rw [et_mt_iff hw (hkd k (by omega)) (hsx k hk)]; exact q k hk
  rcases hx with ⟨a1, a2, a3⟩ | ⟨j, x, a1, a2, a3, a4, a5⟩ <;> rcases hm with ⟨b1, b2, b3⟩ | ⟨i, y, b1, b2, b3, b4, b5⟩
  · exact ⟨by rw [a2, b2], dv, dm, N, ms + 1, A, L, Nat.le_succ N, h, a3, b3⟩
  · have hyA := List.mem_of_getElem? b1
    exact absurd ((hT y hyA).mpr b2) (a1 y (h.1.mem_iff.mp hyA))
  · have hxA := h.1.mem_iff.mpr (List.mem_of_getElem? a1)
    exact absurd ((hT x hxA).mp a2) (b1 x hxA)
  · have hxA := h.1.mem_iff.mpr (List.mem_of_getElem? a1)
    have hyA := List.mem_of_getElem? b1
    have n1 := b3 x hxA ((hT x hxA).mp a2)
    obtain ⟨t, ht⟩ := List.getElem?_of_mem (h.1.mem_iff.mp hyA)
    have e1 : y = x := by
      rcases Nat.lt_trichotomy t j with q | q | q
      · exact absurd ((hT y hyA).mpr b2) (a3 t y q ht)
      · subst q
        rw [a1] at ht
        exact (Option.some.inj ht).symm
      · obtain ⟨hj, ej⟩ := List.getElem?_eq_some_iff.mp a1
        obtain ⟨htl, et⟩ := List.getElem?_eq_some_iff.mp ht
        have := (List.pairwise_iff_getElem.mp h.2.2.1) j t hj htl q
        rw [ej, et] at this
        exact absurd this n1
    subst e1
    exact ⟨by rw [a4, b4], dv, dm, N, ms, _, _, Nat.le_succ N, et_IV_hit h b1 a1, a5, b5⟩
theorem et_agn {k : Int32} (hA : A.length ≤ 24) (h : et_IV K w kd N A L) (hx : et_QXn StX dv dm N ms L k r1 w1) (hm : et_QMn StM K kd dv dm N ms A k r2 w2) : r1 = r2 ∧ et_Go StX StM K w kd N w1 w2 := by
  have hlen : A.length = L.length := h.1.length_eq
  have rk : ∀ (j : Nat) (x : et_E), L[j]? = some x → A.countP (fun z => decide (et_bf K kd z x)) = j := fun j x hj => by
    rw [h.1.countP_eq]
    exact et_rank h.2.2.1 hj
  obtain ⟨sx, hx⟩ := hx
  obtain ⟨sm, hm⟩ := hm
  refine ⟨?_, et_same h sx sm⟩
  rcases hx with ⟨a1, a2⟩ | ⟨j, x, a1, a2, a3⟩ <;> rcases hm with ⟨b1, b2⟩ | ⟨y, b1, b2, b3⟩
  · rw [a2, b2]
  · obtain ⟨t, ht⟩ := List.getElem?_of_mem (h.1.mem_iff.mp b1)
    rw [rk t y ht] at b2
    exact absurd b2 (a1 t (List.getElem?_eq_some_iff.mp ht).1)
  · have hxA := h.1.mem_iff.mpr (List.mem_of_getElem? a1)
    have := b1 x hxA
    rw [rk j x a1] at this
    exact absurd a2 this
  · obtain ⟨t, ht⟩ := List.getElem?_of_mem (h.1.mem_iff.mp b1)
    rw [rk t y ht] at b2
    have hj := (List.getElem?_eq_some_iff.mp a1).1
    have htl := (List.getElem?_eq_some_iff.mp ht).1
    have e : j = t := (nI_eq (by omega) (by omega)).mp (a2.symm.trans b2)
    subst e
    rw [a1] at ht
    cases ht
    rw [a3, b3]
theorem et_agh {e : Int32} (hN : N ≤ 2 ^ 31) (h : et_IV K w kd N A L) (hx : et_Qh StX dv dm N ms L e r1 w1) (hm : et_Qh StM dv dm N ms A e r2 w2) : r1 = r2 ∧ et_Go StX StM K w kd N w1 w2 := by
  obtain ⟨sx, hx⟩ := hx
  obtain ⟨sm, hm⟩ := hm
  refine ⟨?_, et_same h sx sm⟩
  rcases hx with ⟨a1, a2⟩ | ⟨x, a1, a2, a3⟩ <;> rcases hm with ⟨b1, b2⟩ | ⟨y, b1, b2, b3⟩
  · rw [a2, b2]
  · exact absurd b2 (a1 y (h.1.mem_iff.mp b1))
  · exact absurd a2 (b1 x (h.1.mem_iff.mpr a1))
  · have hxA := h.1.mem_iff.mpr a1
    have e1 : x = y := et_uniq h.2.1 hxA b1 (et_nE (Nat.lt_of_lt_of_le (h.2.2.2 x hxA).1 hN) (Nat.lt_of_lt_of_le (h.2.2.2 y b1).1 hN) a2 b2)
    subst e1
    rw [a3, b3]
theorem et_agc {what : Int32} (h : et_IV K w kd N A L) (hx : et_Qc StX K w kd dv dm N ms L what r1 w1) (hm : et_Qc StM K w kd dv dm N ms A what r2 w2) : r1 = r2 ∧ et_Go StX StM K w kd N w1 w2 := by
  have hlen : A.length = L.length := h.1.length_eq
  exact ⟨by rw [hx.2, hm.2, hlen], et_same h hx.1 hm.1⟩
end AG
end
section
/-! Small facts that the walks' ends need. -/
theorem et_ix {n : Nat} (hn : n < 2 ^ 31) {k : Int32} (h0 : ¬ k < 0) (h1 : k < nI n) : ∃ j : Nat, j < n ∧ k = nI j := by
  rcases pk_ix k hn with h | h | h
  · exact absurd h h0
  · exact absurd h1 (Int32.not_lt.mpr h)
  · exact h
theorem et_le2 {k : Int32} (h : ¬ (2 : Int32) < k) : k < nI 3 := by
  rw [Int32.lt_iff_toInt_lt] at *
  have h2 : (2 : Int32).toInt = 2 := by decide
  have h3 : (nI 3).toInt = 3 := by decide
  omega
theorem et_gt2 {k : Int32} (h : (2 : Int32) < k) : 3 ≤ k := by
  rw [Int32.lt_iff_toInt_lt] at h
  rw [Int32.le_iff_toInt_le]
  have h2 : (2 : Int32).toInt = 2 := by decide
  have h3 : (3 : Int32).toInt = 3 := by decide
  omega
theorem et_nm1 {j : Nat} (h : j < 2 ^ 31) : ¬ nI j = -1 := by
  intro e
  have h1 := nI_pos (n := j) h
  rw [e] at h1
  exact h1 (by decide)
theorem et_out {x : Int32} (h0 : ¬ x = 0) (h1 : ¬ x = 1) (h2 : ¬ x = 2) (h3 : ¬ x = 3) (h4 : ¬ x = 4) (h5 : ¬ x = 5) (h6 : ¬ x = 6) : x.toInt < 0 ∨ 6 < x.toInt := by
  have a0 := lv_neT h0 (a := 0) (by decide)
  have a1 := lv_neT h1 (a := 1) (by decide)
  have a2 := lv_neT h2 (a := 2) (by decide)
  have a3 := lv_neT h3 (a := 3) (by decide)
  have a4 := lv_neT h4 (a := 4) (by decide)
  have a5 := lv_neT h5 (a := 5) (by decide)
  have a6 := lv_neT h6 (a := 6) (by decide)
  omega
def et_fl (f f1 g : Nat → Int64) (b k : Nat) : Prop := (∀ i, (i < b ∨ b + k ≤ i) → f1 i = f i) ∧ ∀ j, j < k → f1 (b + j) = g j
theorem et_fl_0 {f g : Nat → Int64} {b : Nat} : et_fl f f g b 0 := ⟨fun _ _ => rfl, fun j hj => absurd hj (Nat.not_lt_zero j)⟩
theorem et_fl_s {f f1 g : Nat → Int64} {b k : Nat} {x : Int64} (h : et_fl f f1 g b k) (hx : x = g k) : et_fl f (vp_updL f1 (b + k) x) g b (k + 1) := by
  refine ⟨fun i hi => ?_, fun j hj => ?_⟩
  · rw [pk_uLn (by omega)]
    exact h.1 i (by omega)
  · by_cases e : j = k
    · subst e
      rw [pk_uLs, hx]
    · rw [pk_uLn (by omega)]
      exact h.2 j (by omega)
def et_k3 (a b c : Int64) : Nat → Int64 := fun k => match k with
  | 0 => a
  | 1 => b
  | _ => c
theorem et_ltx {L : List et_E} {P : et_E → Prop} {i : Nat} (h : ∀ j y, j < i → L[j]? = some y → ¬ P y) (hi : ∀ y, L[i]? = some y → ¬ P y) : ∀ j y, j < i + 1 → L[j]? = some y → ¬ P y := by
  intro j y hj hy
  by_cases e : j = i
  · subst e; exact hi y hy
  · exact h j y (by omega) hy
section EH
variable {K w : Nat} {kd : Nat → Int32} {L : List et_E} {o : Nat → Nat} {ord nums pris pres fins : Nat → Int32} {vals msks : Nat → Int64}
theorem et_mt_at {kf : Nat → Int64} (hC : et_CR K w kd L o ord nums pris pres fins vals msks) {i : Nat} {y : et_E} (hy : L[i]? = some y) (h : et_Xmt K (et_ab w) kd kf y) (k : Nat) (hk : k < 3) : kf k &&& msks (o i * 3 + k) = vals (o i * 3 + k) := by
  have hi := (List.getElem?_eq_some_iff.mp hy).1
  have h24 := hC.2.2.1
  by_cases hkK : k < K
  · obtain ⟨e1, e2⟩ := (hC.2.2.2.1 i y hy).2.2.2.2 k hkK
    rw [e1, e2]
    exact h k hkK
  · obtain ⟨e1, e2⟩ := hC.2.2.2.2 (o i) k (hC.1 i (by omega)).2 (by omega) hk
    rw [e1, e2]
    exact Int64.and_zero
theorem et_mt_of {kf : Nat → Int64} (hK3 : K ≤ 3) (hC : et_CR K w kd L o ord nums pris pres fins vals msks) {i : Nat} {y : et_E} (hy : L[i]? = some y) (h0 : kf 0 &&& msks (o i * 3 + 0) = vals (o i * 3 + 0)) (h1 : kf 1 &&& msks (o i * 3 + 1) = vals (o i * 3 + 1)) (h2 : kf 2 &&& msks (o i * 3 + 2) = vals (o i * 3 + 2)) : et_Xmt K (et_ab w) kd kf y := by
  intro k hk
  obtain ⟨e1, e2⟩ := (hC.2.2.2.1 i y hy).2.2.2.2 k hk
  rw [← e1, ← e2]
  rcases (show k = 0 ∨ k = 1 ∨ k = 2 by omega) with rfl | rfl | rfl
  · exact h0
  · exact h1
  · exact h2
theorem et_th_of {pp : Int32} {dv dm : Nat → Int64} (hC : et_CR K w kd L o ord nums pris pres fins vals msks) {j : Nat} (hj : j < L.length) (h1 : pris (o j) = pp) (h2 : ∀ k, k < K → vals (o j * 3 + k) = dv k ∧ msks (o j * 3 + k) = et_db (et_ab w) (kd k) (dm k)) : ∃ x ∈ L, et_XT K (et_ab w) kd pp dv dm x := by
  have hx : L[j]? = some L[j] := List.getElem?_eq_getElem hj
  obtain ⟨-, a2, -, -, a5⟩ := hC.2.2.2.1 j L[j] hx
  refine ⟨L[j], List.mem_of_getElem? hx, a2.symm.trans h1, fun k hk => ?_⟩
  obtain ⟨e1, e2⟩ := a5 k hk
  rw [← e1, ← e2]
  exact h2 k hk
theorem et_th_no {pp : Int32} {dv dm : Nat → Int64} (hC : et_CR K w kd L o ord nums pris pres fins vals msks) (h : ¬ ∃ j, j < L.length ∧ pris (o j) = pp ∧ ∀ k, k < K → vals (o j * 3 + k) = dv k ∧ msks (o j * 3 + k) = et_db (et_ab w) (kd k) (dm k)) : ∀ x ∈ L, ¬ et_XT K (et_ab w) kd pp dv dm x := by
  intro x hx ht
  obtain ⟨j, hj⟩ := List.getElem?_of_mem hx
  obtain ⟨-, a2, -, -, a5⟩ := hC.2.2.2.1 j x hj
  refine h ⟨j, (List.getElem?_eq_some_iff.mp hj).1, a2.trans ht.1, fun k hk => ?_⟩
  obtain ⟨e1, e2⟩ := a5 k hk
  rw [e1, e2]
  exact ht.2 k hk
theorem et_lo_no {pp : Int32} {dm : Nat → Int64} {j : Nat} (hC : et_CR K w kd L o ord nums pris pres fins vals msks) (h : ∀ i, i < j → ¬ (pres (o i) < (et_pf K kd dm).toInt32 ∨ (pres (o i) = (et_pf K kd dm).toInt32 ∧ pris (o i) < pp))) : ∀ i x, i < j → L[i]? = some x → ¬ et_Xlo K kd pp dm x := by
  intro i x hi hx
  obtain ⟨-, a2, a3, -, -⟩ := hC.2.2.2.1 i x hx
  have := h i hi
  rw [a2, a3] at this
  exact this
theorem et_lo_at {pp : Int32} {dm : Nat → Int64} {j : Nat} (hC : et_CR K w kd L o ord nums pris pres fins vals msks) (h : j < L.length → (pres (o j) < (et_pf K kd dm).toInt32 ∨ (pres (o j) = (et_pf K kd dm).toInt32 ∧ pris (o j) < pp))) : ∀ x, L[j]? = some x → et_Xlo K kd pp dm x := by
  intro x hx
  obtain ⟨-, a2, a3, -, -⟩ := hC.2.2.2.1 j x hx
  have := h (List.getElem?_eq_some_iff.mp hx).1
  rw [a2, a3] at this
  exact this
end EH
section EC
variable {p : Program} {l : Launch} {e : Env} {R : Room} {s : State} {m : MethodId} {args : Array Value} {below : List Frame} {meth : Method} {c : Code} {H : Heap} {locs : List Loc} {cells slots : Nat} {Q : State → Prop}
variable {cc : ByteArray} {pc : Nat} {ls : Array Slot} {rest : List Value} {D : va_G} {cl : List vw_C} {A : Nat → Prop} {a : Nat} {tys : List (ClassId × FieldType)} {ws : va_W} {H0 : Heap}
theorem eb_copyi (hexec : p.tables.exec = Jvm.exec) (hb : c.code = cc) (hml : c.maxLocals = ls.size) {own : String} {index : Nat} (hown : s.vm.findClass own = some m.cls) (hlink : (Cond.methodLink own index arraycopyName).before args s = true) (hnat : (Cond.native arraycopyName).before args s = true) (hstat : (Cond.static arraycopyName).before args s = true) (hini : (Cond.initialized "java/lang/System").before args s = true)
    (hK : va_K D cl tys s) (hP : va_P D cl ws H) (hD : va_D A ws) (hS : va_S A H0 H locs) (q0 t0 : Nat) {c0 : ClassId} {n0 : Nat} {f : Nat → Int32} (ha0 : ws[q0]? = some (a, .inl (c0, n0, .inl f))) (ht0 : tys[t0]? = some (c0, .int))
    (sp dp n : Nat) (h4 : sp + n ≤ n0) (h5 : dp + n ≤ n0) (hn0 : n0 < 2 ^ 31)
    (hframes : 1 ≤ R.frames) (hlocals : (rest.map fun v => v.category).sum + (nativeFrameWords "java/lang/System" "arraycopy" 5 + 11) ≤ R.locals) (hdg : decode cc pc = .ok (.invokestatic index, 3))
    (kk : ∀ (H1 : Heap) (locs1 : List Loc), va_P D cl (ws.set q0 (a, .inl (c0, n0, .inl (va_cpy f f sp dp n)))) H1 → va_D A (ws.set q0 (a, .inl (c0, n0, .inl (va_cpy f f sp dp n)))) → va_S A H0 H1 locs1 → W p l e R s m args below meth c H1 locs1 cells slots Q (F0 m (pc + 3) ls rest)) : W p l e R s m args below meth c H locs cells slots Q (F0 m pc ls (.int (nI n) :: .int (nI dp) :: .ref a :: .int (nI sp) :: .ref a :: rest)) := by
  have e1 : (nI sp).toNatClampNeg = sp := nI_clamp (by omega)
  have e2 : (nI dp).toNatClampNeg = dp := nI_clamp (by omega)
  have e3 : (nI n).toNatClampNeg = n := nI_clamp (by omega)
  refine va_copyi hexec hb hml hown hlink hnat hstat hini hK hP hD hS q0 q0 t0 t0 ha0 ha0 ht0 ht0 rfl (nI_pos (by omega)) (nI_pos (by omega)) (nI_pos (by omega)) (by rw [e1, e3]; exact h4) (by rw [e2, e3]; exact h5) (fun _ _ => rfl) hframes hlocals hdg (fun H1 locs1 g1 g2 g3 => ?_)
  rw [e1, e2, e3] at g1 g2
  exact kk H1 locs1 g1 g2 g3
end EC
end
section
/-! Small facts for the reference's walks. -/
def et_mb (K : Nat) (kd num pri : Nat → Int32) (msk : Nat → Int64) (e t : Nat) : Prop := et_pf K kd (fun k => msk (3 * t + k)) < et_pf K kd (fun k => msk (3 * e + k)) ∨ (et_pf K kd (fun k => msk (3 * e + k)) = et_pf K kd (fun k => msk (3 * t + k)) ∧ (pri t < pri e ∨ (pri e = pri t ∧ num e < num t)))
/-- cells moved down by d, from lo up to hi -/
def et_sh {α : Type} (d : Nat) (f f1 : Nat → α) (lo hi : Nat) : Prop := (∀ t, (t < lo ∨ hi ≤ t) → f1 t = f t) ∧ ∀ t, lo ≤ t → t < hi → f1 t = f (t + d)
theorem et_sh_0 {α : Type} {d lo : Nat} {f : Nat → α} : et_sh d f f lo lo := ⟨fun _ _ => rfl, fun t h1 h2 => absurd h1 (by omega)⟩
theorem et_sh_i {d lo hi : Nat} {f f1 : Nat → Int32} {x : Int32} (h : et_sh d f f1 lo hi) (hlh : lo ≤ hi) (hd : 0 < d) (hx : x = f1 (hi + d)) : et_sh d f (upd f1 hi x) lo (hi + 1) := by
  refine ⟨fun t ht => ?_, fun t h1 h2 => ?_⟩
  · by_cases e : t = hi
    · omega
    · rw [pk_un e]; exact h.1 t (by omega)
  · by_cases e : t = hi
    · subst e; rw [pk_us, hx]; exact h.1 _ (by omega)
    · rw [pk_un e]; exact h.2 t h1 (by omega)
theorem et_sh_l {d lo hi : Nat} {f f1 : Nat → Int64} {x : Int64} (h : et_sh d f f1 lo hi) (hlh : lo ≤ hi) (hd : 0 < d) (hx : x = f1 (hi + d)) : et_sh d f (vp_updL f1 hi x) lo (hi + 1) := by
  refine ⟨fun t ht => ?_, fun t h1 h2 => ?_⟩
  · by_cases e : t = hi
    · omega
    · rw [pk_uLn e]; exact h.1 t (by omega)
  · by_cases e : t = hi
    · subst e; rw [pk_uLs, hx]; exact h.1 _ (by omega)
    · rw [pk_uLn e]; exact h.2 t h1 (by omega)
theorem et_pg_congr {kd : Nat → Int32} {f g : Nat → Int64} : ∀ (n i : Nat), (∀ k, i ≤ k → k < i + n → f k = g k) → et_pg kd f i n = et_pg kd g i n
  | 0, _, _ => rfl
  | n + 1, i, h => by
    unfold et_pg
    rw [h i (Nat.le_refl _) (by omega), et_pg_congr n (i + 1) (fun k h1 h2 => h k (by omega) (by omega))]
section EM
variable {K w : Nat} {kd : Nat → Int32} {B : List et_E} {num pri hit : Nat → Int32} {val msk : Nat → Int64}
theorem et_RR_pf (hK3 : K ≤ 3) (hR : et_RR B num pri hit val msk) {i : Nat} {x : et_E} (hx : B[i]? = some x) : et_pf K kd (fun k => msk (3 * i + k)) = et_pf K kd (et_m x) := et_pg_congr K 0 (fun k _ h2 => ((hR.2 i x hx).2.2.2 k (by omega)).2)
theorem et_mb_iff (hK3 : K ≤ 3) (hR : et_RR B num pri hit val msk) (hn : ∀ x ∈ B, et_n x < 2 ^ 31) {i j : Nat} {x y : et_E} (hx : B[i]? = some x) (hy : B[j]? = some y) : et_mb K kd num pri msk i j ↔ et_bf K kd x y := by
  unfold et_mb et_bf
  rw [et_RR_pf hK3 hR hx, et_RR_pf hK3 hR hy, (hR.2 i x hx).1, (hR.2 j y hy).1, (hR.2 i x hx).2.1, (hR.2 j y hy).2.1, nI_ltI (hn x (List.mem_of_getElem? hx)) (hn y (List.mem_of_getElem? hy))]
theorem et_like_iff (hK3 : K ≤ 3) (hR : et_RR B num pri hit val msk) {pp : Int32} {mv mm : Nat → Int64} {i : Nat} {x : et_E} (hx : B[i]? = some x) : (pri i = pp ∧ ∀ k, k < K → val (3 * i + k) = mv k ∧ (kd k = 0 ∨ msk (3 * i + k) = mm k)) ↔ et_MT K kd pp mv mm x := by
  obtain ⟨-, a2, -, a4⟩ := hR.2 i x hx
  unfold et_MT
  rw [a2]
  constructor
  · rintro ⟨h1, h2⟩
    refine ⟨h1, fun k hk => ?_⟩
    have := h2 k hk
    rw [(a4 k (by omega)).1, (a4 k (by omega)).2] at this
    exact this
  · rintro ⟨h1, h2⟩
    refine ⟨h1, fun k hk => ?_⟩
    rw [(a4 k (by omega)).1, (a4 k (by omega)).2]
    exact h2 k hk
theorem et_Mmt_iff (hK3 : K ≤ 3) (hR : et_RR B num pri hit val msk) {kf ask : Nat → Int64} (ha : ∀ k, k < 3 → ask k = kf k &&& et_ab w) {i : Nat} {x : et_E} (hx : B[i]? = some x) : (∀ k, k < K → ask k &&& et_rm (nI w) (kd k) (msk (3 * i + k)) = val (3 * i + k)) ↔ et_Mmt K w kd kf x := by
  obtain ⟨-, -, -, a4⟩ := hR.2 i x hx
  unfold et_Mmt
  constructor
  · intro h k hk
    have := h k hk
    rw [(a4 k (by omega)).1, (a4 k (by omega)).2, ha k (by omega)] at this
    exact this
  · intro h k hk
    rw [(a4 k (by omega)).1, (a4 k (by omega)).2, ha k (by omega)]
    exact h k hk
end EM
theorem et_ct_s {B : List et_E} {t : Nat} {x : et_E} {f : et_E → Bool} (hx : B[t]? = some x) : (B.take (t + 1)).countP f = (B.take t).countP f + (if f x = true then 1 else 0) := by
  rw [List.take_add_one, hx, List.countP_append]
  simp [List.countP_cons]
/-- the best so far of the first i: none, or one that matches and that no other of them is before -/
def et_fd (K : Nat) (kd : Nat → Int32) (P : et_E → Prop) (B : List et_E) (i : Nat) (bs : Int32) : Prop := (bs = -1 ∧ ∀ j y, j < i → B[j]? = some y → ¬ P y) ∨ (∃ (b0 : Nat) (x : et_E), B[b0]? = some x ∧ bs = nI b0 ∧ P x ∧ ∀ j y, j < i → B[j]? = some y → P y → ¬ et_bf K kd y x)
section FD
variable {K : Nat} {kd : Nat → Int32} {P : et_E → Prop} {B : List et_E} {i : Nat} {bs : Int32}
theorem et_fd_n (h : et_fd K kd P B i bs) (hi : ∀ y, B[i]? = some y → ¬ P y) : et_fd K kd P B (i + 1) bs := by
  rcases h with ⟨h1, h2⟩ | ⟨b0, x, h1, h2, h3, h4⟩
  · exact Or.inl ⟨h1, et_ltx h2 hi⟩
  · refine Or.inr ⟨b0, x, h1, h2, h3, fun j y hj hy hp => ?_⟩
    by_cases e : j = i
    · subst e; exact absurd hp (hi y hy)
    · exact h4 j y (by omega) hy hp
theorem et_fd_1 {x : et_E} (h : ∀ j y, j < i → B[j]? = some y → ¬ P y) (hx : B[i]? = some x) (hp : P x) : et_fd K kd P B (i + 1) (nI i) := by
  refine Or.inr ⟨i, x, hx, rfl, hp, fun j y hj hy hq => ?_⟩
  by_cases e : j = i
  · subst e
    rw [hx] at hy
    cases hy
    exact et_bf_irr
  · exact absurd hq (h j y (by omega) hy)
theorem et_fd_k {b0 : Nat} {x z : et_E} (h1 : B[b0]? = some x) (h2 : P x) (h3 : ∀ j y, j < i → B[j]? = some y → P y → ¬ et_bf K kd y x) (hz : B[i]? = some z) (hb : ¬ et_bf K kd z x) : et_fd K kd P B (i + 1) (nI b0) := by
  refine Or.inr ⟨b0, x, h1, rfl, h2, fun j y hj hy hq => ?_⟩
  by_cases e : j = i
  · subst e
    rw [hz] at hy
    cases hy
    exact hb
  · exact h3 j y (by omega) hy hq
theorem et_fd_b {x z : et_E} (h3 : ∀ j y, j < i → B[j]? = some y → P y → ¬ et_bf K kd y x) (hz : B[i]? = some z) (hp : P z) (hb : et_bf K kd z x) : et_fd K kd P B (i + 1) (nI i) := by
  refine Or.inr ⟨i, z, hz, rfl, hp, fun j y hj hy hq => ?_⟩
  by_cases e : j = i
  · subst e
    rw [hz] at hy
    cases hy
    exact et_bf_irr
  · exact fun g => h3 j y (by omega) hy hq (et_bf_tr g hb)
end FD
end
section
/-! Names that the printed file leaves out: the reference's other methods (it is printed from the first half of the tables); one list of words for all of the reference's methods. -/
abbrev cX1_place : ByteArray := prog_3_method_8_code
def yX1_place : MethodName := ⟨RX1, "place", "(I)I"⟩
abbrev cX1_find : ByteArray := prog_3_method_13_code
def yX1_find : MethodName := ⟨RX1, "find", "(JJJ)I"⟩
abbrev cX1_matches : ByteArray := prog_3_method_12_code
def yX1_matches : MethodName := ⟨RX1, "matches", "(I)Z"⟩
abbrev cX1_before : ByteArray := prog_3_method_11_code
def yX1_before : MethodName := ⟨RX1, "before", "(II)Z"⟩
abbrev cX1_prefix : ByteArray := prog_3_method_10_code
def yX1_prefix : MethodName := ⟨RX1, "prefix", "(I)J"⟩
abbrev cX1_nth : ByteArray := prog_3_method_14_code
def yX1_nth : MethodName := ⟨RX1, "nth", "(I)I"⟩
abbrev cX1_hits : ByteArray := prog_3_method_15_code
def yX1_hits : MethodName := ⟨RX1, "hits", "(I)I"⟩
abbrev cX1_count : ByteArray := prog_3_method_16_code
def yX1_count : MethodName := ⟨RX1, "count", "(I)I"⟩
def MALL_0 : List Cond := [Cond.initialized RX1, Cond.fieldLink RX1 38 "EntryTableModel" "keys" "I", Cond.fieldLink RX1 42 "EntryTableModel" "width" "I", Cond.fieldLink RX1 7 "EntryTableModel" "kind" "[I", Cond.fieldLink RX1 13 "EntryTableModel" "number" "[I", Cond.fieldLink RX1 16 "EntryTableModel" "priority" "[I", Cond.fieldLink RX1 19 "EntryTableModel" "hits" "[I", Cond.fieldLink RX1 22 "EntryTableModel" "value" "[J", Cond.fieldLink RX1 26 "EntryTableModel" "mask" "[J", Cond.fieldLink RX1 29 "EntryTableModel" "madeValue" "[J", Cond.fieldLink RX1 32 "EntryTableModel" "madeMask" "[J", Cond.fieldLink RX1 35 "EntryTableModel" "asked" "[J", Cond.fieldLink RX1 59 "EntryTableModel" "count" "I", Cond.fieldLink RX1 66 "EntryTableModel" "numbers" "I", Cond.fieldLink RX1 83 "EntryTableModel" "missed" "I", Cond.instanceMethod yX1_match, Cond.selects RX1 yX1_match yX1_match, Cond.code yX1_match cX1_match 6 (some .int), Cond.instanceMethod yX1_insert, Cond.selects RX1 yX1_insert yX1_insert, Cond.code yX1_insert cX1_insert 3 (some .int), Cond.methodLink RX1 55 yX1_good, Cond.instanceMethod yX1_good, Cond.code yX1_good cX1_good 2 (some .boolean)]
def MALL_1 : List Cond := [Cond.methodLink RX1 45 yX1_fits, Cond.instanceMethod yX1_fits, Cond.code yX1_fits cX1_fits 3 (some .boolean), Cond.constantLong RX1 49 (-1), Cond.methodLink RX1 51 yX1_bits, Cond.instanceMethod yX1_bits, Cond.code yX1_bits cX1_bits 3 (some .long), Cond.methodLink RX1 62 yX1_like, Cond.instanceMethod yX1_like, Cond.code yX1_like cX1_like 5 (some .boolean), Cond.instanceMethod yX1_remove, Cond.selects RX1 yX1_remove yX1_remove, Cond.code yX1_remove cX1_remove 5 (some .int), Cond.methodLink RX1 69 yX1_place, Cond.instanceMethod yX1_place, Cond.code yX1_place cX1_place 3 (some .int), Cond.instanceMethod yX1_find, Cond.selects RX1 yX1_find yX1_find, Cond.code yX1_find cX1_find 9 (some .int), Cond.methodLink RX1 77 yX1_matches, Cond.instanceMethod yX1_matches, Cond.code yX1_matches cX1_matches 6 (some .boolean), Cond.methodLink RX1 80 yX1_before, Cond.instanceMethod yX1_before]
def MALL_2 : List Cond := [Cond.code yX1_before cX1_before 3 (some .boolean), Cond.methodLink RX1 73 yX1_prefix, Cond.instanceMethod yX1_prefix, Cond.code yX1_prefix cX1_prefix 3 (some .long), Cond.instanceMethod yX1_nth, Cond.selects RX1 yX1_nth yX1_nth, Cond.code yX1_nth cX1_nth 5 (some .int), Cond.instanceMethod yX1_hits, Cond.selects RX1 yX1_hits yX1_hits, Cond.code yX1_hits cX1_hits 3 (some .int), Cond.instanceMethod yX1_count, Cond.selects RX1 yX1_count yX1_count, Cond.code yX1_count cX1_count 2 (some .int), Cond.selects RX1 yX1_good yX1_good, Cond.selects RX1 yX1_fits yX1_fits, Cond.selects RX1 yX1_bits yX1_bits, Cond.selects RX1 yX1_like yX1_like, Cond.selects RX1 yX1_place yX1_place, Cond.selects RX1 yX1_matches yX1_matches, Cond.selects RX1 yX1_before yX1_before, Cond.selects RX1 yX1_prefix yX1_prefix]
def MALL : List Cond := wsX10 ++ (MALL_0 ++ (MALL_1 ++ (MALL_2)))
def wsM_match : List Cond := .code yX1_match cX1_match 6 (some .int) :: MALL
def wsM_insert : List Cond := .code yX1_insert cX1_insert 3 (some .int) :: MALL
def wsM_good : List Cond := .code yX1_good cX1_good 2 (some .boolean) :: MALL
def wsM_fits : List Cond := .code yX1_fits cX1_fits 3 (some .boolean) :: MALL
def wsM_bits : List Cond := .code yX1_bits cX1_bits 3 (some .long) :: MALL
def wsM_like : List Cond := .code yX1_like cX1_like 5 (some .boolean) :: MALL
def wsM_remove : List Cond := .code yX1_remove cX1_remove 5 (some .int) :: MALL
def wsM_place : List Cond := .code yX1_place cX1_place 3 (some .int) :: MALL
def wsM_find : List Cond := .code yX1_find cX1_find 9 (some .int) :: MALL
def wsM_matches : List Cond := .code yX1_matches cX1_matches 6 (some .boolean) :: MALL
def wsM_before : List Cond := .code yX1_before cX1_before 3 (some .boolean) :: MALL
def wsM_prefix : List Cond := .code yX1_prefix cX1_prefix 3 (some .long) :: MALL
def wsM_nth : List Cond := .code yX1_nth cX1_nth 5 (some .int) :: MALL
def wsM_hits : List Cond := .code yX1_hits cX1_hits 3 (some .int) :: MALL
def wsM_count : List Cond := .code yX1_count cX1_count 2 (some .int) :: MALL
set_option maxRecDepth 100000 in
theorem MALL_good : GoodIn MALL MALL := goodIn_sub (fun _ h => h) (by decide +kernel)
theorem MALL_u : ∀ w ∈ wsX10, w ∈ MALL := fun _ h => List.mem_append_left _ h
theorem MALL_call {c1 : Cond} {idx n : Nat} {y : MethodName} {cc : ByteArray} {ret : Option FieldType} (hc : Cond.code y cc n ret ∈ MALL) (h4 : ∀ w ∈ ([.methodLink RX1 idx y, .instanceMethod y, .selects RX1 y y, .initialized RX1] : List Cond), w ∈ MALL) : GoodIn (c1 :: MALL) (wsV RX1 idx RX1 y (Cond.code y cc n ret :: MALL)) := by
  have up : ∀ w ∈ MALL, w ∈ c1 :: MALL ∧ ((w.onTables && w.keeps) = true ∨ ∃ ty, w = .arrayClass ty) := fun w h => ⟨List.mem_cons_of_mem _ h, (MALL_good w h).2⟩
  intro w hw
  rcases List.mem_append.mp hw with h | h
  · exact up w (h4 w h)
  · rcases List.mem_cons.mp h with rfl | h
    · exact up _ hc
    · exact up w h
theorem MALL_c_match : Cond.code yX1_match cX1_match 6 (some .int) ∈ MALL := List.mem_of_getElem? (i := 31) rfl
theorem MALL_c_insert : Cond.code yX1_insert cX1_insert 3 (some .int) ∈ MALL := List.mem_of_getElem? (i := 34) rfl
theorem MALL_c_good : Cond.code yX1_good cX1_good 2 (some .boolean) ∈ MALL := List.mem_of_getElem? (i := 37) rfl
theorem MALL_c_fits : Cond.code yX1_fits cX1_fits 3 (some .boolean) ∈ MALL := List.mem_of_getElem? (i := 40) rfl
theorem MALL_c_bits : Cond.code yX1_bits cX1_bits 3 (some .long) ∈ MALL := List.mem_of_getElem? (i := 44) rfl
theorem MALL_c_like : Cond.code yX1_like cX1_like 5 (some .boolean) ∈ MALL := List.mem_of_getElem? (i := 47) rfl
theorem MALL_c_remove : Cond.code yX1_remove cX1_remove 5 (some .int) ∈ MALL := List.mem_of_getElem? (i := 50) rfl
theorem MALL_c_place : Cond.code yX1_place cX1_place 3 (some .int) ∈ MALL := List.mem_of_getElem? (i := 53) rfl
theorem MALL_c_find : Cond.code yX1_find cX1_find 9 (some .int) ∈ MALL := List.mem_of_getElem? (i := 56) rfl
theorem MALL_c_matches : Cond.code yX1_matches cX1_matches 6 (some .boolean) ∈ MALL := List.mem_of_getElem? (i := 59) rfl
theorem MALL_c_before : Cond.code yX1_before cX1_before 3 (some .boolean) ∈ MALL := List.mem_of_getElem? (i := 62) rfl
theorem MALL_c_prefix : Cond.code yX1_prefix cX1_prefix 3 (some .long) ∈ MALL := List.mem_of_getElem? (i := 65) rfl
theorem MALL_c_nth : Cond.code yX1_nth cX1_nth 5 (some .int) ∈ MALL := List.mem_of_getElem? (i := 68) rfl
theorem MALL_c_hits : Cond.code yX1_hits cX1_hits 3 (some .int) ∈ MALL := List.mem_of_getElem? (i := 71) rfl
theorem MALL_c_count : Cond.code yX1_count cX1_count 2 (some .int) ∈ MALL := List.mem_of_getElem? (i := 74) rfl
set_option maxRecDepth 100000 in
theorem gM_good {c1 : Cond} : GoodIn (c1 :: MALL) (wsV RX1 55 RX1 yX1_good wsM_good) := MALL_call MALL_c_good (by decide +kernel)
set_option maxRecDepth 100000 in
theorem gM_fits {c1 : Cond} : GoodIn (c1 :: MALL) (wsV RX1 45 RX1 yX1_fits wsM_fits) := MALL_call MALL_c_fits (by decide +kernel)
set_option maxRecDepth 100000 in
theorem gM_bits {c1 : Cond} : GoodIn (c1 :: MALL) (wsV RX1 51 RX1 yX1_bits wsM_bits) := MALL_call MALL_c_bits (by decide +kernel)
set_option maxRecDepth 100000 in
theorem gM_like {c1 : Cond} : GoodIn (c1 :: MALL) (wsV RX1 62 RX1 yX1_like wsM_like) := MALL_call MALL_c_like (by decide +kernel)
set_option maxRecDepth 100000 in
theorem gM_place {c1 : Cond} : GoodIn (c1 :: MALL) (wsV RX1 69 RX1 yX1_place wsM_place) := MALL_call MALL_c_place (by decide +kernel)
set_option maxRecDepth 100000 in
theorem gM_matches {c1 : Cond} : GoodIn (c1 :: MALL) (wsV RX1 77 RX1 yX1_matches wsM_matches) := MALL_call MALL_c_matches (by decide +kernel)
set_option maxRecDepth 100000 in
theorem gM_before {c1 : Cond} : GoodIn (c1 :: MALL) (wsV RX1 80 RX1 yX1_before wsM_before) := MALL_call MALL_c_before (by decide +kernel)
set_option maxRecDepth 100000 in
theorem gM_prefix {c1 : Cond} : GoodIn (c1 :: MALL) (wsV RX1 73 RX1 yX1_prefix wsM_prefix) := MALL_call MALL_c_prefix (by decide +kernel)
theorem dX1_place_0 : decode cX1_place 0 = .ok (.iconst 0, 1) := by decide +kernel
theorem dX1_place_1 : decode cX1_place 1 = .ok (.istore_n 2, 1) := by decide +kernel
theorem dX1_place_2 : decode cX1_place 2 = .ok (.iload_n 2, 1) := by decide +kernel
theorem dX1_place_3 : decode cX1_place 3 = .ok (.aload_n 0, 1) := by decide +kernel
theorem dX1_place_4 : decode cX1_place 4 = .ok (.getfield 59, 3) := by decide +kernel
theorem dX1_place_7 : decode cX1_place 7 = .ok (.if_icmp .ge 21, 3) := by decide +kernel
theorem dX1_place_10 : decode cX1_place 10 = .ok (.aload_n 0, 1) := by decide +kernel
theorem dX1_place_11 : decode cX1_place 11 = .ok (.getfield 13, 3) := by decide +kernel
theorem dX1_place_14 : decode cX1_place 14 = .ok (.iload_n 2, 1) := by decide +kernel
theorem dX1_place_15 : decode cX1_place 15 = .ok (.iaload, 1) := by decide +kernel
theorem dX1_place_16 : decode cX1_place 16 = .ok (.iload_n 1, 1) := by decide +kernel
theorem dX1_place_17 : decode cX1_place 17 = .ok (.if_icmp .ne 5, 3) := by decide +kernel
theorem dX1_place_20 : decode cX1_place 20 = .ok (.iload_n 2, 1) := by decide +kernel
theorem dX1_place_21 : decode cX1_place 21 = .ok (.ireturn, 1) := by decide +kernel
theorem dX1_place_22 : decode cX1_place 22 = .ok (.iinc 2 1, 3) := by decide +kernel
theorem dX1_place_25 : decode cX1_place 25 = .ok (.goto (-23), 3) := by decide +kernel
theorem dX1_place_28 : decode cX1_place 28 = .ok (.iconst (-1), 1) := by decide +kernel
theorem dX1_place_29 : decode cX1_place 29 = .ok (.ireturn, 1) := by decide +kernel
theorem dX1_find_0 : decode cX1_find 0 = .ok (.aload_n 0, 1) := by decide +kernel
theorem dX1_find_1 : decode cX1_find 1 = .ok (.getfield 35, 3) := by decide +kernel
theorem dX1_find_4 : decode cX1_find 4 = .ok (.iconst 0, 1) := by decide +kernel
theorem dX1_find_5 : decode cX1_find 5 = .ok (.lload_n 1, 1) := by decide +kernel
theorem dX1_find_6 : decode cX1_find 6 = .ok (.lconst 1, 1) := by decide +kernel
theorem dX1_find_7 : decode cX1_find 7 = .ok (.aload_n 0, 1) := by decide +kernel
theorem dX1_find_8 : decode cX1_find 8 = .ok (.getfield 42, 3) := by decide +kernel
theorem dX1_find_11 : decode cX1_find 11 = .ok (.lshl, 1) := by decide +kernel
theorem dX1_find_12 : decode cX1_find 12 = .ok (.lconst 1, 1) := by decide +kernel
theorem dX1_find_13 : decode cX1_find 13 = .ok (.lsub, 1) := by decide +kernel
theorem dX1_find_14 : decode cX1_find 14 = .ok (.land, 1) := by decide +kernel
theorem dX1_find_15 : decode cX1_find 15 = .ok (.lastore, 1) := by decide +kernel
theorem dX1_find_16 : decode cX1_find 16 = .ok (.aload_n 0, 1) := by decide +kernel
theorem dX1_find_17 : decode cX1_find 17 = .ok (.getfield 35, 3) := by decide +kernel
theorem dX1_find_20 : decode cX1_find 20 = .ok (.iconst 1, 1) := by decide +kernel
theorem dX1_find_21 : decode cX1_find 21 = .ok (.lload_n 3, 1) := by decide +kernel
theorem dX1_find_22 : decode cX1_find 22 = .ok (.lconst 1, 1) := by decide +kernel
theorem dX1_find_23 : decode cX1_find 23 = .ok (.aload_n 0, 1) := by decide +kernel
theorem dX1_find_24 : decode cX1_find 24 = .ok (.getfield 42, 3) := by decide +kernel
theorem dX1_find_27 : decode cX1_find 27 = .ok (.lshl, 1) := by decide +kernel
theorem dX1_find_28 : decode cX1_find 28 = .ok (.lconst 1, 1) := by decide +kernel
theorem dX1_find_29 : decode cX1_find 29 = .ok (.lsub, 1) := by decide +kernel
theorem dX1_find_30 : decode cX1_find 30 = .ok (.land, 1) := by decide +kernel
theorem dX1_find_31 : decode cX1_find 31 = .ok (.lastore, 1) := by decide +kernel
theorem dX1_find_32 : decode cX1_find 32 = .ok (.aload_n 0, 1) := by decide +kernel
theorem dX1_find_33 : decode cX1_find 33 = .ok (.getfield 35, 3) := by decide +kernel
theorem dX1_find_36 : decode cX1_find 36 = .ok (.iconst 2, 1) := by decide +kernel
theorem dX1_find_37 : decode cX1_find 37 = .ok (.lload 5, 2) := by decide +kernel
theorem dX1_find_39 : decode cX1_find 39 = .ok (.lconst 1, 1) := by decide +kernel
theorem dX1_find_40 : decode cX1_find 40 = .ok (.aload_n 0, 1) := by decide +kernel
theorem dX1_find_41 : decode cX1_find 41 = .ok (.getfield 42, 3) := by decide +kernel
theorem dX1_find_44 : decode cX1_find 44 = .ok (.lshl, 1) := by decide +kernel
theorem dX1_find_45 : decode cX1_find 45 = .ok (.lconst 1, 1) := by decide +kernel
theorem dX1_find_46 : decode cX1_find 46 = .ok (.lsub, 1) := by decide +kernel
theorem dX1_find_47 : decode cX1_find 47 = .ok (.land, 1) := by decide +kernel
theorem dX1_find_48 : decode cX1_find 48 = .ok (.lastore, 1) := by decide +kernel
theorem dX1_find_49 : decode cX1_find 49 = .ok (.iconst (-1), 1) := by decide +kernel
theorem dX1_find_50 : decode cX1_find 50 = .ok (.istore 7, 2) := by decide +kernel
theorem dX1_find_52 : decode cX1_find 52 = .ok (.iconst 0, 1) := by decide +kernel
theorem dX1_find_53 : decode cX1_find 53 = .ok (.istore 8, 2) := by decide +kernel
theorem dX1_find_55 : decode cX1_find 55 = .ok (.iload 8, 2) := by decide +kernel
theorem dX1_find_57 : decode cX1_find 57 = .ok (.aload_n 0, 1) := by decide +kernel
theorem dX1_find_58 : decode cX1_find 58 = .ok (.getfield 59, 3) := by decide +kernel
theorem dX1_find_61 : decode cX1_find 61 = .ok (.if_icmp .ge 38, 3) := by decide +kernel
theorem dX1_find_64 : decode cX1_find 64 = .ok (.aload_n 0, 1) := by decide +kernel
theorem dX1_find_65 : decode cX1_find 65 = .ok (.iload 8, 2) := by decide +kernel
theorem dX1_find_67 : decode cX1_find 67 = .ok (.invokevirtual 77, 3) := by decide +kernel
theorem dX1_find_70 : decode cX1_find 70 = .ok (.ifCond .eq 23, 3) := by decide +kernel
theorem dX1_find_73 : decode cX1_find 73 = .ok (.iload 7, 2) := by decide +kernel
theorem dX1_find_75 : decode cX1_find 75 = .ok (.ifCond .lt 14, 3) := by decide +kernel
theorem dX1_find_78 : decode cX1_find 78 = .ok (.aload_n 0, 1) := by decide +kernel
theorem dX1_find_79 : decode cX1_find 79 = .ok (.iload 8, 2) := by decide +kernel
theorem dX1_find_81 : decode cX1_find 81 = .ok (.iload 7, 2) := by decide +kernel
theorem dX1_find_83 : decode cX1_find 83 = .ok (.invokevirtual 80, 3) := by decide +kernel
theorem dX1_find_86 : decode cX1_find 86 = .ok (.ifCond .eq 7, 3) := by decide +kernel
theorem dX1_find_89 : decode cX1_find 89 = .ok (.iload 8, 2) := by decide +kernel
theorem dX1_find_91 : decode cX1_find 91 = .ok (.istore 7, 2) := by decide +kernel
theorem dX1_find_93 : decode cX1_find 93 = .ok (.iinc 8 1, 3) := by decide +kernel
theorem dX1_find_96 : decode cX1_find 96 = .ok (.goto (-41), 3) := by decide +kernel
theorem dX1_find_99 : decode cX1_find 99 = .ok (.iload 7, 2) := by decide +kernel
theorem dX1_find_101 : decode cX1_find 101 = .ok (.ifCond .ge 16, 3) := by decide +kernel
theorem dX1_find_104 : decode cX1_find 104 = .ok (.aload_n 0, 1) := by decide +kernel
theorem dX1_find_105 : decode cX1_find 105 = .ok (.dup, 1) := by decide +kernel
theorem dX1_find_106 : decode cX1_find 106 = .ok (.getfield 83, 3) := by decide +kernel
theorem dX1_find_109 : decode cX1_find 109 = .ok (.iconst 1, 1) := by decide +kernel
theorem dX1_find_110 : decode cX1_find 110 = .ok (.iadd, 1) := by decide +kernel
theorem dX1_find_111 : decode cX1_find 111 = .ok (.putfield 83, 3) := by decide +kernel
theorem dX1_find_114 : decode cX1_find 114 = .ok (.bipush (-2), 2) := by decide +kernel
theorem dX1_find_116 : decode cX1_find 116 = .ok (.ireturn, 1) := by decide +kernel
theorem dX1_find_117 : decode cX1_find 117 = .ok (.aload_n 0, 1) := by decide +kernel
theorem dX1_find_118 : decode cX1_find 118 = .ok (.getfield 19, 3) := by decide +kernel
theorem dX1_find_121 : decode cX1_find 121 = .ok (.iload 7, 2) := by decide +kernel
theorem dX1_find_123 : decode cX1_find 123 = .ok (.dup2, 1) := by decide +kernel
theorem dX1_find_124 : decode cX1_find 124 = .ok (.iaload, 1) := by decide +kernel
theorem dX1_find_125 : decode cX1_find 125 = .ok (.iconst 1, 1) := by decide +kernel
theorem dX1_find_126 : decode cX1_find 126 = .ok (.iadd, 1) := by decide +kernel
theorem dX1_find_127 : decode cX1_find 127 = .ok (.iastore, 1) := by decide +kernel
theorem dX1_find_128 : decode cX1_find 128 = .ok (.aload_n 0, 1) := by decide +kernel
theorem dX1_find_129 : decode cX1_find 129 = .ok (.getfield 13, 3) := by decide +kernel
theorem dX1_find_132 : decode cX1_find 132 = .ok (.iload 7, 2) := by decide +kernel
theorem dX1_find_134 : decode cX1_find 134 = .ok (.iaload, 1) := by decide +kernel
theorem dX1_find_135 : decode cX1_find 135 = .ok (.ireturn, 1) := by decide +kernel
theorem dX1_matches_0 : decode cX1_matches 0 = .ok (.iconst 1, 1) := by decide +kernel
theorem dX1_matches_1 : decode cX1_matches 1 = .ok (.istore_n 2, 1) := by decide +kernel
theorem dX1_matches_2 : decode cX1_matches 2 = .ok (.iconst 0, 1) := by decide +kernel
theorem dX1_matches_3 : decode cX1_matches 3 = .ok (.istore_n 3, 1) := by decide +kernel
theorem dX1_matches_4 : decode cX1_matches 4 = .ok (.iload_n 3, 1) := by decide +kernel
theorem dX1_matches_5 : decode cX1_matches 5 = .ok (.aload_n 0, 1) := by decide +kernel
theorem dX1_matches_6 : decode cX1_matches 6 = .ok (.getfield 38, 3) := by decide +kernel
theorem dX1_matches_9 : decode cX1_matches 9 = .ok (.if_icmp .ge 96, 3) := by decide +kernel
theorem dX1_matches_12 : decode cX1_matches 12 = .ok (.aload_n 0, 1) := by decide +kernel
theorem dX1_matches_13 : decode cX1_matches 13 = .ok (.getfield 7, 3) := by decide +kernel
theorem dX1_matches_16 : decode cX1_matches 16 = .ok (.iload_n 3, 1) := by decide +kernel
theorem dX1_matches_17 : decode cX1_matches 17 = .ok (.iaload, 1) := by decide +kernel
theorem dX1_matches_18 : decode cX1_matches 18 = .ok (.ifCond .ne 9, 3) := by decide +kernel
theorem dX1_matches_21 : decode cX1_matches 21 = .ok (.ldc2_w 49, 3) := by decide +kernel
theorem dX1_matches_24 : decode cX1_matches 24 = .ok (.goto 40, 3) := by decide +kernel
theorem dX1_matches_27 : decode cX1_matches 27 = .ok (.aload_n 0, 1) := by decide +kernel
theorem dX1_matches_28 : decode cX1_matches 28 = .ok (.getfield 7, 3) := by decide +kernel
theorem dX1_matches_31 : decode cX1_matches 31 = .ok (.iload_n 3, 1) := by decide +kernel
theorem dX1_matches_32 : decode cX1_matches 32 = .ok (.iaload, 1) := by decide +kernel
theorem dX1_matches_33 : decode cX1_matches 33 = .ok (.iconst 1, 1) := by decide +kernel
theorem dX1_matches_34 : decode cX1_matches 34 = .ok (.if_icmp .ne 20, 3) := by decide +kernel
theorem dX1_matches_37 : decode cX1_matches 37 = .ok (.aload_n 0, 1) := by decide +kernel
theorem dX1_matches_38 : decode cX1_matches 38 = .ok (.aload_n 0, 1) := by decide +kernel
theorem dX1_matches_39 : decode cX1_matches 39 = .ok (.getfield 26, 3) := by decide +kernel
theorem dX1_matches_42 : decode cX1_matches 42 = .ok (.iconst 3, 1) := by decide +kernel
theorem dX1_matches_43 : decode cX1_matches 43 = .ok (.iload_n 1, 1) := by decide +kernel
theorem dX1_matches_44 : decode cX1_matches 44 = .ok (.imul, 1) := by decide +kernel
theorem dX1_matches_45 : decode cX1_matches 45 = .ok (.iload_n 3, 1) := by decide +kernel
theorem dX1_matches_46 : decode cX1_matches 46 = .ok (.iadd, 1) := by decide +kernel
theorem dX1_matches_47 : decode cX1_matches 47 = .ok (.laload, 1) := by decide +kernel
theorem dX1_matches_48 : decode cX1_matches 48 = .ok (.invokevirtual 51, 3) := by decide +kernel
theorem dX1_matches_51 : decode cX1_matches 51 = .ok (.goto 13, 3) := by decide +kernel
theorem dX1_matches_54 : decode cX1_matches 54 = .ok (.aload_n 0, 1) := by decide +kernel
theorem dX1_matches_55 : decode cX1_matches 55 = .ok (.getfield 26, 3) := by decide +kernel
theorem dX1_matches_58 : decode cX1_matches 58 = .ok (.iconst 3, 1) := by decide +kernel
theorem dX1_matches_59 : decode cX1_matches 59 = .ok (.iload_n 1, 1) := by decide +kernel
theorem dX1_matches_60 : decode cX1_matches 60 = .ok (.imul, 1) := by decide +kernel
theorem dX1_matches_61 : decode cX1_matches 61 = .ok (.iload_n 3, 1) := by decide +kernel
theorem dX1_matches_62 : decode cX1_matches 62 = .ok (.iadd, 1) := by decide +kernel
theorem dX1_matches_63 : decode cX1_matches 63 = .ok (.laload, 1) := by decide +kernel
theorem dX1_matches_64 : decode cX1_matches 64 = .ok (.lstore 4, 2) := by decide +kernel
theorem dX1_matches_66 : decode cX1_matches 66 = .ok (.iload_n 2, 1) := by decide +kernel
theorem dX1_matches_67 : decode cX1_matches 67 = .ok (.ifCond .eq 30, 3) := by decide +kernel
theorem dX1_matches_70 : decode cX1_matches 70 = .ok (.aload_n 0, 1) := by decide +kernel
theorem dX1_matches_71 : decode cX1_matches 71 = .ok (.getfield 35, 3) := by decide +kernel
theorem dX1_matches_74 : decode cX1_matches 74 = .ok (.iload_n 3, 1) := by decide +kernel
theorem dX1_matches_75 : decode cX1_matches 75 = .ok (.laload, 1) := by decide +kernel
theorem dX1_matches_76 : decode cX1_matches 76 = .ok (.lload 4, 2) := by decide +kernel
theorem dX1_matches_78 : decode cX1_matches 78 = .ok (.land, 1) := by decide +kernel
theorem dX1_matches_79 : decode cX1_matches 79 = .ok (.aload_n 0, 1) := by decide +kernel
theorem dX1_matches_80 : decode cX1_matches 80 = .ok (.getfield 22, 3) := by decide +kernel
theorem dX1_matches_83 : decode cX1_matches 83 = .ok (.iconst 3, 1) := by decide +kernel
theorem dX1_matches_84 : decode cX1_matches 84 = .ok (.iload_n 1, 1) := by decide +kernel
theorem dX1_matches_85 : decode cX1_matches 85 = .ok (.imul, 1) := by decide +kernel
theorem dX1_matches_86 : decode cX1_matches 86 = .ok (.iload_n 3, 1) := by decide +kernel
theorem dX1_matches_87 : decode cX1_matches 87 = .ok (.iadd, 1) := by decide +kernel
theorem dX1_matches_88 : decode cX1_matches 88 = .ok (.laload, 1) := by decide +kernel
theorem dX1_matches_89 : decode cX1_matches 89 = .ok (.lcmp, 1) := by decide +kernel
theorem dX1_matches_90 : decode cX1_matches 90 = .ok (.ifCond .ne 7, 3) := by decide +kernel
theorem dX1_matches_93 : decode cX1_matches 93 = .ok (.iconst 1, 1) := by decide +kernel
theorem dX1_matches_94 : decode cX1_matches 94 = .ok (.goto 4, 3) := by decide +kernel
theorem dX1_matches_97 : decode cX1_matches 97 = .ok (.iconst 0, 1) := by decide +kernel
theorem dX1_matches_98 : decode cX1_matches 98 = .ok (.istore_n 2, 1) := by decide +kernel
theorem dX1_matches_99 : decode cX1_matches 99 = .ok (.iinc 3 1, 3) := by decide +kernel
theorem dX1_matches_102 : decode cX1_matches 102 = .ok (.goto (-98), 3) := by decide +kernel
theorem dX1_matches_105 : decode cX1_matches 105 = .ok (.iload_n 2, 1) := by decide +kernel
theorem dX1_matches_106 : decode cX1_matches 106 = .ok (.ireturn, 1) := by decide +kernel
theorem dX1_before_0 : decode cX1_before 0 = .ok (.aload_n 0, 1) := by decide +kernel
theorem dX1_before_1 : decode cX1_before 1 = .ok (.iload_n 1, 1) := by decide +kernel
theorem dX1_before_2 : decode cX1_before 2 = .ok (.invokevirtual 73, 3) := by decide +kernel
theorem dX1_before_5 : decode cX1_before 5 = .ok (.aload_n 0, 1) := by decide +kernel
theorem dX1_before_6 : decode cX1_before 6 = .ok (.iload_n 2, 1) := by decide +kernel
theorem dX1_before_7 : decode cX1_before 7 = .ok (.invokevirtual 73, 3) := by decide +kernel
theorem dX1_before_10 : decode cX1_before 10 = .ok (.lcmp, 1) := by decide +kernel
theorem dX1_before_11 : decode cX1_before 11 = .ok (.ifCond .eq 23, 3) := by decide +kernel
theorem dX1_before_14 : decode cX1_before 14 = .ok (.aload_n 0, 1) := by decide +kernel
theorem dX1_before_15 : decode cX1_before 15 = .ok (.iload_n 1, 1) := by decide +kernel
theorem dX1_before_16 : decode cX1_before 16 = .ok (.invokevirtual 73, 3) := by decide +kernel
theorem dX1_before_19 : decode cX1_before 19 = .ok (.aload_n 0, 1) := by decide +kernel
theorem dX1_before_20 : decode cX1_before 20 = .ok (.iload_n 2, 1) := by decide +kernel
theorem dX1_before_21 : decode cX1_before 21 = .ok (.invokevirtual 73, 3) := by decide +kernel
theorem dX1_before_24 : decode cX1_before 24 = .ok (.lcmp, 1) := by decide +kernel
theorem dX1_before_25 : decode cX1_before 25 = .ok (.ifCond .le 7, 3) := by decide +kernel
theorem dX1_before_28 : decode cX1_before 28 = .ok (.iconst 1, 1) := by decide +kernel
theorem dX1_before_29 : decode cX1_before 29 = .ok (.goto 4, 3) := by decide +kernel
theorem dX1_before_32 : decode cX1_before 32 = .ok (.iconst 0, 1) := by decide +kernel
theorem dX1_before_33 : decode cX1_before 33 = .ok (.ireturn, 1) := by decide +kernel
theorem dX1_before_34 : decode cX1_before 34 = .ok (.aload_n 0, 1) := by decide +kernel
theorem dX1_before_35 : decode cX1_before 35 = .ok (.getfield 16, 3) := by decide +kernel
theorem dX1_before_38 : decode cX1_before 38 = .ok (.iload_n 1, 1) := by decide +kernel
theorem dX1_before_39 : decode cX1_before 39 = .ok (.iaload, 1) := by decide +kernel
theorem dX1_before_40 : decode cX1_before 40 = .ok (.aload_n 0, 1) := by decide +kernel
theorem dX1_before_41 : decode cX1_before 41 = .ok (.getfield 16, 3) := by decide +kernel
theorem dX1_before_44 : decode cX1_before 44 = .ok (.iload_n 2, 1) := by decide +kernel
theorem dX1_before_45 : decode cX1_before 45 = .ok (.iaload, 1) := by decide +kernel
theorem dX1_before_46 : decode cX1_before 46 = .ok (.if_icmp .eq 24, 3) := by decide +kernel
theorem dX1_before_49 : decode cX1_before 49 = .ok (.aload_n 0, 1) := by decide +kernel
theorem dX1_before_50 : decode cX1_before 50 = .ok (.getfield 16, 3) := by decide +kernel
theorem dX1_before_53 : decode cX1_before 53 = .ok (.iload_n 1, 1) := by decide +kernel
theorem dX1_before_54 : decode cX1_before 54 = .ok (.iaload, 1) := by decide +kernel
theorem dX1_before_55 : decode cX1_before 55 = .ok (.aload_n 0, 1) := by decide +kernel
theorem dX1_before_56 : decode cX1_before 56 = .ok (.getfield 16, 3) := by decide +kernel
theorem dX1_before_59 : decode cX1_before 59 = .ok (.iload_n 2, 1) := by decide +kernel
theorem dX1_before_60 : decode cX1_before 60 = .ok (.iaload, 1) := by decide +kernel
theorem dX1_before_61 : decode cX1_before 61 = .ok (.if_icmp .le 7, 3) := by decide +kernel
theorem dX1_before_64 : decode cX1_before 64 = .ok (.iconst 1, 1) := by decide +kernel
theorem dX1_before_65 : decode cX1_before 65 = .ok (.goto 4, 3) := by decide +kernel
theorem dX1_before_68 : decode cX1_before 68 = .ok (.iconst 0, 1) := by decide +kernel
theorem dX1_before_69 : decode cX1_before 69 = .ok (.ireturn, 1) := by decide +kernel
theorem dX1_before_70 : decode cX1_before 70 = .ok (.aload_n 0, 1) := by decide +kernel
theorem dX1_before_71 : decode cX1_before 71 = .ok (.getfield 13, 3) := by decide +kernel
theorem dX1_before_74 : decode cX1_before 74 = .ok (.iload_n 1, 1) := by decide +kernel
theorem dX1_before_75 : decode cX1_before 75 = .ok (.iaload, 1) := by decide +kernel
theorem dX1_before_76 : decode cX1_before 76 = .ok (.aload_n 0, 1) := by decide +kernel
theorem dX1_before_77 : decode cX1_before 77 = .ok (.getfield 13, 3) := by decide +kernel
theorem dX1_before_80 : decode cX1_before 80 = .ok (.iload_n 2, 1) := by decide +kernel
theorem dX1_before_81 : decode cX1_before 81 = .ok (.iaload, 1) := by decide +kernel
theorem dX1_before_82 : decode cX1_before 82 = .ok (.if_icmp .ge 7, 3) := by decide +kernel
theorem dX1_before_85 : decode cX1_before 85 = .ok (.iconst 1, 1) := by decide +kernel
theorem dX1_before_86 : decode cX1_before 86 = .ok (.goto 4, 3) := by decide +kernel
theorem dX1_before_89 : decode cX1_before 89 = .ok (.iconst 0, 1) := by decide +kernel
theorem dX1_before_90 : decode cX1_before 90 = .ok (.ireturn, 1) := by decide +kernel
theorem dX1_prefix_0 : decode cX1_prefix 0 = .ok (.iconst 0, 1) := by decide +kernel
theorem dX1_prefix_1 : decode cX1_prefix 1 = .ok (.istore_n 2, 1) := by decide +kernel
theorem dX1_prefix_2 : decode cX1_prefix 2 = .ok (.iload_n 2, 1) := by decide +kernel
theorem dX1_prefix_3 : decode cX1_prefix 3 = .ok (.aload_n 0, 1) := by decide +kernel
theorem dX1_prefix_4 : decode cX1_prefix 4 = .ok (.getfield 38, 3) := by decide +kernel
theorem dX1_prefix_7 : decode cX1_prefix 7 = .ok (.if_icmp .ge 30, 3) := by decide +kernel
theorem dX1_prefix_10 : decode cX1_prefix 10 = .ok (.aload_n 0, 1) := by decide +kernel
theorem dX1_prefix_11 : decode cX1_prefix 11 = .ok (.getfield 7, 3) := by decide +kernel
theorem dX1_prefix_14 : decode cX1_prefix 14 = .ok (.iload_n 2, 1) := by decide +kernel
theorem dX1_prefix_15 : decode cX1_prefix 15 = .ok (.iaload, 1) := by decide +kernel
theorem dX1_prefix_16 : decode cX1_prefix 16 = .ok (.iconst 1, 1) := by decide +kernel
theorem dX1_prefix_17 : decode cX1_prefix 17 = .ok (.if_icmp .ne 14, 3) := by decide +kernel
theorem dX1_prefix_20 : decode cX1_prefix 20 = .ok (.aload_n 0, 1) := by decide +kernel
theorem dX1_prefix_21 : decode cX1_prefix 21 = .ok (.getfield 26, 3) := by decide +kernel
theorem dX1_prefix_24 : decode cX1_prefix 24 = .ok (.iconst 3, 1) := by decide +kernel
theorem dX1_prefix_25 : decode cX1_prefix 25 = .ok (.iload_n 1, 1) := by decide +kernel
theorem dX1_prefix_26 : decode cX1_prefix 26 = .ok (.imul, 1) := by decide +kernel
theorem dX1_prefix_27 : decode cX1_prefix 27 = .ok (.iload_n 2, 1) := by decide +kernel
theorem dX1_prefix_28 : decode cX1_prefix 28 = .ok (.iadd, 1) := by decide +kernel
theorem dX1_prefix_29 : decode cX1_prefix 29 = .ok (.laload, 1) := by decide +kernel
theorem dX1_prefix_30 : decode cX1_prefix 30 = .ok (.lreturn, 1) := by decide +kernel
theorem dX1_prefix_31 : decode cX1_prefix 31 = .ok (.iinc 2 1, 3) := by decide +kernel
theorem dX1_prefix_34 : decode cX1_prefix 34 = .ok (.goto (-32), 3) := by decide +kernel
theorem dX1_prefix_37 : decode cX1_prefix 37 = .ok (.lconst 0, 1) := by decide +kernel
theorem dX1_prefix_38 : decode cX1_prefix 38 = .ok (.lreturn, 1) := by decide +kernel
theorem dX1_nth_0 : decode cX1_nth 0 = .ok (.iconst 0, 1) := by decide +kernel
theorem dX1_nth_1 : decode cX1_nth 1 = .ok (.istore_n 2, 1) := by decide +kernel
theorem dX1_nth_2 : decode cX1_nth 2 = .ok (.iload_n 2, 1) := by decide +kernel
theorem dX1_nth_3 : decode cX1_nth 3 = .ok (.aload_n 0, 1) := by decide +kernel
theorem dX1_nth_4 : decode cX1_nth 4 = .ok (.getfield 59, 3) := by decide +kernel
theorem dX1_nth_7 : decode cX1_nth 7 = .ok (.if_icmp .ge 59, 3) := by decide +kernel
theorem dX1_nth_10 : decode cX1_nth 10 = .ok (.iconst 0, 1) := by decide +kernel
theorem dX1_nth_11 : decode cX1_nth 11 = .ok (.istore_n 3, 1) := by decide +kernel
theorem dX1_nth_12 : decode cX1_nth 12 = .ok (.iconst 0, 1) := by decide +kernel
theorem dX1_nth_13 : decode cX1_nth 13 = .ok (.istore 4, 2) := by decide +kernel
theorem dX1_nth_15 : decode cX1_nth 15 = .ok (.iload 4, 2) := by decide +kernel
theorem dX1_nth_17 : decode cX1_nth 17 = .ok (.aload_n 0, 1) := by decide +kernel
theorem dX1_nth_18 : decode cX1_nth 18 = .ok (.getfield 59, 3) := by decide +kernel
theorem dX1_nth_21 : decode cX1_nth 21 = .ok (.if_icmp .ge 27, 3) := by decide +kernel
theorem dX1_nth_24 : decode cX1_nth 24 = .ok (.iload_n 3, 1) := by decide +kernel
theorem dX1_nth_25 : decode cX1_nth 25 = .ok (.aload_n 0, 1) := by decide +kernel
theorem dX1_nth_26 : decode cX1_nth 26 = .ok (.iload 4, 2) := by decide +kernel
theorem dX1_nth_28 : decode cX1_nth 28 = .ok (.iload_n 2, 1) := by decide +kernel
theorem dX1_nth_29 : decode cX1_nth 29 = .ok (.invokevirtual 80, 3) := by decide +kernel
theorem dX1_nth_32 : decode cX1_nth 32 = .ok (.ifCond .eq 7, 3) := by decide +kernel
theorem dX1_nth_35 : decode cX1_nth 35 = .ok (.iconst 1, 1) := by decide +kernel
theorem dX1_nth_36 : decode cX1_nth 36 = .ok (.goto 4, 3) := by decide +kernel
theorem dX1_nth_39 : decode cX1_nth 39 = .ok (.iconst 0, 1) := by decide +kernel
theorem dX1_nth_40 : decode cX1_nth 40 = .ok (.iadd, 1) := by decide +kernel
theorem dX1_nth_41 : decode cX1_nth 41 = .ok (.istore_n 3, 1) := by decide +kernel
theorem dX1_nth_42 : decode cX1_nth 42 = .ok (.iinc 4 1, 3) := by decide +kernel
theorem dX1_nth_45 : decode cX1_nth 45 = .ok (.goto (-30), 3) := by decide +kernel
theorem dX1_nth_48 : decode cX1_nth 48 = .ok (.iload_n 3, 1) := by decide +kernel
theorem dX1_nth_49 : decode cX1_nth 49 = .ok (.iload_n 1, 1) := by decide +kernel
theorem dX1_nth_50 : decode cX1_nth 50 = .ok (.if_icmp .ne 10, 3) := by decide +kernel
theorem dX1_nth_53 : decode cX1_nth 53 = .ok (.aload_n 0, 1) := by decide +kernel
theorem dX1_nth_54 : decode cX1_nth 54 = .ok (.getfield 13, 3) := by decide +kernel
theorem dX1_nth_57 : decode cX1_nth 57 = .ok (.iload_n 2, 1) := by decide +kernel
theorem dX1_nth_58 : decode cX1_nth 58 = .ok (.iaload, 1) := by decide +kernel
theorem dX1_nth_59 : decode cX1_nth 59 = .ok (.ireturn, 1) := by decide +kernel
theorem dX1_nth_60 : decode cX1_nth 60 = .ok (.iinc 2 1, 3) := by decide +kernel
theorem dX1_nth_63 : decode cX1_nth 63 = .ok (.goto (-61), 3) := by decide +kernel
theorem dX1_nth_66 : decode cX1_nth 66 = .ok (.bipush (-2), 2) := by decide +kernel
theorem dX1_nth_68 : decode cX1_nth 68 = .ok (.ireturn, 1) := by decide +kernel
theorem dX1_hits_0 : decode cX1_hits 0 = .ok (.aload_n 0, 1) := by decide +kernel
theorem dX1_hits_1 : decode cX1_hits 1 = .ok (.iload_n 1, 1) := by decide +kernel
theorem dX1_hits_2 : decode cX1_hits 2 = .ok (.invokevirtual 69, 3) := by decide +kernel
theorem dX1_hits_5 : decode cX1_hits 5 = .ok (.istore_n 2, 1) := by decide +kernel
theorem dX1_hits_6 : decode cX1_hits 6 = .ok (.iload_n 2, 1) := by decide +kernel
theorem dX1_hits_7 : decode cX1_hits 7 = .ok (.ifCond .ge 8, 3) := by decide +kernel
theorem dX1_hits_10 : decode cX1_hits 10 = .ok (.bipush (-2), 2) := by decide +kernel
theorem dX1_hits_12 : decode cX1_hits 12 = .ok (.goto 9, 3) := by decide +kernel
theorem dX1_hits_15 : decode cX1_hits 15 = .ok (.aload_n 0, 1) := by decide +kernel
theorem dX1_hits_16 : decode cX1_hits 16 = .ok (.getfield 19, 3) := by decide +kernel
theorem dX1_hits_19 : decode cX1_hits 19 = .ok (.iload_n 2, 1) := by decide +kernel
theorem dX1_hits_20 : decode cX1_hits 20 = .ok (.iaload, 1) := by decide +kernel
theorem dX1_hits_21 : decode cX1_hits 21 = .ok (.ireturn, 1) := by decide +kernel
theorem dX1_count_0 : decode cX1_count 0 = .ok (.iload_n 1, 1) := by decide +kernel
theorem dX1_count_1 : decode cX1_count 1 = .ok (.tableswitch 72 0 6 #[43, 48, 53, 58, 63, 63, 63], 43) := by decide +kernel
theorem dX1_count_44 : decode cX1_count 44 = .ok (.aload_n 0, 1) := by decide +kernel
theorem dX1_count_45 : decode cX1_count 45 = .ok (.getfield 38, 3) := by decide +kernel
theorem dX1_count_48 : decode cX1_count 48 = .ok (.ireturn, 1) := by decide +kernel
theorem dX1_count_49 : decode cX1_count 49 = .ok (.aload_n 0, 1) := by decide +kernel
theorem dX1_count_50 : decode cX1_count 50 = .ok (.getfield 42, 3) := by decide +kernel
theorem dX1_count_53 : decode cX1_count 53 = .ok (.ireturn, 1) := by decide +kernel
theorem dX1_count_54 : decode cX1_count 54 = .ok (.aload_n 0, 1) := by decide +kernel
theorem dX1_count_55 : decode cX1_count 55 = .ok (.getfield 59, 3) := by decide +kernel
theorem dX1_count_58 : decode cX1_count 58 = .ok (.ireturn, 1) := by decide +kernel
theorem dX1_count_59 : decode cX1_count 59 = .ok (.aload_n 0, 1) := by decide +kernel
theorem dX1_count_60 : decode cX1_count 60 = .ok (.getfield 83, 3) := by decide +kernel
theorem dX1_count_63 : decode cX1_count 63 = .ok (.ireturn, 1) := by decide +kernel
theorem dX1_count_64 : decode cX1_count 64 = .ok (.aload_n 0, 1) := by decide +kernel
theorem dX1_count_65 : decode cX1_count 65 = .ok (.getfield 7, 3) := by decide +kernel
theorem dX1_count_68 : decode cX1_count 68 = .ok (.iload_n 1, 1) := by decide +kernel
theorem dX1_count_69 : decode cX1_count 69 = .ok (.iconst 4, 1) := by decide +kernel
theorem dX1_count_70 : decode cX1_count 70 = .ok (.isub, 1) := by decide +kernel
theorem dX1_count_71 : decode cX1_count 71 = .ok (.iaload, 1) := by decide +kernel
theorem dX1_count_72 : decode cX1_count 72 = .ok (.ireturn, 1) := by decide +kernel
theorem dX1_count_73 : decode cX1_count 73 = .ok (.iconst (-1), 1) := by decide +kernel
theorem dX1_count_74 : decode cX1_count 74 = .ok (.ireturn, 1) := by decide +kernel
end
section
/-- the cells of the system: the object and its rows, at the addresses q, with the row types cs -/
abbrev XW (q : Nat → Nat) (cs : Nat → ClassId) (ky : Int32) (wd : Int32) (ab : Int64) (kd : Nat → Int32) (dv : Nat → Int64) (dm : Nat → Int64) (ord : Nat → Int32) (en : Int32) (nn : Int32) (ms : Int32) (nums : Nat → Int32) (pris : Nat → Int32) (pres : Nat → Int32) (fins : Nat → Int32) (vals : Nat → Int64) (msks : Nat → Int64) : va_W := [(q 0, .inr (0, [.int ky, .int wd, .long ab, .ref (q 1), .ref (q 2), .ref (q 3), .ref (q 4), .int en, .int nn, .int ms, .ref (q 5), .ref (q 6), .ref (q 7), .ref (q 8), .ref (q 9), .ref (q 10)])), (q 1, .inl (cs 1, 3, .inl kd)), (q 2, .inl (cs 2, 3, .inr (.inl dv))), (q 3, .inl (cs 3, 3, .inr (.inl dm))), (q 4, .inl (cs 4, 24, .inl ord)), (q 5, .inl (cs 5, 24, .inl nums)), (q 6, .inl (cs 6, 24, .inl pris)), (q 7, .inl (cs 7, 24, .inl pres)), (q 8, .inl (cs 8, 24, .inl fins)), (q 9, .inl (cs 9, 72, .inr (.inl vals))), (q 10, .inl (cs 10, 72, .inr (.inl msks)))]
abbrev XTy (cs : Nat → ClassId) : List (ClassId × FieldType) := [(cs 1, .int), (cs 2, .long), (cs 3, .long), (cs 4, .int), (cs 5, .int), (cs 6, .int), (cs 7, .int), (cs 8, .int), (cs 9, .long), (cs 10, .long)]
/-- the cells of the reference: the object and its rows, at the addresses q, with the row types cs -/
abbrev MW (q : Nat → Nat) (cs : Nat → ClassId) (ky : Int32) (wd : Int32) (kd : Nat → Int32) (num : Nat → Int32) (pri : Nat → Int32) (hit : Nat → Int32) (val : Nat → Int64) (msk : Nat → Int64) (mv : Nat → Int64) (mm : Nat → Int64) (ask : Nat → Int64) (cnt : Int32) (nn : Int32) (ms : Int32) : va_W := [(q 0, .inr (1, [.int ky, .int wd, .ref (q 1), .ref (q 2), .ref (q 3), .ref (q 4), .ref (q 5), .ref (q 6), .ref (q 7), .ref (q 8), .ref (q 9), .int cnt, .int nn, .int ms])), (q 1, .inl (cs 1, 3, .inl kd)), (q 2, .inl (cs 2, 24, .inl num)), (q 3, .inl (cs 3, 24, .inl pri)), (q 4, .inl (cs 4, 24, .inl hit)), (q 5, .inl (cs 5, 72, .inr (.inl val))), (q 6, .inl (cs 6, 72, .inr (.inl msk))), (q 7, .inl (cs 7, 3, .inr (.inl mv))), (q 8, .inl (cs 8, 3, .inr (.inl mm))), (q 9, .inl (cs 9, 3, .inr (.inl ask)))]
abbrev MTy (cs : Nat → ClassId) : List (ClassId × FieldType) := [(cs 1, .int), (cs 2, .int), (cs 3, .int), (cs 4, .int), (cs 5, .long), (cs 6, .long), (cs 7, .long), (cs 8, .long), (cs 9, .long)]
/-- what is left of the two worlds, over lists of entries -/
def et_SX (q : Nat → Nat) (cs : Nat → ClassId) (K w : Nat) (kd : Nat → Int32) : et_St := fun dv dm N ms L wd => ∃ (o : Nat → Nat) (ord nums pris pres fins : Nat → Int32) (vals msks : Nat → Int64), et_CR K w kd L o ord nums pris pres fins vals msks ∧ wd = XW q cs (nI K) (nI w) (et_ab w) kd dv dm ord (nI L.length) (nI N) ms nums pris pres fins vals msks
def et_SM (q : Nat → Nat) (cs : Nat → ClassId) (K w : Nat) (kd : Nat → Int32) : et_St := fun dv dm N ms B wd => ∃ (num pri hit : Nat → Int32) (val msk ask : Nat → Int64), et_RR B num pri hit val msk ∧ wd = MW q cs (nI K) (nI w) kd num pri hit val msk dv dm ask (nI B.length) (nI N) ms
end
section
set_option maxHeartbeats 4000000 in
set_option maxRecDepth 100000 in
theorem tX_isNumber (l : Launch) (D : va_G) (q : Nat → Nat) (cs : Nat → ClassId) {K E : Nat} {wd : Int32} {ab : Int64} {kd : Nat → Int32} {dv dm : Nat → Int64} {ord : Nat → Int32} {nn ms : Int32} {nums pris pres fins : Nat → Int32} {vals msks : Nat → Int64} (x : Int64) : eb_MI l D vwCl (XTy cs) yX0_isNumber wsX0_isNumber { frames := 0, cells := 0, slots := 0, locals := 0 } [.ref (q 0), .long x] (XW q cs (nI K) wd ab kd dv dm ord (nI E) nn ms nums pris pres fins vals msks) (fun r w1 => w1 = XW q cs (nI K) wd ab kd dv dm ord (nI E) nn ms nums pris pres fins vals msks ∧ (((et_num ab x) ∧ r = 1) ∨ (¬ (et_num ab x) ∧ r = 0))) := by
  refine eb_openI (cc := cX0_isNumber) (maxL := 3) (ret := (some .boolean)) (by decide +kernel) rfl (Nat.le_of_ble_eq_true rfl) ?_
  intro p e s m below meth c A ls H locs hx hb hr hts hown hlk hml hP hK hD hA hS hl
  have hU : ∀ w ∈ wsX00, w ∈ wsX0_isNumber := fun w h => List.mem_cons_of_mem _ (List.mem_append_right _ h)
  have hf_allBits := hts (.fieldLink RX0 66 "EntryTable" "allBits" "J") (by decide +kernel)
  have hl : lv_has ls 3 [(0, .ref (q 0)), (1, .long x)] := hl
  refine lv_lload_n hx hb dX0_isNumber_0 rfl (lv_at hl 1 rfl) ?_
  refine lv_lconst (v := 0) hx hb dX0_isNumber_1 (by decide) ?_
  refine W.lcmp hx hb dX0_isNumber_2 ?_
  refine lv_if_lt (tgt := 19) hx hb dX0_isNumber_3 (by decide) (fun c3 => ?_) (fun c3 => ?_)
  · rw [lg_cmp_lt, ← Int64.not_le] at c3
    refine lv_iconst (v := 0) hx hb dX0_isNumber_19 (by decide) ?_
    refine eb_zret hx hb hr hlk hK hP hD hS dX0_isNumber_20 (by decide) ?_
    exact ⟨rfl, Or.inr ⟨by simp only [et_num, c3, true_and, and_true, true_or, or_true, false_and, and_false, false_or, or_false, if_true, if_false, not_true_eq_false, not_false_eq_true, implies_true], rfl⟩⟩
  · rw [lg_cmp_lt, Int64.not_lt] at c3
    refine lv_lload_n hx hb dX0_isNumber_6 rfl (lv_at hl 1 rfl) ?_
    refine lv_aload_n hx hb dX0_isNumber_7 rfl (lv_at hl 0 rfl) ?_
    refine va_get (D := D) (ci := 0) (C := RX0) (T := TX0) (N := 16) hx hb hts hU hown hK hP 0 rfl rfl 2 (by decide) hf_allBits (fun _ h9 => h9) rfl dX0_isNumber_8 ?_
    refine W.lcmp hx hb dX0_isNumber_11 ?_
    refine lv_if_gt (tgt := 19) hx hb dX0_isNumber_12 (by decide) (fun c12 => ?_) (fun c12 => ?_)
    · rw [lg_cmp_gt, ← Int64.not_le] at c12
      refine lv_iconst (v := 0) hx hb dX0_isNumber_19 (by decide) ?_
      refine eb_zret hx hb hr hlk hK hP hD hS dX0_isNumber_20 (by decide) ?_
      exact ⟨rfl, Or.inr ⟨by simp only [et_num, c3, c12, true_and, and_true, true_or, or_true, false_and, and_false, false_or, or_false, if_true, if_false, not_true_eq_false, not_false_eq_true, implies_true], rfl⟩⟩
    · rw [lg_cmp_gt, Int64.not_lt] at c12
      refine lv_iconst (v := 1) hx hb dX0_isNumber_15 (by decide) ?_
      refine lv_goto (tgt := 20) hx hb dX0_isNumber_16 (by decide) ?_
      refine eb_zret hx hb hr hlk hK hP hD hS dX0_isNumber_20 (by decide) ?_
      exact ⟨rfl, Or.inl ⟨by simp only [et_num, c3, c12, true_and, and_true, true_or, or_true, false_and, and_false, false_or, or_false, if_true, if_false, not_true_eq_false, not_false_eq_true, implies_true], rfl⟩⟩

set_option maxHeartbeats 4000000 in
set_option maxRecDepth 100000 in
theorem tX_draftBits (l : Launch) (D : va_G) (q : Nat → Nat) (cs : Nat → ClassId) {K E : Nat} {wd : Int32} {ab : Int64} {kd : Nat → Int32} {dv dm : Nat → Int64} {ord : Nat → Int32} {nn ms : Int32} {nums pris pres fins : Nat → Int32} {vals msks : Nat → Int64} (k : Nat) (hk : k < 3) : eb_ML l D vwCl (XTy cs) yX0_draftBits wsX0_draftBits { frames := 0, cells := 0, slots := 0, locals := 0 } [.ref (q 0), .int (nI k)] (XW q cs (nI K) wd ab kd dv dm ord (nI E) nn ms nums pris pres fins vals msks) (fun r w1 => w1 = XW q cs (nI K) wd ab kd dv dm ord (nI E) nn ms nums pris pres fins vals msks ∧ r = et_db ab (kd k) (dm k)) := by
  refine eb_openL (cc := cX0_draftBits) (maxL := 2) (ret := (some .long)) (by decide +kernel) rfl (Nat.le_of_ble_eq_true rfl) ?_
  intro p e s m below meth c A ls H locs hx hb hr hts hown hlk hml hP hK hD hA hS hl
  have hU : ∀ w ∈ wsX00, w ∈ wsX0_draftBits := fun w h => List.mem_cons_of_mem _ (List.mem_append_right _ h)
  have hf_kinds := hts (.fieldLink RX0 9 "EntryTable" "kinds" "[I") (by decide +kernel)
  have hf_draftMasks := hts (.fieldLink RX0 17 "EntryTable" "draftMasks" "[J") (by decide +kernel)
  have hf_allBits := hts (.fieldLink RX0 66 "EntryTable" "allBits" "J") (by decide +kernel)
  have hl : lv_has ls 2 [(0, .ref (q 0)), (1, .int (nI k))] := hl
  refine lv_aload_n hx hb dX0_draftBits_0 rfl (lv_at hl 0 rfl) ?_
  refine va_get (D := D) (ci := 0) (C := RX0) (T := TX0) (N := 16) hx hb hts hU hown hK hP 0 rfl rfl 3 (by decide) hf_kinds (fun _ h9 => h9) rfl dX0_draftBits_1 ?_
  refine lv_iload_n hx hb dX0_draftBits_4 rfl (lv_at hl 1 rfl) ?_
  refine eb_iald hx hb hK hP 1 0 rfl rfl (k) (by omega) (by decide) dX0_draftBits_5 ?_
  refine lv_if_ne (tgt := 14) hx hb dX0_draftBits_6 (by decide) (fun c6 => ?_) (fun c6 => ?_)
  · refine lv_aload_n hx hb dX0_draftBits_14 rfl (lv_at hl 0 rfl) ?_
    refine va_get (D := D) (ci := 0) (C := RX0) (T := TX0) (N := 16) hx hb hts hU hown hK hP 0 rfl rfl 3 (by decide) hf_kinds (fun _ h9 => h9) rfl dX0_draftBits_15 ?_
    refine lv_iload_n hx hb dX0_draftBits_18 rfl (lv_at hl 1 rfl) ?_
    refine eb_iald hx hb hK hP 1 0 rfl rfl (k) (by omega) (by decide) dX0_draftBits_19 ?_
    refine lv_iconst (v := 1) hx hb dX0_draftBits_20 (by decide) ?_
    refine lv_icmp_ne (tgt := 42) hx hb dX0_draftBits_21 (by decide) (fun c21 => ?_) (fun c21 => ?_)
    · refine lv_aload_n hx hb dX0_draftBits_42 rfl (lv_at hl 0 rfl) ?_
      refine va_get (D := D) (ci := 0) (C := RX0) (T := TX0) (N := 16) hx hb hts hU hown hK hP 0 rfl rfl 5 (by decide) hf_draftMasks (fun _ h9 => h9) rfl dX0_draftBits_43 ?_
      refine lv_iload_n hx hb dX0_draftBits_46 rfl (lv_at hl 1 rfl) ?_
      refine eb_lald hx hb hK hP 3 2 rfl rfl (k) (by omega) (by decide) dX0_draftBits_47 ?_
      refine eb_lret hx hb hr hlk hK hP hD hS dX0_draftBits_48 ?_
      exact ⟨rfl, by unfold et_db; rw [if_neg c6, if_neg c21]⟩
    · refine lv_aload_n hx hb dX0_draftBits_24 rfl (lv_at hl 0 rfl) ?_
      refine va_get (D := D) (ci := 0) (C := RX0) (T := TX0) (N := 16) hx hb hts hU hown hK hP 0 rfl rfl 2 (by decide) hf_allBits (fun _ h9 => h9) rfl dX0_draftBits_25 ?_
      refine lv_aload_n hx hb dX0_draftBits_28 rfl (lv_at hl 0 rfl) ?_
      refine va_get (D := D) (ci := 0) (C := RX0) (T := TX0) (N := 16) hx hb hts hU hown hK hP 0 rfl rfl 2 (by decide) hf_allBits (fun _ h9 => h9) rfl dX0_draftBits_29 ?_
      refine lv_aload_n hx hb dX0_draftBits_32 rfl (lv_at hl 0 rfl) ?_
      refine va_get (D := D) (ci := 0) (C := RX0) (T := TX0) (N := 16) hx hb hts hU hown hK hP 0 rfl rfl 5 (by decide) hf_draftMasks (fun _ h9 => h9) rfl dX0_draftBits_33 ?_
      refine lv_iload_n hx hb dX0_draftBits_36 rfl (lv_at hl 1 rfl) ?_
      refine eb_lald hx hb hK hP 3 2 rfl rfl (k) (by omega) (by decide) dX0_draftBits_37 ?_
      refine lv_l2i hx hb dX0_draftBits_38 rfl ?_
      refine lv_lushr hx hb dX0_draftBits_39 rfl ?_
      refine lv_lxor hx hb dX0_draftBits_40 ?_
      refine eb_lret hx hb hr hlk hK hP hD hS dX0_draftBits_41 ?_
      exact ⟨rfl, by unfold et_db; rw [if_neg c6, if_pos c21]⟩
  · refine lv_aload_n hx hb dX0_draftBits_9 rfl (lv_at hl 0 rfl) ?_
    refine va_get (D := D) (ci := 0) (C := RX0) (T := TX0) (N := 16) hx hb hts hU hown hK hP 0 rfl rfl 2 (by decide) hf_allBits (fun _ h9 => h9) rfl dX0_draftBits_10 ?_
    refine eb_lret hx hb hr hlk hK hP hD hS dX0_draftBits_13 ?_
    exact ⟨rfl, by unfold et_db; rw [if_pos c6]⟩

set_option maxHeartbeats 4000000 in
set_option maxRecDepth 100000 in
theorem tX_fits (l : Launch) (D : va_G) (q : Nat → Nat) (cs : Nat → ClassId) {K E : Nat} {wd : Int32} {ab : Int64} {kd : Nat → Int32} {dv dm : Nat → Int64} {ord : Nat → Int32} {nn ms : Int32} {nums pris pres fins : Nat → Int32} {vals msks : Nat → Int64} (s0 k : Nat) (hs0 : s0 < 24) (hk : k < 3) (x : Int64) : eb_MI l D vwCl (XTy cs) yX0_fits wsX0_fits { frames := 0, cells := 0, slots := 0, locals := 0 } [.ref (q 0), .int (nI s0), .int (nI k), .long x] (XW q cs (nI K) wd ab kd dv dm ord (nI E) nn ms nums pris pres fins vals msks) (fun r w1 => w1 = XW q cs (nI K) wd ab kd dv dm ord (nI E) nn ms nums pris pres fins vals msks ∧ (((x &&& msks (s0 * 3 + k) = vals (s0 * 3 + k)) ∧ r = 1) ∨ (¬ (x &&& msks (s0 * 3 + k) = vals (s0 * 3 + k)) ∧ r = 0))) := by
  refine eb_openI (cc := cX0_fits) (maxL := 6) (ret := (some .boolean)) (by decide +kernel) rfl (Nat.le_of_ble_eq_true rfl) ?_
  intro p e s m below meth c A ls H locs hx hb hr hts hown hlk hml hP hK hD hA hS hl
  have hU : ∀ w ∈ wsX00, w ∈ wsX0_fits := fun w h => List.mem_cons_of_mem _ (List.mem_append_right _ h)
  have hf_masks := hts (.fieldLink RX0 48 "EntryTable" "masks" "[J") (by decide +kernel)
  have hf_values := hts (.fieldLink RX0 45 "EntryTable" "values" "[J") (by decide +kernel)
  have hl : lv_has ls 6 [(0, .ref (q 0)), (1, .int (nI s0)), (2, .int (nI k)), (3, .long x)] := hl
  refine lv_iload_n hx hb dX0_fits_0 rfl (lv_at hl 1 rfl) ?_
  refine lv_iconst (v := 3) hx hb dX0_fits_1 (by decide) ?_
  refine lv_imul hx hb dX0_fits_2 ?_
  refine eb_ti (nI (s0 * 3)) (pk_mul s0 3) ?_
  refine lv_iload_n hx hb dX0_fits_3 rfl (lv_at hl 2 rfl) ?_
  refine lv_iadd hx hb dX0_fits_4 ?_
  refine eb_ti (nI ((s0 * 3) + k)) (nI_add (s0 * 3) k) ?_
  refine lv_istore hx hb dX0_fits_5 hl (by decide) rfl (fun ls hl => ?_)
  have hl : lv_has ls 6 [(5, .int (nI ((s0 * 3) + k))), (0, .ref (q 0)), (1, .int (nI s0)), (2, .int (nI k)), (3, .long x)] := hl
  refine lv_lload_n hx hb dX0_fits_7 rfl (lv_at hl 4 rfl) ?_
  refine lv_aload_n hx hb dX0_fits_8 rfl (lv_at hl 1 rfl) ?_
  refine va_get (D := D) (ci := 0) (C := RX0) (T := TX0) (N := 16) hx hb hts hU hown hK hP 0 rfl rfl 15 (by decide) hf_masks (fun _ h9 => h9) rfl dX0_fits_9 ?_
  refine lv_iload hx hb dX0_fits_12 (lv_at hl 0 rfl) ?_
  refine eb_lald hx hb hK hP 10 9 rfl rfl ((s0 * 3) + k) (by omega) (by decide) dX0_fits_14 ?_
  refine lv_land hx hb dX0_fits_15 ?_
  refine lv_aload_n hx hb dX0_fits_16 rfl (lv_at hl 1 rfl) ?_
  refine va_get (D := D) (ci := 0) (C := RX0) (T := TX0) (N := 16) hx hb hts hU hown hK hP 0 rfl rfl 14 (by decide) hf_values (fun _ h9 => h9) rfl dX0_fits_17 ?_
  refine lv_iload hx hb dX0_fits_20 (lv_at hl 0 rfl) ?_
  refine eb_lald hx hb hK hP 9 8 rfl rfl ((s0 * 3) + k) (by omega) (by decide) dX0_fits_22 ?_
  refine W.lcmp hx hb dX0_fits_23 ?_
  refine lv_if_ne (tgt := 31) hx hb dX0_fits_24 (by decide) (fun c24 => ?_) (fun c24 => ?_)
  · rw [lg_cmp_eq] at c24
    refine lv_iconst (v := 0) hx hb dX0_fits_31 (by decide) ?_
    refine eb_zret hx hb hr hlk hK hP hD hS dX0_fits_32 (by decide) ?_
    exact ⟨rfl, Or.inr ⟨by simp only [c24, true_and, and_true, true_or, or_true, false_and, and_false, false_or, or_false, if_true, if_false, not_true_eq_false, not_false_eq_true, implies_true], rfl⟩⟩
  · rw [lg_cmp_eq] at c24
    refine lv_iconst (v := 1) hx hb dX0_fits_27 (by decide) ?_
    refine lv_goto (tgt := 32) hx hb dX0_fits_28 (by decide) ?_
    refine eb_zret hx hb hr hlk hK hP hD hS dX0_fits_32 (by decide) ?_
    exact ⟨rfl, Or.inl ⟨by simp only [eq_true c24, true_and, and_true, true_or, or_true, false_and, and_false, false_or, or_false, if_true, if_false, not_true_eq_false, not_false_eq_true, implies_true], rfl⟩⟩

set_option maxHeartbeats 4000000 in
set_option maxRecDepth 100000 in
theorem tX_isDraftKeySound (l : Launch) (D : va_G) (q : Nat → Nat) (cs : Nat → ClassId) {K E : Nat} {wd : Int32} {ab : Int64} {kd : Nat → Int32} {dv dm : Nat → Int64} {ord : Nat → Int32} {nn ms : Int32} {nums pris pres fins : Nat → Int32} {vals msks : Nat → Int64} (k : Nat) (hk : k < 3) : eb_MI l D vwCl (XTy cs) yX0_isDraftKeySound wsX0_isDraftKeySound { frames := 1, cells := 0, slots := 0, locals := 40 } [.ref (q 0), .int (nI k)] (XW q cs (nI K) wd ab kd dv dm ord (nI E) nn ms nums pris pres fins vals msks) (fun r w1 => w1 = XW q cs (nI K) wd ab kd dv dm ord (nI E) nn ms nums pris pres fins vals msks ∧ (((et_ks ab wd (kd k) (dv k) (dm k)) ∧ r = 1) ∨ (¬ (et_ks ab wd (kd k) (dv k) (dm k)) ∧ r = 0))) := by
  refine eb_openI (cc := cX0_isDraftKeySound) (maxL := 3) (ret := (some .boolean)) (by decide +kernel) rfl (Nat.le_of_ble_eq_true rfl) ?_
  intro p e s m below meth c A ls H locs hx hb hr hts hown hlk hml hP hK hD hA hS hl
  have hU : ∀ w ∈ wsX00, w ∈ wsX0_isDraftKeySound := fun w h => List.mem_cons_of_mem _ (List.mem_append_right _ h)
  have hf_draftValues := hts (.fieldLink RX0 13 "EntryTable" "draftValues" "[J") (by decide +kernel)
  have hf_kinds := hts (.fieldLink RX0 9 "EntryTable" "kinds" "[I") (by decide +kernel)
  have hf_draftMasks := hts (.fieldLink RX0 17 "EntryTable" "draftMasks" "[J") (by decide +kernel)
  have hf_width := hts (.fieldLink RX0 63 "EntryTable" "width" "I") (by decide +kernel)
  have hl : lv_has ls 3 [(0, .ref (q 0)), (1, .int (nI k))] := hl
  refine lv_aload_n hx hb dX0_isDraftKeySound_0 rfl (lv_at hl 0 rfl) ?_
  refine lv_aload_n hx hb dX0_isDraftKeySound_1 rfl (lv_at hl 0 rfl) ?_
  refine va_get (D := D) (ci := 0) (C := RX0) (T := TX0) (N := 16) hx hb hts hU hown hK hP 0 rfl rfl 4 (by decide) hf_draftValues (fun _ h9 => h9) rfl dX0_isDraftKeySound_2 ?_
  refine lv_iload_n hx hb dX0_isDraftKeySound_5 rfl (lv_at hl 1 rfl) ?_
  refine eb_lald hx hb hK hP 2 1 rfl rfl (k) (by omega) (by decide) dX0_isDraftKeySound_6 ?_
  refine eb_calli (As := [.long (dv k)]) (rest := []) ⟨hx, hb, hml, hown, hts⟩ (tX_isNumber l D q cs (dv k)) (cwV 1 hts gX0_isDraftKeySound_X0_isNumber rfl rfl rfl (by decide +kernel) ⟨Nat.le_of_ble_eq_true rfl, Nat.le_of_ble_eq_true rfl⟩) hK hP hD hS hA rfl rfl rfl rfl hl.1 rfl (Nat.le_of_ble_eq_true rfl) dX0_isDraftKeySound_7 ⟨Nat.zero_le _, Nat.zero_le _⟩ (fun r1 w1 H locs hq hP hD hS => ?_)
  obtain ⟨rfl, hq1⟩ := hq
  refine lv_if_ne (tgt := 15) hx hb dX0_isDraftKeySound_10 (by decide) (fun c10 => ?_) (fun c10 => ?_)
  · have c10 := et_b1 hq1 c10
    refine lv_aload_n hx hb dX0_isDraftKeySound_15 rfl (lv_at hl 0 rfl) ?_
    refine va_get (D := D) (ci := 0) (C := RX0) (T := TX0) (N := 16) hx hb hts hU hown hK hP 0 rfl rfl 3 (by decide) hf_kinds (fun _ h9 => h9) rfl dX0_isDraftKeySound_16 ?_
    refine lv_iload_n hx hb dX0_isDraftKeySound_19 rfl (lv_at hl 1 rfl) ?_
    refine eb_iald hx hb hK hP 1 0 rfl rfl (k) (by omega) (by decide) dX0_isDraftKeySound_20 ?_
    refine lv_if_ne (tgt := 26) hx hb dX0_isDraftKeySound_21 (by decide) (fun c21 => ?_) (fun c21 => ?_)
    · refine lv_aload_n hx hb dX0_isDraftKeySound_26 rfl (lv_at hl 0 rfl) ?_
      refine va_get (D := D) (ci := 0) (C := RX0) (T := TX0) (N := 16) hx hb hts hU hown hK hP 0 rfl rfl 3 (by decide) hf_kinds (fun _ h9 => h9) rfl dX0_isDraftKeySound_27 ?_
      refine lv_iload_n hx hb dX0_isDraftKeySound_30 rfl (lv_at hl 1 rfl) ?_
      refine eb_iald hx hb hK hP 1 0 rfl rfl (k) (by omega) (by decide) dX0_isDraftKeySound_31 ?_
      refine lv_iconst (v := 1) hx hb dX0_isDraftKeySound_32 (by decide) ?_
      refine lv_icmp_ne (tgt := 70) hx hb dX0_isDraftKeySound_33 (by decide) (fun c33 => ?_) (fun c33 => ?_)
      · refine lv_aload_n hx hb dX0_isDraftKeySound_70 rfl (lv_at hl 0 rfl) ?_
        refine lv_aload_n hx hb dX0_isDraftKeySound_71 rfl (lv_at hl 0 rfl) ?_
        refine va_get (D := D) (ci := 0) (C := RX0) (T := TX0) (N := 16) hx hb hts hU hown hK hP 0 rfl rfl 5 (by decide) hf_draftMasks (fun _ h9 => h9) rfl dX0_isDraftKeySound_72 ?_
        refine lv_iload_n hx hb dX0_isDraftKeySound_75 rfl (lv_at hl 1 rfl) ?_
        refine eb_lald hx hb hK hP 3 2 rfl rfl (k) (by omega) (by decide) dX0_isDraftKeySound_76 ?_
        refine eb_calli (As := [.long (dm k)]) (rest := []) ⟨hx, hb, hml, hown, hts⟩ (tX_isNumber l D q cs (dm k)) (cwV 1 hts gX0_isDraftKeySound_X0_isNumber rfl rfl rfl (by decide +kernel) ⟨Nat.le_of_ble_eq_true rfl, Nat.le_of_ble_eq_true rfl⟩) hK hP hD hS hA rfl rfl rfl rfl hl.1 rfl (Nat.le_of_ble_eq_true rfl) dX0_isDraftKeySound_77 ⟨Nat.zero_le _, Nat.zero_le _⟩ (fun r2 w1 H locs hq hP hD hS => ?_)
        obtain ⟨rfl, hq2⟩ := hq
        refine lv_istore_n hx hb dX0_isDraftKeySound_80 rfl hl (by decide) rfl (fun ls hl => ?_)
        have hl : lv_has ls 3 [(2, .int r2), (0, .ref (q 0)), (1, .int (nI k))] := hl
        refine lv_iload_n hx hb dX0_isDraftKeySound_81 rfl (lv_at hl 0 rfl) ?_
        refine lv_if_eq (tgt := 110) hx hb dX0_isDraftKeySound_82 (by decide) (fun c82 => ?_) (fun c82 => ?_)
        · have c82 := et_b0 hq2 c82
          refine lv_iconst (v := 0) hx hb dX0_isDraftKeySound_110 (by decide) ?_
          refine eb_zret hx hb hr hlk hK hP hD hS dX0_isDraftKeySound_111 (by decide) ?_
          exact ⟨rfl, Or.inr ⟨by simp only [et_ks, c10, c21, c33, c82, true_and, and_true, true_or, or_true, false_and, and_false, false_or, or_false, if_true, if_false, not_true_eq_false, not_false_eq_true, implies_true], rfl⟩⟩
        · have c82 := et_b1 hq2 c82
          refine lv_aload_n hx hb dX0_isDraftKeySound_85 rfl (lv_at hl 1 rfl) ?_
          refine va_get (D := D) (ci := 0) (C := RX0) (T := TX0) (N := 16) hx hb hts hU hown hK hP 0 rfl rfl 4 (by decide) hf_draftValues (fun _ h9 => h9) rfl dX0_isDraftKeySound_86 ?_
          refine lv_iload_n hx hb dX0_isDraftKeySound_89 rfl (lv_at hl 2 rfl) ?_
          refine eb_lald hx hb hK hP 2 1 rfl rfl (k) (by omega) (by decide) dX0_isDraftKeySound_90 ?_
          refine lv_aload_n hx hb dX0_isDraftKeySound_91 rfl (lv_at hl 1 rfl) ?_
          refine lv_iload_n hx hb dX0_isDraftKeySound_92 rfl (lv_at hl 2 rfl) ?_
          refine eb_calll (As := [.int (nI k)]) (rest := [.long (dv k)]) ⟨hx, hb, hml, hown, hts⟩ (tX_draftBits l D q cs (k) (by omega)) (cwV 1 hts gX0_isDraftKeySound_X0_draftBits rfl rfl rfl (by decide +kernel) ⟨Nat.le_of_ble_eq_true rfl, Nat.le_of_ble_eq_true rfl⟩) hK hP hD hS hA rfl rfl rfl rfl hl.1 rfl (Nat.le_of_ble_eq_true rfl) dX0_isDraftKeySound_93 ⟨Nat.zero_le _, Nat.zero_le _⟩ (fun r3 w1 H locs hq hP hD hS => ?_)
          obtain ⟨rfl, rfl⟩ := hq
          refine lv_ldc2 (v := (-1)) hx hb hown (hts (.constantLong RX0 114 (-1)) (by decide +kernel)) dX0_isDraftKeySound_96 ?_
          refine lv_lxor hx hb dX0_isDraftKeySound_99 ?_
          refine lv_land hx hb dX0_isDraftKeySound_100 ?_
          refine lv_lconst (v := 0) hx hb dX0_isDraftKeySound_101 (by decide) ?_
          refine W.lcmp hx hb dX0_isDraftKeySound_102 ?_
          refine lv_if_ne (tgt := 110) hx hb dX0_isDraftKeySound_103 (by decide) (fun c103 => ?_) (fun c103 => ?_)
          · rw [lg_cmp_eq] at c103
            refine lv_iconst (v := 0) hx hb dX0_isDraftKeySound_110 (by decide) ?_
            refine eb_zret hx hb hr hlk hK hP hD hS dX0_isDraftKeySound_111 (by decide) ?_
            exact ⟨rfl, Or.inr ⟨by simp only [et_ks, c10, c21, c33, c82, c103, true_and, and_true, true_or, or_true, false_and, and_false, false_or, or_false, if_true, if_false, not_true_eq_false, not_false_eq_true, implies_true], rfl⟩⟩
          · rw [lg_cmp_eq] at c103
            refine lv_iconst (v := 1) hx hb dX0_isDraftKeySound_106 (by decide) ?_
            refine lv_goto (tgt := 111) hx hb dX0_isDraftKeySound_107 (by decide) ?_
            refine eb_zret hx hb hr hlk hK hP hD hS dX0_isDraftKeySound_111 (by decide) ?_
            exact ⟨rfl, Or.inl ⟨by simp only [et_ks, c10, c21, c33, c82, eq_true c103, true_and, and_true, true_or, or_true, false_and, and_false, false_or, or_false, if_true, if_false, not_true_eq_false, not_false_eq_true, implies_true], rfl⟩⟩
      · refine lv_aload_n hx hb dX0_isDraftKeySound_36 rfl (lv_at hl 0 rfl) ?_
        refine va_get (D := D) (ci := 0) (C := RX0) (T := TX0) (N := 16) hx hb hts hU hown hK hP 0 rfl rfl 5 (by decide) hf_draftMasks (fun _ h9 => h9) rfl dX0_isDraftKeySound_37 ?_
        refine lv_iload_n hx hb dX0_isDraftKeySound_40 rfl (lv_at hl 1 rfl) ?_
        refine eb_lald hx hb hK hP 3 2 rfl rfl (k) (by omega) (by decide) dX0_isDraftKeySound_41 ?_
        refine lv_lconst (v := 0) hx hb dX0_isDraftKeySound_42 (by decide) ?_
        refine W.lcmp hx hb dX0_isDraftKeySound_43 ?_
        refine lv_if_lt (tgt := 66) hx hb dX0_isDraftKeySound_44 (by decide) (fun c44 => ?_) (fun c44 => ?_)
        · rw [lg_cmp_lt, ← Int64.not_le] at c44
          refine lv_iconst (v := 0) hx hb dX0_isDraftKeySound_66 (by decide) ?_
          refine lv_goto (tgt := 80) hx hb dX0_isDraftKeySound_67 (by decide) ?_
          refine lv_istore_n hx hb dX0_isDraftKeySound_80 rfl hl (by decide) rfl (fun ls hl => ?_)
          have hl : lv_has ls 3 [(2, .int 0), (0, .ref (q 0)), (1, .int (nI k))] := hl
          refine lv_iload_n hx hb dX0_isDraftKeySound_81 rfl (lv_at hl 0 rfl) ?_
          refine lv_if_eq (tgt := 110) hx hb dX0_isDraftKeySound_82 (by decide) (fun _ => ?_) (fun c82 => absurd c82 (by decide))
          refine lv_iconst (v := 0) hx hb dX0_isDraftKeySound_110 (by decide) ?_
          refine eb_zret hx hb hr hlk hK hP hD hS dX0_isDraftKeySound_111 (by decide) ?_
          exact ⟨rfl, Or.inr ⟨by simp only [et_ks, c10, c21, eq_true c33, c44, true_and, and_true, true_or, or_true, false_and, and_false, false_or, or_false, if_true, if_false, not_true_eq_false, not_false_eq_true, implies_true], rfl⟩⟩
        · rw [lg_cmp_lt, Int64.not_lt] at c44
          refine lv_aload_n hx hb dX0_isDraftKeySound_47 rfl (lv_at hl 0 rfl) ?_
          refine va_get (D := D) (ci := 0) (C := RX0) (T := TX0) (N := 16) hx hb hts hU hown hK hP 0 rfl rfl 5 (by decide) hf_draftMasks (fun _ h9 => h9) rfl dX0_isDraftKeySound_48 ?_
          refine lv_iload_n hx hb dX0_isDraftKeySound_51 rfl (lv_at hl 1 rfl) ?_
          refine eb_lald hx hb hK hP 3 2 rfl rfl (k) (by omega) (by decide) dX0_isDraftKeySound_52 ?_
          refine lv_aload_n hx hb dX0_isDraftKeySound_53 rfl (lv_at hl 0 rfl) ?_
          refine va_get (D := D) (ci := 0) (C := RX0) (T := TX0) (N := 16) hx hb hts hU hown hK hP 0 rfl rfl 1 (by decide) hf_width (fun _ h9 => h9) rfl dX0_isDraftKeySound_54 ?_
          refine lv_i2l hx hb dX0_isDraftKeySound_57 rfl ?_
          refine W.lcmp hx hb dX0_isDraftKeySound_58 ?_
          refine lv_if_gt (tgt := 66) hx hb dX0_isDraftKeySound_59 (by decide) (fun c59 => ?_) (fun c59 => ?_)
          · rw [lg_cmp_gt, ← Int64.not_le] at c59
            refine lv_iconst (v := 0) hx hb dX0_isDraftKeySound_66 (by decide) ?_
            refine lv_goto (tgt := 80) hx hb dX0_isDraftKeySound_67 (by decide) ?_
            refine lv_istore_n hx hb dX0_isDraftKeySound_80 rfl hl (by decide) rfl (fun ls hl => ?_)
            have hl : lv_has ls 3 [(2, .int 0), (0, .ref (q 0)), (1, .int (nI k))] := hl
            refine lv_iload_n hx hb dX0_isDraftKeySound_81 rfl (lv_at hl 0 rfl) ?_
            refine lv_if_eq (tgt := 110) hx hb dX0_isDraftKeySound_82 (by decide) (fun _ => ?_) (fun c82 => absurd c82 (by decide))
            refine lv_iconst (v := 0) hx hb dX0_isDraftKeySound_110 (by decide) ?_
            refine eb_zret hx hb hr hlk hK hP hD hS dX0_isDraftKeySound_111 (by decide) ?_
            exact ⟨rfl, Or.inr ⟨by simp only [et_ks, c10, c21, eq_true c33, c44, c59, true_and, and_true, true_or, or_true, false_and, and_false, false_or, or_false, if_true, if_false, not_true_eq_false, not_false_eq_true, implies_true], rfl⟩⟩
          · rw [lg_cmp_gt, Int64.not_lt] at c59
            refine lv_iconst (v := 1) hx hb dX0_isDraftKeySound_62 (by decide) ?_
            refine lv_goto (tgt := 80) hx hb dX0_isDraftKeySound_63 (by decide) ?_
            refine lv_istore_n hx hb dX0_isDraftKeySound_80 rfl hl (by decide) rfl (fun ls hl => ?_)
            have hl : lv_has ls 3 [(2, .int 1), (0, .ref (q 0)), (1, .int (nI k))] := hl
            refine lv_iload_n hx hb dX0_isDraftKeySound_81 rfl (lv_at hl 0 rfl) ?_
            refine lv_if_eq (tgt := 110) hx hb dX0_isDraftKeySound_82 (by decide) (fun c82 => absurd c82 (by decide)) (fun _ => ?_)
            refine lv_aload_n hx hb dX0_isDraftKeySound_85 rfl (lv_at hl 1 rfl) ?_
            refine va_get (D := D) (ci := 0) (C := RX0) (T := TX0) (N := 16) hx hb hts hU hown hK hP 0 rfl rfl 4 (by decide) hf_draftValues (fun _ h9 => h9) rfl dX0_isDraftKeySound_86 ?_
            refine lv_iload_n hx hb dX0_isDraftKeySound_89 rfl (lv_at hl 2 rfl) ?_
            refine eb_lald hx hb hK hP 2 1 rfl rfl (k) (by omega) (by decide) dX0_isDraftKeySound_90 ?_
            refine lv_aload_n hx hb dX0_isDraftKeySound_91 rfl (lv_at hl 1 rfl) ?_
            refine lv_iload_n hx hb dX0_isDraftKeySound_92 rfl (lv_at hl 2 rfl) ?_
            refine eb_calll (As := [.int (nI k)]) (rest := [.long (dv k)]) ⟨hx, hb, hml, hown, hts⟩ (tX_draftBits l D q cs (k) (by omega)) (cwV 1 hts gX0_isDraftKeySound_X0_draftBits rfl rfl rfl (by decide +kernel) ⟨Nat.le_of_ble_eq_true rfl, Nat.le_of_ble_eq_true rfl⟩) hK hP hD hS hA rfl rfl rfl rfl hl.1 rfl (Nat.le_of_ble_eq_true rfl) dX0_isDraftKeySound_93 ⟨Nat.zero_le _, Nat.zero_le _⟩ (fun r2 w1 H locs hq hP hD hS => ?_)
            obtain ⟨rfl, rfl⟩ := hq
            refine lv_ldc2 (v := (-1)) hx hb hown (hts (.constantLong RX0 114 (-1)) (by decide +kernel)) dX0_isDraftKeySound_96 ?_
            refine lv_lxor hx hb dX0_isDraftKeySound_99 ?_
            refine lv_land hx hb dX0_isDraftKeySound_100 ?_
            refine lv_lconst (v := 0) hx hb dX0_isDraftKeySound_101 (by decide) ?_
            refine W.lcmp hx hb dX0_isDraftKeySound_102 ?_
            refine lv_if_ne (tgt := 110) hx hb dX0_isDraftKeySound_103 (by decide) (fun c103 => ?_) (fun c103 => ?_)
            · rw [lg_cmp_eq] at c103
              refine lv_iconst (v := 0) hx hb dX0_isDraftKeySound_110 (by decide) ?_
              refine eb_zret hx hb hr hlk hK hP hD hS dX0_isDraftKeySound_111 (by decide) ?_
              exact ⟨rfl, Or.inr ⟨by simp only [et_ks, c10, c21, eq_true c33, c44, c59, c103, true_and, and_true, true_or, or_true, false_and, and_false, false_or, or_false, if_true, if_false, not_true_eq_false, not_false_eq_true, implies_true], rfl⟩⟩
            · rw [lg_cmp_eq] at c103
              refine lv_iconst (v := 1) hx hb dX0_isDraftKeySound_106 (by decide) ?_
              refine lv_goto (tgt := 111) hx hb dX0_isDraftKeySound_107 (by decide) ?_
              refine eb_zret hx hb hr hlk hK hP hD hS dX0_isDraftKeySound_111 (by decide) ?_
              exact ⟨rfl, Or.inl ⟨by simp only [et_ks, c10, c21, eq_true c33, c44, c59, eq_true c103, true_and, and_true, true_or, or_true, false_and, and_false, false_or, or_false, if_true, if_false, not_true_eq_false, not_false_eq_true, implies_true], rfl⟩⟩
    · refine lv_iconst (v := 1) hx hb dX0_isDraftKeySound_24 (by decide) ?_
      refine eb_zret hx hb hr hlk hK hP hD hS dX0_isDraftKeySound_25 (by decide) ?_
      exact ⟨rfl, Or.inl ⟨by simp only [et_ks, c10, eq_true c21, true_and, and_true, true_or, or_true, false_and, and_false, false_or, or_false, if_true, if_false, not_true_eq_false, not_false_eq_true, implies_true], rfl⟩⟩
  · have c10 := et_b0 hq1 c10
    refine lv_iconst (v := 0) hx hb dX0_isDraftKeySound_13 (by decide) ?_
    refine eb_zret hx hb hr hlk hK hP hD hS dX0_isDraftKeySound_14 (by decide) ?_
    exact ⟨rfl, Or.inr ⟨by simp only [et_ks, c10, true_and, and_true, true_or, or_true, false_and, and_false, false_or, or_false, if_true, if_false, not_true_eq_false, not_false_eq_true, implies_true], rfl⟩⟩

set_option maxHeartbeats 4000000 in
set_option maxRecDepth 100000 in
theorem tX_isDraftSound (l : Launch) (D : va_G) (q : Nat → Nat) (cs : Nat → ClassId) {K E : Nat} {wd : Int32} {ab : Int64} {kd : Nat → Int32} {dv dm : Nat → Int64} {ord : Nat → Int32} {nn ms : Int32} {nums pris pres fins : Nat → Int32} {vals msks : Nat → Int64} (hK3 : K ≤ 3) : eb_MI l D vwCl (XTy cs) yX0_isDraftSound wsX0_isDraftSound { frames := 2, cells := 0, slots := 0, locals := 80 } [.ref (q 0)] (XW q cs (nI K) wd ab kd dv dm ord (nI E) nn ms nums pris pres fins vals msks) (fun r w1 => w1 = XW q cs (nI K) wd ab kd dv dm ord (nI E) nn ms nums pris pres fins vals msks ∧ (((et_snd K ab wd kd dv dm) ∧ r = 1) ∨ (¬ (et_snd K ab wd kd dv dm) ∧ r = 0))) := by
  refine eb_openI (cc := cX0_isDraftSound) (maxL := 2) (ret := (some .boolean)) (by decide +kernel) rfl (Nat.le_of_ble_eq_true rfl) ?_
  intro p e s m below meth c A ls H locs hx hb hr hts hown hlk hml hP hK hD hA hS hl
  have hU : ∀ w ∈ wsX00, w ∈ wsX0_isDraftSound := fun w h => List.mem_cons_of_mem _ (List.mem_append_right _ h)
  have hf_keys := hts (.fieldLink RX0 60 "EntryTable" "keys" "I") (by decide +kernel)
  have hl : lv_has ls 2 [(0, .ref (q 0))] := hl
  refine lv_iconst (v := 0) hx hb dX0_isDraftSound_0 (by decide) ?_
  refine lv_istore_n hx hb dX0_isDraftSound_1 rfl hl (by decide) rfl (fun ls hl => ?_)
  have hl : lv_has ls 2 [(1, .int 0), (0, .ref (q 0))] := hl
  refine eb_for (fun (k : Nat) (ls : Array Slot) (H : Heap) (locs : List Loc) => lv_has ls 2 [(0, .ref (q 0)), (1, .int (nI k))] ∧ va_P D vwCl (XW q cs (nI K) wd ab kd dv dm ord (nI E) nn ms nums pris pres fins vals msks) H ∧ va_D A (XW q cs (nI K) wd ab kd dv dm ord (nI E) nn ms nums pris pres fins vals msks) ∧ va_S A s.heap H locs ∧ (∀ j, j < k → et_ks ab wd (kd j) (dv j) (dm j))) 2 (K) ?_ (K) (0) ls H locs (by omega) ⟨lv_sub hl [1, 0] rfl, hP, hD, hS, fun j hj => absurd hj (Nat.not_lt_zero j)⟩
  intro k ls H locs hk hI hrec2
  obtain ⟨hl, hP, hD, hS, hi2⟩ := hI
  refine lv_iload_n hx hb dX0_isDraftSound_2 rfl (lv_at hl 1 rfl) ?_
  refine lv_aload_n hx hb dX0_isDraftSound_3 rfl (lv_at hl 0 rfl) ?_
  refine va_get (D := D) (ci := 0) (C := RX0) (T := TX0) (N := 16) hx hb hts hU hown hK hP 0 rfl rfl 0 (by decide) hf_keys (fun _ h9 => h9) rfl dX0_isDraftSound_4 ?_
  refine lv_icmp_ge (tgt := 26) hx hb dX0_isDraftSound_7 (by decide) (fun c7 => ?_) (fun c7 => ?_)
  · have c7 : nI K ≤ nI k := c7
    rw [nI_leI (by omega) (by omega)] at c7
    refine lv_iconst (v := 1) hx hb dX0_isDraftSound_26 (by decide) ?_
    refine eb_zret hx hb hr hlk hK hP hD hS dX0_isDraftSound_27 (by decide) ?_
    exact ⟨rfl, Or.inl ⟨fun j hj => hi2 j (by omega), rfl⟩⟩
  · have c7 : ¬ nI K ≤ nI k := c7
    rw [nI_leI (by omega) (by omega)] at c7
    refine lv_aload_n hx hb dX0_isDraftSound_10 rfl (lv_at hl 0 rfl) ?_
    refine lv_iload_n hx hb dX0_isDraftSound_11 rfl (lv_at hl 1 rfl) ?_
    refine eb_calli (As := [.int (nI k)]) (rest := []) ⟨hx, hb, hml, hown, hts⟩ (tX_isDraftKeySound l D q cs (k) (by omega)) (cwV 1 hts gX0_isDraftSound_X0_isDraftKeySound rfl rfl rfl (by decide +kernel) ⟨Nat.le_of_ble_eq_true rfl, Nat.le_of_ble_eq_true rfl⟩) hK hP hD hS hA rfl rfl rfl rfl hl.1 rfl (Nat.le_of_ble_eq_true rfl) dX0_isDraftSound_12 ⟨Nat.zero_le _, Nat.zero_le _⟩ (fun r1 w1 H locs hq hP hD hS => ?_)
    obtain ⟨rfl, hq1⟩ := hq
    refine lv_if_ne (tgt := 20) hx hb dX0_isDraftSound_15 (by decide) (fun c15 => ?_) (fun c15 => ?_)
    · have c15 := et_b1 hq1 c15
      refine lv_iinc (k := 1) (v := nI (k + 1)) hx hb dX0_isDraftSound_20 hl rfl (nI_add k 1) (by decide) rfl (fun ls hl => ?_)
      have hl : lv_has ls 2 [(1, .int (nI (k + 1))), (0, .ref (q 0))] := hl
      refine lv_goto (tgt := 2) hx hb dX0_isDraftSound_23 (by decide) ?_
      exact hrec2 ls H locs (by omega) ⟨lv_sub hl [1, 0] rfl, hP, hD, hS, lt_s hi2 c15⟩
    · have c15 := et_b0 hq1 c15
      refine lv_iconst (v := 0) hx hb dX0_isDraftSound_18 (by decide) ?_
      refine eb_zret hx hb hr hlk hK hP hD hS dX0_isDraftSound_19 (by decide) ?_
      exact ⟨rfl, Or.inr ⟨fun hh => absurd (hh k (by omega)) c15, rfl⟩⟩

set_option maxHeartbeats 4000000 in
set_option maxRecDepth 100000 in
theorem tX_draftPrefix (l : Launch) (D : va_G) (q : Nat → Nat) (cs : Nat → ClassId) {K E : Nat} {wd : Int32} {ab : Int64} {kd : Nat → Int32} {dv dm : Nat → Int64} {ord : Nat → Int32} {nn ms : Int32} {nums pris pres fins : Nat → Int32} {vals msks : Nat → Int64} (hK3 : K ≤ 3) : eb_MI l D vwCl (XTy cs) yX0_draftPrefix wsX0_draftPrefix { frames := 0, cells := 0, slots := 0, locals := 0 } [.ref (q 0)] (XW q cs (nI K) wd ab kd dv dm ord (nI E) nn ms nums pris pres fins vals msks) (fun r w1 => w1 = XW q cs (nI K) wd ab kd dv dm ord (nI E) nn ms nums pris pres fins vals msks ∧ r = (et_pf K kd dm).toInt32) := by
  refine eb_openI (cc := cX0_draftPrefix) (maxL := 2) (ret := (some .int)) (by decide +kernel) rfl (Nat.le_of_ble_eq_true rfl) ?_
  intro p e s m below meth c A ls H locs hx hb hr hts hown hlk hml hP hK hD hA hS hl
  have hU : ∀ w ∈ wsX00, w ∈ wsX0_draftPrefix := fun w h => List.mem_cons_of_mem _ (List.mem_append_right _ h)
  have hf_keys := hts (.fieldLink RX0 60 "EntryTable" "keys" "I") (by decide +kernel)
  have hf_kinds := hts (.fieldLink RX0 9 "EntryTable" "kinds" "[I") (by decide +kernel)
  have hf_draftMasks := hts (.fieldLink RX0 17 "EntryTable" "draftMasks" "[J") (by decide +kernel)
  have hl : lv_has ls 2 [(0, .ref (q 0))] := hl
  refine lv_iconst (v := 0) hx hb dX0_draftPrefix_0 (by decide) ?_
  refine lv_istore_n hx hb dX0_draftPrefix_1 rfl hl (by decide) rfl (fun ls hl => ?_)
  have hl : lv_has ls 2 [(1, .int 0), (0, .ref (q 0))] := hl
  refine eb_for (fun (k : Nat) (ls : Array Slot) (H : Heap) (locs : List Loc) => lv_has ls 2 [(0, .ref (q 0)), (1, .int (nI k))] ∧ va_P D vwCl (XW q cs (nI K) wd ab kd dv dm ord (nI E) nn ms nums pris pres fins vals msks) H ∧ va_D A (XW q cs (nI K) wd ab kd dv dm ord (nI E) nn ms nums pris pres fins vals msks) ∧ va_S A s.heap H locs ∧ (et_pg kd dm 0 K = et_pg kd dm k (K - k))) 2 (K) ?_ (K) (0) ls H locs (by omega) ⟨lv_sub hl [1, 0] rfl, hP, hD, hS, rfl⟩
  intro k ls H locs hk hI hrec2
  obtain ⟨hl, hP, hD, hS, hi2⟩ := hI
  refine lv_iload_n hx hb dX0_draftPrefix_2 rfl (lv_at hl 1 rfl) ?_
  refine lv_aload_n hx hb dX0_draftPrefix_3 rfl (lv_at hl 0 rfl) ?_
  refine va_get (D := D) (ci := 0) (C := RX0) (T := TX0) (N := 16) hx hb hts hU hown hK hP 0 rfl rfl 0 (by decide) hf_keys (fun _ h9 => h9) rfl dX0_draftPrefix_4 ?_
  refine lv_icmp_ge (tgt := 34) hx hb dX0_draftPrefix_7 (by decide) (fun c7 => ?_) (fun c7 => ?_)
  · have c7 : nI K ≤ nI k := c7
    rw [nI_leI (by omega) (by omega)] at c7
    refine lv_iconst (v := 0) hx hb dX0_draftPrefix_34 (by decide) ?_
    refine eb_iret hx hb hr hlk hK hP hD hS dX0_draftPrefix_35 ?_
    exact ⟨rfl, by show _ = (et_pg kd dm 0 K).toInt32; rw [hi2, show K - k = 0 by omega]; rfl⟩
  · have c7 : ¬ nI K ≤ nI k := c7
    rw [nI_leI (by omega) (by omega)] at c7
    refine lv_aload_n hx hb dX0_draftPrefix_10 rfl (lv_at hl 0 rfl) ?_
    refine va_get (D := D) (ci := 0) (C := RX0) (T := TX0) (N := 16) hx hb hts hU hown hK hP 0 rfl rfl 3 (by decide) hf_kinds (fun _ h9 => h9) rfl dX0_draftPrefix_11 ?_
    refine lv_iload_n hx hb dX0_draftPrefix_14 rfl (lv_at hl 1 rfl) ?_
    refine eb_iald hx hb hK hP 1 0 rfl rfl (k) (by omega) (by decide) dX0_draftPrefix_15 ?_
    refine lv_iconst (v := 1) hx hb dX0_draftPrefix_16 (by decide) ?_
    refine lv_icmp_ne (tgt := 28) hx hb dX0_draftPrefix_17 (by decide) (fun c17 => ?_) (fun c17 => ?_)
    · refine lv_iinc (k := 1) (v := nI (k + 1)) hx hb dX0_draftPrefix_28 hl rfl (nI_add k 1) (by decide) rfl (fun ls hl => ?_)
      have hl : lv_has ls 2 [(1, .int (nI (k + 1))), (0, .ref (q 0))] := hl
      refine lv_goto (tgt := 2) hx hb dX0_draftPrefix_31 (by decide) ?_
      exact hrec2 ls H locs (by omega) ⟨lv_sub hl [1, 0] rfl, hP, hD, hS, by rw [hi2, et_pg_at (by omega), if_neg c17]⟩
    · refine lv_aload_n hx hb dX0_draftPrefix_20 rfl (lv_at hl 0 rfl) ?_
      refine va_get (D := D) (ci := 0) (C := RX0) (T := TX0) (N := 16) hx hb hts hU hown hK hP 0 rfl rfl 5 (by decide) hf_draftMasks (fun _ h9 => h9) rfl dX0_draftPrefix_21 ?_
      refine lv_iload_n hx hb dX0_draftPrefix_24 rfl (lv_at hl 1 rfl) ?_
      refine eb_lald hx hb hK hP 3 2 rfl rfl (k) (by omega) (by decide) dX0_draftPrefix_25 ?_
      refine lv_l2i hx hb dX0_draftPrefix_26 rfl ?_
      refine eb_iret hx hb hr hlk hK hP hD hS dX0_draftPrefix_27 ?_
      exact ⟨rfl, by show _ = (et_pg kd dm 0 K).toInt32; rw [hi2, et_pg_at (by omega), if_pos c17]⟩

set_option maxHeartbeats 4000000 in
set_option maxRecDepth 100000 in
theorem tX_isDraftIn (l : Launch) (D : va_G) (q : Nat → Nat) (cs : Nat → ClassId) {K E : Nat} {wd : Int32} {ab : Int64} {kd : Nat → Int32} {dv dm : Nat → Int64} {ord : Nat → Int32} {nn ms : Int32} {nums pris pres fins : Nat → Int32} {vals msks : Nat → Int64} (hK3 : K ≤ 3) (s0 : Nat) (hs0 : s0 < 24) : eb_MI l D vwCl (XTy cs) yX0_isDraftIn wsX0_isDraftIn { frames := 1, cells := 0, slots := 0, locals := 40 } [.ref (q 0), .int (nI s0)] (XW q cs (nI K) wd ab kd dv dm ord (nI E) nn ms nums pris pres fins vals msks) (fun r w1 => w1 = XW q cs (nI K) wd ab kd dv dm ord (nI E) nn ms nums pris pres fins vals msks ∧ (((∀ k, k < K → vals (s0 * 3 + k) = dv k ∧ msks (s0 * 3 + k) = et_db ab (kd k) (dm k)) ∧ r = 1) ∨ (¬ (∀ k, k < K → vals (s0 * 3 + k) = dv k ∧ msks (s0 * 3 + k) = et_db ab (kd k) (dm k)) ∧ r = 0))) := by
  refine eb_openI (cc := cX0_isDraftIn) (maxL := 4) (ret := (some .boolean)) (by decide +kernel) rfl (Nat.le_of_ble_eq_true rfl) ?_
  intro p e s m below meth c A ls H locs hx hb hr hts hown hlk hml hP hK hD hA hS hl
  have hU : ∀ w ∈ wsX00, w ∈ wsX0_isDraftIn := fun w h => List.mem_cons_of_mem _ (List.mem_append_right _ h)
  have hf_keys := hts (.fieldLink RX0 60 "EntryTable" "keys" "I") (by decide +kernel)
  have hf_values := hts (.fieldLink RX0 45 "EntryTable" "values" "[J") (by decide +kernel)
  have hf_draftValues := hts (.fieldLink RX0 13 "EntryTable" "draftValues" "[J") (by decide +kernel)
  have hf_masks := hts (.fieldLink RX0 48 "EntryTable" "masks" "[J") (by decide +kernel)
  have hl : lv_has ls 4 [(0, .ref (q 0)), (1, .int (nI s0))] := hl
  refine lv_iconst (v := 0) hx hb dX0_isDraftIn_0 (by decide) ?_
  refine lv_istore_n hx hb dX0_isDraftIn_1 rfl hl (by decide) rfl (fun ls hl => ?_)
  have hl : lv_has ls 4 [(2, .int 0), (0, .ref (q 0)), (1, .int (nI s0))] := hl
  refine eb_for (fun (k : Nat) (ls : Array Slot) (H : Heap) (locs : List Loc) => lv_has ls 4 [(0, .ref (q 0)), (1, .int (nI s0)), (2, .int (nI k))] ∧ va_P D vwCl (XW q cs (nI K) wd ab kd dv dm ord (nI E) nn ms nums pris pres fins vals msks) H ∧ va_D A (XW q cs (nI K) wd ab kd dv dm ord (nI E) nn ms nums pris pres fins vals msks) ∧ va_S A s.heap H locs ∧ (∀ j, j < k → vals (s0 * 3 + j) = dv j ∧ msks (s0 * 3 + j) = et_db ab (kd j) (dm j))) 2 (K) ?_ (K) (0) ls H locs (by omega) ⟨lv_sub hl [1, 2, 0] rfl, hP, hD, hS, fun j hj => absurd hj (Nat.not_lt_zero j)⟩
  intro k ls H locs hk hI hrec2
  obtain ⟨hl, hP, hD, hS, hi2⟩ := hI
  refine lv_iload_n hx hb dX0_isDraftIn_2 rfl (lv_at hl 2 rfl) ?_
  refine lv_aload_n hx hb dX0_isDraftIn_3 rfl (lv_at hl 0 rfl) ?_
  refine va_get (D := D) (ci := 0) (C := RX0) (T := TX0) (N := 16) hx hb hts hU hown hK hP 0 rfl rfl 0 (by decide) hf_keys (fun _ h9 => h9) rfl dX0_isDraftIn_4 ?_
  refine lv_icmp_ge (tgt := 55) hx hb dX0_isDraftIn_7 (by decide) (fun c7 => ?_) (fun c7 => ?_)
  · have c7 : nI K ≤ nI k := c7
    rw [nI_leI (by omega) (by omega)] at c7
    refine lv_iconst (v := 1) hx hb dX0_isDraftIn_55 (by decide) ?_
    refine eb_zret hx hb hr hlk hK hP hD hS dX0_isDraftIn_56 (by decide) ?_
    exact ⟨rfl, Or.inl ⟨fun j hj => hi2 j (by omega), rfl⟩⟩
  · have c7 : ¬ nI K ≤ nI k := c7
    rw [nI_leI (by omega) (by omega)] at c7
    refine lv_iload_n hx hb dX0_isDraftIn_10 rfl (lv_at hl 1 rfl) ?_
    refine lv_iconst (v := 3) hx hb dX0_isDraftIn_11 (by decide) ?_
    refine lv_imul hx hb dX0_isDraftIn_12 ?_
    refine eb_ti (nI (s0 * 3)) (pk_mul s0 3) ?_
    refine lv_iload_n hx hb dX0_isDraftIn_13 rfl (lv_at hl 2 rfl) ?_
    refine lv_iadd hx hb dX0_isDraftIn_14 ?_
    refine eb_ti (nI ((s0 * 3) + k)) (nI_add (s0 * 3) k) ?_
    refine lv_istore_n hx hb dX0_isDraftIn_15 rfl hl (by decide) rfl (fun ls hl => ?_)
    have hl : lv_has ls 4 [(3, .int (nI ((s0 * 3) + k))), (0, .ref (q 0)), (1, .int (nI s0)), (2, .int (nI k))] := hl
    refine lv_aload_n hx hb dX0_isDraftIn_16 rfl (lv_at hl 1 rfl) ?_
    refine va_get (D := D) (ci := 0) (C := RX0) (T := TX0) (N := 16) hx hb hts hU hown hK hP 0 rfl rfl 14 (by decide) hf_values (fun _ h9 => h9) rfl dX0_isDraftIn_17 ?_
    refine lv_iload_n hx hb dX0_isDraftIn_20 rfl (lv_at hl 0 rfl) ?_
    refine eb_lald hx hb hK hP 9 8 rfl rfl ((s0 * 3) + k) (by omega) (by decide) dX0_isDraftIn_21 ?_
    refine lv_aload_n hx hb dX0_isDraftIn_22 rfl (lv_at hl 1 rfl) ?_
    refine va_get (D := D) (ci := 0) (C := RX0) (T := TX0) (N := 16) hx hb hts hU hown hK hP 0 rfl rfl 4 (by decide) hf_draftValues (fun _ h9 => h9) rfl dX0_isDraftIn_23 ?_
    refine lv_iload_n hx hb dX0_isDraftIn_26 rfl (lv_at hl 3 rfl) ?_
    refine eb_lald hx hb hK hP 2 1 rfl rfl (k) (by omega) (by decide) dX0_isDraftIn_27 ?_
    refine W.lcmp hx hb dX0_isDraftIn_28 ?_
    refine lv_if_ne (tgt := 47) hx hb dX0_isDraftIn_29 (by decide) (fun c29 => ?_) (fun c29 => ?_)
    · rw [lg_cmp_eq] at c29
      refine lv_iconst (v := 0) hx hb dX0_isDraftIn_47 (by decide) ?_
      refine eb_zret hx hb hr hlk hK hP hD hS dX0_isDraftIn_48 (by decide) ?_
      exact ⟨rfl, Or.inr ⟨fun hh => absurd (hh k (by omega)).1 c29, rfl⟩⟩
    · rw [lg_cmp_eq] at c29
      refine lv_aload_n hx hb dX0_isDraftIn_32 rfl (lv_at hl 1 rfl) ?_
      refine va_get (D := D) (ci := 0) (C := RX0) (T := TX0) (N := 16) hx hb hts hU hown hK hP 0 rfl rfl 15 (by decide) hf_masks (fun _ h9 => h9) rfl dX0_isDraftIn_33 ?_
      refine lv_iload_n hx hb dX0_isDraftIn_36 rfl (lv_at hl 0 rfl) ?_
      refine eb_lald hx hb hK hP 10 9 rfl rfl ((s0 * 3) + k) (by omega) (by decide) dX0_isDraftIn_37 ?_
      refine lv_aload_n hx hb dX0_isDraftIn_38 rfl (lv_at hl 1 rfl) ?_
      refine lv_iload_n hx hb dX0_isDraftIn_39 rfl (lv_at hl 3 rfl) ?_
      refine eb_calll (As := [.int (nI k)]) (rest := [.long (msks ((s0 * 3) + k))]) ⟨hx, hb, hml, hown, hts⟩ (tX_draftBits l D q cs (k) (by omega)) (cwV 1 hts gX0_isDraftIn_X0_draftBits rfl rfl rfl (by decide +kernel) ⟨Nat.le_of_ble_eq_true rfl, Nat.le_of_ble_eq_true rfl⟩) hK hP hD hS hA rfl rfl rfl rfl hl.1 rfl (Nat.le_of_ble_eq_true rfl) dX0_isDraftIn_40 ⟨Nat.zero_le _, Nat.zero_le _⟩ (fun r1 w1 H locs hq hP hD hS => ?_)
      obtain ⟨rfl, rfl⟩ := hq
      refine W.lcmp hx hb dX0_isDraftIn_43 ?_
      refine lv_if_eq (tgt := 49) hx hb dX0_isDraftIn_44 (by decide) (fun c44 => ?_) (fun c44 => ?_)
      · rw [lg_cmp_eq] at c44
        refine lv_iinc (k := 3) (v := nI (k + 1)) hx hb dX0_isDraftIn_49 hl rfl (nI_add k 1) (by decide) rfl (fun ls hl => ?_)
        have hl : lv_has ls 4 [(2, .int (nI (k + 1))), (3, .int (nI ((s0 * 3) + k))), (0, .ref (q 0)), (1, .int (nI s0))] := hl
        refine lv_goto (tgt := 2) hx hb dX0_isDraftIn_52 (by decide) ?_
        exact hrec2 ls H locs (by omega) ⟨lv_sub hl [2, 3, 0] rfl, hP, hD, hS, lt_s hi2 ⟨c29, c44⟩⟩
      · rw [lg_cmp_eq] at c44
        refine lv_iconst (v := 0) hx hb dX0_isDraftIn_47 (by decide) ?_
        refine eb_zret hx hb hr hlk hK hP hD hS dX0_isDraftIn_48 (by decide) ?_
        exact ⟨rfl, Or.inr ⟨fun hh => absurd (hh k (by omega)).2 c44, rfl⟩⟩

set_option maxHeartbeats 4000000 in
set_option maxRecDepth 100000 in
theorem tX_isDraftThere (l : Launch) (D : va_G) (q : Nat → Nat) (cs : Nat → ClassId) {K E : Nat} {wd : Int32} {ab : Int64} {kd : Nat → Int32} {dv dm : Nat → Int64} {ord : Nat → Int32} {nn ms : Int32} {nums pris pres fins : Nat → Int32} {vals msks : Nat → Int64} (hK3 : K ≤ 3) (hE : E ≤ 24) (o : Nat → Nat) (ho : ∀ r, r < 24 → ord r = nI (o r) ∧ o r < 24) (pp : Int32) : eb_MI l D vwCl (XTy cs) yX0_isDraftThere wsX0_isDraftThere { frames := 2, cells := 0, slots := 0, locals := 80 } [.ref (q 0), .int pp] (XW q cs (nI K) wd ab kd dv dm ord (nI E) nn ms nums pris pres fins vals msks) (fun r w1 => w1 = XW q cs (nI K) wd ab kd dv dm ord (nI E) nn ms nums pris pres fins vals msks ∧ (((∃ j, j < E ∧ pris (o j) = pp ∧ ∀ k, k < K → vals (o j * 3 + k) = dv k ∧ msks (o j * 3 + k) = et_db ab (kd k) (dm k)) ∧ r = 1) ∨ (¬ (∃ j, j < E ∧ pris (o j) = pp ∧ ∀ k, k < K → vals (o j * 3 + k) = dv k ∧ msks (o j * 3 + k) = et_db ab (kd k) (dm k)) ∧ r = 0))) := by
  refine eb_openI (cc := cX0_isDraftThere) (maxL := 4) (ret := (some .boolean)) (by decide +kernel) rfl (Nat.le_of_ble_eq_true rfl) ?_
  intro p e s m below meth c A ls H locs hx hb hr hts hown hlk hml hP hK hD hA hS hl
  have hU : ∀ w ∈ wsX00, w ∈ wsX0_isDraftThere := fun w h => List.mem_cons_of_mem _ (List.mem_append_right _ h)
  have hf_entries := hts (.fieldLink RX0 23 "EntryTable" "entries" "I") (by decide +kernel)
  have hf_order := hts (.fieldLink RX0 20 "EntryTable" "order" "[I") (by decide +kernel)
  have hf_priorities := hts (.fieldLink RX0 36 "EntryTable" "priorities" "[I") (by decide +kernel)
  have hl : lv_has ls 4 [(0, .ref (q 0)), (1, .int pp)] := hl
  refine lv_iconst (v := 0) hx hb dX0_isDraftThere_0 (by decide) ?_
  refine lv_istore_n hx hb dX0_isDraftThere_1 rfl hl (by decide) rfl (fun ls hl => ?_)
  have hl : lv_has ls 4 [(2, .int 0), (0, .ref (q 0)), (1, .int pp)] := hl
  refine eb_for (fun (i : Nat) (ls : Array Slot) (H : Heap) (locs : List Loc) => lv_has ls 4 [(0, .ref (q 0)), (1, .int pp), (2, .int (nI i))] ∧ va_P D vwCl (XW q cs (nI K) wd ab kd dv dm ord (nI E) nn ms nums pris pres fins vals msks) H ∧ va_D A (XW q cs (nI K) wd ab kd dv dm ord (nI E) nn ms nums pris pres fins vals msks) ∧ va_S A s.heap H locs ∧ (∀ j, j < i → ¬ (pris (o j) = pp ∧ ∀ k, k < K → vals (o j * 3 + k) = dv k ∧ msks (o j * 3 + k) = et_db ab (kd k) (dm k)))) 2 (E) ?_ (E) (0) ls H locs (by omega) ⟨lv_sub hl [1, 2, 0] rfl, hP, hD, hS, fun j hj => absurd hj (Nat.not_lt_zero j)⟩
  intro i ls H locs hi hI hrec2
  obtain ⟨hl, hP, hD, hS, hi2⟩ := hI
  refine lv_iload_n hx hb dX0_isDraftThere_2 rfl (lv_at hl 2 rfl) ?_
  refine lv_aload_n hx hb dX0_isDraftThere_3 rfl (lv_at hl 0 rfl) ?_
  refine va_get (D := D) (ci := 0) (C := RX0) (T := TX0) (N := 16) hx hb hts hU hown hK hP 0 rfl rfl 7 (by decide) hf_entries (fun _ h9 => h9) rfl dX0_isDraftThere_4 ?_
  refine lv_icmp_ge (tgt := 43) hx hb dX0_isDraftThere_7 (by decide) (fun c7 => ?_) (fun c7 => ?_)
  · have c7 : nI E ≤ nI i := c7
    rw [nI_leI (by omega) (by omega)] at c7
    refine lv_iconst (v := 0) hx hb dX0_isDraftThere_43 (by decide) ?_
    refine eb_zret hx hb hr hlk hK hP hD hS dX0_isDraftThere_44 (by decide) ?_
    exact ⟨rfl, Or.inr ⟨fun ⟨j, hj, hh⟩ => hi2 j (by omega) hh, rfl⟩⟩
  · have c7 : ¬ nI E ≤ nI i := c7
    rw [nI_leI (by omega) (by omega)] at c7
    refine lv_aload_n hx hb dX0_isDraftThere_10 rfl (lv_at hl 0 rfl) ?_
    refine va_get (D := D) (ci := 0) (C := RX0) (T := TX0) (N := 16) hx hb hts hU hown hK hP 0 rfl rfl 6 (by decide) hf_order (fun _ h9 => h9) rfl dX0_isDraftThere_11 ?_
    refine lv_iload_n hx hb dX0_isDraftThere_14 rfl (lv_at hl 2 rfl) ?_
    refine eb_iald hx hb hK hP 4 3 rfl rfl (i) (by omega) (by decide) dX0_isDraftThere_15 ?_
    have hs1 := (ho (i) (by omega)).2
    refine eb_ti (nI (o i)) ((ho (i) (by omega)).1) ?_
    refine lv_istore_n hx hb dX0_isDraftThere_16 rfl hl (by decide) rfl (fun ls hl => ?_)
    have hl : lv_has ls 4 [(3, .int (nI (o i))), (0, .ref (q 0)), (1, .int pp), (2, .int (nI i))] := hl
    refine lv_aload_n hx hb dX0_isDraftThere_17 rfl (lv_at hl 1 rfl) ?_
    refine va_get (D := D) (ci := 0) (C := RX0) (T := TX0) (N := 16) hx hb hts hU hown hK hP 0 rfl rfl 11 (by decide) hf_priorities (fun _ h9 => h9) rfl dX0_isDraftThere_18 ?_
    refine lv_iload_n hx hb dX0_isDraftThere_21 rfl (lv_at hl 0 rfl) ?_
    refine eb_iald hx hb hK hP 6 5 rfl rfl (o i) (by omega) (by decide) dX0_isDraftThere_22 ?_
    refine lv_iload_n hx hb dX0_isDraftThere_23 rfl (lv_at hl 2 rfl) ?_
    refine lv_icmp_ne (tgt := 37) hx hb dX0_isDraftThere_24 (by decide) (fun c24 => ?_) (fun c24 => ?_)
    · refine lv_iinc (k := 3) (v := nI (i + 1)) hx hb dX0_isDraftThere_37 hl rfl (nI_add i 1) (by decide) rfl (fun ls hl => ?_)
      have hl : lv_has ls 4 [(2, .int (nI (i + 1))), (3, .int (nI (o i))), (0, .ref (q 0)), (1, .int pp)] := hl
      refine lv_goto (tgt := 2) hx hb dX0_isDraftThere_40 (by decide) ?_
      exact hrec2 ls H locs (by omega) ⟨lv_sub hl [2, 3, 0] rfl, hP, hD, hS, lt_s hi2 (fun hh => absurd hh.1 c24)⟩
    · refine lv_aload_n hx hb dX0_isDraftThere_27 rfl (lv_at hl 1 rfl) ?_
      refine lv_iload_n hx hb dX0_isDraftThere_28 rfl (lv_at hl 0 rfl) ?_
      refine eb_calli (As := [.int (nI (o i))]) (rest := []) ⟨hx, hb, hml, hown, hts⟩ (tX_isDraftIn l D q cs hK3 (o i) (by omega)) (cwV 1 hts gX0_isDraftThere_X0_isDraftIn rfl rfl rfl (by decide +kernel) ⟨Nat.le_of_ble_eq_true rfl, Nat.le_of_ble_eq_true rfl⟩) hK hP hD hS hA rfl rfl rfl rfl hl.1 rfl (Nat.le_of_ble_eq_true rfl) dX0_isDraftThere_29 ⟨Nat.zero_le _, Nat.zero_le _⟩ (fun r2 w1 H locs hq hP hD hS => ?_)
      obtain ⟨rfl, hq2⟩ := hq
      refine lv_if_eq (tgt := 37) hx hb dX0_isDraftThere_32 (by decide) (fun c32 => ?_) (fun c32 => ?_)
      · have c32 := et_b0 hq2 c32
        refine lv_iinc (k := 3) (v := nI (i + 1)) hx hb dX0_isDraftThere_37 hl rfl (nI_add i 1) (by decide) rfl (fun ls hl => ?_)
        have hl : lv_has ls 4 [(2, .int (nI (i + 1))), (3, .int (nI (o i))), (0, .ref (q 0)), (1, .int pp)] := hl
        refine lv_goto (tgt := 2) hx hb dX0_isDraftThere_40 (by decide) ?_
        exact hrec2 ls H locs (by omega) ⟨lv_sub hl [2, 3, 0] rfl, hP, hD, hS, lt_s hi2 (fun hh => absurd hh.2 c32)⟩
      · have c32 := et_b1 hq2 c32
        refine lv_iconst (v := 1) hx hb dX0_isDraftThere_35 (by decide) ?_
        refine eb_zret hx hb hr hlk hK hP hD hS dX0_isDraftThere_36 (by decide) ?_
        exact ⟨rfl, Or.inl ⟨⟨i, by omega, c24, c32⟩, rfl⟩⟩

set_option maxHeartbeats 4000000 in
set_option maxRecDepth 100000 in
theorem tX_rankForDraft (l : Launch) (D : va_G) (q : Nat → Nat) (cs : Nat → ClassId) {K E : Nat} {wd : Int32} {ab : Int64} {kd : Nat → Int32} {dv dm : Nat → Int64} {ord : Nat → Int32} {nn ms : Int32} {nums pris pres fins : Nat → Int32} {vals msks : Nat → Int64} (hK3 : K ≤ 3) (hE : E ≤ 24) (o : Nat → Nat) (ho : ∀ r, r < 24 → ord r = nI (o r) ∧ o r < 24) (pp : Int32) : eb_MI l D vwCl (XTy cs) yX0_rankForDraft wsX0_rankForDraft { frames := 1, cells := 0, slots := 0, locals := 40 } [.ref (q 0), .int pp] (XW q cs (nI K) wd ab kd dv dm ord (nI E) nn ms nums pris pres fins vals msks) (fun r w1 => w1 = XW q cs (nI K) wd ab kd dv dm ord (nI E) nn ms nums pris pres fins vals msks ∧ ∃ j, r = nI j ∧ j ≤ E ∧ (∀ i, i < j → ¬ (pres (o i) < (et_pf K kd dm).toInt32 ∨ (pres (o i) = (et_pf K kd dm).toInt32 ∧ pris (o i) < pp))) ∧ (j < E → (pres (o j) < (et_pf K kd dm).toInt32 ∨ (pres (o j) = (et_pf K kd dm).toInt32 ∧ pris (o j) < pp)))) := by
  refine eb_openI (cc := cX0_rankForDraft) (maxL := 5) (ret := (some .int)) (by decide +kernel) rfl (Nat.le_of_ble_eq_true rfl) ?_
  intro p e s m below meth c A ls H locs hx hb hr hts hown hlk hml hP hK hD hA hS hl
  have hU : ∀ w ∈ wsX00, w ∈ wsX0_rankForDraft := fun w h => List.mem_cons_of_mem _ (List.mem_append_right _ h)
  have hf_entries := hts (.fieldLink RX0 23 "EntryTable" "entries" "I") (by decide +kernel)
  have hf_order := hts (.fieldLink RX0 20 "EntryTable" "order" "[I") (by decide +kernel)
  have hf_prefixes := hts (.fieldLink RX0 39 "EntryTable" "prefixes" "[I") (by decide +kernel)
  have hf_priorities := hts (.fieldLink RX0 36 "EntryTable" "priorities" "[I") (by decide +kernel)
  have hl : lv_has ls 5 [(0, .ref (q 0)), (1, .int pp)] := hl
  refine lv_aload_n hx hb dX0_rankForDraft_0 rfl (lv_at hl 0 rfl) ?_
  refine eb_calli (As := []) (rest := []) ⟨hx, hb, hml, hown, hts⟩ (tX_draftPrefix l D q cs hK3) (cwV 0 hts gX0_rankForDraft_X0_draftPrefix rfl rfl rfl (by decide +kernel) ⟨Nat.le_of_ble_eq_true rfl, Nat.le_of_ble_eq_true rfl⟩) hK hP hD hS hA rfl rfl rfl rfl hl.1 rfl (Nat.le_of_ble_eq_true rfl) dX0_rankForDraft_1 ⟨Nat.zero_le _, Nat.zero_le _⟩ (fun r1 w1 H locs hq hP hD hS => ?_)
  obtain ⟨rfl, rfl⟩ := hq
  refine lv_istore_n hx hb dX0_rankForDraft_4 rfl hl (by decide) rfl (fun ls hl => ?_)
  have hl : lv_has ls 5 [(2, .int ((et_pf K kd dm).toInt32)), (0, .ref (q 0)), (1, .int pp)] := hl
  refine lv_iconst (v := 0) hx hb dX0_rankForDraft_5 (by decide) ?_
  refine lv_istore_n hx hb dX0_rankForDraft_6 rfl hl (by decide) rfl (fun ls hl => ?_)
  have hl : lv_has ls 5 [(3, .int 0), (2, .int ((et_pf K kd dm).toInt32)), (0, .ref (q 0)), (1, .int pp)] := hl
  refine eb_for (fun (i : Nat) (ls : Array Slot) (H : Heap) (locs : List Loc) => lv_has ls 5 [(0, .ref (q 0)), (1, .int pp), (2, .int ((et_pf K kd dm).toInt32)), (3, .int (nI i))] ∧ va_P D vwCl (XW q cs (nI K) wd ab kd dv dm ord (nI E) nn ms nums pris pres fins vals msks) H ∧ va_D A (XW q cs (nI K) wd ab kd dv dm ord (nI E) nn ms nums pris pres fins vals msks) ∧ va_S A s.heap H locs ∧ (∀ j, j < i → ¬ (pres (o j) < (et_pf K kd dm).toInt32 ∨ (pres (o j) = (et_pf K kd dm).toInt32 ∧ pris (o j) < pp)))) 7 (E) ?_ (E) (0) ls H locs (by omega) ⟨lv_sub hl [2, 3, 1, 0] rfl, hP, hD, hS, fun j hj => absurd hj (Nat.not_lt_zero j)⟩
  intro i ls H locs hi hI hrec7
  obtain ⟨hl, hP, hD, hS, hi7⟩ := hI
  refine lv_iload_n hx hb dX0_rankForDraft_7 rfl (lv_at hl 3 rfl) ?_
  refine lv_aload_n hx hb dX0_rankForDraft_8 rfl (lv_at hl 0 rfl) ?_
  refine va_get (D := D) (ci := 0) (C := RX0) (T := TX0) (N := 16) hx hb hts hU hown hK hP 0 rfl rfl 7 (by decide) hf_entries (fun _ h9 => h9) rfl dX0_rankForDraft_9 ?_
  refine lv_icmp_ge (tgt := 64) hx hb dX0_rankForDraft_12 (by decide) (fun c12 => ?_) (fun c12 => ?_)
  · have c12 : nI E ≤ nI i := c12
    rw [nI_leI (by omega) (by omega)] at c12
    refine lv_aload_n hx hb dX0_rankForDraft_64 rfl (lv_at hl 0 rfl) ?_
    refine va_get (D := D) (ci := 0) (C := RX0) (T := TX0) (N := 16) hx hb hts hU hown hK hP 0 rfl rfl 7 (by decide) hf_entries (fun _ h9 => h9) rfl dX0_rankForDraft_65 ?_
    refine eb_iret hx hb hr hlk hK hP hD hS dX0_rankForDraft_68 ?_
    exact ⟨rfl, E, rfl, Nat.le_refl _, fun j hj => hi7 j (by omega), fun hh => absurd hh (Nat.lt_irrefl _)⟩
  · have c12 : ¬ nI E ≤ nI i := c12
    rw [nI_leI (by omega) (by omega)] at c12
    refine lv_aload_n hx hb dX0_rankForDraft_15 rfl (lv_at hl 0 rfl) ?_
    refine va_get (D := D) (ci := 0) (C := RX0) (T := TX0) (N := 16) hx hb hts hU hown hK hP 0 rfl rfl 6 (by decide) hf_order (fun _ h9 => h9) rfl dX0_rankForDraft_16 ?_
    refine lv_iload_n hx hb dX0_rankForDraft_19 rfl (lv_at hl 3 rfl) ?_
    refine eb_iald hx hb hK hP 4 3 rfl rfl (i) (by omega) (by decide) dX0_rankForDraft_20 ?_
    have hs2 := (ho (i) (by omega)).2
    refine eb_ti (nI (o i)) ((ho (i) (by omega)).1) ?_
    refine lv_istore hx hb dX0_rankForDraft_21 hl (by decide) rfl (fun ls hl => ?_)
    have hl : lv_has ls 5 [(4, .int (nI (o i))), (0, .ref (q 0)), (1, .int pp), (2, .int ((et_pf K kd dm).toInt32)), (3, .int (nI i))] := hl
    refine lv_aload_n hx hb dX0_rankForDraft_23 rfl (lv_at hl 1 rfl) ?_
    refine va_get (D := D) (ci := 0) (C := RX0) (T := TX0) (N := 16) hx hb hts hU hown hK hP 0 rfl rfl 12 (by decide) hf_prefixes (fun _ h9 => h9) rfl dX0_rankForDraft_24 ?_
    refine lv_iload hx hb dX0_rankForDraft_27 (lv_at hl 0 rfl) ?_
    refine eb_iald hx hb hK hP 7 6 rfl rfl (o i) (by omega) (by decide) dX0_rankForDraft_29 ?_
    refine lv_iload_n hx hb dX0_rankForDraft_30 rfl (lv_at hl 3 rfl) ?_
    refine lv_icmp_lt (tgt := 56) hx hb dX0_rankForDraft_31 (by decide) (fun c31 => ?_) (fun c31 => ?_)
    · refine lv_iload_n hx hb dX0_rankForDraft_56 rfl (lv_at hl 4 rfl) ?_
      refine eb_iret hx hb hr hlk hK hP hD hS dX0_rankForDraft_57 ?_
      exact ⟨rfl, i, rfl, by omega, hi7, fun _ => by simp only [c31, true_and, and_true, true_or, or_true, false_and, and_false, false_or, or_false, if_true, if_false, not_true_eq_false, not_false_eq_true, implies_true]⟩
    · refine lv_aload_n hx hb dX0_rankForDraft_34 rfl (lv_at hl 1 rfl) ?_
      refine va_get (D := D) (ci := 0) (C := RX0) (T := TX0) (N := 16) hx hb hts hU hown hK hP 0 rfl rfl 12 (by decide) hf_prefixes (fun _ h9 => h9) rfl dX0_rankForDraft_35 ?_
      refine lv_iload hx hb dX0_rankForDraft_38 (lv_at hl 0 rfl) ?_
      refine eb_iald hx hb hK hP 7 6 rfl rfl (o i) (by omega) (by decide) dX0_rankForDraft_40 ?_
      refine lv_iload_n hx hb dX0_rankForDraft_41 rfl (lv_at hl 3 rfl) ?_
      refine lv_icmp_ne (tgt := 58) hx hb dX0_rankForDraft_42 (by decide) (fun c42 => ?_) (fun c42 => ?_)
      · refine lv_iinc (k := 4) (v := nI (i + 1)) hx hb dX0_rankForDraft_58 hl rfl (nI_add i 1) (by decide) rfl (fun ls hl => ?_)
        have hl : lv_has ls 5 [(3, .int (nI (i + 1))), (4, .int (nI (o i))), (0, .ref (q 0)), (1, .int pp), (2, .int ((et_pf K kd dm).toInt32))] := hl
        refine lv_goto (tgt := 7) hx hb dX0_rankForDraft_61 (by decide) ?_
        exact hrec7 ls H locs (by omega) ⟨lv_sub hl [2, 3, 4, 0] rfl, hP, hD, hS, lt_s hi7 (by simp only [c31, c42, true_and, and_true, true_or, or_true, false_and, and_false, false_or, or_false, if_true, if_false, not_true_eq_false, not_false_eq_true, implies_true])⟩
      · refine lv_aload_n hx hb dX0_rankForDraft_45 rfl (lv_at hl 1 rfl) ?_
        refine va_get (D := D) (ci := 0) (C := RX0) (T := TX0) (N := 16) hx hb hts hU hown hK hP 0 rfl rfl 11 (by decide) hf_priorities (fun _ h9 => h9) rfl dX0_rankForDraft_46 ?_
        refine lv_iload hx hb dX0_rankForDraft_49 (lv_at hl 0 rfl) ?_
        refine eb_iald hx hb hK hP 6 5 rfl rfl (o i) (by omega) (by decide) dX0_rankForDraft_51 ?_
        refine lv_iload_n hx hb dX0_rankForDraft_52 rfl (lv_at hl 2 rfl) ?_
        refine lv_icmp_ge (tgt := 58) hx hb dX0_rankForDraft_53 (by decide) (fun c53 => ?_) (fun c53 => ?_)
        · rw [← Int32.not_lt] at c53
          refine lv_iinc (k := 4) (v := nI (i + 1)) hx hb dX0_rankForDraft_58 hl rfl (nI_add i 1) (by decide) rfl (fun ls hl => ?_)
          have hl : lv_has ls 5 [(3, .int (nI (i + 1))), (4, .int (nI (o i))), (0, .ref (q 0)), (1, .int pp), (2, .int ((et_pf K kd dm).toInt32))] := hl
          refine lv_goto (tgt := 7) hx hb dX0_rankForDraft_61 (by decide) ?_
          exact hrec7 ls H locs (by omega) ⟨lv_sub hl [2, 3, 4, 0] rfl, hP, hD, hS, lt_s hi7 (by simp only [c31, eq_true c42, c53, true_and, and_true, true_or, or_true, false_and, and_false, false_or, or_false, if_true, if_false, not_true_eq_false, not_false_eq_true, implies_true])⟩
        · rw [Int32.not_le] at c53
          refine lv_iload_n hx hb dX0_rankForDraft_56 rfl (lv_at hl 4 rfl) ?_
          refine eb_iret hx hb hr hlk hK hP hD hS dX0_rankForDraft_57 ?_
          exact ⟨rfl, i, rfl, by omega, hi7, fun _ => by simp only [c31, eq_true c42, c53, true_and, and_true, true_or, or_true, false_and, and_false, false_or, or_false, if_true, if_false, not_true_eq_false, not_false_eq_true, implies_true]⟩

set_option maxHeartbeats 4000000 in
set_option maxRecDepth 100000 in
theorem tX_rankOf (l : Launch) (D : va_G) (q : Nat → Nat) (cs : Nat → ClassId) {K E : Nat} {wd : Int32} {ab : Int64} {kd : Nat → Int32} {dv dm : Nat → Int64} {ord : Nat → Int32} {nn ms : Int32} {nums pris pres fins : Nat → Int32} {vals msks : Nat → Int64} (hE : E ≤ 24) (o : Nat → Nat) (ho : ∀ r, r < 24 → ord r = nI (o r) ∧ o r < 24) (en : Int32) : eb_MI l D vwCl (XTy cs) yX0_rankOf wsX0_rankOf { frames := 0, cells := 0, slots := 0, locals := 0 } [.ref (q 0), .int en] (XW q cs (nI K) wd ab kd dv dm ord (nI E) nn ms nums pris pres fins vals msks) (fun r w1 => w1 = XW q cs (nI K) wd ab kd dv dm ord (nI E) nn ms nums pris pres fins vals msks ∧ ((∃ j, j < E ∧ nums (o j) = en ∧ (∀ i, i < j → ¬ nums (o i) = en) ∧ r = nI j) ∨ ((∀ j, j < E → ¬ nums (o j) = en) ∧ r = -1))) := by
  refine eb_openI (cc := cX0_rankOf) (maxL := 3) (ret := (some .int)) (by decide +kernel) rfl (Nat.le_of_ble_eq_true rfl) ?_
  intro p e s m below meth c A ls H locs hx hb hr hts hown hlk hml hP hK hD hA hS hl
  have hU : ∀ w ∈ wsX00, w ∈ wsX0_rankOf := fun w h => List.mem_cons_of_mem _ (List.mem_append_right _ h)
  have hf_entries := hts (.fieldLink RX0 23 "EntryTable" "entries" "I") (by decide +kernel)
  have hf_numbers := hts (.fieldLink RX0 33 "EntryTable" "numbers" "[I") (by decide +kernel)
  have hf_order := hts (.fieldLink RX0 20 "EntryTable" "order" "[I") (by decide +kernel)
  have hl : lv_has ls 3 [(0, .ref (q 0)), (1, .int en)] := hl
  refine lv_iconst (v := 0) hx hb dX0_rankOf_0 (by decide) ?_
  refine lv_istore_n hx hb dX0_rankOf_1 rfl hl (by decide) rfl (fun ls hl => ?_)
  have hl : lv_has ls 3 [(2, .int 0), (0, .ref (q 0)), (1, .int en)] := hl
  refine eb_for (fun (i : Nat) (ls : Array Slot) (H : Heap) (locs : List Loc) => lv_has ls 3 [(0, .ref (q 0)), (1, .int en), (2, .int (nI i))] ∧ va_P D vwCl (XW q cs (nI K) wd ab kd dv dm ord (nI E) nn ms nums pris pres fins vals msks) H ∧ va_D A (XW q cs (nI K) wd ab kd dv dm ord (nI E) nn ms nums pris pres fins vals msks) ∧ va_S A s.heap H locs ∧ (∀ j, j < i → ¬ nums (o j) = en)) 2 (E) ?_ (E) (0) ls H locs (by omega) ⟨lv_sub hl [1, 2, 0] rfl, hP, hD, hS, fun j hj => absurd hj (Nat.not_lt_zero j)⟩
  intro i ls H locs hi hI hrec2
  obtain ⟨hl, hP, hD, hS, hi2⟩ := hI
  refine lv_iload_n hx hb dX0_rankOf_2 rfl (lv_at hl 2 rfl) ?_
  refine lv_aload_n hx hb dX0_rankOf_3 rfl (lv_at hl 0 rfl) ?_
  refine va_get (D := D) (ci := 0) (C := RX0) (T := TX0) (N := 16) hx hb hts hU hown hK hP 0 rfl rfl 7 (by decide) hf_entries (fun _ h9 => h9) rfl dX0_rankOf_4 ?_
  refine lv_icmp_ge (tgt := 33) hx hb dX0_rankOf_7 (by decide) (fun c7 => ?_) (fun c7 => ?_)
  · have c7 : nI E ≤ nI i := c7
    rw [nI_leI (by omega) (by omega)] at c7
    refine lv_iconst (v := (-1)) hx hb dX0_rankOf_33 (by decide) ?_
    refine eb_iret hx hb hr hlk hK hP hD hS dX0_rankOf_34 ?_
    exact ⟨rfl, Or.inr ⟨fun j hj => hi2 j (by omega), rfl⟩⟩
  · have c7 : ¬ nI E ≤ nI i := c7
    rw [nI_leI (by omega) (by omega)] at c7
    refine lv_aload_n hx hb dX0_rankOf_10 rfl (lv_at hl 0 rfl) ?_
    refine va_get (D := D) (ci := 0) (C := RX0) (T := TX0) (N := 16) hx hb hts hU hown hK hP 0 rfl rfl 10 (by decide) hf_numbers (fun _ h9 => h9) rfl dX0_rankOf_11 ?_
    refine lv_aload_n hx hb dX0_rankOf_14 rfl (lv_at hl 0 rfl) ?_
    refine va_get (D := D) (ci := 0) (C := RX0) (T := TX0) (N := 16) hx hb hts hU hown hK hP 0 rfl rfl 6 (by decide) hf_order (fun _ h9 => h9) rfl dX0_rankOf_15 ?_
    refine lv_iload_n hx hb dX0_rankOf_18 rfl (lv_at hl 2 rfl) ?_
    refine eb_iald hx hb hK hP 4 3 rfl rfl (i) (by omega) (by decide) dX0_rankOf_19 ?_
    have hs1 := (ho (i) (by omega)).2
    refine eb_ti (nI (o i)) ((ho (i) (by omega)).1) ?_
    refine eb_iald hx hb hK hP 5 4 rfl rfl (o i) (by omega) (by decide) dX0_rankOf_20 ?_
    refine lv_iload_n hx hb dX0_rankOf_21 rfl (lv_at hl 1 rfl) ?_
    refine lv_icmp_ne (tgt := 27) hx hb dX0_rankOf_22 (by decide) (fun c22 => ?_) (fun c22 => ?_)
    · refine lv_iinc (k := 2) (v := nI (i + 1)) hx hb dX0_rankOf_27 hl rfl (nI_add i 1) (by decide) rfl (fun ls hl => ?_)
      have hl : lv_has ls 3 [(2, .int (nI (i + 1))), (0, .ref (q 0)), (1, .int en)] := hl
      refine lv_goto (tgt := 2) hx hb dX0_rankOf_30 (by decide) ?_
      exact hrec2 ls H locs (by omega) ⟨lv_sub hl [1, 2, 0] rfl, hP, hD, hS, lt_s hi2 c22⟩
    · refine lv_iload_n hx hb dX0_rankOf_25 rfl (lv_at hl 2 rfl) ?_
      refine eb_iret hx hb hr hlk hK hP hD hS dX0_rankOf_26 ?_
      exact ⟨rfl, Or.inl ⟨i, by omega, c22, hi2, rfl⟩⟩
end
section
set_option maxHeartbeats 4000000 in
set_option maxRecDepth 100000 in
theorem tX_clearDraft (l : Launch) (D : va_G) (q : Nat → Nat) (cs : Nat → ClassId) {K E : Nat} {wd : Int32} {ab : Int64} {kd : Nat → Int32} {dv dm : Nat → Int64} {ord : Nat → Int32} {nn ms : Int32} {nums pris pres fins : Nat → Int32} {vals msks : Nat → Int64}  : eb_MV l D vwCl (XTy cs) yX0_clearDraft wsX0_clearDraft { frames := 0, cells := 0, slots := 0, locals := 0 } [.ref (q 0)] (XW q cs (nI K) wd ab kd dv dm ord (nI E) nn ms nums pris pres fins vals msks) (fun w1 => w1 = XW q cs (nI K) wd ab kd (et_z dv) (et_z dm) ord (nI E) nn ms nums pris pres fins vals msks) := by
  refine eb_openV (cc := cX0_clearDraft) (maxL := 2) (ret := none) (by decide +kernel) rfl (Nat.le_of_ble_eq_true rfl) ?_
  intro p e s m below meth c A ls H locs hx hb hr hts hown hlk hml hP hK hD hA hS hl
  have hU : ∀ w ∈ wsX00, w ∈ wsX0_clearDraft := fun w h => List.mem_cons_of_mem _ (List.mem_append_right _ h)
  have hf_draftValues := hts (.fieldLink RX0 13 "EntryTable" "draftValues" "[J") (by decide +kernel)
  have hf_draftMasks := hts (.fieldLink RX0 17 "EntryTable" "draftMasks" "[J") (by decide +kernel)
  have hl : lv_has ls 2 [(0, .ref (q 0))] := hl
  refine lv_iconst (v := 0) hx hb dX0_clearDraft_0 (by decide) ?_
  refine lv_istore_n hx hb dX0_clearDraft_1 rfl hl (by decide) rfl (fun ls hl => ?_)
  have hl : lv_has ls 2 [(1, .int 0), (0, .ref (q 0))] := hl
  refine eb_for (fun (k : Nat) (ls : Array Slot) (H : Heap) (locs : List Loc) => ∃ dv1 : Nat → Int64, ∃ dm1 : Nat → Int64, lv_has ls 2 [(0, .ref (q 0)), (1, .int (nI k))] ∧ va_P D vwCl (XW q cs (nI K) wd ab kd dv1 dm1 ord (nI E) nn ms nums pris pres fins vals msks) H ∧ va_D A (XW q cs (nI K) wd ab kd dv1 dm1 ord (nI E) nn ms nums pris pres fins vals msks) ∧ va_S A s.heap H locs ∧ (dv1 = et_zz dv k ∧ dm1 = et_zz dm k)) 2 (3) ?_ (3) (0) ls H locs (by omega) ⟨dv, dm, lv_sub hl [1, 0] rfl, hP, hD, hS, ⟨et_zz_0.symm, et_zz_0.symm⟩⟩
  intro k ls H locs hk hI hrec2
  obtain ⟨dv1, dm1, hl, hP, hD, hS, hi2⟩ := hI
  refine lv_iload_n hx hb dX0_clearDraft_2 rfl (lv_at hl 1 rfl) ?_
  refine lv_iconst (v := 3) hx hb dX0_clearDraft_3 (by decide) ?_
  refine lv_icmp_ge (tgt := 27) hx hb dX0_clearDraft_4 (by decide) (fun c4 => ?_) (fun c4 => ?_)
  · have c4 : nI 3 ≤ nI k := c4
    rw [nI_leI (by omega) (by omega)] at c4
    refine eb_vret hx hb hr hlk hK hP hD hS dX0_clearDraft_27 ?_
    obtain ⟨rfl, rfl⟩ := hi2
    show XW q cs _ _ _ _ (et_zz dv k) (et_zz dm k) _ _ _ _ _ _ _ _ _ _ = _
    rw [show k = 3 by omega]
  · have c4 : ¬ nI 3 ≤ nI k := c4
    rw [nI_leI (by omega) (by omega)] at c4
    refine lv_aload_n hx hb dX0_clearDraft_7 rfl (lv_at hl 0 rfl) ?_
    refine va_get (D := D) (ci := 0) (C := RX0) (T := TX0) (N := 16) hx hb hts hU hown hK hP 0 rfl rfl 4 (by decide) hf_draftValues (fun _ h9 => h9) rfl dX0_clearDraft_8 ?_
    refine lv_iload_n hx hb dX0_clearDraft_11 rfl (lv_at hl 1 rfl) ?_
    refine lv_lconst (v := 0) hx hb dX0_clearDraft_12 (by decide) ?_
    refine eb_last hx hb hK hP hD hS 2 1 rfl rfl (k) (by omega) (by decide) dX0_clearDraft_13 (fun H locs hP hD hS => ?_)
    have hP : va_P D vwCl (XW q cs (nI K) wd ab kd (vp_updL dv1 k 0) dm1 ord (nI E) nn ms nums pris pres fins vals msks) H := hP
    have hD : va_D A (XW q cs (nI K) wd ab kd (vp_updL dv1 k 0) dm1 ord (nI E) nn ms nums pris pres fins vals msks) := hD
    refine lv_aload_n hx hb dX0_clearDraft_14 rfl (lv_at hl 0 rfl) ?_
    refine va_get (D := D) (ci := 0) (C := RX0) (T := TX0) (N := 16) hx hb hts hU hown hK hP 0 rfl rfl 5 (by decide) hf_draftMasks (fun _ h9 => h9) rfl dX0_clearDraft_15 ?_
    refine lv_iload_n hx hb dX0_clearDraft_18 rfl (lv_at hl 1 rfl) ?_
    refine lv_lconst (v := 0) hx hb dX0_clearDraft_19 (by decide) ?_
    refine eb_last hx hb hK hP hD hS 3 2 rfl rfl (k) (by omega) (by decide) dX0_clearDraft_20 (fun H locs hP hD hS => ?_)
    have hP : va_P D vwCl (XW q cs (nI K) wd ab kd (vp_updL dv1 k 0) (vp_updL dm1 k 0) ord (nI E) nn ms nums pris pres fins vals msks) H := hP
    have hD : va_D A (XW q cs (nI K) wd ab kd (vp_updL dv1 k 0) (vp_updL dm1 k 0) ord (nI E) nn ms nums pris pres fins vals msks) := hD
    refine lv_iinc (k := 1) (v := nI (k + 1)) hx hb dX0_clearDraft_21 hl rfl (nI_add k 1) (by decide) rfl (fun ls hl => ?_)
    have hl : lv_has ls 2 [(1, .int (nI (k + 1))), (0, .ref (q 0))] := hl
    refine lv_goto (tgt := 2) hx hb dX0_clearDraft_24 (by decide) ?_
    exact hrec2 ls H locs (by omega) ⟨(vp_updL dv1 k 0), (vp_updL dm1 k 0), lv_sub hl [1, 0] rfl, hP, hD, hS, by rw [hi2.1, hi2.2]; exact ⟨et_zz_s, et_zz_s⟩⟩

set_option maxHeartbeats 4000000 in
set_option maxRecDepth 100000 in
theorem tX_takeSlot (l : Launch) (D : va_G) (q : Nat → Nat) (cs : Nat → ClassId) {K E : Nat} {wd : Int32} {ab : Int64} {kd : Nat → Int32} {dv dm : Nat → Int64} {ord : Nat → Int32} {nn ms : Int32} {nums pris pres fins : Nat → Int32} {vals msks : Nat → Int64} (hE : E < 24) (j : Nat) (hj : j ≤ E) : eb_MI l D vwCl (XTy cs) yX0_takeSlot wsX0_takeSlot { frames := 1, cells := 0, slots := 0, locals := 40 } [.ref (q 0), .int (nI j)] (XW q cs (nI K) wd ab kd dv dm ord (nI E) nn ms nums pris pres fins vals msks) (fun r w1 => r = ord E ∧ w1 = XW q cs (nI K) wd ab kd dv dm (upd (va_cpy ord ord j (j + 1) (E - j)) j (ord E)) (nI (E + 1)) nn ms nums pris pres fins vals msks) := by
  refine eb_openI (cc := cX0_takeSlot) (maxL := 3) (ret := (some .int)) (by decide +kernel) rfl (Nat.le_of_ble_eq_true rfl) ?_
  intro p e s m below meth c A ls H locs hx hb hr hts hown hlk hml hP hK hD hA hS hl
  have hU : ∀ w ∈ wsX00, w ∈ wsX0_takeSlot := fun w h => List.mem_cons_of_mem _ (List.mem_append_right _ h)
  have hf_order := hts (.fieldLink RX0 20 "EntryTable" "order" "[I") (by decide +kernel)
  have hf_entries := hts (.fieldLink RX0 23 "EntryTable" "entries" "I") (by decide +kernel)
  have hl : lv_has ls 3 [(0, .ref (q 0)), (1, .int (nI j))] := hl
  refine lv_aload_n hx hb dX0_takeSlot_0 rfl (lv_at hl 0 rfl) ?_
  refine va_get (D := D) (ci := 0) (C := RX0) (T := TX0) (N := 16) hx hb hts hU hown hK hP 0 rfl rfl 6 (by decide) hf_order (fun _ h9 => h9) rfl dX0_takeSlot_1 ?_
  refine lv_aload_n hx hb dX0_takeSlot_4 rfl (lv_at hl 0 rfl) ?_
  refine va_get (D := D) (ci := 0) (C := RX0) (T := TX0) (N := 16) hx hb hts hU hown hK hP 0 rfl rfl 7 (by decide) hf_entries (fun _ h9 => h9) rfl dX0_takeSlot_5 ?_
  refine eb_iald hx hb hK hP 4 3 rfl rfl (E) (by omega) (by decide) dX0_takeSlot_8 ?_
  refine lv_istore_n hx hb dX0_takeSlot_9 rfl hl (by decide) rfl (fun ls hl => ?_)
  have hl : lv_has ls 3 [(2, .int (ord E)), (0, .ref (q 0)), (1, .int (nI j))] := hl
  refine lv_aload_n hx hb dX0_takeSlot_10 rfl (lv_at hl 1 rfl) ?_
  refine va_get (D := D) (ci := 0) (C := RX0) (T := TX0) (N := 16) hx hb hts hU hown hK hP 0 rfl rfl 6 (by decide) hf_order (fun _ h9 => h9) rfl dX0_takeSlot_11 ?_
  refine lv_iload_n hx hb dX0_takeSlot_14 rfl (lv_at hl 2 rfl) ?_
  refine lv_aload_n hx hb dX0_takeSlot_15 rfl (lv_at hl 1 rfl) ?_
  refine va_get (D := D) (ci := 0) (C := RX0) (T := TX0) (N := 16) hx hb hts hU hown hK hP 0 rfl rfl 6 (by decide) hf_order (fun _ h9 => h9) rfl dX0_takeSlot_16 ?_
  refine lv_iload_n hx hb dX0_takeSlot_19 rfl (lv_at hl 2 rfl) ?_
  refine lv_iconst (v := 1) hx hb dX0_takeSlot_20 (by decide) ?_
  refine lv_iadd hx hb dX0_takeSlot_21 ?_
  refine eb_ti (nI (j + 1)) (nI_add j 1) ?_
  refine lv_aload_n hx hb dX0_takeSlot_22 rfl (lv_at hl 1 rfl) ?_
  refine va_get (D := D) (ci := 0) (C := RX0) (T := TX0) (N := 16) hx hb hts hU hown hK hP 0 rfl rfl 7 (by decide) hf_entries (fun _ h9 => h9) rfl dX0_takeSlot_23 ?_
  refine lv_iload_n hx hb dX0_takeSlot_26 rfl (lv_at hl 2 rfl) ?_
  refine lv_isub hx hb dX0_takeSlot_27 ?_
  refine eb_ti (nI (E - j)) (pk_sub (a := E) (b := j) (by omega)) ?_
  refine eb_copyi hx hb (hml.trans hl.1.symm) hown (hts (.methodLink RX0 123 arraycopyName) (by decide +kernel)) (hts (.native arraycopyName) (by decide +kernel)) (hts (.static arraycopyName) (by decide +kernel)) (hts (.initialized "java/lang/System") (by decide +kernel)) hK hP hD hS 4 3 rfl rfl (j) (j + 1) (E - j) (by omega) (by omega) (by decide) (Nat.le_of_ble_eq_true rfl) (by decide +kernel) dX0_takeSlot_28 (fun H locs hP hD hS => ?_)
  have hP : va_P D vwCl (XW q cs (nI K) wd ab kd dv dm (va_cpy ord ord j (j + 1) (E - j)) (nI E) nn ms nums pris pres fins vals msks) H := hP
  have hD : va_D A (XW q cs (nI K) wd ab kd dv dm (va_cpy ord ord j (j + 1) (E - j)) (nI E) nn ms nums pris pres fins vals msks) := hD
  refine lv_aload_n hx hb dX0_takeSlot_31 rfl (lv_at hl 1 rfl) ?_
  refine va_get (D := D) (ci := 0) (C := RX0) (T := TX0) (N := 16) hx hb hts hU hown hK hP 0 rfl rfl 6 (by decide) hf_order (fun _ h9 => h9) rfl dX0_takeSlot_32 ?_
  refine lv_iload_n hx hb dX0_takeSlot_35 rfl (lv_at hl 2 rfl) ?_
  refine lv_iload_n hx hb dX0_takeSlot_36 rfl (lv_at hl 0 rfl) ?_
  refine eb_iast hx hb hK hP hD hS 4 3 rfl rfl (j) (by omega) (by decide) dX0_takeSlot_37 (fun H locs hP hD hS => ?_)
  have hP : va_P D vwCl (XW q cs (nI K) wd ab kd dv dm (upd (va_cpy ord ord j (j + 1) (E - j)) j (ord E)) (nI E) nn ms nums pris pres fins vals msks) H := hP
  have hD : va_D A (XW q cs (nI K) wd ab kd dv dm (upd (va_cpy ord ord j (j + 1) (E - j)) j (ord E)) (nI E) nn ms nums pris pres fins vals msks) := hD
  refine lv_aload_n hx hb dX0_takeSlot_38 rfl (lv_at hl 1 rfl) ?_
  refine lv_dup hx hb dX0_takeSlot_39 rfl ?_
  refine va_get (D := D) (ci := 0) (C := RX0) (T := TX0) (N := 16) hx hb hts hU hown hK hP 0 rfl rfl 7 (by decide) hf_entries (fun _ h9 => h9) rfl dX0_takeSlot_40 ?_
  refine lv_iconst (v := 1) hx hb dX0_takeSlot_43 (by decide) ?_
  refine lv_iadd hx hb dX0_takeSlot_44 ?_
  refine eb_ti (nI (E + 1)) (nI_add E 1) ?_
  refine va_put (D := D) (ci := 0) (ty := .int) (C := RX0) (T := TX0) (N := 16) hx hb hts hU tyX0 tyX0_ok nmX0 hown hK hP hD hS 0 rfl rfl 7 (by decide) hf_entries (fun _ h9 => h9) rfl (by decide +kernel) rfl rfl (Nat.le_of_ble_eq_true rfl) dX0_takeSlot_45 (fun H locs hP hD hS => ?_)
  have hP : va_P D vwCl (XW q cs (nI K) wd ab kd dv dm (upd (va_cpy ord ord j (j + 1) (E - j)) j (ord E)) (nI (E + 1)) nn ms nums pris pres fins vals msks) H := hP
  have hD : va_D A (XW q cs (nI K) wd ab kd dv dm (upd (va_cpy ord ord j (j + 1) (E - j)) j (ord E)) (nI (E + 1)) nn ms nums pris pres fins vals msks) := hD
  refine lv_iload_n hx hb dX0_takeSlot_48 rfl (lv_at hl 0 rfl) ?_
  refine eb_iret hx hb hr hlk hK hP hD hS dX0_takeSlot_49 ?_
  exact ⟨rfl, rfl⟩

set_option maxHeartbeats 4000000 in
set_option maxRecDepth 100000 in
theorem tX_freeSlot (l : Launch) (D : va_G) (q : Nat → Nat) (cs : Nat → ClassId) {K E : Nat} {wd : Int32} {ab : Int64} {kd : Nat → Int32} {dv dm : Nat → Int64} {ord : Nat → Int32} {nn ms : Int32} {nums pris pres fins : Nat → Int32} {vals msks : Nat → Int64} (hE : E ≤ 24) (j : Nat) (hj : j < E) : eb_MV l D vwCl (XTy cs) yX0_freeSlot wsX0_freeSlot { frames := 1, cells := 0, slots := 0, locals := 40 } [.ref (q 0), .int (nI j)] (XW q cs (nI K) wd ab kd dv dm ord (nI E) nn ms nums pris pres fins vals msks) (fun w1 => w1 = XW q cs (nI K) wd ab kd dv dm (upd (va_cpy ord ord (j + 1) j (E - 1 - j)) (E - 1) (ord j)) (nI (E - 1)) nn ms nums pris pres fins vals msks) := by
  refine eb_openV (cc := cX0_freeSlot) (maxL := 3) (ret := none) (by decide +kernel) rfl (Nat.le_of_ble_eq_true rfl) ?_
  intro p e s m below meth c A ls H locs hx hb hr hts hown hlk hml hP hK hD hA hS hl
  have hU : ∀ w ∈ wsX00, w ∈ wsX0_freeSlot := fun w h => List.mem_cons_of_mem _ (List.mem_append_right _ h)
  have hf_order := hts (.fieldLink RX0 20 "EntryTable" "order" "[I") (by decide +kernel)
  have hf_entries := hts (.fieldLink RX0 23 "EntryTable" "entries" "I") (by decide +kernel)
  have hl : lv_has ls 3 [(0, .ref (q 0)), (1, .int (nI j))] := hl
  refine lv_aload_n hx hb dX0_freeSlot_0 rfl (lv_at hl 0 rfl) ?_
  refine va_get (D := D) (ci := 0) (C := RX0) (T := TX0) (N := 16) hx hb hts hU hown hK hP 0 rfl rfl 6 (by decide) hf_order (fun _ h9 => h9) rfl dX0_freeSlot_1 ?_
  refine lv_iload_n hx hb dX0_freeSlot_4 rfl (lv_at hl 1 rfl) ?_
  refine eb_iald hx hb hK hP 4 3 rfl rfl (j) (by omega) (by decide) dX0_freeSlot_5 ?_
  refine lv_istore_n hx hb dX0_freeSlot_6 rfl hl (by decide) rfl (fun ls hl => ?_)
  have hl : lv_has ls 3 [(2, .int (ord j)), (0, .ref (q 0)), (1, .int (nI j))] := hl
  refine lv_aload_n hx hb dX0_freeSlot_7 rfl (lv_at hl 1 rfl) ?_
  refine lv_dup hx hb dX0_freeSlot_8 rfl ?_
  refine va_get (D := D) (ci := 0) (C := RX0) (T := TX0) (N := 16) hx hb hts hU hown hK hP 0 rfl rfl 7 (by decide) hf_entries (fun _ h9 => h9) rfl dX0_freeSlot_9 ?_
  refine lv_iconst (v := 1) hx hb dX0_freeSlot_12 (by decide) ?_
  refine lv_isub hx hb dX0_freeSlot_13 ?_
  refine eb_ti (nI (E - 1)) (pk_sub (a := E) (b := 1) (by omega)) ?_
  refine va_put (D := D) (ci := 0) (ty := .int) (C := RX0) (T := TX0) (N := 16) hx hb hts hU tyX0 tyX0_ok nmX0 hown hK hP hD hS 0 rfl rfl 7 (by decide) hf_entries (fun _ h9 => h9) rfl (by decide +kernel) rfl rfl (Nat.le_of_ble_eq_true rfl) dX0_freeSlot_14 (fun H locs hP hD hS => ?_)
  have hP : va_P D vwCl (XW q cs (nI K) wd ab kd dv dm ord (nI (E - 1)) nn ms nums pris pres fins vals msks) H := hP
  have hD : va_D A (XW q cs (nI K) wd ab kd dv dm ord (nI (E - 1)) nn ms nums pris pres fins vals msks) := hD
  refine lv_aload_n hx hb dX0_freeSlot_17 rfl (lv_at hl 1 rfl) ?_
  refine va_get (D := D) (ci := 0) (C := RX0) (T := TX0) (N := 16) hx hb hts hU hown hK hP 0 rfl rfl 6 (by decide) hf_order (fun _ h9 => h9) rfl dX0_freeSlot_18 ?_
  refine lv_iload_n hx hb dX0_freeSlot_21 rfl (lv_at hl 2 rfl) ?_
  refine lv_iconst (v := 1) hx hb dX0_freeSlot_22 (by decide) ?_
  refine lv_iadd hx hb dX0_freeSlot_23 ?_
  refine eb_ti (nI (j + 1)) (nI_add j 1) ?_
  refine lv_aload_n hx hb dX0_freeSlot_24 rfl (lv_at hl 1 rfl) ?_
  refine va_get (D := D) (ci := 0) (C := RX0) (T := TX0) (N := 16) hx hb hts hU hown hK hP 0 rfl rfl 6 (by decide) hf_order (fun _ h9 => h9) rfl dX0_freeSlot_25 ?_
  refine lv_iload_n hx hb dX0_freeSlot_28 rfl (lv_at hl 2 rfl) ?_
  refine lv_aload_n hx hb dX0_freeSlot_29 rfl (lv_at hl 1 rfl) ?_
  refine va_get (D := D) (ci := 0) (C := RX0) (T := TX0) (N := 16) hx hb hts hU hown hK hP 0 rfl rfl 7 (by decide) hf_entries (fun _ h9 => h9) rfl dX0_freeSlot_30 ?_
  refine lv_iload_n hx hb dX0_freeSlot_33 rfl (lv_at hl 2 rfl) ?_
  refine lv_isub hx hb dX0_freeSlot_34 ?_
  refine eb_ti (nI ((E - 1) - j)) (pk_sub (a := (E - 1)) (b := j) (by omega)) ?_
  refine eb_copyi hx hb (hml.trans hl.1.symm) hown (hts (.methodLink RX0 123 arraycopyName) (by decide +kernel)) (hts (.native arraycopyName) (by decide +kernel)) (hts (.static arraycopyName) (by decide +kernel)) (hts (.initialized "java/lang/System") (by decide +kernel)) hK hP hD hS 4 3 rfl rfl (j + 1) (j) ((E - 1) - j) (by omega) (by omega) (by decide) (Nat.le_of_ble_eq_true rfl) (by decide +kernel) dX0_freeSlot_35 (fun H locs hP hD hS => ?_)
  have hP : va_P D vwCl (XW q cs (nI K) wd ab kd dv dm (va_cpy ord ord (j + 1) j ((E - 1) - j)) (nI (E - 1)) nn ms nums pris pres fins vals msks) H := hP
  have hD : va_D A (XW q cs (nI K) wd ab kd dv dm (va_cpy ord ord (j + 1) j ((E - 1) - j)) (nI (E - 1)) nn ms nums pris pres fins vals msks) := hD
  refine lv_aload_n hx hb dX0_freeSlot_38 rfl (lv_at hl 1 rfl) ?_
  refine va_get (D := D) (ci := 0) (C := RX0) (T := TX0) (N := 16) hx hb hts hU hown hK hP 0 rfl rfl 6 (by decide) hf_order (fun _ h9 => h9) rfl dX0_freeSlot_39 ?_
  refine lv_aload_n hx hb dX0_freeSlot_42 rfl (lv_at hl 1 rfl) ?_
  refine va_get (D := D) (ci := 0) (C := RX0) (T := TX0) (N := 16) hx hb hts hU hown hK hP 0 rfl rfl 7 (by decide) hf_entries (fun _ h9 => h9) rfl dX0_freeSlot_43 ?_
  refine lv_iload_n hx hb dX0_freeSlot_46 rfl (lv_at hl 0 rfl) ?_
  refine eb_iast hx hb hK hP hD hS 4 3 rfl rfl (E - 1) (by omega) (by decide) dX0_freeSlot_47 (fun H locs hP hD hS => ?_)
  have hP : va_P D vwCl (XW q cs (nI K) wd ab kd dv dm (upd (va_cpy ord ord (j + 1) j ((E - 1) - j)) (E - 1) (ord j)) (nI (E - 1)) nn ms nums pris pres fins vals msks) H := hP
  have hD : va_D A (XW q cs (nI K) wd ab kd dv dm (upd (va_cpy ord ord (j + 1) j ((E - 1) - j)) (E - 1) (ord j)) (nI (E - 1)) nn ms nums pris pres fins vals msks) := hD
  refine eb_vret hx hb hr hlk hK hP hD hS dX0_freeSlot_48 ?_
  exact rfl

set_option maxHeartbeats 4000000 in
set_option maxRecDepth 100000 in
theorem tX_fillSlot (l : Launch) (D : va_G) (q : Nat → Nat) (cs : Nat → ClassId) {K E : Nat} {wd : Int32} {ab : Int64} {kd : Nat → Int32} {dv dm : Nat → Int64} {ord : Nat → Int32} {nn ms : Int32} {nums pris pres fins : Nat → Int32} {vals msks : Nat → Int64} (hK3 : K ≤ 3) (s0 : Nat) (hs0 : s0 < 24) (pp : Int32) : eb_MV l D vwCl (XTy cs) yX0_fillSlot wsX0_fillSlot { frames := 1, cells := 0, slots := 0, locals := 40 } [.ref (q 0), .int (nI s0), .int pp] (XW q cs (nI K) wd ab kd dv dm ord (nI E) nn ms nums pris pres fins vals msks) (fun w1 => ∃ vals1 msks1 : Nat → Int64, w1 = XW q cs (nI K) wd ab kd dv dm ord (nI E) (nn + 1) ms (upd nums s0 nn) (upd pris s0 pp) (upd pres s0 (et_pf K kd dm).toInt32) (upd fins s0 0) vals1 msks1 ∧ et_fl vals vals1 dv (s0 * 3) K ∧ et_fl msks msks1 (fun j => et_db ab (kd j) (dm j)) (s0 * 3) K) := by
  refine eb_openV (cc := cX0_fillSlot) (maxL := 4) (ret := none) (by decide +kernel) rfl (Nat.le_of_ble_eq_true rfl) ?_
  intro p e s m below meth c A ls H locs hx hb hr hts hown hlk hml hP hK hD hA hS hl
  have hU : ∀ w ∈ wsX00, w ∈ wsX0_fillSlot := fun w h => List.mem_cons_of_mem _ (List.mem_append_right _ h)
  have hf_numbers := hts (.fieldLink RX0 33 "EntryTable" "numbers" "[I") (by decide +kernel)
  have hf_nextNumber := hts (.fieldLink RX0 27 "EntryTable" "nextNumber" "I") (by decide +kernel)
  have hf_priorities := hts (.fieldLink RX0 36 "EntryTable" "priorities" "[I") (by decide +kernel)
  have hf_prefixes := hts (.fieldLink RX0 39 "EntryTable" "prefixes" "[I") (by decide +kernel)
  have hf_finds := hts (.fieldLink RX0 42 "EntryTable" "finds" "[I") (by decide +kernel)
  have hf_keys := hts (.fieldLink RX0 60 "EntryTable" "keys" "I") (by decide +kernel)
  have hf_values := hts (.fieldLink RX0 45 "EntryTable" "values" "[J") (by decide +kernel)
  have hf_draftValues := hts (.fieldLink RX0 13 "EntryTable" "draftValues" "[J") (by decide +kernel)
  have hf_masks := hts (.fieldLink RX0 48 "EntryTable" "masks" "[J") (by decide +kernel)
  have hl : lv_has ls 4 [(0, .ref (q 0)), (1, .int (nI s0)), (2, .int pp)] := hl
  refine lv_aload_n hx hb dX0_fillSlot_0 rfl (lv_at hl 0 rfl) ?_
  refine va_get (D := D) (ci := 0) (C := RX0) (T := TX0) (N := 16) hx hb hts hU hown hK hP 0 rfl rfl 10 (by decide) hf_numbers (fun _ h9 => h9) rfl dX0_fillSlot_1 ?_
  refine lv_iload_n hx hb dX0_fillSlot_4 rfl (lv_at hl 1 rfl) ?_
  refine lv_aload_n hx hb dX0_fillSlot_5 rfl (lv_at hl 0 rfl) ?_
  refine va_get (D := D) (ci := 0) (C := RX0) (T := TX0) (N := 16) hx hb hts hU hown hK hP 0 rfl rfl 8 (by decide) hf_nextNumber (fun _ h9 => h9) rfl dX0_fillSlot_6 ?_
  refine eb_iast hx hb hK hP hD hS 5 4 rfl rfl (s0) (by omega) (by decide) dX0_fillSlot_9 (fun H locs hP hD hS => ?_)
  have hP : va_P D vwCl (XW q cs (nI K) wd ab kd dv dm ord (nI E) nn ms (upd nums s0 nn) pris pres fins vals msks) H := hP
  have hD : va_D A (XW q cs (nI K) wd ab kd dv dm ord (nI E) nn ms (upd nums s0 nn) pris pres fins vals msks) := hD
  refine lv_aload_n hx hb dX0_fillSlot_10 rfl (lv_at hl 0 rfl) ?_
  refine lv_dup hx hb dX0_fillSlot_11 rfl ?_
  refine va_get (D := D) (ci := 0) (C := RX0) (T := TX0) (N := 16) hx hb hts hU hown hK hP 0 rfl rfl 8 (by decide) hf_nextNumber (fun _ h9 => h9) rfl dX0_fillSlot_12 ?_
  refine lv_iconst (v := 1) hx hb dX0_fillSlot_15 (by decide) ?_
  refine lv_iadd hx hb dX0_fillSlot_16 ?_
  refine va_put (D := D) (ci := 0) (ty := .int) (C := RX0) (T := TX0) (N := 16) hx hb hts hU tyX0 tyX0_ok nmX0 hown hK hP hD hS 0 rfl rfl 8 (by decide) hf_nextNumber (fun _ h9 => h9) rfl (by decide +kernel) rfl rfl (Nat.le_of_ble_eq_true rfl) dX0_fillSlot_17 (fun H locs hP hD hS => ?_)
  have hP : va_P D vwCl (XW q cs (nI K) wd ab kd dv dm ord (nI E) (nn + 1) ms (upd nums s0 nn) pris pres fins vals msks) H := hP
  have hD : va_D A (XW q cs (nI K) wd ab kd dv dm ord (nI E) (nn + 1) ms (upd nums s0 nn) pris pres fins vals msks) := hD
  refine lv_aload_n hx hb dX0_fillSlot_20 rfl (lv_at hl 0 rfl) ?_
  refine va_get (D := D) (ci := 0) (C := RX0) (T := TX0) (N := 16) hx hb hts hU hown hK hP 0 rfl rfl 11 (by decide) hf_priorities (fun _ h9 => h9) rfl dX0_fillSlot_21 ?_
  refine lv_iload_n hx hb dX0_fillSlot_24 rfl (lv_at hl 1 rfl) ?_
  refine lv_iload_n hx hb dX0_fillSlot_25 rfl (lv_at hl 2 rfl) ?_
  refine eb_iast hx hb hK hP hD hS 6 5 rfl rfl (s0) (by omega) (by decide) dX0_fillSlot_26 (fun H locs hP hD hS => ?_)
  have hP : va_P D vwCl (XW q cs (nI K) wd ab kd dv dm ord (nI E) (nn + 1) ms (upd nums s0 nn) (upd pris s0 pp) pres fins vals msks) H := hP
  have hD : va_D A (XW q cs (nI K) wd ab kd dv dm ord (nI E) (nn + 1) ms (upd nums s0 nn) (upd pris s0 pp) pres fins vals msks) := hD
  refine lv_aload_n hx hb dX0_fillSlot_27 rfl (lv_at hl 0 rfl) ?_
  refine va_get (D := D) (ci := 0) (C := RX0) (T := TX0) (N := 16) hx hb hts hU hown hK hP 0 rfl rfl 12 (by decide) hf_prefixes (fun _ h9 => h9) rfl dX0_fillSlot_28 ?_
  refine lv_iload_n hx hb dX0_fillSlot_31 rfl (lv_at hl 1 rfl) ?_
  refine lv_aload_n hx hb dX0_fillSlot_32 rfl (lv_at hl 0 rfl) ?_
  refine eb_calli (As := []) (rest := [.int (nI s0), .ref (q 7)]) ⟨hx, hb, hml, hown, hts⟩ (tX_draftPrefix l D q cs hK3) (cwV 0 hts gX0_fillSlot_X0_draftPrefix rfl rfl rfl (by decide +kernel) ⟨Nat.le_of_ble_eq_true rfl, Nat.le_of_ble_eq_true rfl⟩) hK hP hD hS hA rfl rfl rfl rfl hl.1 rfl (Nat.le_of_ble_eq_true rfl) dX0_fillSlot_33 ⟨Nat.zero_le _, Nat.zero_le _⟩ (fun r1 w1 H locs hq hP hD hS => ?_)
  obtain ⟨rfl, rfl⟩ := hq
  refine eb_iast hx hb hK hP hD hS 7 6 rfl rfl (s0) (by omega) (by decide) dX0_fillSlot_36 (fun H locs hP hD hS => ?_)
  have hP : va_P D vwCl (XW q cs (nI K) wd ab kd dv dm ord (nI E) (nn + 1) ms (upd nums s0 nn) (upd pris s0 pp) (upd pres s0 ((et_pf K kd dm).toInt32)) fins vals msks) H := hP
  have hD : va_D A (XW q cs (nI K) wd ab kd dv dm ord (nI E) (nn + 1) ms (upd nums s0 nn) (upd pris s0 pp) (upd pres s0 ((et_pf K kd dm).toInt32)) fins vals msks) := hD
  refine lv_aload_n hx hb dX0_fillSlot_37 rfl (lv_at hl 0 rfl) ?_
  refine va_get (D := D) (ci := 0) (C := RX0) (T := TX0) (N := 16) hx hb hts hU hown hK hP 0 rfl rfl 13 (by decide) hf_finds (fun _ h9 => h9) rfl dX0_fillSlot_38 ?_
  refine lv_iload_n hx hb dX0_fillSlot_41 rfl (lv_at hl 1 rfl) ?_
  refine lv_iconst (v := 0) hx hb dX0_fillSlot_42 (by decide) ?_
  refine eb_iast hx hb hK hP hD hS 8 7 rfl rfl (s0) (by omega) (by decide) dX0_fillSlot_43 (fun H locs hP hD hS => ?_)
  have hP : va_P D vwCl (XW q cs (nI K) wd ab kd dv dm ord (nI E) (nn + 1) ms (upd nums s0 nn) (upd pris s0 pp) (upd pres s0 ((et_pf K kd dm).toInt32)) (upd fins s0 0) vals msks) H := hP
  have hD : va_D A (XW q cs (nI K) wd ab kd dv dm ord (nI E) (nn + 1) ms (upd nums s0 nn) (upd pris s0 pp) (upd pres s0 ((et_pf K kd dm).toInt32)) (upd fins s0 0) vals msks) := hD
  refine lv_iconst (v := 0) hx hb dX0_fillSlot_44 (by decide) ?_
  refine lv_istore_n hx hb dX0_fillSlot_45 rfl hl (by decide) rfl (fun ls hl => ?_)
  have hl : lv_has ls 4 [(3, .int 0), (0, .ref (q 0)), (1, .int (nI s0)), (2, .int pp)] := hl
  refine eb_for (fun (k : Nat) (ls : Array Slot) (H : Heap) (locs : List Loc) => ∃ vals1 : Nat → Int64, ∃ msks1 : Nat → Int64, lv_has ls 4 [(0, .ref (q 0)), (1, .int (nI s0)), (2, .int pp), (3, .int (nI k))] ∧ va_P D vwCl (XW q cs (nI K) wd ab kd dv dm ord (nI E) (nn + 1) ms (upd nums s0 nn) (upd pris s0 pp) (upd pres s0 ((et_pf K kd dm).toInt32)) (upd fins s0 0) vals1 msks1) H ∧ va_D A (XW q cs (nI K) wd ab kd dv dm ord (nI E) (nn + 1) ms (upd nums s0 nn) (upd pris s0 pp) (upd pres s0 ((et_pf K kd dm).toInt32)) (upd fins s0 0) vals1 msks1) ∧ va_S A s.heap H locs ∧ (et_fl vals vals1 dv (s0 * 3) k ∧ et_fl msks msks1 (fun j => et_db ab (kd j) (dm j)) (s0 * 3) k)) 46 (K) ?_ (K) (0) ls H locs (by omega) ⟨vals, msks, lv_sub hl [1, 2, 3, 0] rfl, hP, hD, hS, ⟨et_fl_0, et_fl_0⟩⟩
  intro k ls H locs hk hI hrec46
  obtain ⟨vals1, msks1, hl, hP, hD, hS, hi46⟩ := hI
  refine lv_iload_n hx hb dX0_fillSlot_46 rfl (lv_at hl 3 rfl) ?_
  refine lv_aload_n hx hb dX0_fillSlot_47 rfl (lv_at hl 0 rfl) ?_
  refine va_get (D := D) (ci := 0) (C := RX0) (T := TX0) (N := 16) hx hb hts hU hown hK hP 0 rfl rfl 0 (by decide) hf_keys (fun _ h9 => h9) rfl dX0_fillSlot_48 ?_
  refine lv_icmp_ge (tgt := 91) hx hb dX0_fillSlot_51 (by decide) (fun c51 => ?_) (fun c51 => ?_)
  · have c51 : nI K ≤ nI k := c51
    rw [nI_leI (by omega) (by omega)] at c51
    refine eb_vret hx hb hr hlk hK hP hD hS dX0_fillSlot_91 ?_
    have hkK : k = K := by omega
    subst hkK
    exact ⟨vals1, msks1, rfl, hi46.1, hi46.2⟩
  · have c51 : ¬ nI K ≤ nI k := c51
    rw [nI_leI (by omega) (by omega)] at c51
    refine lv_aload_n hx hb dX0_fillSlot_54 rfl (lv_at hl 0 rfl) ?_
    refine va_get (D := D) (ci := 0) (C := RX0) (T := TX0) (N := 16) hx hb hts hU hown hK hP 0 rfl rfl 14 (by decide) hf_values (fun _ h9 => h9) rfl dX0_fillSlot_55 ?_
    refine lv_iload_n hx hb dX0_fillSlot_58 rfl (lv_at hl 1 rfl) ?_
    refine lv_iconst (v := 3) hx hb dX0_fillSlot_59 (by decide) ?_
    refine lv_imul hx hb dX0_fillSlot_60 ?_
    refine eb_ti (nI (s0 * 3)) (pk_mul s0 3) ?_
    refine lv_iload_n hx hb dX0_fillSlot_61 rfl (lv_at hl 3 rfl) ?_
    refine lv_iadd hx hb dX0_fillSlot_62 ?_
    refine eb_ti (nI ((s0 * 3) + k)) (nI_add (s0 * 3) k) ?_
    refine lv_aload_n hx hb dX0_fillSlot_63 rfl (lv_at hl 0 rfl) ?_
    refine va_get (D := D) (ci := 0) (C := RX0) (T := TX0) (N := 16) hx hb hts hU hown hK hP 0 rfl rfl 4 (by decide) hf_draftValues (fun _ h9 => h9) rfl dX0_fillSlot_64 ?_
    refine lv_iload_n hx hb dX0_fillSlot_67 rfl (lv_at hl 3 rfl) ?_
    refine eb_lald hx hb hK hP 2 1 rfl rfl (k) (by omega) (by decide) dX0_fillSlot_68 ?_
    refine eb_last hx hb hK hP hD hS 9 8 rfl rfl ((s0 * 3) + k) (by omega) (by decide) dX0_fillSlot_69 (fun H locs hP hD hS => ?_)
    have hP : va_P D vwCl (XW q cs (nI K) wd ab kd dv dm ord (nI E) (nn + 1) ms (upd nums s0 nn) (upd pris s0 pp) (upd pres s0 ((et_pf K kd dm).toInt32)) (upd fins s0 0) (vp_updL vals1 ((s0 * 3) + k) (dv k)) msks1) H := hP
    have hD : va_D A (XW q cs (nI K) wd ab kd dv dm ord (nI E) (nn + 1) ms (upd nums s0 nn) (upd pris s0 pp) (upd pres s0 ((et_pf K kd dm).toInt32)) (upd fins s0 0) (vp_updL vals1 ((s0 * 3) + k) (dv k)) msks1) := hD
    refine lv_aload_n hx hb dX0_fillSlot_70 rfl (lv_at hl 0 rfl) ?_
    refine va_get (D := D) (ci := 0) (C := RX0) (T := TX0) (N := 16) hx hb hts hU hown hK hP 0 rfl rfl 15 (by decide) hf_masks (fun _ h9 => h9) rfl dX0_fillSlot_71 ?_
    refine lv_iload_n hx hb dX0_fillSlot_74 rfl (lv_at hl 1 rfl) ?_
    refine lv_iconst (v := 3) hx hb dX0_fillSlot_75 (by decide) ?_
    refine lv_imul hx hb dX0_fillSlot_76 ?_
    refine eb_ti (nI (s0 * 3)) (pk_mul s0 3) ?_
    refine lv_iload_n hx hb dX0_fillSlot_77 rfl (lv_at hl 3 rfl) ?_
    refine lv_iadd hx hb dX0_fillSlot_78 ?_
    refine eb_ti (nI ((s0 * 3) + k)) (nI_add (s0 * 3) k) ?_
    refine lv_aload_n hx hb dX0_fillSlot_79 rfl (lv_at hl 0 rfl) ?_
    refine lv_iload_n hx hb dX0_fillSlot_80 rfl (lv_at hl 3 rfl) ?_
    refine eb_calll (As := [.int (nI k)]) (rest := [.int (nI ((s0 * 3) + k)), .ref (q 10)]) ⟨hx, hb, hml, hown, hts⟩ (tX_draftBits l D q cs (k) (by omega)) (cwV 1 hts gX0_fillSlot_X0_draftBits rfl rfl rfl (by decide +kernel) ⟨Nat.le_of_ble_eq_true rfl, Nat.le_of_ble_eq_true rfl⟩) hK hP hD hS hA rfl rfl rfl rfl hl.1 rfl (Nat.le_of_ble_eq_true rfl) dX0_fillSlot_81 ⟨Nat.zero_le _, Nat.zero_le _⟩ (fun r2 w1 H locs hq hP hD hS => ?_)
    obtain ⟨rfl, rfl⟩ := hq
    refine eb_last hx hb hK hP hD hS 10 9 rfl rfl ((s0 * 3) + k) (by omega) (by decide) dX0_fillSlot_84 (fun H locs hP hD hS => ?_)
    have hP : va_P D vwCl (XW q cs (nI K) wd ab kd dv dm ord (nI E) (nn + 1) ms (upd nums s0 nn) (upd pris s0 pp) (upd pres s0 ((et_pf K kd dm).toInt32)) (upd fins s0 0) (vp_updL vals1 ((s0 * 3) + k) (dv k)) (vp_updL msks1 ((s0 * 3) + k) (et_db ab (kd k) (dm k)))) H := hP
    have hD : va_D A (XW q cs (nI K) wd ab kd dv dm ord (nI E) (nn + 1) ms (upd nums s0 nn) (upd pris s0 pp) (upd pres s0 ((et_pf K kd dm).toInt32)) (upd fins s0 0) (vp_updL vals1 ((s0 * 3) + k) (dv k)) (vp_updL msks1 ((s0 * 3) + k) (et_db ab (kd k) (dm k)))) := hD
    refine lv_iinc (k := 3) (v := nI (k + 1)) hx hb dX0_fillSlot_85 hl rfl (nI_add k 1) (by decide) rfl (fun ls hl => ?_)
    have hl : lv_has ls 4 [(3, .int (nI (k + 1))), (0, .ref (q 0)), (1, .int (nI s0)), (2, .int pp)] := hl
    refine lv_goto (tgt := 46) hx hb dX0_fillSlot_88 (by decide) ?_
    exact hrec46 ls H locs (by omega) ⟨(vp_updL vals1 ((s0 * 3) + k) (dv k)), (vp_updL msks1 ((s0 * 3) + k) (et_db ab (kd k) (dm k))), lv_sub hl [1, 2, 3, 0] rfl, hP, hD, hS, ⟨et_fl_s hi46.1 rfl, et_fl_s hi46.2 rfl⟩⟩
end
section
set_option maxHeartbeats 4000000 in
set_option maxRecDepth 100000 in
theorem tX_match (l : Launch) (D : va_G) (q : Nat → Nat) (cs : Nat → ClassId) {K w N : Nat} {L : List et_E} {kd : Nat → Int32} {dv dm : Nat → Int64} {ord : Nat → Int32} {ms : Int32} {nums pris pres fins : Nat → Int32} {vals msks : Nat → Int64} (hK3 : K ≤ 3) (o : Nat → Nat) (hC : et_CR K w kd L o ord nums pris pres fins vals msks) (k : Int32) (v0 m0 : Int64) : eb_MI l D vwCl (XTy cs) yX0_match wsX0_match { frames := 0, cells := 0, slots := 0, locals := 0 } [.ref (q 0), .int k, .long v0, .long m0] (XW q cs (nI K) (nI w) (et_ab w) kd dv dm ord (nI L.length) (nI N) ms nums pris pres fins vals msks) (fun r w1 => et_Qm (et_SX q cs K w kd) dv dm N ms L k v0 m0 r w1) := by
  refine eb_openI (cc := cX0_match) (maxL := 6) (ret := (some .int)) (by decide +kernel) rfl (Nat.le_of_ble_eq_true rfl) ?_
  intro p e s m below meth c A ls H locs hx hb hr hts hown hlk hml hP hK hD hA hS hl
  have hU : ∀ w ∈ wsX00, w ∈ wsX0_match := fun w h => List.mem_cons_of_mem _ (List.mem_append_right _ h)
  have hf_draftValues := hts (.fieldLink RX0 13 "EntryTable" "draftValues" "[J") (by decide +kernel)
  have hf_draftMasks := hts (.fieldLink RX0 17 "EntryTable" "draftMasks" "[J") (by decide +kernel)
  have ho := hC.1
  have hE := hC.2.2.1
  have hl : lv_has ls 6 [(0, .ref (q 0)), (1, .int k), (2, .long v0), (4, .long m0)] := hl
  refine lv_iload_n hx hb dX0_match_0 rfl (lv_at hl 1 rfl) ?_
  refine lv_if_lt (tgt := 9) hx hb dX0_match_1 (by decide) (fun c1 => ?_) (fun c1 => ?_)
  · refine lv_iconst (v := (-1)) hx hb dX0_match_9 (by decide) ?_
    refine eb_iret hx hb hr hlk hK hP hD hS dX0_match_10 ?_
    exact Or.inl ⟨Or.inl c1, rfl, ⟨o, ord, nums, pris, pres, fins, vals, msks, hC, rfl⟩⟩
  · refine lv_iload_n hx hb dX0_match_4 rfl (lv_at hl 1 rfl) ?_
    refine lv_iconst (v := 3) hx hb dX0_match_5 (by decide) ?_
    refine lv_icmp_lt (tgt := 11) hx hb dX0_match_6 (by decide) (fun c6 => ?_) (fun c6 => ?_)
    · obtain ⟨j, hj, rfl⟩ := et_ix (n := 3) (by decide) c1 c6
      have hl : lv_has ls 6 [(0, .ref (q 0)), (1, .int (nI j)), (2, .long v0), (4, .long m0)] := hl
      refine lv_aload_n hx hb dX0_match_11 rfl (lv_at hl 0 rfl) ?_
      refine va_get (D := D) (ci := 0) (C := RX0) (T := TX0) (N := 16) hx hb hts hU hown hK hP 0 rfl rfl 4 (by decide) hf_draftValues (fun _ h9 => h9) rfl dX0_match_12 ?_
      refine lv_iload_n hx hb dX0_match_15 rfl (lv_at hl 1 rfl) ?_
      refine lv_lload_n hx hb dX0_match_16 rfl (lv_at hl 2 rfl) ?_
      refine eb_last hx hb hK hP hD hS 2 1 rfl rfl (j) (by omega) (by decide) dX0_match_17 (fun H locs hP hD hS => ?_)
      have hP : va_P D vwCl (XW q cs (nI K) (nI w) (et_ab w) kd (vp_updL dv j v0) dm ord (nI L.length) (nI N) ms nums pris pres fins vals msks) H := hP
      have hD : va_D A (XW q cs (nI K) (nI w) (et_ab w) kd (vp_updL dv j v0) dm ord (nI L.length) (nI N) ms nums pris pres fins vals msks) := hD
      refine lv_aload_n hx hb dX0_match_18 rfl (lv_at hl 0 rfl) ?_
      refine va_get (D := D) (ci := 0) (C := RX0) (T := TX0) (N := 16) hx hb hts hU hown hK hP 0 rfl rfl 5 (by decide) hf_draftMasks (fun _ h9 => h9) rfl dX0_match_19 ?_
      refine lv_iload_n hx hb dX0_match_22 rfl (lv_at hl 1 rfl) ?_
      refine lv_lload hx hb dX0_match_23 (lv_at hl 3 rfl) ?_
      refine eb_last hx hb hK hP hD hS 3 2 rfl rfl (j) (by omega) (by decide) dX0_match_25 (fun H locs hP hD hS => ?_)
      have hP : va_P D vwCl (XW q cs (nI K) (nI w) (et_ab w) kd (vp_updL dv j v0) (vp_updL dm j m0) ord (nI L.length) (nI N) ms nums pris pres fins vals msks) H := hP
      have hD : va_D A (XW q cs (nI K) (nI w) (et_ab w) kd (vp_updL dv j v0) (vp_updL dm j m0) ord (nI L.length) (nI N) ms nums pris pres fins vals msks) := hD
      refine lv_iload_n hx hb dX0_match_26 rfl (lv_at hl 1 rfl) ?_
      refine eb_iret hx hb hr hlk hK hP hD hS dX0_match_27 ?_
      exact Or.inr ⟨j, hj, rfl, rfl, ⟨o, ord, nums, pris, pres, fins, vals, msks, hC, rfl⟩⟩
    · refine lv_iconst (v := (-1)) hx hb dX0_match_9 (by decide) ?_
      refine eb_iret hx hb hr hlk hK hP hD hS dX0_match_10 ?_
      exact Or.inl ⟨Or.inr (Int32.not_lt.mp c6), rfl, ⟨o, ord, nums, pris, pres, fins, vals, msks, hC, rfl⟩⟩

set_option maxHeartbeats 4000000 in
set_option maxRecDepth 100000 in
theorem tX_nth (l : Launch) (D : va_G) (q : Nat → Nat) (cs : Nat → ClassId) {K w N : Nat} {L : List et_E} {kd : Nat → Int32} {dv dm : Nat → Int64} {ord : Nat → Int32} {ms : Int32} {nums pris pres fins : Nat → Int32} {vals msks : Nat → Int64} (hK3 : K ≤ 3) (o : Nat → Nat) (hC : et_CR K w kd L o ord nums pris pres fins vals msks) (k : Int32) : eb_MI l D vwCl (XTy cs) yX0_nth wsX0_nth { frames := 0, cells := 0, slots := 0, locals := 0 } [.ref (q 0), .int k] (XW q cs (nI K) (nI w) (et_ab w) kd dv dm ord (nI L.length) (nI N) ms nums pris pres fins vals msks) (fun r w1 => et_QXn (et_SX q cs K w kd) dv dm N ms L k r w1) := by
  refine eb_openI (cc := cX0_nth) (maxL := 2) (ret := (some .int)) (by decide +kernel) rfl (Nat.le_of_ble_eq_true rfl) ?_
  intro p e s m below meth c A ls H locs hx hb hr hts hown hlk hml hP hK hD hA hS hl
  have hU : ∀ w ∈ wsX00, w ∈ wsX0_nth := fun w h => List.mem_cons_of_mem _ (List.mem_append_right _ h)
  have hf_entries := hts (.fieldLink RX0 23 "EntryTable" "entries" "I") (by decide +kernel)
  have hf_numbers := hts (.fieldLink RX0 33 "EntryTable" "numbers" "[I") (by decide +kernel)
  have hf_order := hts (.fieldLink RX0 20 "EntryTable" "order" "[I") (by decide +kernel)
  have ho := hC.1
  have hE := hC.2.2.1
  have hl : lv_has ls 2 [(0, .ref (q 0)), (1, .int k)] := hl
  refine lv_iload_n hx hb dX0_nth_0 rfl (lv_at hl 1 rfl) ?_
  refine lv_if_lt (tgt := 12) hx hb dX0_nth_1 (by decide) (fun c1 => ?_) (fun c1 => ?_)
  · refine lv_bipush (v := (-2)) hx hb dX0_nth_12 (by decide) ?_
    refine eb_iret hx hb hr hlk hK hP hD hS dX0_nth_14 ?_
    exact ⟨⟨o, ord, nums, pris, pres, fins, vals, msks, hC, rfl⟩, Or.inl ⟨fun j hj hh => nI_pos (n := j) (by omega) (by rw [← hh]; exact c1), rfl⟩⟩
  · refine lv_iload_n hx hb dX0_nth_4 rfl (lv_at hl 1 rfl) ?_
    refine lv_aload_n hx hb dX0_nth_5 rfl (lv_at hl 0 rfl) ?_
    refine va_get (D := D) (ci := 0) (C := RX0) (T := TX0) (N := 16) hx hb hts hU hown hK hP 0 rfl rfl 7 (by decide) hf_entries (fun _ h9 => h9) rfl dX0_nth_6 ?_
    refine lv_icmp_lt (tgt := 15) hx hb dX0_nth_9 (by decide) (fun c9 => ?_) (fun c9 => ?_)
    · obtain ⟨j, hj, rfl⟩ := et_ix (n := L.length) (by omega) c1 c9
      have hl : lv_has ls 2 [(0, .ref (q 0)), (1, .int (nI j))] := hl
      refine lv_aload_n hx hb dX0_nth_15 rfl (lv_at hl 0 rfl) ?_
      refine va_get (D := D) (ci := 0) (C := RX0) (T := TX0) (N := 16) hx hb hts hU hown hK hP 0 rfl rfl 10 (by decide) hf_numbers (fun _ h9 => h9) rfl dX0_nth_16 ?_
      refine lv_aload_n hx hb dX0_nth_19 rfl (lv_at hl 0 rfl) ?_
      refine va_get (D := D) (ci := 0) (C := RX0) (T := TX0) (N := 16) hx hb hts hU hown hK hP 0 rfl rfl 6 (by decide) hf_order (fun _ h9 => h9) rfl dX0_nth_20 ?_
      refine lv_iload_n hx hb dX0_nth_23 rfl (lv_at hl 1 rfl) ?_
      refine eb_iald hx hb hK hP 4 3 rfl rfl (j) (by omega) (by decide) dX0_nth_24 ?_
      have hs1 := (ho (j) (by omega)).2
      refine eb_ti (nI (o j)) ((ho (j) (by omega)).1) ?_
      refine eb_iald hx hb hK hP 5 4 rfl rfl (o j) (by omega) (by decide) dX0_nth_25 ?_
      obtain ⟨x, hx1⟩ : ∃ x, L[j]? = some x := ⟨L[j], List.getElem?_eq_getElem hj⟩
      refine eb_iret hx hb hr hlk hK hP hD hS dX0_nth_26 ?_
      exact ⟨⟨o, ord, nums, pris, pres, fins, vals, msks, hC, rfl⟩, Or.inr ⟨j, x, hx1, rfl, (hC.2.2.2.1 j x hx1).1⟩⟩
    · refine lv_bipush (v := (-2)) hx hb dX0_nth_12 (by decide) ?_
      refine eb_iret hx hb hr hlk hK hP hD hS dX0_nth_14 ?_
      exact ⟨⟨o, ord, nums, pris, pres, fins, vals, msks, hC, rfl⟩, Or.inl ⟨fun j hj hh => c9 (by rw [hh]; exact nI_lt hj (by omega)), rfl⟩⟩

set_option maxHeartbeats 4000000 in
set_option maxRecDepth 100000 in
theorem tX_hits (l : Launch) (D : va_G) (q : Nat → Nat) (cs : Nat → ClassId) {K w N : Nat} {L : List et_E} {kd : Nat → Int32} {dv dm : Nat → Int64} {ord : Nat → Int32} {ms : Int32} {nums pris pres fins : Nat → Int32} {vals msks : Nat → Int64} (hK3 : K ≤ 3) (o : Nat → Nat) (hC : et_CR K w kd L o ord nums pris pres fins vals msks) (en : Int32) : eb_MI l D vwCl (XTy cs) yX0_hits wsX0_hits { frames := 1, cells := 0, slots := 0, locals := 40 } [.ref (q 0), .int en] (XW q cs (nI K) (nI w) (et_ab w) kd dv dm ord (nI L.length) (nI N) ms nums pris pres fins vals msks) (fun r w1 => et_Qh (et_SX q cs K w kd) dv dm N ms L en r w1) := by
  refine eb_openI (cc := cX0_hits) (maxL := 3) (ret := (some .int)) (by decide +kernel) rfl (Nat.le_of_ble_eq_true rfl) ?_
  intro p e s m below meth c A ls H locs hx hb hr hts hown hlk hml hP hK hD hA hS hl
  have hU : ∀ w ∈ wsX00, w ∈ wsX0_hits := fun w h => List.mem_cons_of_mem _ (List.mem_append_right _ h)
  have hf_finds := hts (.fieldLink RX0 42 "EntryTable" "finds" "[I") (by decide +kernel)
  have hf_order := hts (.fieldLink RX0 20 "EntryTable" "order" "[I") (by decide +kernel)
  have ho := hC.1
  have hE := hC.2.2.1
  have hl : lv_has ls 3 [(0, .ref (q 0)), (1, .int en)] := hl
  refine lv_aload_n hx hb dX0_hits_0 rfl (lv_at hl 0 rfl) ?_
  refine lv_iload_n hx hb dX0_hits_1 rfl (lv_at hl 1 rfl) ?_
  refine eb_calli (As := [.int en]) (rest := []) ⟨hx, hb, hml, hown, hts⟩ (tX_rankOf l D q cs hE o ho en) (cwV 1 hts gX0_hits_X0_rankOf rfl rfl rfl (by decide +kernel) ⟨Nat.le_of_ble_eq_true rfl, Nat.le_of_ble_eq_true rfl⟩) hK hP hD hS hA rfl rfl rfl rfl hl.1 rfl (Nat.le_of_ble_eq_true rfl) dX0_hits_2 ⟨Nat.zero_le _, Nat.zero_le _⟩ (fun r1 w1 H locs hq hP hD hS => ?_)
  obtain ⟨rfl, ⟨j, hj1, hj2, hj3, rfl⟩ | ⟨hj, rfl⟩⟩ := hq
  · refine lv_istore_n hx hb dX0_hits_5 rfl hl (by decide) rfl (fun ls hl => ?_)
    have hl : lv_has ls 3 [(2, .int (nI j)), (0, .ref (q 0)), (1, .int en)] := hl
    refine lv_iload_n hx hb dX0_hits_6 rfl (lv_at hl 0 rfl) ?_
    refine lv_iconst (v := (-1)) hx hb dX0_hits_7 (by decide) ?_
    refine lv_icmp_ne (tgt := 14) hx hb dX0_hits_8 (by decide) (fun _ => ?_) (fun c8 => absurd c8 (et_nm1 (by omega)))
    refine lv_aload_n hx hb dX0_hits_14 rfl (lv_at hl 1 rfl) ?_
    refine va_get (D := D) (ci := 0) (C := RX0) (T := TX0) (N := 16) hx hb hts hU hown hK hP 0 rfl rfl 13 (by decide) hf_finds (fun _ h9 => h9) rfl dX0_hits_15 ?_
    refine lv_aload_n hx hb dX0_hits_18 rfl (lv_at hl 1 rfl) ?_
    refine va_get (D := D) (ci := 0) (C := RX0) (T := TX0) (N := 16) hx hb hts hU hown hK hP 0 rfl rfl 6 (by decide) hf_order (fun _ h9 => h9) rfl dX0_hits_19 ?_
    refine lv_iload_n hx hb dX0_hits_22 rfl (lv_at hl 0 rfl) ?_
    refine eb_iald hx hb hK hP 4 3 rfl rfl (j) (by omega) (by decide) dX0_hits_23 ?_
    have hs2 := (ho (j) (by omega)).2
    refine eb_ti (nI (o j)) ((ho (j) (by omega)).1) ?_
    refine eb_iald hx hb hK hP 8 7 rfl rfl (o j) (by omega) (by decide) dX0_hits_24 ?_
    have hx1 : L[j]? = some L[j] := List.getElem?_eq_getElem hj1
    have hx2 := hC.2.2.2.1 j L[j] hx1
    refine eb_iret hx hb hr hlk hK hP hD hS dX0_hits_25 ?_
    exact ⟨⟨o, ord, nums, pris, pres, fins, vals, msks, hC, rfl⟩, Or.inr ⟨L[j], List.mem_of_getElem? hx1, hx2.1.symm.trans hj2, hx2.2.2.2.1⟩⟩
  · refine lv_istore_n hx hb dX0_hits_5 rfl hl (by decide) rfl (fun ls hl => ?_)
    have hl : lv_has ls 3 [(2, .int (-1)), (0, .ref (q 0)), (1, .int en)] := hl
    refine lv_iload_n hx hb dX0_hits_6 rfl (lv_at hl 0 rfl) ?_
    refine lv_iconst (v := (-1)) hx hb dX0_hits_7 (by decide) ?_
    refine lv_icmp_ne (tgt := 14) hx hb dX0_hits_8 (by decide) (fun c8 => absurd c8 (fun hh => hh rfl)) (fun _ => ?_)
    refine lv_bipush (v := (-2)) hx hb dX0_hits_11 (by decide) ?_
    refine eb_iret hx hb hr hlk hK hP hD hS dX0_hits_13 ?_
    refine ⟨⟨o, ord, nums, pris, pres, fins, vals, msks, hC, rfl⟩, Or.inl ⟨fun x hx hh => by
      obtain ⟨i, hi⟩ := List.getElem?_of_mem hx
      exact hj i (List.getElem?_eq_some_iff.mp hi).1 ((hC.2.2.2.1 i x hi).1.trans hh), rfl⟩⟩

set_option maxHeartbeats 4000000 in
set_option maxRecDepth 100000 in
theorem tX_remove (l : Launch) (D : va_G) (q : Nat → Nat) (cs : Nat → ClassId) {K w N : Nat} {L : List et_E} {kd : Nat → Int32} {dv dm : Nat → Int64} {ord : Nat → Int32} {ms : Int32} {nums pris pres fins : Nat → Int32} {vals msks : Nat → Int64} (hK3 : K ≤ 3) (o : Nat → Nat) (hC : et_CR K w kd L o ord nums pris pres fins vals msks) (en : Int32) : eb_MI l D vwCl (XTy cs) yX0_remove wsX0_remove { frames := 2, cells := 0, slots := 0, locals := 80 } [.ref (q 0), .int en] (XW q cs (nI K) (nI w) (et_ab w) kd dv dm ord (nI L.length) (nI N) ms nums pris pres fins vals msks) (fun r w1 => et_Qr (et_SX q cs K w kd) dv dm N ms L en r w1) := by
  refine eb_openI (cc := cX0_remove) (maxL := 3) (ret := (some .int)) (by decide +kernel) rfl (Nat.le_of_ble_eq_true rfl) ?_
  intro p e s m below meth c A ls H locs hx hb hr hts hown hlk hml hP hK hD hA hS hl
  have hU : ∀ w ∈ wsX00, w ∈ wsX0_remove := fun w h => List.mem_cons_of_mem _ (List.mem_append_right _ h)
  have hf_entries := hts (.fieldLink RX0 23 "EntryTable" "entries" "I") (by decide +kernel)
  have ho := hC.1
  have hE := hC.2.2.1
  have hl : lv_has ls 3 [(0, .ref (q 0)), (1, .int en)] := hl
  refine lv_aload_n hx hb dX0_remove_0 rfl (lv_at hl 0 rfl) ?_
  refine lv_iload_n hx hb dX0_remove_1 rfl (lv_at hl 1 rfl) ?_
  refine eb_calli (As := [.int en]) (rest := []) ⟨hx, hb, hml, hown, hts⟩ (tX_rankOf l D q cs hE o ho en) (cwV 1 hts gX0_remove_X0_rankOf rfl rfl rfl (by decide +kernel) ⟨Nat.le_of_ble_eq_true rfl, Nat.le_of_ble_eq_true rfl⟩) hK hP hD hS hA rfl rfl rfl rfl hl.1 rfl (Nat.le_of_ble_eq_true rfl) dX0_remove_2 ⟨Nat.zero_le _, Nat.zero_le _⟩ (fun r1 w1 H locs hq hP hD hS => ?_)
  obtain ⟨rfl, ⟨j, hj1, hj2, hj3, rfl⟩ | ⟨hj, rfl⟩⟩ := hq
  · refine lv_istore_n hx hb dX0_remove_5 rfl hl (by decide) rfl (fun ls hl => ?_)
    have hl : lv_has ls 3 [(2, .int (nI j)), (0, .ref (q 0)), (1, .int en)] := hl
    refine lv_iload_n hx hb dX0_remove_6 rfl (lv_at hl 0 rfl) ?_
    refine lv_iconst (v := (-1)) hx hb dX0_remove_7 (by decide) ?_
    refine lv_icmp_ne (tgt := 14) hx hb dX0_remove_8 (by decide) (fun _ => ?_) (fun c8 => absurd c8 (et_nm1 (by omega)))
    refine lv_aload_n hx hb dX0_remove_14 rfl (lv_at hl 1 rfl) ?_
    refine lv_iload_n hx hb dX0_remove_15 rfl (lv_at hl 0 rfl) ?_
    refine eb_callv (As := [.int (nI j)]) (rest := []) ⟨hx, hb, hml, hown, hts⟩ (tX_freeSlot l D q cs hE j hj1) (cwV 1 hts gX0_remove_X0_freeSlot rfl rfl rfl (by decide +kernel) ⟨Nat.le_of_ble_eq_true rfl, Nat.le_of_ble_eq_true rfl⟩) hK hP hD hS hA rfl rfl rfl rfl hl.1 rfl (Nat.le_of_ble_eq_true rfl) dX0_remove_16 ⟨Nat.zero_le _, Nat.zero_le _⟩ (fun w1 H locs hq hP hD hS => ?_)
    obtain rfl := hq
    refine lv_aload_n hx hb dX0_remove_19 rfl (lv_at hl 1 rfl) ?_
    refine va_get (D := D) (ci := 0) (C := RX0) (T := TX0) (N := 16) hx hb hts hU hown hK hP 0 rfl rfl 7 (by decide) hf_entries (fun _ h9 => h9) rfl dX0_remove_20 ?_
    have hx1 : L[j]? = some L[j] := List.getElem?_eq_getElem hj1
    have hx2 := hC.2.2.2.1 j L[j] hx1
    refine eb_iret hx hb hr hlk hK hP hD hS dX0_remove_23 ?_
    exact Or.inr ⟨j, L[j], hx1, hx2.1.symm.trans hj2, rfl, _, _, nums, pris, pres, fins, vals, msks, et_CR_del hC rfl hj1, by rw [List.length_eraseIdx_of_lt hj1]⟩
  · refine lv_istore_n hx hb dX0_remove_5 rfl hl (by decide) rfl (fun ls hl => ?_)
    have hl : lv_has ls 3 [(2, .int (-1)), (0, .ref (q 0)), (1, .int en)] := hl
    refine lv_iload_n hx hb dX0_remove_6 rfl (lv_at hl 0 rfl) ?_
    refine lv_iconst (v := (-1)) hx hb dX0_remove_7 (by decide) ?_
    refine lv_icmp_ne (tgt := 14) hx hb dX0_remove_8 (by decide) (fun c8 => absurd c8 (fun hh => hh rfl)) (fun _ => ?_)
    refine lv_bipush (v := (-2)) hx hb dX0_remove_11 (by decide) ?_
    refine eb_iret hx hb hr hlk hK hP hD hS dX0_remove_13 ?_
    refine Or.inl ⟨fun x hx hh => by
      obtain ⟨i, hi⟩ := List.getElem?_of_mem hx
      exact hj i (List.getElem?_eq_some_iff.mp hi).1 ((hC.2.2.2.1 i x hi).1.trans hh), rfl, ⟨o, ord, nums, pris, pres, fins, vals, msks, hC, rfl⟩⟩

set_option maxHeartbeats 4000000 in
set_option maxRecDepth 100000 in
theorem tX_find (l : Launch) (D : va_G) (q : Nat → Nat) (cs : Nat → ClassId) {K w N : Nat} {L : List et_E} {kd : Nat → Int32} {dv dm : Nat → Int64} {ord : Nat → Int32} {ms : Int32} {nums pris pres fins : Nat → Int32} {vals msks : Nat → Int64} (hK3 : K ≤ 3) (o : Nat → Nat) (hC : et_CR K w kd L o ord nums pris pres fins vals msks) (a b c0 : Int64) : eb_MI l D vwCl (XTy cs) yX0_find wsX0_find { frames := 1, cells := 0, slots := 0, locals := 40 } [.ref (q 0), .long a, .long b, .long c0] (XW q cs (nI K) (nI w) (et_ab w) kd dv dm ord (nI L.length) (nI N) ms nums pris pres fins vals msks) (fun r w1 => et_QXf (et_SX q cs K w kd) K w kd dv dm N ms L (et_k3 a b c0) r w1) := by
  refine eb_openI (cc := cX0_find) (maxL := 9) (ret := (some .int)) (by decide +kernel) rfl (Nat.le_of_ble_eq_true rfl) ?_
  intro p e s m below meth c A ls H locs hx hb hr hts hown hlk hml hP hK hD hA hS hl
  have hU : ∀ w ∈ wsX00, w ∈ wsX0_find := fun w h => List.mem_cons_of_mem _ (List.mem_append_right _ h)
  have hf_entries := hts (.fieldLink RX0 23 "EntryTable" "entries" "I") (by decide +kernel)
  have hf_misses := hts (.fieldLink RX0 30 "EntryTable" "misses" "I") (by decide +kernel)
  have hf_order := hts (.fieldLink RX0 20 "EntryTable" "order" "[I") (by decide +kernel)
  have hf_finds := hts (.fieldLink RX0 42 "EntryTable" "finds" "[I") (by decide +kernel)
  have hf_numbers := hts (.fieldLink RX0 33 "EntryTable" "numbers" "[I") (by decide +kernel)
  have ho := hC.1
  have hE := hC.2.2.1
  have hl : lv_has ls 9 [(0, .ref (q 0)), (1, .long a), (3, .long b), (5, .long c0)] := hl
  refine lv_iconst (v := 0) hx hb dX0_find_0 (by decide) ?_
  refine lv_istore hx hb dX0_find_1 hl (by decide) rfl (fun ls hl => ?_)
  have hl : lv_has ls 9 [(7, .int 0), (0, .ref (q 0)), (1, .long a), (3, .long b), (5, .long c0)] := hl
  refine eb_for (fun (i : Nat) (ls : Array Slot) (H : Heap) (locs : List Loc) => lv_has ls 9 [(0, .ref (q 0)), (1, .long a), (3, .long b), (5, .long c0), (7, .int (nI i))] ∧ va_P D vwCl (XW q cs (nI K) (nI w) (et_ab w) kd dv dm ord (nI L.length) (nI N) ms nums pris pres fins vals msks) H ∧ va_D A (XW q cs (nI K) (nI w) (et_ab w) kd dv dm ord (nI L.length) (nI N) ms nums pris pres fins vals msks) ∧ va_S A s.heap H locs ∧ (∀ j y, j < i → L[j]? = some y → ¬ et_Xmt K (et_ab w) kd (et_k3 a b c0) y)) 3 (L.length) ?_ (L.length) (0) ls H locs (by omega) ⟨lv_sub hl [1, 2, 3, 4, 0] rfl, hP, hD, hS, fun j y hj => absurd hj (Nat.not_lt_zero j)⟩
  intro i ls H locs hi hI hrec3
  obtain ⟨hl, hP, hD, hS, hi3⟩ := hI
  refine lv_iload hx hb dX0_find_3 (lv_at hl 4 rfl) ?_
  refine lv_aload_n hx hb dX0_find_5 rfl (lv_at hl 0 rfl) ?_
  refine va_get (D := D) (ci := 0) (C := RX0) (T := TX0) (N := 16) hx hb hts hU hown hK hP 0 rfl rfl 7 (by decide) hf_entries (fun _ h9 => h9) rfl dX0_find_6 ?_
  refine lv_icmp_ge (tgt := 80) hx hb dX0_find_9 (by decide) (fun c9 => ?_) (fun c9 => ?_)
  · have c9 : nI L.length ≤ nI i := c9
    rw [nI_leI (by omega) (by omega)] at c9
    refine lv_aload_n hx hb dX0_find_80 rfl (lv_at hl 0 rfl) ?_
    refine lv_dup hx hb dX0_find_81 rfl ?_
    refine va_get (D := D) (ci := 0) (C := RX0) (T := TX0) (N := 16) hx hb hts hU hown hK hP 0 rfl rfl 9 (by decide) hf_misses (fun _ h9 => h9) rfl dX0_find_82 ?_
    refine lv_iconst (v := 1) hx hb dX0_find_85 (by decide) ?_
    refine lv_iadd hx hb dX0_find_86 ?_
    refine va_put (D := D) (ci := 0) (ty := .int) (C := RX0) (T := TX0) (N := 16) hx hb hts hU tyX0 tyX0_ok nmX0 hown hK hP hD hS 0 rfl rfl 9 (by decide) hf_misses (fun _ h9 => h9) rfl (by decide +kernel) rfl rfl (Nat.le_of_ble_eq_true rfl) dX0_find_87 (fun H locs hP hD hS => ?_)
    have hP : va_P D vwCl (XW q cs (nI K) (nI w) (et_ab w) kd dv dm ord (nI L.length) (nI N) (ms + 1) nums pris pres fins vals msks) H := hP
    have hD : va_D A (XW q cs (nI K) (nI w) (et_ab w) kd dv dm ord (nI L.length) (nI N) (ms + 1) nums pris pres fins vals msks) := hD
    refine lv_bipush (v := (-2)) hx hb dX0_find_90 (by decide) ?_
    refine eb_iret hx hb hr hlk hK hP hD hS dX0_find_92 ?_
    refine Or.inl ⟨fun x hx hh => ?_, rfl, ⟨o, ord, nums, pris, pres, fins, vals, msks, hC, rfl⟩⟩
    obtain ⟨t, ht⟩ := List.getElem?_of_mem hx
    exact hi3 t x (by have := (List.getElem?_eq_some_iff.mp ht).1; omega) ht hh
  · have c9 : ¬ nI L.length ≤ nI i := c9
    rw [nI_leI (by omega) (by omega)] at c9
    refine lv_aload_n hx hb dX0_find_12 rfl (lv_at hl 0 rfl) ?_
    refine va_get (D := D) (ci := 0) (C := RX0) (T := TX0) (N := 16) hx hb hts hU hown hK hP 0 rfl rfl 6 (by decide) hf_order (fun _ h9 => h9) rfl dX0_find_13 ?_
    refine lv_iload hx hb dX0_find_16 (lv_at hl 4 rfl) ?_
    refine eb_iald hx hb hK hP 4 3 rfl rfl (i) (by omega) (by decide) dX0_find_18 ?_
    have hs1 := (ho (i) (by omega)).2
    refine eb_ti (nI (o i)) ((ho (i) (by omega)).1) ?_
    refine lv_istore hx hb dX0_find_19 hl (by decide) rfl (fun ls hl => ?_)
    have hl : lv_has ls 9 [(8, .int (nI (o i))), (0, .ref (q 0)), (1, .long a), (3, .long b), (5, .long c0), (7, .int (nI i))] := hl
    refine lv_aload_n hx hb dX0_find_21 rfl (lv_at hl 1 rfl) ?_
    refine lv_iload hx hb dX0_find_22 (lv_at hl 0 rfl) ?_
    refine lv_iconst (v := 0) hx hb dX0_find_24 (by decide) ?_
    refine lv_lload_n hx hb dX0_find_25 rfl (lv_at hl 2 rfl) ?_
    refine eb_calli (As := [.int (nI (o i)), .int 0, .long a]) (rest := []) ⟨hx, hb, hml, hown, hts⟩ (tX_fits l D q cs (o i) (0) (by omega) (by omega) a) (cwV 3 hts gX0_find_X0_fits rfl rfl rfl (by decide +kernel) ⟨Nat.le_of_ble_eq_true rfl, Nat.le_of_ble_eq_true rfl⟩) hK hP hD hS hA rfl rfl rfl rfl hl.1 rfl (Nat.le_of_ble_eq_true rfl) dX0_find_26 ⟨Nat.zero_le _, Nat.zero_le _⟩ (fun r2 w1 H locs hq hP hD hS => ?_)
    obtain ⟨rfl, hq2⟩ := hq
    refine lv_if_eq (tgt := 74) hx hb dX0_find_29 (by decide) (fun c29 => ?_) (fun c29 => ?_)
    · have c29 := et_b0 hq2 c29
      refine lv_iinc (k := 5) (v := nI (i + 1)) hx hb dX0_find_74 hl rfl (nI_add i 1) (by decide) rfl (fun ls hl => ?_)
      have hl : lv_has ls 9 [(7, .int (nI (i + 1))), (8, .int (nI (o i))), (0, .ref (q 0)), (1, .long a), (3, .long b), (5, .long c0)] := hl
      refine lv_goto (tgt := 3) hx hb dX0_find_77 (by decide) ?_
      exact hrec3 ls H locs (by omega) ⟨lv_sub hl [2, 3, 4, 5, 0] rfl, hP, hD, hS, et_ltx hi3 (fun y hy hh => c29 (et_mt_at hC hy hh 0 (by decide)))⟩
    · have c29 := et_b1 hq2 c29
      refine lv_aload_n hx hb dX0_find_32 rfl (lv_at hl 1 rfl) ?_
      refine lv_iload hx hb dX0_find_33 (lv_at hl 0 rfl) ?_
      refine lv_iconst (v := 1) hx hb dX0_find_35 (by decide) ?_
      refine lv_lload_n hx hb dX0_find_36 rfl (lv_at hl 3 rfl) ?_
      refine eb_calli (As := [.int (nI (o i)), .int 1, .long b]) (rest := []) ⟨hx, hb, hml, hown, hts⟩ (tX_fits l D q cs (o i) (1) (by omega) (by omega) b) (cwV 3 hts gX0_find_X0_fits rfl rfl rfl (by decide +kernel) ⟨Nat.le_of_ble_eq_true rfl, Nat.le_of_ble_eq_true rfl⟩) hK hP hD hS hA rfl rfl rfl rfl hl.1 rfl (Nat.le_of_ble_eq_true rfl) dX0_find_37 ⟨Nat.zero_le _, Nat.zero_le _⟩ (fun r3 w1 H locs hq hP hD hS => ?_)
      obtain ⟨rfl, hq3⟩ := hq
      refine lv_if_eq (tgt := 74) hx hb dX0_find_40 (by decide) (fun c40 => ?_) (fun c40 => ?_)
      · have c40 := et_b0 hq3 c40
        refine lv_iinc (k := 5) (v := nI (i + 1)) hx hb dX0_find_74 hl rfl (nI_add i 1) (by decide) rfl (fun ls hl => ?_)
        have hl : lv_has ls 9 [(7, .int (nI (i + 1))), (8, .int (nI (o i))), (0, .ref (q 0)), (1, .long a), (3, .long b), (5, .long c0)] := hl
        refine lv_goto (tgt := 3) hx hb dX0_find_77 (by decide) ?_
        exact hrec3 ls H locs (by omega) ⟨lv_sub hl [2, 3, 4, 5, 0] rfl, hP, hD, hS, et_ltx hi3 (fun y hy hh => c40 (et_mt_at hC hy hh 1 (by decide)))⟩
      · have c40 := et_b1 hq3 c40
        refine lv_aload_n hx hb dX0_find_43 rfl (lv_at hl 1 rfl) ?_
        refine lv_iload hx hb dX0_find_44 (lv_at hl 0 rfl) ?_
        refine lv_iconst (v := 2) hx hb dX0_find_46 (by decide) ?_
        refine lv_lload hx hb dX0_find_47 (lv_at hl 4 rfl) ?_
        refine eb_calli (As := [.int (nI (o i)), .int 2, .long c0]) (rest := []) ⟨hx, hb, hml, hown, hts⟩ (tX_fits l D q cs (o i) (2) (by omega) (by omega) c0) (cwV 3 hts gX0_find_X0_fits rfl rfl rfl (by decide +kernel) ⟨Nat.le_of_ble_eq_true rfl, Nat.le_of_ble_eq_true rfl⟩) hK hP hD hS hA rfl rfl rfl rfl hl.1 rfl (Nat.le_of_ble_eq_true rfl) dX0_find_49 ⟨Nat.zero_le _, Nat.zero_le _⟩ (fun r4 w1 H locs hq hP hD hS => ?_)
        obtain ⟨rfl, hq4⟩ := hq
        refine lv_if_eq (tgt := 74) hx hb dX0_find_52 (by decide) (fun c52 => ?_) (fun c52 => ?_)
        · have c52 := et_b0 hq4 c52
          refine lv_iinc (k := 5) (v := nI (i + 1)) hx hb dX0_find_74 hl rfl (nI_add i 1) (by decide) rfl (fun ls hl => ?_)
          have hl : lv_has ls 9 [(7, .int (nI (i + 1))), (8, .int (nI (o i))), (0, .ref (q 0)), (1, .long a), (3, .long b), (5, .long c0)] := hl
          refine lv_goto (tgt := 3) hx hb dX0_find_77 (by decide) ?_
          exact hrec3 ls H locs (by omega) ⟨lv_sub hl [2, 3, 4, 5, 0] rfl, hP, hD, hS, et_ltx hi3 (fun y hy hh => c52 (et_mt_at hC hy hh 2 (by decide)))⟩
        · have c52 := et_b1 hq4 c52
          refine lv_aload_n hx hb dX0_find_55 rfl (lv_at hl 1 rfl) ?_
          refine va_get (D := D) (ci := 0) (C := RX0) (T := TX0) (N := 16) hx hb hts hU hown hK hP 0 rfl rfl 13 (by decide) hf_finds (fun _ h9 => h9) rfl dX0_find_56 ?_
          refine lv_iload hx hb dX0_find_59 (lv_at hl 0 rfl) ?_
          refine lv_dup2_11 hx hb dX0_find_61 rfl rfl ?_
          refine eb_iald hx hb hK hP 8 7 rfl rfl (o i) (by omega) (by decide) dX0_find_62 ?_
          refine lv_iconst (v := 1) hx hb dX0_find_63 (by decide) ?_
          refine lv_iadd hx hb dX0_find_64 ?_
          refine eb_iast hx hb hK hP hD hS 8 7 rfl rfl (o i) (by omega) (by decide) dX0_find_65 (fun H locs hP hD hS => ?_)
          have hP : va_P D vwCl (XW q cs (nI K) (nI w) (et_ab w) kd dv dm ord (nI L.length) (nI N) ms nums pris pres (upd fins (o i) ((fins (o i)) + 1)) vals msks) H := hP
          have hD : va_D A (XW q cs (nI K) (nI w) (et_ab w) kd dv dm ord (nI L.length) (nI N) ms nums pris pres (upd fins (o i) ((fins (o i)) + 1)) vals msks) := hD
          refine lv_aload_n hx hb dX0_find_66 rfl (lv_at hl 1 rfl) ?_
          refine va_get (D := D) (ci := 0) (C := RX0) (T := TX0) (N := 16) hx hb hts hU hown hK hP 0 rfl rfl 10 (by decide) hf_numbers (fun _ h9 => h9) rfl dX0_find_67 ?_
          refine lv_iload hx hb dX0_find_70 (lv_at hl 0 rfl) ?_
          refine eb_iald hx hb hK hP 5 4 rfl rfl (o i) (by omega) (by decide) dX0_find_72 ?_
          have hi1 : i < L.length := by omega
          have hx1 : L[i]? = some L[i] := List.getElem?_eq_getElem hi1
          have hx2 := hC.2.2.2.1 i L[i] hx1
          refine eb_iret hx hb hr hlk hK hP hD hS dX0_find_73 ?_
          exact Or.inr ⟨i, L[i], hx1, et_mt_of hK3 hC hx1 c29 c40 c52, fun j y hj hy => hi3 j y hj hy, hx2.1, o, ord, nums, pris, pres, _, vals, msks, et_CR_hit hC hx1, by rw [List.length_set]⟩

set_option maxHeartbeats 4000000 in
set_option maxRecDepth 100000 in
theorem tX_insert (l : Launch) (D : va_G) (q : Nat → Nat) (cs : Nat → ClassId) {K w N : Nat} {L : List et_E} {kd : Nat → Int32} {dv dm : Nat → Int64} {ord : Nat → Int32} {ms : Int32} {nums pris pres fins : Nat → Int32} {vals msks : Nat → Int64} (hK3 : K ≤ 3) (o : Nat → Nat) (hC : et_CR K w kd L o ord nums pris pres fins vals msks) (pp : Int32) : eb_MI l D vwCl (XTy cs) yX0_insert wsX0_insert { frames := 3, cells := 0, slots := 0, locals := 120 } [.ref (q 0), .int pp] (XW q cs (nI K) (nI w) (et_ab w) kd dv dm ord (nI L.length) (nI N) ms nums pris pres fins vals msks) (fun r w1 => et_QXi (et_SX q cs K w kd) K w kd dv dm N ms L pp r w1) := by
  refine eb_openI (cc := cX0_insert) (maxL := 3) (ret := (some .int)) (by decide +kernel) rfl (Nat.le_of_ble_eq_true rfl) ?_
  intro p e s m below meth c A ls H locs hx hb hr hts hown hlk hml hP hK hD hA hS hl
  have hU : ∀ w ∈ wsX00, w ∈ wsX0_insert := fun w h => List.mem_cons_of_mem _ (List.mem_append_right _ h)
  have hf_entries := hts (.fieldLink RX0 23 "EntryTable" "entries" "I") (by decide +kernel)
  have hf_numbers := hts (.fieldLink RX0 33 "EntryTable" "numbers" "[I") (by decide +kernel)
  have ho := hC.1
  have hE := hC.2.2.1
  have hl : lv_has ls 3 [(0, .ref (q 0)), (1, .int pp)] := hl
  refine lv_aload_n hx hb dX0_insert_0 rfl (lv_at hl 0 rfl) ?_
  refine eb_calli (As := []) (rest := []) ⟨hx, hb, hml, hown, hts⟩ (tX_isDraftSound l D q cs hK3) (cwV 0 hts gX0_insert_X0_isDraftSound rfl rfl rfl (by decide +kernel) ⟨Nat.le_of_ble_eq_true rfl, Nat.le_of_ble_eq_true rfl⟩) hK hP hD hS hA rfl rfl rfl rfl hl.1 rfl (Nat.le_of_ble_eq_true rfl) dX0_insert_1 ⟨Nat.zero_le _, Nat.zero_le _⟩ (fun r1 w1 H locs hq hP hD hS => ?_)
  obtain ⟨rfl, hq1⟩ := hq
  refine lv_if_ne (tgt := 9) hx hb dX0_insert_4 (by decide) (fun c4 => ?_) (fun c4 => ?_)
  · have c4 := et_b1 hq1 c4
    refine lv_aload_n hx hb dX0_insert_9 rfl (lv_at hl 0 rfl) ?_
    refine lv_iload_n hx hb dX0_insert_10 rfl (lv_at hl 1 rfl) ?_
    refine eb_calli (As := [.int pp]) (rest := []) ⟨hx, hb, hml, hown, hts⟩ (tX_isDraftThere l D q cs hK3 hE o ho pp) (cwV 1 hts gX0_insert_X0_isDraftThere rfl rfl rfl (by decide +kernel) ⟨Nat.le_of_ble_eq_true rfl, Nat.le_of_ble_eq_true rfl⟩) hK hP hD hS hA rfl rfl rfl rfl hl.1 rfl (Nat.le_of_ble_eq_true rfl) dX0_insert_11 ⟨Nat.zero_le _, Nat.zero_le _⟩ (fun r2 w1 H locs hq hP hD hS => ?_)
    obtain ⟨rfl, hq2⟩ := hq
    refine lv_if_eq (tgt := 20) hx hb dX0_insert_14 (by decide) (fun c14 => ?_) (fun c14 => ?_)
    · have c14 := et_b0 hq2 c14
      refine lv_aload_n hx hb dX0_insert_20 rfl (lv_at hl 0 rfl) ?_
      refine va_get (D := D) (ci := 0) (C := RX0) (T := TX0) (N := 16) hx hb hts hU hown hK hP 0 rfl rfl 7 (by decide) hf_entries (fun _ h9 => h9) rfl dX0_insert_21 ?_
      refine lv_bipush (v := 24) hx hb dX0_insert_24 (by decide) ?_
      refine lv_icmp_lt (tgt := 32) hx hb dX0_insert_26 (by decide) (fun c26 => ?_) (fun c26 => ?_)
      · have c26 : nI L.length < nI 24 := c26
        rw [nI_ltI (by omega) (by omega)] at c26
        refine lv_aload_n hx hb dX0_insert_32 rfl (lv_at hl 0 rfl) ?_
        refine lv_aload_n hx hb dX0_insert_33 rfl (lv_at hl 0 rfl) ?_
        refine lv_iload_n hx hb dX0_insert_34 rfl (lv_at hl 1 rfl) ?_
        refine eb_calli (As := [.int pp]) (rest := [.ref (q 0)]) ⟨hx, hb, hml, hown, hts⟩ (tX_rankForDraft l D q cs hK3 hE o ho pp) (cwV 1 hts gX0_insert_X0_rankForDraft rfl rfl rfl (by decide +kernel) ⟨Nat.le_of_ble_eq_true rfl, Nat.le_of_ble_eq_true rfl⟩) hK hP hD hS hA rfl rfl rfl rfl hl.1 rfl (Nat.le_of_ble_eq_true rfl) dX0_insert_35 ⟨Nat.zero_le _, Nat.zero_le _⟩ (fun rj w1 H locs hq hP hD hS => ?_)
        obtain ⟨rfl, j, rfl, hj1, hj2, hj3⟩ := hq
        refine eb_calli (As := [.int (nI j)]) (rest := []) ⟨hx, hb, hml, hown, hts⟩ (tX_takeSlot l D q cs (by omega) j hj1) (cwV 1 hts gX0_insert_X0_takeSlot rfl rfl rfl (by decide +kernel) ⟨Nat.le_of_ble_eq_true rfl, Nat.le_of_ble_eq_true rfl⟩) hK hP hD hS hA rfl rfl rfl rfl hl.1 rfl (Nat.le_of_ble_eq_true rfl) dX0_insert_38 ⟨Nat.zero_le _, Nat.zero_le _⟩ (fun rs w1 H locs hq hP hD hS => ?_)
        obtain ⟨rfl, rfl⟩ := hq
        have hs0 := (ho L.length (by omega)).2
        refine eb_ti (nI (o L.length)) ((ho L.length (by omega)).1) ?_
        refine lv_istore_n hx hb dX0_insert_41 rfl hl (by decide) rfl (fun ls hl => ?_)
        have hl : lv_has ls 3 [(2, .int (nI (o L.length))), (0, .ref (q 0)), (1, .int pp)] := hl
        refine lv_aload_n hx hb dX0_insert_42 rfl (lv_at hl 1 rfl) ?_
        refine lv_iload_n hx hb dX0_insert_43 rfl (lv_at hl 0 rfl) ?_
        refine lv_iload_n hx hb dX0_insert_44 rfl (lv_at hl 2 rfl) ?_
        refine eb_callv (As := [.int (nI (o L.length)), .int pp]) (rest := []) ⟨hx, hb, hml, hown, hts⟩ (tX_fillSlot l D q cs hK3 (o L.length) hs0 pp) (cwV 2 hts gX0_insert_X0_fillSlot rfl rfl rfl (by decide +kernel) ⟨Nat.le_of_ble_eq_true rfl, Nat.le_of_ble_eq_true rfl⟩) hK hP hD hS hA rfl rfl rfl rfl hl.1 rfl (Nat.le_of_ble_eq_true rfl) dX0_insert_45 ⟨Nat.zero_le _, Nat.zero_le _⟩ (fun w1 H locs hq hP hD hS => ?_)
        obtain ⟨vals1, msks1, rfl, hf1, hf2⟩ := hq
        refine lv_aload_n hx hb dX0_insert_48 rfl (lv_at hl 1 rfl) ?_
        refine eb_callv (As := []) (rest := []) ⟨hx, hb, hml, hown, hts⟩ (tX_clearDraft l D q cs) (cwV 0 hts gX0_insert_X0_clearDraft rfl rfl rfl (by decide +kernel) ⟨Nat.le_of_ble_eq_true rfl, Nat.le_of_ble_eq_true rfl⟩) hK hP hD hS hA rfl rfl rfl rfl hl.1 rfl (Nat.le_of_ble_eq_true rfl) dX0_insert_49 ⟨Nat.zero_le _, Nat.zero_le _⟩ (fun w1 H locs hq hP hD hS => ?_)
        obtain rfl := hq
        refine lv_aload_n hx hb dX0_insert_52 rfl (lv_at hl 1 rfl) ?_
        refine va_get (D := D) (ci := 0) (C := RX0) (T := TX0) (N := 16) hx hb hts hU hown hK hP 0 rfl rfl 10 (by decide) hf_numbers (fun _ h9 => h9) rfl dX0_insert_53 ?_
        refine lv_iload_n hx hb dX0_insert_56 rfl (lv_at hl 0 rfl) ?_
        refine eb_iald hx hb hK hP 5 4 rfl rfl (o L.length) (by omega) (by decide) dX0_insert_57 ?_
        refine eb_iret hx hb hr hlk hK hP hD hS dX0_insert_58 ?_
        refine Or.inr (Or.inr (Or.inr ⟨c4, et_th_no hC c14, by omega, pk_us, j, hj1, et_lo_no hC hj2, et_lo_at hC hj3, ?_⟩))
        exact ⟨_, _, _, _, _, _, vals1, msks1, et_CR_ins hC hK3 rfl (by omega) hj1 (fun i hi => ⟨hf1.1 i hi, hf2.1 i hi⟩) (fun k hk => ⟨hf1.2 k hk, hf2.2 k hk⟩), by rw [List.length_insertIdx_of_le_length hj1, nI_1]⟩
      · have c26 : ¬ nI L.length < nI 24 := c26
        rw [nI_ltI (by omega) (by omega)] at c26
        refine lv_bipush (v := (-3)) hx hb dX0_insert_29 (by decide) ?_
        refine eb_iret hx hb hr hlk hK hP hD hS dX0_insert_31 ?_
        exact Or.inr (Or.inr (Or.inl ⟨c4, et_th_no hC c14, by omega, rfl, ⟨o, ord, nums, pris, pres, fins, vals, msks, hC, rfl⟩⟩))
    · have c14 := et_b1 hq2 c14
      refine lv_bipush (v := (-4)) hx hb dX0_insert_17 (by decide) ?_
      refine eb_iret hx hb hr hlk hK hP hD hS dX0_insert_19 ?_
      obtain ⟨j, hj, hj1, hj2⟩ := c14
      exact Or.inr (Or.inl ⟨c4, et_th_of hC hj hj1 hj2, rfl, ⟨o, ord, nums, pris, pres, fins, vals, msks, hC, rfl⟩⟩)
  · have c4 := et_b0 hq1 c4
    refine lv_iconst (v := (-1)) hx hb dX0_insert_7 (by decide) ?_
    refine eb_iret hx hb hr hlk hK hP hD hS dX0_insert_8 ?_
    exact Or.inl ⟨c4, rfl, ⟨o, ord, nums, pris, pres, fins, vals, msks, hC, rfl⟩⟩

set_option maxHeartbeats 4000000 in
set_option maxRecDepth 100000 in
theorem tX_count (l : Launch) (D : va_G) (q : Nat → Nat) (cs : Nat → ClassId) {K w N : Nat} {L : List et_E} {kd : Nat → Int32} {dv dm : Nat → Int64} {ord : Nat → Int32} {ms : Int32} {nums pris pres fins : Nat → Int32} {vals msks : Nat → Int64} (hK3 : K ≤ 3) (o : Nat → Nat) (hC : et_CR K w kd L o ord nums pris pres fins vals msks) (what : Int32) : eb_MI l D vwCl (XTy cs) yX0_count wsX0_count { frames := 0, cells := 0, slots := 0, locals := 0 } [.ref (q 0), .int what] (XW q cs (nI K) (nI w) (et_ab w) kd dv dm ord (nI L.length) (nI N) ms nums pris pres fins vals msks) (fun r w1 => et_Qc (et_SX q cs K w kd) K w kd dv dm N ms L what r w1) := by
  refine eb_openI (cc := cX0_count) (maxL := 2) (ret := (some .int)) (by decide +kernel) rfl (Nat.le_of_ble_eq_true rfl) ?_
  intro p e s m below meth c A ls H locs hx hb hr hts hown hlk hml hP hK hD hA hS hl
  have hU : ∀ w ∈ wsX00, w ∈ wsX0_count := fun w h => List.mem_cons_of_mem _ (List.mem_append_right _ h)
  have hf_keys := hts (.fieldLink RX0 60 "EntryTable" "keys" "I") (by decide +kernel)
  have hf_width := hts (.fieldLink RX0 63 "EntryTable" "width" "I") (by decide +kernel)
  have hf_entries := hts (.fieldLink RX0 23 "EntryTable" "entries" "I") (by decide +kernel)
  have hf_misses := hts (.fieldLink RX0 30 "EntryTable" "misses" "I") (by decide +kernel)
  have hf_kinds := hts (.fieldLink RX0 9 "EntryTable" "kinds" "[I") (by decide +kernel)
  have ho := hC.1
  have hE := hC.2.2.1
  have hl : lv_has ls 2 [(0, .ref (q 0)), (1, .int what)] := hl
  refine lv_iload_n hx hb dX0_count_0 rfl (lv_at hl 1 rfl) ?_
  by_cases h0 : what = 0
  · subst h0
    have hl : lv_has ls 2 [(0, .ref (q 0)), (1, .int 0)] := hl
    refine lv_tableIn (tgt := 44) hx hb dX0_count_1 (by decide) (by decide) rfl (by decide) ?_
    refine lv_aload_n hx hb dX0_count_44 rfl (lv_at hl 0 rfl) ?_
    refine va_get (D := D) (ci := 0) (C := RX0) (T := TX0) (N := 16) hx hb hts hU hown hK hP 0 rfl rfl 0 (by decide) hf_keys (fun _ h9 => h9) rfl dX0_count_45 ?_
    refine eb_iret hx hb hr hlk hK hP hD hS dX0_count_48 ?_
    exact ⟨⟨o, ord, nums, pris, pres, fins, vals, msks, hC, rfl⟩, rfl⟩
  by_cases h1 : what = 1
  · subst h1
    have hl : lv_has ls 2 [(0, .ref (q 0)), (1, .int 1)] := hl
    refine lv_tableIn (tgt := 49) hx hb dX0_count_1 (by decide) (by decide) rfl (by decide) ?_
    refine lv_aload_n hx hb dX0_count_49 rfl (lv_at hl 0 rfl) ?_
    refine va_get (D := D) (ci := 0) (C := RX0) (T := TX0) (N := 16) hx hb hts hU hown hK hP 0 rfl rfl 1 (by decide) hf_width (fun _ h9 => h9) rfl dX0_count_50 ?_
    refine eb_iret hx hb hr hlk hK hP hD hS dX0_count_53 ?_
    exact ⟨⟨o, ord, nums, pris, pres, fins, vals, msks, hC, rfl⟩, rfl⟩
  by_cases h2 : what = 2
  · subst h2
    have hl : lv_has ls 2 [(0, .ref (q 0)), (1, .int 2)] := hl
    refine lv_tableIn (tgt := 54) hx hb dX0_count_1 (by decide) (by decide) rfl (by decide) ?_
    refine lv_aload_n hx hb dX0_count_54 rfl (lv_at hl 0 rfl) ?_
    refine va_get (D := D) (ci := 0) (C := RX0) (T := TX0) (N := 16) hx hb hts hU hown hK hP 0 rfl rfl 7 (by decide) hf_entries (fun _ h9 => h9) rfl dX0_count_55 ?_
    refine eb_iret hx hb hr hlk hK hP hD hS dX0_count_58 ?_
    exact ⟨⟨o, ord, nums, pris, pres, fins, vals, msks, hC, rfl⟩, rfl⟩
  by_cases h3 : what = 3
  · subst h3
    have hl : lv_has ls 2 [(0, .ref (q 0)), (1, .int 3)] := hl
    refine lv_tableIn (tgt := 59) hx hb dX0_count_1 (by decide) (by decide) rfl (by decide) ?_
    refine lv_aload_n hx hb dX0_count_59 rfl (lv_at hl 0 rfl) ?_
    refine va_get (D := D) (ci := 0) (C := RX0) (T := TX0) (N := 16) hx hb hts hU hown hK hP 0 rfl rfl 9 (by decide) hf_misses (fun _ h9 => h9) rfl dX0_count_60 ?_
    refine eb_iret hx hb hr hlk hK hP hD hS dX0_count_63 ?_
    exact ⟨⟨o, ord, nums, pris, pres, fins, vals, msks, hC, rfl⟩, rfl⟩
  by_cases h4 : what = 4
  · subst h4
    have hl : lv_has ls 2 [(0, .ref (q 0)), (1, .int 4)] := hl
    refine lv_tableIn (tgt := 64) hx hb dX0_count_1 (by decide) (by decide) rfl (by decide) ?_
    refine lv_aload_n hx hb dX0_count_64 rfl (lv_at hl 0 rfl) ?_
    refine va_get (D := D) (ci := 0) (C := RX0) (T := TX0) (N := 16) hx hb hts hU hown hK hP 0 rfl rfl 3 (by decide) hf_kinds (fun _ h9 => h9) rfl dX0_count_65 ?_
    refine lv_iload_n hx hb dX0_count_68 rfl (lv_at hl 1 rfl) ?_
    refine lv_iconst (v := 4) hx hb dX0_count_69 (by decide) ?_
    refine lv_isub hx hb dX0_count_70 ?_
    refine eb_ti (nI (4 - 4)) (pk_sub (a := 4) (b := 4) (by omega)) ?_
    refine eb_iald hx hb hK hP 1 0 rfl rfl (4 - 4) (by omega) (by decide) dX0_count_71 ?_
    refine eb_iret hx hb hr hlk hK hP hD hS dX0_count_72 ?_
    exact ⟨⟨o, ord, nums, pris, pres, fins, vals, msks, hC, rfl⟩, rfl⟩
  by_cases h5 : what = 5
  · subst h5
    have hl : lv_has ls 2 [(0, .ref (q 0)), (1, .int 5)] := hl
    refine lv_tableIn (tgt := 64) hx hb dX0_count_1 (by decide) (by decide) rfl (by decide) ?_
    refine lv_aload_n hx hb dX0_count_64 rfl (lv_at hl 0 rfl) ?_
    refine va_get (D := D) (ci := 0) (C := RX0) (T := TX0) (N := 16) hx hb hts hU hown hK hP 0 rfl rfl 3 (by decide) hf_kinds (fun _ h9 => h9) rfl dX0_count_65 ?_
    refine lv_iload_n hx hb dX0_count_68 rfl (lv_at hl 1 rfl) ?_
    refine lv_iconst (v := 4) hx hb dX0_count_69 (by decide) ?_
    refine lv_isub hx hb dX0_count_70 ?_
    refine eb_ti (nI (5 - 4)) (pk_sub (a := 5) (b := 4) (by omega)) ?_
    refine eb_iald hx hb hK hP 1 0 rfl rfl (5 - 4) (by omega) (by decide) dX0_count_71 ?_
    refine eb_iret hx hb hr hlk hK hP hD hS dX0_count_72 ?_
    exact ⟨⟨o, ord, nums, pris, pres, fins, vals, msks, hC, rfl⟩, rfl⟩
  by_cases h6 : what = 6
  · subst h6
    have hl : lv_has ls 2 [(0, .ref (q 0)), (1, .int 6)] := hl
    refine lv_tableIn (tgt := 64) hx hb dX0_count_1 (by decide) (by decide) rfl (by decide) ?_
    refine lv_aload_n hx hb dX0_count_64 rfl (lv_at hl 0 rfl) ?_
    refine va_get (D := D) (ci := 0) (C := RX0) (T := TX0) (N := 16) hx hb hts hU hown hK hP 0 rfl rfl 3 (by decide) hf_kinds (fun _ h9 => h9) rfl dX0_count_65 ?_
    refine lv_iload_n hx hb dX0_count_68 rfl (lv_at hl 1 rfl) ?_
    refine lv_iconst (v := 4) hx hb dX0_count_69 (by decide) ?_
    refine lv_isub hx hb dX0_count_70 ?_
    refine eb_ti (nI (6 - 4)) (pk_sub (a := 6) (b := 4) (by omega)) ?_
    refine eb_iald hx hb hK hP 1 0 rfl rfl (6 - 4) (by omega) (by decide) dX0_count_71 ?_
    refine eb_iret hx hb hr hlk hK hP hD hS dX0_count_72 ?_
    exact ⟨⟨o, ord, nums, pris, pres, fins, vals, msks, hC, rfl⟩, rfl⟩
  refine lv_tableOut (tgt := 73) hx hb dX0_count_1 (et_out h0 h1 h2 h3 h4 h5 h6) (by decide) ?_
  refine lv_iconst (v := (-1)) hx hb dX0_count_73 (by decide) ?_
  refine eb_iret hx hb hr hlk hK hP hD hS dX0_count_74 ?_
  exact ⟨⟨o, ord, nums, pris, pres, fins, vals, msks, hC, rfl⟩, by unfold et_cnt; rw [if_neg h0, if_neg h1, if_neg h2, if_neg h3, if_neg h4, if_neg h5, if_neg h6]⟩
end
section
set_option maxHeartbeats 4000000 in
set_option maxRecDepth 100000 in
theorem tM_fits (l : Launch) (D : va_G) (q : Nat → Nat) (cs : Nat → ClassId) {K C : Nat} {wd : Int32} {kd num pri hit : Nat → Int32} {val msk mv mm ask : Nat → Int64} {nn ms : Int32} (x : Int64) : eb_MI l D vwCl (MTy cs) yX1_fits wsM_fits { frames := 0, cells := 0, slots := 0, locals := 0 } [.ref (q 0), .long x] (MW q cs (nI K) wd kd num pri hit val msk mv mm ask (nI C) nn ms) (fun r w1 => w1 = MW q cs (nI K) wd kd num pri hit val msk mv mm ask (nI C) nn ms ∧ (((et_rn wd x) ∧ r = 1) ∨ (¬ (et_rn wd x) ∧ r = 0))) := by
  refine eb_openI (cc := cX1_fits) (maxL := 3) (ret := (some .boolean)) (by decide +kernel) rfl (Nat.le_of_ble_eq_true rfl) ?_
  intro p e s m below meth c A ls H locs hx hb hr hts hown hlk hml hP hK hD hA hS hl
  have hU : ∀ w ∈ wsX10, w ∈ wsM_fits := fun w h => List.mem_cons_of_mem _ (MALL_u w h)
  have hf_width := hts (.fieldLink RX1 42 "EntryTableModel" "width" "I") (by decide +kernel)
  have hl : lv_has ls 3 [(0, .ref (q 0)), (1, .long x)] := hl
  refine lv_lload_n hx hb dX1_fits_0 rfl (lv_at hl 1 rfl) ?_
  refine lv_lconst (v := 0) hx hb dX1_fits_1 (by decide) ?_
  refine W.lcmp hx hb dX1_fits_2 ?_
  refine lv_if_lt (tgt := 21) hx hb dX1_fits_3 (by decide) (fun c3 => ?_) (fun c3 => ?_)
  · rw [lg_cmp_lt, ← Int64.not_le] at c3
    refine lv_iconst (v := 0) hx hb dX1_fits_21 (by decide) ?_
    refine eb_zret hx hb hr hlk hK hP hD hS dX1_fits_22 (by decide) ?_
    exact ⟨rfl, Or.inr ⟨by simp only [et_rn, c3, true_and, and_true, true_or, or_true, false_and, and_false, false_or, or_false, if_true, if_false, not_true_eq_false, not_false_eq_true, implies_true], rfl⟩⟩
  · rw [lg_cmp_lt, Int64.not_lt] at c3
    refine lv_lload_n hx hb dX1_fits_6 rfl (lv_at hl 1 rfl) ?_
    refine lv_aload_n hx hb dX1_fits_7 rfl (lv_at hl 0 rfl) ?_
    refine va_get (D := D) (ci := 1) (C := RX1) (T := TX1) (N := 14) hx hb hts hU hown hK hP 0 rfl rfl 1 (by decide) hf_width (fun _ h9 => h9) rfl dX1_fits_8 ?_
    refine lv_lshr hx hb dX1_fits_11 rfl ?_
    refine lv_lconst (v := 0) hx hb dX1_fits_12 (by decide) ?_
    refine W.lcmp hx hb dX1_fits_13 ?_
    refine lv_if_ne (tgt := 21) hx hb dX1_fits_14 (by decide) (fun c14 => ?_) (fun c14 => ?_)
    · rw [lg_cmp_eq] at c14
      refine lv_iconst (v := 0) hx hb dX1_fits_21 (by decide) ?_
      refine eb_zret hx hb hr hlk hK hP hD hS dX1_fits_22 (by decide) ?_
      exact ⟨rfl, Or.inr ⟨by simp only [et_rn, c3, c14, true_and, and_true, true_or, or_true, false_and, and_false, false_or, or_false, if_true, if_false, not_true_eq_false, not_false_eq_true, implies_true], rfl⟩⟩
    · rw [lg_cmp_eq] at c14
      refine lv_iconst (v := 1) hx hb dX1_fits_17 (by decide) ?_
      refine lv_goto (tgt := 22) hx hb dX1_fits_18 (by decide) ?_
      refine eb_zret hx hb hr hlk hK hP hD hS dX1_fits_22 (by decide) ?_
      exact ⟨rfl, Or.inl ⟨by simp only [et_rn, c3, eq_true c14, true_and, and_true, true_or, or_true, false_and, and_false, false_or, or_false, if_true, if_false, not_true_eq_false, not_false_eq_true, implies_true], rfl⟩⟩

set_option maxHeartbeats 4000000 in
set_option maxRecDepth 100000 in
theorem tM_bits (l : Launch) (D : va_G) (q : Nat → Nat) (cs : Nat → ClassId) {K C : Nat} {wd : Int32} {kd num pri hit : Nat → Int32} {val msk mv mm ask : Nat → Int64} {nn ms : Int32} (x : Int64) : eb_ML l D vwCl (MTy cs) yX1_bits wsM_bits { frames := 0, cells := 0, slots := 0, locals := 0 } [.ref (q 0), .long x] (MW q cs (nI K) wd kd num pri hit val msk mv mm ask (nI C) nn ms) (fun r w1 => w1 = MW q cs (nI K) wd kd num pri hit val msk mv mm ask (nI C) nn ms ∧ r = et_rb wd x) := by
  refine eb_openL (cc := cX1_bits) (maxL := 3) (ret := (some .long)) (by decide +kernel) rfl (Nat.le_of_ble_eq_true rfl) ?_
  intro p e s m below meth c A ls H locs hx hb hr hts hown hlk hml hP hK hD hA hS hl
  have hU : ∀ w ∈ wsX10, w ∈ wsM_bits := fun w h => List.mem_cons_of_mem _ (MALL_u w h)
  have hf_width := hts (.fieldLink RX1 42 "EntryTableModel" "width" "I") (by decide +kernel)
  have hl : lv_has ls 3 [(0, .ref (q 0)), (1, .long x)] := hl
  refine lv_lload_n hx hb dX1_bits_0 rfl (lv_at hl 1 rfl) ?_
  refine lv_lconst (v := 0) hx hb dX1_bits_1 (by decide) ?_
  refine W.lcmp hx hb dX1_bits_2 ?_
  refine lv_if_ne (tgt := 10) hx hb dX1_bits_3 (by decide) (fun c3 => ?_) (fun c3 => ?_)
  · rw [lg_cmp_eq] at c3
    refine lv_lconst (v := 1) hx hb dX1_bits_10 (by decide) ?_
    refine lv_aload_n hx hb dX1_bits_11 rfl (lv_at hl 0 rfl) ?_
    refine va_get (D := D) (ci := 1) (C := RX1) (T := TX1) (N := 14) hx hb hts hU hown hK hP 0 rfl rfl 1 (by decide) hf_width (fun _ h9 => h9) rfl dX1_bits_12 ?_
    refine lv_lshl hx hb dX1_bits_15 rfl ?_
    refine lv_lconst (v := 1) hx hb dX1_bits_16 (by decide) ?_
    refine lv_lsub hx hb dX1_bits_17 ?_
    refine lv_aload_n hx hb dX1_bits_18 rfl (lv_at hl 0 rfl) ?_
    refine va_get (D := D) (ci := 1) (C := RX1) (T := TX1) (N := 14) hx hb hts hU hown hK hP 0 rfl rfl 1 (by decide) hf_width (fun _ h9 => h9) rfl dX1_bits_19 ?_
    refine lv_i2l hx hb dX1_bits_22 rfl ?_
    refine lv_lload_n hx hb dX1_bits_23 rfl (lv_at hl 1 rfl) ?_
    refine lv_lsub hx hb dX1_bits_24 ?_
    refine lv_l2i hx hb dX1_bits_25 rfl ?_
    refine lv_lshr hx hb dX1_bits_26 rfl ?_
    refine lv_aload_n hx hb dX1_bits_27 rfl (lv_at hl 0 rfl) ?_
    refine va_get (D := D) (ci := 1) (C := RX1) (T := TX1) (N := 14) hx hb hts hU hown hK hP 0 rfl rfl 1 (by decide) hf_width (fun _ h9 => h9) rfl dX1_bits_28 ?_
    refine lv_i2l hx hb dX1_bits_31 rfl ?_
    refine lv_lload_n hx hb dX1_bits_32 rfl (lv_at hl 1 rfl) ?_
    refine lv_lsub hx hb dX1_bits_33 ?_
    refine lv_l2i hx hb dX1_bits_34 rfl ?_
    refine lv_lshl hx hb dX1_bits_35 rfl ?_
    refine eb_lret hx hb hr hlk hK hP hD hS dX1_bits_36 ?_
    exact ⟨rfl, by unfold et_rb; rw [if_neg c3]⟩
  · rw [lg_cmp_eq] at c3
    refine lv_lconst (v := 0) hx hb dX1_bits_6 (by decide) ?_
    refine lv_goto (tgt := 36) hx hb dX1_bits_7 (by decide) ?_
    refine eb_lret hx hb hr hlk hK hP hD hS dX1_bits_36 ?_
    exact ⟨rfl, by unfold et_rb; rw [if_pos c3]⟩

set_option maxHeartbeats 4000000 in
set_option maxRecDepth 100000 in
theorem tM_good (l : Launch) (D : va_G) (q : Nat → Nat) (cs : Nat → ClassId) {K C : Nat} {wd : Int32} {kd num pri hit : Nat → Int32} {val msk mv mm ask : Nat → Int64} {nn ms : Int32} (k : Nat) (hk : k < 3) : eb_MI l D vwCl (MTy cs) yX1_good wsM_good { frames := 1, cells := 0, slots := 0, locals := 40 } [.ref (q 0), .int (nI k)] (MW q cs (nI K) wd kd num pri hit val msk mv mm ask (nI C) nn ms) (fun r w1 => w1 = MW q cs (nI K) wd kd num pri hit val msk mv mm ask (nI C) nn ms ∧ (((et_rs wd (kd k) (mv k) (mm k)) ∧ r = 1) ∨ (¬ (et_rs wd (kd k) (mv k) (mm k)) ∧ r = 0))) := by
  refine eb_openI (cc := cX1_good) (maxL := 2) (ret := (some .boolean)) (by decide +kernel) rfl (Nat.le_of_ble_eq_true rfl) ?_
  intro p e s m below meth c A ls H locs hx hb hr hts hown hlk hml hP hK hD hA hS hl
  have hU : ∀ w ∈ wsX10, w ∈ wsM_good := fun w h => List.mem_cons_of_mem _ (MALL_u w h)
  have hf_madeValue := hts (.fieldLink RX1 29 "EntryTableModel" "madeValue" "[J") (by decide +kernel)
  have hf_kind := hts (.fieldLink RX1 7 "EntryTableModel" "kind" "[I") (by decide +kernel)
  have hf_madeMask := hts (.fieldLink RX1 32 "EntryTableModel" "madeMask" "[J") (by decide +kernel)
  have hf_width := hts (.fieldLink RX1 42 "EntryTableModel" "width" "I") (by decide +kernel)
  have hl : lv_has ls 2 [(0, .ref (q 0)), (1, .int (nI k))] := hl
  refine lv_aload_n hx hb dX1_good_0 rfl (lv_at hl 0 rfl) ?_
  refine lv_aload_n hx hb dX1_good_1 rfl (lv_at hl 0 rfl) ?_
  refine va_get (D := D) (ci := 1) (C := RX1) (T := TX1) (N := 14) hx hb hts hU hown hK hP 0 rfl rfl 8 (by decide) hf_madeValue (fun _ h9 => h9) rfl dX1_good_2 ?_
  refine lv_iload_n hx hb dX1_good_5 rfl (lv_at hl 1 rfl) ?_
  refine eb_lald hx hb hK hP 7 6 rfl rfl (k) (by omega) (by decide) dX1_good_6 ?_
  refine eb_calli (As := [.long (mv k)]) (rest := []) ⟨hx, hb, hml, hown, hts⟩ (tM_fits l D q cs (mv k)) (cwV 1 hts gM_fits rfl rfl rfl (by decide +kernel) ⟨Nat.le_of_ble_eq_true rfl, Nat.le_of_ble_eq_true rfl⟩) hK hP hD hS hA rfl rfl rfl rfl hl.1 rfl (Nat.le_of_ble_eq_true rfl) dX1_good_7 ⟨Nat.zero_le _, Nat.zero_le _⟩ (fun r1 w1 H locs hq hP hD hS => ?_)
  obtain ⟨rfl, hq1⟩ := hq
  refine lv_if_ne (tgt := 15) hx hb dX1_good_10 (by decide) (fun c10 => ?_) (fun c10 => ?_)
  · have c10 := et_b1 hq1 c10
    refine lv_aload_n hx hb dX1_good_15 rfl (lv_at hl 0 rfl) ?_
    refine va_get (D := D) (ci := 1) (C := RX1) (T := TX1) (N := 14) hx hb hts hU hown hK hP 0 rfl rfl 2 (by decide) hf_kind (fun _ h9 => h9) rfl dX1_good_16 ?_
    refine lv_iload_n hx hb dX1_good_19 rfl (lv_at hl 1 rfl) ?_
    refine eb_iald hx hb hK hP 1 0 rfl rfl (k) (by omega) (by decide) dX1_good_20 ?_
    refine lv_if_ne (tgt := 26) hx hb dX1_good_21 (by decide) (fun c21 => ?_) (fun c21 => ?_)
    · refine lv_aload_n hx hb dX1_good_26 rfl (lv_at hl 0 rfl) ?_
      refine va_get (D := D) (ci := 1) (C := RX1) (T := TX1) (N := 14) hx hb hts hU hown hK hP 0 rfl rfl 2 (by decide) hf_kind (fun _ h9 => h9) rfl dX1_good_27 ?_
      refine lv_iload_n hx hb dX1_good_30 rfl (lv_at hl 1 rfl) ?_
      refine eb_iald hx hb hK hP 1 0 rfl rfl (k) (by omega) (by decide) dX1_good_31 ?_
      refine lv_iconst (v := 2) hx hb dX1_good_32 (by decide) ?_
      refine lv_icmp_ne (tgt := 77) hx hb dX1_good_33 (by decide) (fun c33 => ?_) (fun c33 => ?_)
      · refine lv_aload_n hx hb dX1_good_77 rfl (lv_at hl 0 rfl) ?_
        refine va_get (D := D) (ci := 1) (C := RX1) (T := TX1) (N := 14) hx hb hts hU hown hK hP 0 rfl rfl 9 (by decide) hf_madeMask (fun _ h9 => h9) rfl dX1_good_78 ?_
        refine lv_iload_n hx hb dX1_good_81 rfl (lv_at hl 1 rfl) ?_
        refine eb_lald hx hb hK hP 8 7 rfl rfl (k) (by omega) (by decide) dX1_good_82 ?_
        refine lv_lconst (v := 0) hx hb dX1_good_83 (by decide) ?_
        refine W.lcmp hx hb dX1_good_84 ?_
        refine lv_if_lt (tgt := 133) hx hb dX1_good_85 (by decide) (fun c85 => ?_) (fun c85 => ?_)
        · rw [lg_cmp_lt, ← Int64.not_le] at c85
          refine lv_iconst (v := 0) hx hb dX1_good_133 (by decide) ?_
          refine eb_zret hx hb hr hlk hK hP hD hS dX1_good_134 (by decide) ?_
          exact ⟨rfl, Or.inr ⟨by simp only [et_rs, c10, c21, c33, c85, true_and, and_true, true_or, or_true, false_and, and_false, false_or, or_false, if_true, if_false, not_true_eq_false, not_false_eq_true, implies_true], rfl⟩⟩
        · rw [lg_cmp_lt, Int64.not_lt] at c85
          refine lv_aload_n hx hb dX1_good_88 rfl (lv_at hl 0 rfl) ?_
          refine va_get (D := D) (ci := 1) (C := RX1) (T := TX1) (N := 14) hx hb hts hU hown hK hP 0 rfl rfl 9 (by decide) hf_madeMask (fun _ h9 => h9) rfl dX1_good_89 ?_
          refine lv_iload_n hx hb dX1_good_92 rfl (lv_at hl 1 rfl) ?_
          refine eb_lald hx hb hK hP 8 7 rfl rfl (k) (by omega) (by decide) dX1_good_93 ?_
          refine lv_aload_n hx hb dX1_good_94 rfl (lv_at hl 0 rfl) ?_
          refine va_get (D := D) (ci := 1) (C := RX1) (T := TX1) (N := 14) hx hb hts hU hown hK hP 0 rfl rfl 1 (by decide) hf_width (fun _ h9 => h9) rfl dX1_good_95 ?_
          refine lv_i2l hx hb dX1_good_98 rfl ?_
          refine W.lcmp hx hb dX1_good_99 ?_
          refine lv_if_gt (tgt := 133) hx hb dX1_good_100 (by decide) (fun c100 => ?_) (fun c100 => ?_)
          · rw [lg_cmp_gt, ← Int64.not_le] at c100
            refine lv_iconst (v := 0) hx hb dX1_good_133 (by decide) ?_
            refine eb_zret hx hb hr hlk hK hP hD hS dX1_good_134 (by decide) ?_
            exact ⟨rfl, Or.inr ⟨by simp only [et_rs, c10, c21, c33, c85, c100, true_and, and_true, true_or, or_true, false_and, and_false, false_or, or_false, if_true, if_false, not_true_eq_false, not_false_eq_true, implies_true], rfl⟩⟩
          · rw [lg_cmp_gt, Int64.not_lt] at c100
            refine lv_aload_n hx hb dX1_good_103 rfl (lv_at hl 0 rfl) ?_
            refine va_get (D := D) (ci := 1) (C := RX1) (T := TX1) (N := 14) hx hb hts hU hown hK hP 0 rfl rfl 8 (by decide) hf_madeValue (fun _ h9 => h9) rfl dX1_good_104 ?_
            refine lv_iload_n hx hb dX1_good_107 rfl (lv_at hl 1 rfl) ?_
            refine eb_lald hx hb hK hP 7 6 rfl rfl (k) (by omega) (by decide) dX1_good_108 ?_
            refine lv_aload_n hx hb dX1_good_109 rfl (lv_at hl 0 rfl) ?_
            refine lv_aload_n hx hb dX1_good_110 rfl (lv_at hl 0 rfl) ?_
            refine va_get (D := D) (ci := 1) (C := RX1) (T := TX1) (N := 14) hx hb hts hU hown hK hP 0 rfl rfl 9 (by decide) hf_madeMask (fun _ h9 => h9) rfl dX1_good_111 ?_
            refine lv_iload_n hx hb dX1_good_114 rfl (lv_at hl 1 rfl) ?_
            refine eb_lald hx hb hK hP 8 7 rfl rfl (k) (by omega) (by decide) dX1_good_115 ?_
            refine eb_calll (As := [.long (mm k)]) (rest := [.long (mv k)]) ⟨hx, hb, hml, hown, hts⟩ (tM_bits l D q cs (mm k)) (cwV 1 hts gM_bits rfl rfl rfl (by decide +kernel) ⟨Nat.le_of_ble_eq_true rfl, Nat.le_of_ble_eq_true rfl⟩) hK hP hD hS hA rfl rfl rfl rfl hl.1 rfl (Nat.le_of_ble_eq_true rfl) dX1_good_116 ⟨Nat.zero_le _, Nat.zero_le _⟩ (fun r2 w1 H locs hq hP hD hS => ?_)
            obtain ⟨rfl, rfl⟩ := hq
            refine lv_ldc2 (v := (-1)) hx hb hown (hts (.constantLong RX1 49 (-1)) (by decide +kernel)) dX1_good_119 ?_
            refine lv_lxor hx hb dX1_good_122 ?_
            refine lv_land hx hb dX1_good_123 ?_
            refine lv_lconst (v := 0) hx hb dX1_good_124 (by decide) ?_
            refine W.lcmp hx hb dX1_good_125 ?_
            refine lv_if_ne (tgt := 133) hx hb dX1_good_126 (by decide) (fun c126 => ?_) (fun c126 => ?_)
            · rw [lg_cmp_eq] at c126
              refine lv_iconst (v := 0) hx hb dX1_good_133 (by decide) ?_
              refine eb_zret hx hb hr hlk hK hP hD hS dX1_good_134 (by decide) ?_
              exact ⟨rfl, Or.inr ⟨by simp only [et_rs, c10, c21, c33, c85, c100, c126, true_and, and_true, true_or, or_true, false_and, and_false, false_or, or_false, if_true, if_false, not_true_eq_false, not_false_eq_true, implies_true], rfl⟩⟩
            · rw [lg_cmp_eq] at c126
              refine lv_iconst (v := 1) hx hb dX1_good_129 (by decide) ?_
              refine lv_goto (tgt := 134) hx hb dX1_good_130 (by decide) ?_
              refine eb_zret hx hb hr hlk hK hP hD hS dX1_good_134 (by decide) ?_
              exact ⟨rfl, Or.inl ⟨by simp only [et_rs, c10, c21, c33, c85, c100, eq_true c126, true_and, and_true, true_or, or_true, false_and, and_false, false_or, or_false, if_true, if_false, not_true_eq_false, not_false_eq_true, implies_true], rfl⟩⟩
      · refine lv_aload_n hx hb dX1_good_36 rfl (lv_at hl 0 rfl) ?_
        refine lv_aload_n hx hb dX1_good_37 rfl (lv_at hl 0 rfl) ?_
        refine va_get (D := D) (ci := 1) (C := RX1) (T := TX1) (N := 14) hx hb hts hU hown hK hP 0 rfl rfl 9 (by decide) hf_madeMask (fun _ h9 => h9) rfl dX1_good_38 ?_
        refine lv_iload_n hx hb dX1_good_41 rfl (lv_at hl 1 rfl) ?_
        refine eb_lald hx hb hK hP 8 7 rfl rfl (k) (by omega) (by decide) dX1_good_42 ?_
        refine eb_calli (As := [.long (mm k)]) (rest := []) ⟨hx, hb, hml, hown, hts⟩ (tM_fits l D q cs (mm k)) (cwV 1 hts gM_fits rfl rfl rfl (by decide +kernel) ⟨Nat.le_of_ble_eq_true rfl, Nat.le_of_ble_eq_true rfl⟩) hK hP hD hS hA rfl rfl rfl rfl hl.1 rfl (Nat.le_of_ble_eq_true rfl) dX1_good_43 ⟨Nat.zero_le _, Nat.zero_le _⟩ (fun r2 w1 H locs hq hP hD hS => ?_)
        obtain ⟨rfl, hq2⟩ := hq
        refine lv_if_eq (tgt := 75) hx hb dX1_good_46 (by decide) (fun c46 => ?_) (fun c46 => ?_)
        · have c46 := et_b0 hq2 c46
          refine lv_iconst (v := 0) hx hb dX1_good_75 (by decide) ?_
          refine eb_zret hx hb hr hlk hK hP hD hS dX1_good_76 (by decide) ?_
          exact ⟨rfl, Or.inr ⟨by simp only [et_rs, c10, c21, eq_true c33, c46, true_and, and_true, true_or, or_true, false_and, and_false, false_or, or_false, if_true, if_false, not_true_eq_false, not_false_eq_true, implies_true], rfl⟩⟩
        · have c46 := et_b1 hq2 c46
          refine lv_aload_n hx hb dX1_good_49 rfl (lv_at hl 0 rfl) ?_
          refine va_get (D := D) (ci := 1) (C := RX1) (T := TX1) (N := 14) hx hb hts hU hown hK hP 0 rfl rfl 8 (by decide) hf_madeValue (fun _ h9 => h9) rfl dX1_good_50 ?_
          refine lv_iload_n hx hb dX1_good_53 rfl (lv_at hl 1 rfl) ?_
          refine eb_lald hx hb hK hP 7 6 rfl rfl (k) (by omega) (by decide) dX1_good_54 ?_
          refine lv_aload_n hx hb dX1_good_55 rfl (lv_at hl 0 rfl) ?_
          refine va_get (D := D) (ci := 1) (C := RX1) (T := TX1) (N := 14) hx hb hts hU hown hK hP 0 rfl rfl 9 (by decide) hf_madeMask (fun _ h9 => h9) rfl dX1_good_56 ?_
          refine lv_iload_n hx hb dX1_good_59 rfl (lv_at hl 1 rfl) ?_
          refine eb_lald hx hb hK hP 8 7 rfl rfl (k) (by omega) (by decide) dX1_good_60 ?_
          refine lv_ldc2 (v := (-1)) hx hb hown (hts (.constantLong RX1 49 (-1)) (by decide +kernel)) dX1_good_61 ?_
          refine lv_lxor hx hb dX1_good_64 ?_
          refine lv_land hx hb dX1_good_65 ?_
          refine lv_lconst (v := 0) hx hb dX1_good_66 (by decide) ?_
          refine W.lcmp hx hb dX1_good_67 ?_
          refine lv_if_ne (tgt := 75) hx hb dX1_good_68 (by decide) (fun c68 => ?_) (fun c68 => ?_)
          · rw [lg_cmp_eq] at c68
            refine lv_iconst (v := 0) hx hb dX1_good_75 (by decide) ?_
            refine eb_zret hx hb hr hlk hK hP hD hS dX1_good_76 (by decide) ?_
            exact ⟨rfl, Or.inr ⟨by simp only [et_rs, c10, c21, eq_true c33, c46, c68, true_and, and_true, true_or, or_true, false_and, and_false, false_or, or_false, if_true, if_false, not_true_eq_false, not_false_eq_true, implies_true], rfl⟩⟩
          · rw [lg_cmp_eq] at c68
            refine lv_iconst (v := 1) hx hb dX1_good_71 (by decide) ?_
            refine lv_goto (tgt := 76) hx hb dX1_good_72 (by decide) ?_
            refine eb_zret hx hb hr hlk hK hP hD hS dX1_good_76 (by decide) ?_
            exact ⟨rfl, Or.inl ⟨by simp only [et_rs, c10, c21, eq_true c33, c46, eq_true c68, true_and, and_true, true_or, or_true, false_and, and_false, false_or, or_false, if_true, if_false, not_true_eq_false, not_false_eq_true, implies_true], rfl⟩⟩
    · refine lv_iconst (v := 1) hx hb dX1_good_24 (by decide) ?_
      refine eb_zret hx hb hr hlk hK hP hD hS dX1_good_25 (by decide) ?_
      exact ⟨rfl, Or.inl ⟨by simp only [et_rs, c10, eq_true c21, true_and, and_true, true_or, or_true, false_and, and_false, false_or, or_false, if_true, if_false, not_true_eq_false, not_false_eq_true, implies_true], rfl⟩⟩
  · have c10 := et_b0 hq1 c10
    refine lv_iconst (v := 0) hx hb dX1_good_13 (by decide) ?_
    refine eb_zret hx hb hr hlk hK hP hD hS dX1_good_14 (by decide) ?_
    exact ⟨rfl, Or.inr ⟨by simp only [et_rs, c10, true_and, and_true, true_or, or_true, false_and, and_false, false_or, or_false, if_true, if_false, not_true_eq_false, not_false_eq_true, implies_true], rfl⟩⟩

set_option maxHeartbeats 4000000 in
set_option maxRecDepth 100000 in
theorem tM_prefix (l : Launch) (D : va_G) (q : Nat → Nat) (cs : Nat → ClassId) {K C : Nat} {wd : Int32} {kd num pri hit : Nat → Int32} {val msk mv mm ask : Nat → Int64} {nn ms : Int32} (hK3 : K ≤ 3) (e0 : Nat) (he0 : e0 < 24) : eb_ML l D vwCl (MTy cs) yX1_prefix wsM_prefix { frames := 0, cells := 0, slots := 0, locals := 0 } [.ref (q 0), .int (nI e0)] (MW q cs (nI K) wd kd num pri hit val msk mv mm ask (nI C) nn ms) (fun r w1 => w1 = MW q cs (nI K) wd kd num pri hit val msk mv mm ask (nI C) nn ms ∧ r = et_pf K kd (fun k => msk (3 * e0 + k))) := by
  refine eb_openL (cc := cX1_prefix) (maxL := 3) (ret := (some .long)) (by decide +kernel) rfl (Nat.le_of_ble_eq_true rfl) ?_
  intro p e s m below meth c A ls H locs hx hb hr hts hown hlk hml hP hK hD hA hS hl
  have hU : ∀ w ∈ wsX10, w ∈ wsM_prefix := fun w h => List.mem_cons_of_mem _ (MALL_u w h)
  have hf_keys := hts (.fieldLink RX1 38 "EntryTableModel" "keys" "I") (by decide +kernel)
  have hf_kind := hts (.fieldLink RX1 7 "EntryTableModel" "kind" "[I") (by decide +kernel)
  have hf_mask := hts (.fieldLink RX1 26 "EntryTableModel" "mask" "[J") (by decide +kernel)
  have hl : lv_has ls 3 [(0, .ref (q 0)), (1, .int (nI e0))] := hl
  refine lv_iconst (v := 0) hx hb dX1_prefix_0 (by decide) ?_
  refine lv_istore_n hx hb dX1_prefix_1 rfl hl (by decide) rfl (fun ls hl => ?_)
  have hl : lv_has ls 3 [(2, .int 0), (0, .ref (q 0)), (1, .int (nI e0))] := hl
  refine eb_for (fun (i : Nat) (ls : Array Slot) (H : Heap) (locs : List Loc) => lv_has ls 3 [(0, .ref (q 0)), (1, .int (nI e0)), (2, .int (nI i))] ∧ va_P D vwCl (MW q cs (nI K) wd kd num pri hit val msk mv mm ask (nI C) nn ms) H ∧ va_D A (MW q cs (nI K) wd kd num pri hit val msk mv mm ask (nI C) nn ms) ∧ va_S A s.heap H locs ∧ (et_pg kd (fun k => msk (3 * e0 + k)) 0 K = et_pg kd (fun k => msk (3 * e0 + k)) i (K - i))) 2 (K) ?_ (K) (0) ls H locs (by omega) ⟨lv_sub hl [1, 2, 0] rfl, hP, hD, hS, rfl⟩
  intro i ls H locs hi hI hrec2
  obtain ⟨hl, hP, hD, hS, hi2⟩ := hI
  refine lv_iload_n hx hb dX1_prefix_2 rfl (lv_at hl 2 rfl) ?_
  refine lv_aload_n hx hb dX1_prefix_3 rfl (lv_at hl 0 rfl) ?_
  refine va_get (D := D) (ci := 1) (C := RX1) (T := TX1) (N := 14) hx hb hts hU hown hK hP 0 rfl rfl 0 (by decide) hf_keys (fun _ h9 => h9) rfl dX1_prefix_4 ?_
  refine lv_icmp_ge (tgt := 37) hx hb dX1_prefix_7 (by decide) (fun c7 => ?_) (fun c7 => ?_)
  · have c7 : nI K ≤ nI i := c7
    rw [nI_leI (by omega) (by omega)] at c7
    refine lv_lconst (v := 0) hx hb dX1_prefix_37 (by decide) ?_
    refine eb_lret hx hb hr hlk hK hP hD hS dX1_prefix_38 ?_
    exact ⟨rfl, by show _ = et_pg kd (fun k => msk (3 * e0 + k)) 0 K; rw [hi2, show K - i = 0 by omega]; rfl⟩
  · have c7 : ¬ nI K ≤ nI i := c7
    rw [nI_leI (by omega) (by omega)] at c7
    refine lv_aload_n hx hb dX1_prefix_10 rfl (lv_at hl 0 rfl) ?_
    refine va_get (D := D) (ci := 1) (C := RX1) (T := TX1) (N := 14) hx hb hts hU hown hK hP 0 rfl rfl 2 (by decide) hf_kind (fun _ h9 => h9) rfl dX1_prefix_11 ?_
    refine lv_iload_n hx hb dX1_prefix_14 rfl (lv_at hl 2 rfl) ?_
    refine eb_iald hx hb hK hP 1 0 rfl rfl (i) (by omega) (by decide) dX1_prefix_15 ?_
    refine lv_iconst (v := 1) hx hb dX1_prefix_16 (by decide) ?_
    refine lv_icmp_ne (tgt := 31) hx hb dX1_prefix_17 (by decide) (fun c17 => ?_) (fun c17 => ?_)
    · refine lv_iinc (k := 2) (v := nI (i + 1)) hx hb dX1_prefix_31 hl rfl (nI_add i 1) (by decide) rfl (fun ls hl => ?_)
      have hl : lv_has ls 3 [(2, .int (nI (i + 1))), (0, .ref (q 0)), (1, .int (nI e0))] := hl
      refine lv_goto (tgt := 2) hx hb dX1_prefix_34 (by decide) ?_
      exact hrec2 ls H locs (by omega) ⟨lv_sub hl [1, 2, 0] rfl, hP, hD, hS, by rw [hi2, et_pg_at (by omega), if_neg c17]⟩
    · refine lv_aload_n hx hb dX1_prefix_20 rfl (lv_at hl 0 rfl) ?_
      refine va_get (D := D) (ci := 1) (C := RX1) (T := TX1) (N := 14) hx hb hts hU hown hK hP 0 rfl rfl 7 (by decide) hf_mask (fun _ h9 => h9) rfl dX1_prefix_21 ?_
      refine lv_iconst (v := 3) hx hb dX1_prefix_24 (by decide) ?_
      refine lv_iload_n hx hb dX1_prefix_25 rfl (lv_at hl 1 rfl) ?_
      refine lv_imul hx hb dX1_prefix_26 ?_
      refine eb_ti (nI (3 * e0)) (pk_mul 3 e0) ?_
      refine lv_iload_n hx hb dX1_prefix_27 rfl (lv_at hl 2 rfl) ?_
      refine lv_iadd hx hb dX1_prefix_28 ?_
      refine eb_ti (nI ((3 * e0) + i)) (nI_add (3 * e0) i) ?_
      refine eb_lald hx hb hK hP 6 5 rfl rfl ((3 * e0) + i) (by omega) (by decide) dX1_prefix_29 ?_
      refine eb_lret hx hb hr hlk hK hP hD hS dX1_prefix_30 ?_
      exact ⟨rfl, by show _ = et_pg kd (fun k => msk (3 * e0 + k)) 0 K; rw [hi2, et_pg_at (by omega), if_pos c17]⟩

set_option maxHeartbeats 4000000 in
set_option maxRecDepth 100000 in
theorem tM_before (l : Launch) (D : va_G) (q : Nat → Nat) (cs : Nat → ClassId) {K C : Nat} {wd : Int32} {kd num pri hit : Nat → Int32} {val msk mv mm ask : Nat → Int64} {nn ms : Int32} (hK3 : K ≤ 3) (e0 t0 : Nat) (he0 : e0 < 24) (ht0 : t0 < 24) : eb_MI l D vwCl (MTy cs) yX1_before wsM_before { frames := 1, cells := 0, slots := 0, locals := 40 } [.ref (q 0), .int (nI e0), .int (nI t0)] (MW q cs (nI K) wd kd num pri hit val msk mv mm ask (nI C) nn ms) (fun r w1 => w1 = MW q cs (nI K) wd kd num pri hit val msk mv mm ask (nI C) nn ms ∧ (((et_mb K kd num pri msk e0 t0) ∧ r = 1) ∨ (¬ (et_mb K kd num pri msk e0 t0) ∧ r = 0))) := by
  refine eb_openI (cc := cX1_before) (maxL := 3) (ret := (some .boolean)) (by decide +kernel) rfl (Nat.le_of_ble_eq_true rfl) ?_
  intro p e s m below meth c A ls H locs hx hb hr hts hown hlk hml hP hK hD hA hS hl
  have hU : ∀ w ∈ wsX10, w ∈ wsM_before := fun w h => List.mem_cons_of_mem _ (MALL_u w h)
  have hf_priority := hts (.fieldLink RX1 16 "EntryTableModel" "priority" "[I") (by decide +kernel)
  have hf_number := hts (.fieldLink RX1 13 "EntryTableModel" "number" "[I") (by decide +kernel)
  have hl : lv_has ls 3 [(0, .ref (q 0)), (1, .int (nI e0)), (2, .int (nI t0))] := hl
  refine lv_aload_n hx hb dX1_before_0 rfl (lv_at hl 0 rfl) ?_
  refine lv_iload_n hx hb dX1_before_1 rfl (lv_at hl 1 rfl) ?_
  refine eb_calll (As := [.int (nI e0)]) (rest := []) ⟨hx, hb, hml, hown, hts⟩ (tM_prefix l D q cs hK3 (e0) (by omega)) (cwV 1 hts gM_prefix rfl rfl rfl (by decide +kernel) ⟨Nat.le_of_ble_eq_true rfl, Nat.le_of_ble_eq_true rfl⟩) hK hP hD hS hA rfl rfl rfl rfl hl.1 rfl (Nat.le_of_ble_eq_true rfl) dX1_before_2 ⟨Nat.zero_le _, Nat.zero_le _⟩ (fun r1 w1 H locs hq hP hD hS => ?_)
  obtain ⟨rfl, rfl⟩ := hq
  refine lv_aload_n hx hb dX1_before_5 rfl (lv_at hl 0 rfl) ?_
  refine lv_iload_n hx hb dX1_before_6 rfl (lv_at hl 2 rfl) ?_
  refine eb_calll (As := [.int (nI t0)]) (rest := [.long (et_pf K kd (fun k => msk (3 * e0 + k)))]) ⟨hx, hb, hml, hown, hts⟩ (tM_prefix l D q cs hK3 (t0) (by omega)) (cwV 1 hts gM_prefix rfl rfl rfl (by decide +kernel) ⟨Nat.le_of_ble_eq_true rfl, Nat.le_of_ble_eq_true rfl⟩) hK hP hD hS hA rfl rfl rfl rfl hl.1 rfl (Nat.le_of_ble_eq_true rfl) dX1_before_7 ⟨Nat.zero_le _, Nat.zero_le _⟩ (fun r2 w1 H locs hq hP hD hS => ?_)
  obtain ⟨rfl, rfl⟩ := hq
  refine W.lcmp hx hb dX1_before_10 ?_
  refine lv_if_eq (tgt := 34) hx hb dX1_before_11 (by decide) (fun c11 => ?_) (fun c11 => ?_)
  · rw [lg_cmp_eq] at c11
    refine lv_aload_n hx hb dX1_before_34 rfl (lv_at hl 0 rfl) ?_
    refine va_get (D := D) (ci := 1) (C := RX1) (T := TX1) (N := 14) hx hb hts hU hown hK hP 0 rfl rfl 4 (by decide) hf_priority (fun _ h9 => h9) rfl dX1_before_35 ?_
    refine lv_iload_n hx hb dX1_before_38 rfl (lv_at hl 1 rfl) ?_
    refine eb_iald hx hb hK hP 3 2 rfl rfl (e0) (by omega) (by decide) dX1_before_39 ?_
    refine lv_aload_n hx hb dX1_before_40 rfl (lv_at hl 0 rfl) ?_
    refine va_get (D := D) (ci := 1) (C := RX1) (T := TX1) (N := 14) hx hb hts hU hown hK hP 0 rfl rfl 4 (by decide) hf_priority (fun _ h9 => h9) rfl dX1_before_41 ?_
    refine lv_iload_n hx hb dX1_before_44 rfl (lv_at hl 2 rfl) ?_
    refine eb_iald hx hb hK hP 3 2 rfl rfl (t0) (by omega) (by decide) dX1_before_45 ?_
    refine lv_icmp_eq (tgt := 70) hx hb dX1_before_46 (by decide) (fun c46 => ?_) (fun c46 => ?_)
    · refine lv_aload_n hx hb dX1_before_70 rfl (lv_at hl 0 rfl) ?_
      refine va_get (D := D) (ci := 1) (C := RX1) (T := TX1) (N := 14) hx hb hts hU hown hK hP 0 rfl rfl 3 (by decide) hf_number (fun _ h9 => h9) rfl dX1_before_71 ?_
      refine lv_iload_n hx hb dX1_before_74 rfl (lv_at hl 1 rfl) ?_
      refine eb_iald hx hb hK hP 2 1 rfl rfl (e0) (by omega) (by decide) dX1_before_75 ?_
      refine lv_aload_n hx hb dX1_before_76 rfl (lv_at hl 0 rfl) ?_
      refine va_get (D := D) (ci := 1) (C := RX1) (T := TX1) (N := 14) hx hb hts hU hown hK hP 0 rfl rfl 3 (by decide) hf_number (fun _ h9 => h9) rfl dX1_before_77 ?_
      refine lv_iload_n hx hb dX1_before_80 rfl (lv_at hl 2 rfl) ?_
      refine eb_iald hx hb hK hP 2 1 rfl rfl (t0) (by omega) (by decide) dX1_before_81 ?_
      refine lv_icmp_ge (tgt := 89) hx hb dX1_before_82 (by decide) (fun c82 => ?_) (fun c82 => ?_)
      · rw [← Int32.not_lt] at c82
        refine lv_iconst (v := 0) hx hb dX1_before_89 (by decide) ?_
        refine eb_zret hx hb hr hlk hK hP hD hS dX1_before_90 (by decide) ?_
        exact ⟨rfl, Or.inr ⟨by simp only [et_mb, c11, c46, c82, Int64.lt_irrefl, Int32.lt_irrefl, eq_self, true_and, and_true, true_or, or_true, false_and, and_false, false_or, or_false, if_true, if_false, not_true_eq_false, not_false_eq_true, implies_true], rfl⟩⟩
      · rw [Int32.not_le] at c82
        refine lv_iconst (v := 1) hx hb dX1_before_85 (by decide) ?_
        refine lv_goto (tgt := 90) hx hb dX1_before_86 (by decide) ?_
        refine eb_zret hx hb hr hlk hK hP hD hS dX1_before_90 (by decide) ?_
        exact ⟨rfl, Or.inl ⟨by simp only [et_mb, c11, c46, c82, Int64.lt_irrefl, Int32.lt_irrefl, eq_self, true_and, and_true, true_or, or_true, false_and, and_false, false_or, or_false, if_true, if_false, not_true_eq_false, not_false_eq_true, implies_true], rfl⟩⟩
    · refine lv_aload_n hx hb dX1_before_49 rfl (lv_at hl 0 rfl) ?_
      refine va_get (D := D) (ci := 1) (C := RX1) (T := TX1) (N := 14) hx hb hts hU hown hK hP 0 rfl rfl 4 (by decide) hf_priority (fun _ h9 => h9) rfl dX1_before_50 ?_
      refine lv_iload_n hx hb dX1_before_53 rfl (lv_at hl 1 rfl) ?_
      refine eb_iald hx hb hK hP 3 2 rfl rfl (e0) (by omega) (by decide) dX1_before_54 ?_
      refine lv_aload_n hx hb dX1_before_55 rfl (lv_at hl 0 rfl) ?_
      refine va_get (D := D) (ci := 1) (C := RX1) (T := TX1) (N := 14) hx hb hts hU hown hK hP 0 rfl rfl 4 (by decide) hf_priority (fun _ h9 => h9) rfl dX1_before_56 ?_
      refine lv_iload_n hx hb dX1_before_59 rfl (lv_at hl 2 rfl) ?_
      refine eb_iald hx hb hK hP 3 2 rfl rfl (t0) (by omega) (by decide) dX1_before_60 ?_
      refine lv_icmp_le (tgt := 68) hx hb dX1_before_61 (by decide) (fun c61 => ?_) (fun c61 => ?_)
      · rw [← Int32.not_lt] at c61
        refine lv_iconst (v := 0) hx hb dX1_before_68 (by decide) ?_
        refine eb_zret hx hb hr hlk hK hP hD hS dX1_before_69 (by decide) ?_
        exact ⟨rfl, Or.inr ⟨by simp only [et_mb, c11, c46, c61, Int64.lt_irrefl, Int32.lt_irrefl, eq_self, true_and, and_true, true_or, or_true, false_and, and_false, false_or, or_false, if_true, if_false, not_true_eq_false, not_false_eq_true, implies_true], rfl⟩⟩
      · rw [Int32.not_le] at c61
        refine lv_iconst (v := 1) hx hb dX1_before_64 (by decide) ?_
        refine lv_goto (tgt := 69) hx hb dX1_before_65 (by decide) ?_
        refine eb_zret hx hb hr hlk hK hP hD hS dX1_before_69 (by decide) ?_
        exact ⟨rfl, Or.inl ⟨by simp only [et_mb, c11, c46, c61, Int64.lt_irrefl, Int32.lt_irrefl, eq_self, true_and, and_true, true_or, or_true, false_and, and_false, false_or, or_false, if_true, if_false, not_true_eq_false, not_false_eq_true, implies_true], rfl⟩⟩
  · rw [lg_cmp_eq] at c11
    refine lv_aload_n hx hb dX1_before_14 rfl (lv_at hl 0 rfl) ?_
    refine lv_iload_n hx hb dX1_before_15 rfl (lv_at hl 1 rfl) ?_
    refine eb_calll (As := [.int (nI e0)]) (rest := []) ⟨hx, hb, hml, hown, hts⟩ (tM_prefix l D q cs hK3 (e0) (by omega)) (cwV 1 hts gM_prefix rfl rfl rfl (by decide +kernel) ⟨Nat.le_of_ble_eq_true rfl, Nat.le_of_ble_eq_true rfl⟩) hK hP hD hS hA rfl rfl rfl rfl hl.1 rfl (Nat.le_of_ble_eq_true rfl) dX1_before_16 ⟨Nat.zero_le _, Nat.zero_le _⟩ (fun r3 w1 H locs hq hP hD hS => ?_)
    obtain ⟨rfl, rfl⟩ := hq
    refine lv_aload_n hx hb dX1_before_19 rfl (lv_at hl 0 rfl) ?_
    refine lv_iload_n hx hb dX1_before_20 rfl (lv_at hl 2 rfl) ?_
    refine eb_calll (As := [.int (nI t0)]) (rest := [.long (et_pf K kd (fun k => msk (3 * e0 + k)))]) ⟨hx, hb, hml, hown, hts⟩ (tM_prefix l D q cs hK3 (t0) (by omega)) (cwV 1 hts gM_prefix rfl rfl rfl (by decide +kernel) ⟨Nat.le_of_ble_eq_true rfl, Nat.le_of_ble_eq_true rfl⟩) hK hP hD hS hA rfl rfl rfl rfl hl.1 rfl (Nat.le_of_ble_eq_true rfl) dX1_before_21 ⟨Nat.zero_le _, Nat.zero_le _⟩ (fun r4 w1 H locs hq hP hD hS => ?_)
    obtain ⟨rfl, rfl⟩ := hq
    refine W.lcmp hx hb dX1_before_24 ?_
    refine lv_if_le (tgt := 32) hx hb dX1_before_25 (by decide) (fun c25 => ?_) (fun c25 => ?_)
    · rw [lg_cmp_le, ← Int64.not_lt] at c25
      refine lv_iconst (v := 0) hx hb dX1_before_32 (by decide) ?_
      refine eb_zret hx hb hr hlk hK hP hD hS dX1_before_33 (by decide) ?_
      exact ⟨rfl, Or.inr ⟨by simp only [et_mb, c11, c25, Int64.lt_irrefl, Int32.lt_irrefl, eq_self, true_and, and_true, true_or, or_true, false_and, and_false, false_or, or_false, if_true, if_false, not_true_eq_false, not_false_eq_true, implies_true], rfl⟩⟩
    · rw [lg_cmp_le, Int64.not_le] at c25
      refine lv_iconst (v := 1) hx hb dX1_before_28 (by decide) ?_
      refine lv_goto (tgt := 33) hx hb dX1_before_29 (by decide) ?_
      refine eb_zret hx hb hr hlk hK hP hD hS dX1_before_33 (by decide) ?_
      exact ⟨rfl, Or.inl ⟨by simp only [et_mb, c11, c25, Int64.lt_irrefl, Int32.lt_irrefl, eq_self, true_and, and_true, true_or, or_true, false_and, and_false, false_or, or_false, if_true, if_false, not_true_eq_false, not_false_eq_true, implies_true], rfl⟩⟩

set_option maxHeartbeats 4000000 in
set_option maxRecDepth 100000 in
theorem tM_place (l : Launch) (D : va_G) (q : Nat → Nat) (cs : Nat → ClassId) {K C : Nat} {wd : Int32} {kd num pri hit : Nat → Int32} {val msk mv mm ask : Nat → Int64} {nn ms : Int32} (hC : C ≤ 24) (en : Int32) : eb_MI l D vwCl (MTy cs) yX1_place wsM_place { frames := 0, cells := 0, slots := 0, locals := 0 } [.ref (q 0), .int en] (MW q cs (nI K) wd kd num pri hit val msk mv mm ask (nI C) nn ms) (fun r w1 => w1 = MW q cs (nI K) wd kd num pri hit val msk mv mm ask (nI C) nn ms ∧ ((∃ j, j < C ∧ num j = en ∧ r = nI j) ∨ ((∀ j, j < C → ¬ num j = en) ∧ r = -1))) := by
  refine eb_openI (cc := cX1_place) (maxL := 3) (ret := (some .int)) (by decide +kernel) rfl (Nat.le_of_ble_eq_true rfl) ?_
  intro p e s m below meth c A ls H locs hx hb hr hts hown hlk hml hP hK hD hA hS hl
  have hU : ∀ w ∈ wsX10, w ∈ wsM_place := fun w h => List.mem_cons_of_mem _ (MALL_u w h)
  have hf_count := hts (.fieldLink RX1 59 "EntryTableModel" "count" "I") (by decide +kernel)
  have hf_number := hts (.fieldLink RX1 13 "EntryTableModel" "number" "[I") (by decide +kernel)
  have hl : lv_has ls 3 [(0, .ref (q 0)), (1, .int en)] := hl
  refine lv_iconst (v := 0) hx hb dX1_place_0 (by decide) ?_
  refine lv_istore_n hx hb dX1_place_1 rfl hl (by decide) rfl (fun ls hl => ?_)
  have hl : lv_has ls 3 [(2, .int 0), (0, .ref (q 0)), (1, .int en)] := hl
  refine eb_for (fun (i : Nat) (ls : Array Slot) (H : Heap) (locs : List Loc) => lv_has ls 3 [(0, .ref (q 0)), (1, .int en), (2, .int (nI i))] ∧ va_P D vwCl (MW q cs (nI K) wd kd num pri hit val msk mv mm ask (nI C) nn ms) H ∧ va_D A (MW q cs (nI K) wd kd num pri hit val msk mv mm ask (nI C) nn ms) ∧ va_S A s.heap H locs ∧ (∀ j, j < i → ¬ num j = en)) 2 (C) ?_ (C) (0) ls H locs (by omega) ⟨lv_sub hl [1, 2, 0] rfl, hP, hD, hS, fun j hj => absurd hj (Nat.not_lt_zero j)⟩
  intro i ls H locs hi hI hrec2
  obtain ⟨hl, hP, hD, hS, hi2⟩ := hI
  refine lv_iload_n hx hb dX1_place_2 rfl (lv_at hl 2 rfl) ?_
  refine lv_aload_n hx hb dX1_place_3 rfl (lv_at hl 0 rfl) ?_
  refine va_get (D := D) (ci := 1) (C := RX1) (T := TX1) (N := 14) hx hb hts hU hown hK hP 0 rfl rfl 11 (by decide) hf_count (fun _ h9 => h9) rfl dX1_place_4 ?_
  refine lv_icmp_ge (tgt := 28) hx hb dX1_place_7 (by decide) (fun c7 => ?_) (fun c7 => ?_)
  · have c7 : nI C ≤ nI i := c7
    rw [nI_leI (by omega) (by omega)] at c7
    refine lv_iconst (v := (-1)) hx hb dX1_place_28 (by decide) ?_
    refine eb_iret hx hb hr hlk hK hP hD hS dX1_place_29 ?_
    exact ⟨rfl, Or.inr ⟨fun j hj => hi2 j (by omega), rfl⟩⟩
  · have c7 : ¬ nI C ≤ nI i := c7
    rw [nI_leI (by omega) (by omega)] at c7
    refine lv_aload_n hx hb dX1_place_10 rfl (lv_at hl 0 rfl) ?_
    refine va_get (D := D) (ci := 1) (C := RX1) (T := TX1) (N := 14) hx hb hts hU hown hK hP 0 rfl rfl 3 (by decide) hf_number (fun _ h9 => h9) rfl dX1_place_11 ?_
    refine lv_iload_n hx hb dX1_place_14 rfl (lv_at hl 2 rfl) ?_
    refine eb_iald hx hb hK hP 2 1 rfl rfl (i) (by omega) (by decide) dX1_place_15 ?_
    refine lv_iload_n hx hb dX1_place_16 rfl (lv_at hl 1 rfl) ?_
    refine lv_icmp_ne (tgt := 22) hx hb dX1_place_17 (by decide) (fun c17 => ?_) (fun c17 => ?_)
    · refine lv_iinc (k := 2) (v := nI (i + 1)) hx hb dX1_place_22 hl rfl (nI_add i 1) (by decide) rfl (fun ls hl => ?_)
      have hl : lv_has ls 3 [(2, .int (nI (i + 1))), (0, .ref (q 0)), (1, .int en)] := hl
      refine lv_goto (tgt := 2) hx hb dX1_place_25 (by decide) ?_
      exact hrec2 ls H locs (by omega) ⟨lv_sub hl [1, 2, 0] rfl, hP, hD, hS, lt_s hi2 c17⟩
    · refine lv_iload_n hx hb dX1_place_20 rfl (lv_at hl 2 rfl) ?_
      refine eb_iret hx hb hr hlk hK hP hD hS dX1_place_21 ?_
      exact ⟨rfl, Or.inl ⟨i, by omega, c17, rfl⟩⟩
end
section
set_option maxHeartbeats 4000000 in
set_option maxRecDepth 100000 in
theorem tM_like (l : Launch) (D : va_G) (q : Nat → Nat) (cs : Nat → ClassId) {K C : Nat} {wd : Int32} {kd num pri hit : Nat → Int32} {val msk mv mm ask : Nat → Int64} {nn ms : Int32} (hK3 : K ≤ 3) (e0 : Nat) (he0 : e0 < 24) (pp : Int32) : eb_MI l D vwCl (MTy cs) yX1_like wsM_like { frames := 0, cells := 0, slots := 0, locals := 0 } [.ref (q 0), .int (nI e0), .int pp] (MW q cs (nI K) wd kd num pri hit val msk mv mm ask (nI C) nn ms) (fun r w1 => w1 = MW q cs (nI K) wd kd num pri hit val msk mv mm ask (nI C) nn ms ∧ ((((pri e0 = pp ∧ ∀ k, k < K → val (3 * e0 + k) = mv k ∧ (kd k = 0 ∨ msk (3 * e0 + k) = mm k))) ∧ r = 1) ∨ (¬ ((pri e0 = pp ∧ ∀ k, k < K → val (3 * e0 + k) = mv k ∧ (kd k = 0 ∨ msk (3 * e0 + k) = mm k))) ∧ r = 0))) := by
  refine eb_openI (cc := cX1_like) (maxL := 5) (ret := (some .boolean)) (by decide +kernel) rfl (Nat.le_of_ble_eq_true rfl) ?_
  intro p e s m below meth c A ls H locs hx hb hr hts hown hlk hml hP hK hD hA hS hl
  have hU : ∀ w ∈ wsX10, w ∈ wsM_like := fun w h => List.mem_cons_of_mem _ (MALL_u w h)
  have hf_priority := hts (.fieldLink RX1 16 "EntryTableModel" "priority" "[I") (by decide +kernel)
  have hf_keys := hts (.fieldLink RX1 38 "EntryTableModel" "keys" "I") (by decide +kernel)
  have hf_value := hts (.fieldLink RX1 22 "EntryTableModel" "value" "[J") (by decide +kernel)
  have hf_madeValue := hts (.fieldLink RX1 29 "EntryTableModel" "madeValue" "[J") (by decide +kernel)
  have hf_kind := hts (.fieldLink RX1 7 "EntryTableModel" "kind" "[I") (by decide +kernel)
  have hf_mask := hts (.fieldLink RX1 26 "EntryTableModel" "mask" "[J") (by decide +kernel)
  have hf_madeMask := hts (.fieldLink RX1 32 "EntryTableModel" "madeMask" "[J") (by decide +kernel)
  have hl : lv_has ls 5 [(0, .ref (q 0)), (1, .int (nI e0)), (2, .int pp)] := hl
  refine eb_jn (MW q cs (nI K) wd kd num pri hit val msk mv mm ask (nI C) nn ms) hP hS 15 (fun s0 => ((pri e0 = pp) ∧ s0 = 1) ∨ (¬ (pri e0 = pp) ∧ s0 = 0)) (fun hj0 => ?_) (fun s0 H locs hs0 hP hS => ?_)
  · refine lv_aload_n hx hb dX1_like_0 rfl (lv_at hl 0 rfl) ?_
    refine va_get (D := D) (ci := 1) (C := RX1) (T := TX1) (N := 14) hx hb hts hU hown hK hP 0 rfl rfl 4 (by decide) hf_priority (fun _ h9 => h9) rfl dX1_like_1 ?_
    refine lv_iload_n hx hb dX1_like_4 rfl (lv_at hl 1 rfl) ?_
    refine eb_iald hx hb hK hP 3 2 rfl rfl (e0) (by omega) (by decide) dX1_like_5 ?_
    refine lv_iload_n hx hb dX1_like_6 rfl (lv_at hl 2 rfl) ?_
    refine lv_icmp_ne (tgt := 14) hx hb dX1_like_7 (by decide) (fun c7 => ?_) (fun c7 => ?_)
    · refine lv_iconst (v := 0) hx hb dX1_like_14 (by decide) ?_
      exact hj0 _ H locs (Or.inr ⟨c7, rfl⟩) hP hS
    · refine lv_iconst (v := 1) hx hb dX1_like_10 (by decide) ?_
      refine lv_goto (tgt := 15) hx hb dX1_like_11 (by decide) ?_
      exact hj0 _ H locs (Or.inl ⟨c7, rfl⟩) hP hS
  · refine lv_istore_n hx hb dX1_like_15 rfl hl (by decide) rfl (fun ls hl => ?_)
    have hl : lv_has ls 5 [(3, .int s0), (0, .ref (q 0)), (1, .int (nI e0)), (2, .int pp)] := hl
    refine lv_iconst (v := 0) hx hb dX1_like_16 (by decide) ?_
    refine lv_istore hx hb dX1_like_17 hl (by decide) rfl (fun ls hl => ?_)
    have hl : lv_has ls 5 [(4, .int 0), (3, .int s0), (0, .ref (q 0)), (1, .int (nI e0)), (2, .int pp)] := hl
    refine eb_for (fun (i : Nat) (ls : Array Slot) (H : Heap) (locs : List Loc) => ∃ sm : Int32, lv_has ls 5 [(0, .ref (q 0)), (1, .int (nI e0)), (2, .int pp), (3, .int sm), (4, .int (nI i))] ∧ va_P D vwCl (MW q cs (nI K) wd kd num pri hit val msk mv mm ask (nI C) nn ms) H ∧ va_D A (MW q cs (nI K) wd kd num pri hit val msk mv mm ask (nI C) nn ms) ∧ va_S A s.heap H locs ∧ (((pri e0 = pp ∧ ∀ k, k < i → val (3 * e0 + k) = mv k ∧ (kd k = 0 ∨ msk (3 * e0 + k) = mm k)) ∧ sm = 1) ∨ (¬ (pri e0 = pp ∧ ∀ k, k < i → val (3 * e0 + k) = mv k ∧ (kd k = 0 ∨ msk (3 * e0 + k) = mm k)) ∧ sm = 0))) 19 (K) ?_ (K) (0) ls H locs (by omega) ⟨s0, lv_sub hl [2, 3, 4, 1, 0] rfl, hP, hD, hS, hs0.imp (fun hh => ⟨⟨hh.1, fun j hj => absurd hj (Nat.not_lt_zero j)⟩, hh.2⟩) (fun hh => ⟨fun g => hh.1 g.1, hh.2⟩)⟩
    intro i ls H locs hi hI hrec19
    obtain ⟨sm, hl, hP, hD, hS, hi19⟩ := hI
    refine lv_iload hx hb dX1_like_19 (lv_at hl 4 rfl) ?_
    refine lv_aload_n hx hb dX1_like_21 rfl (lv_at hl 0 rfl) ?_
    refine va_get (D := D) (ci := 1) (C := RX1) (T := TX1) (N := 14) hx hb hts hU hown hK hP 0 rfl rfl 0 (by decide) hf_keys (fun _ h9 => h9) rfl dX1_like_22 ?_
    refine lv_icmp_ge (tgt := 98) hx hb dX1_like_25 (by decide) (fun c25 => ?_) (fun c25 => ?_)
    · have c25 : nI K ≤ nI i := c25
      rw [nI_leI (by omega) (by omega)] at c25
      refine lv_iload_n hx hb dX1_like_98 rfl (lv_at hl 3 rfl) ?_
      have hiK : i = K := by omega
      subst hiK
      rcases hi19 with ⟨h1, rfl⟩ | ⟨h1, rfl⟩
      · refine eb_zret hx hb hr hlk hK hP hD hS dX1_like_99 (by decide) ?_
        exact ⟨rfl, Or.inl ⟨h1, rfl⟩⟩
      · refine eb_zret hx hb hr hlk hK hP hD hS dX1_like_99 (by decide) ?_
        exact ⟨rfl, Or.inr ⟨h1, rfl⟩⟩
    · have c25 : ¬ nI K ≤ nI i := c25
      rw [nI_leI (by omega) (by omega)] at c25
      refine eb_jn (MW q cs (nI K) wd kd num pri hit val msk mv mm ask (nI C) nn ms) hP hS 91 (fun s1 => (((pri e0 = pp ∧ ∀ k, k < (i + 1) → val (3 * e0 + k) = mv k ∧ (kd k = 0 ∨ msk (3 * e0 + k) = mm k))) ∧ s1 = 1) ∨ (¬ ((pri e0 = pp ∧ ∀ k, k < (i + 1) → val (3 * e0 + k) = mv k ∧ (kd k = 0 ∨ msk (3 * e0 + k) = mm k))) ∧ s1 = 0)) (fun hj28 => ?_) (fun s1 H locs hs1 hP hS => ?_)
      · refine lv_iload_n hx hb dX1_like_28 rfl (lv_at hl 3 rfl) ?_
        refine lv_if_eq (tgt := 90) hx hb dX1_like_29 (by decide) (fun c29 => ?_) (fun c29 => ?_)
        · have c29 := et_b0 hi19 c29
          refine lv_iconst (v := 0) hx hb dX1_like_90 (by decide) ?_
          exact hj28 _ H locs (Or.inr ⟨fun hh => c29 ⟨hh.1, fun k hk => hh.2 k (by omega)⟩, rfl⟩) hP hS
        · have c29 := et_b1 hi19 c29
          refine lv_aload_n hx hb dX1_like_32 rfl (lv_at hl 0 rfl) ?_
          refine va_get (D := D) (ci := 1) (C := RX1) (T := TX1) (N := 14) hx hb hts hU hown hK hP 0 rfl rfl 6 (by decide) hf_value (fun _ h9 => h9) rfl dX1_like_33 ?_
          refine lv_iconst (v := 3) hx hb dX1_like_36 (by decide) ?_
          refine lv_iload_n hx hb dX1_like_37 rfl (lv_at hl 1 rfl) ?_
          refine lv_imul hx hb dX1_like_38 ?_
          refine eb_ti (nI (3 * e0)) (pk_mul 3 e0) ?_
          refine lv_iload hx hb dX1_like_39 (lv_at hl 4 rfl) ?_
          refine lv_iadd hx hb dX1_like_41 ?_
          refine eb_ti (nI ((3 * e0) + i)) (nI_add (3 * e0) i) ?_
          refine eb_lald hx hb hK hP 5 4 rfl rfl ((3 * e0) + i) (by omega) (by decide) dX1_like_42 ?_
          refine lv_aload_n hx hb dX1_like_43 rfl (lv_at hl 0 rfl) ?_
          refine va_get (D := D) (ci := 1) (C := RX1) (T := TX1) (N := 14) hx hb hts hU hown hK hP 0 rfl rfl 8 (by decide) hf_madeValue (fun _ h9 => h9) rfl dX1_like_44 ?_
          refine lv_iload hx hb dX1_like_47 (lv_at hl 4 rfl) ?_
          refine eb_lald hx hb hK hP 7 6 rfl rfl (i) (by omega) (by decide) dX1_like_49 ?_
          refine W.lcmp hx hb dX1_like_50 ?_
          refine lv_if_ne (tgt := 90) hx hb dX1_like_51 (by decide) (fun c51 => ?_) (fun c51 => ?_)
          · rw [lg_cmp_eq] at c51
            refine lv_iconst (v := 0) hx hb dX1_like_90 (by decide) ?_
            exact hj28 _ H locs (Or.inr ⟨fun hh => c51 (hh.2 i (by omega)).1, rfl⟩) hP hS
          · rw [lg_cmp_eq] at c51
            refine lv_aload_n hx hb dX1_like_54 rfl (lv_at hl 0 rfl) ?_
            refine va_get (D := D) (ci := 1) (C := RX1) (T := TX1) (N := 14) hx hb hts hU hown hK hP 0 rfl rfl 2 (by decide) hf_kind (fun _ h9 => h9) rfl dX1_like_55 ?_
            refine lv_iload hx hb dX1_like_58 (lv_at hl 4 rfl) ?_
            refine eb_iald hx hb hK hP 1 0 rfl rfl (i) (by omega) (by decide) dX1_like_60 ?_
            refine lv_if_eq (tgt := 86) hx hb dX1_like_61 (by decide) (fun c61 => ?_) (fun c61 => ?_)
            · refine lv_iconst (v := 1) hx hb dX1_like_86 (by decide) ?_
              refine lv_goto (tgt := 91) hx hb dX1_like_87 (by decide) ?_
              exact hj28 _ H locs (Or.inl ⟨⟨c29.1, lt_s c29.2 ⟨c51, Or.inl c61⟩⟩, rfl⟩) hP hS
            · refine lv_aload_n hx hb dX1_like_64 rfl (lv_at hl 0 rfl) ?_
              refine va_get (D := D) (ci := 1) (C := RX1) (T := TX1) (N := 14) hx hb hts hU hown hK hP 0 rfl rfl 7 (by decide) hf_mask (fun _ h9 => h9) rfl dX1_like_65 ?_
              refine lv_iconst (v := 3) hx hb dX1_like_68 (by decide) ?_
              refine lv_iload_n hx hb dX1_like_69 rfl (lv_at hl 1 rfl) ?_
              refine lv_imul hx hb dX1_like_70 ?_
              refine eb_ti (nI (3 * e0)) (pk_mul 3 e0) ?_
              refine lv_iload hx hb dX1_like_71 (lv_at hl 4 rfl) ?_
              refine lv_iadd hx hb dX1_like_73 ?_
              refine eb_ti (nI ((3 * e0) + i)) (nI_add (3 * e0) i) ?_
              refine eb_lald hx hb hK hP 6 5 rfl rfl ((3 * e0) + i) (by omega) (by decide) dX1_like_74 ?_
              refine lv_aload_n hx hb dX1_like_75 rfl (lv_at hl 0 rfl) ?_
              refine va_get (D := D) (ci := 1) (C := RX1) (T := TX1) (N := 14) hx hb hts hU hown hK hP 0 rfl rfl 9 (by decide) hf_madeMask (fun _ h9 => h9) rfl dX1_like_76 ?_
              refine lv_iload hx hb dX1_like_79 (lv_at hl 4 rfl) ?_
              refine eb_lald hx hb hK hP 8 7 rfl rfl (i) (by omega) (by decide) dX1_like_81 ?_
              refine W.lcmp hx hb dX1_like_82 ?_
              refine lv_if_ne (tgt := 90) hx hb dX1_like_83 (by decide) (fun c83 => ?_) (fun c83 => ?_)
              · rw [lg_cmp_eq] at c83
                refine lv_iconst (v := 0) hx hb dX1_like_90 (by decide) ?_
                exact hj28 _ H locs (Or.inr ⟨fun hh => (hh.2 i (by omega)).2.elim c61 c83, rfl⟩) hP hS
              · rw [lg_cmp_eq] at c83
                refine lv_iconst (v := 1) hx hb dX1_like_86 (by decide) ?_
                refine lv_goto (tgt := 91) hx hb dX1_like_87 (by decide) ?_
                exact hj28 _ H locs (Or.inl ⟨⟨c29.1, lt_s c29.2 ⟨c51, Or.inr c83⟩⟩, rfl⟩) hP hS
      · refine lv_istore_n hx hb dX1_like_91 rfl hl (by decide) rfl (fun ls hl => ?_)
        have hl : lv_has ls 5 [(3, .int s1), (0, .ref (q 0)), (1, .int (nI e0)), (2, .int pp), (4, .int (nI i))] := hl
        refine lv_iinc (k := 4) (v := nI (i + 1)) hx hb dX1_like_92 hl rfl (nI_add i 1) (by decide) rfl (fun ls hl => ?_)
        have hl : lv_has ls 5 [(4, .int (nI (i + 1))), (3, .int s1), (0, .ref (q 0)), (1, .int (nI e0)), (2, .int pp)] := hl
        refine lv_goto (tgt := 19) hx hb dX1_like_95 (by decide) ?_
        exact hrec19 ls H locs (by omega) ⟨s1, lv_sub hl [2, 3, 4, 1, 0] rfl, hP, hD, hS, hs1⟩

set_option maxHeartbeats 4000000 in
set_option maxRecDepth 100000 in
theorem tM_matches (l : Launch) (D : va_G) (q : Nat → Nat) (cs : Nat → ClassId) {K C : Nat} {wd : Int32} {kd num pri hit : Nat → Int32} {val msk mv mm ask : Nat → Int64} {nn ms : Int32} (hK3 : K ≤ 3) (e0 : Nat) (he0 : e0 < 24) : eb_MI l D vwCl (MTy cs) yX1_matches wsM_matches { frames := 1, cells := 0, slots := 0, locals := 40 } [.ref (q 0), .int (nI e0)] (MW q cs (nI K) wd kd num pri hit val msk mv mm ask (nI C) nn ms) (fun r w1 => w1 = MW q cs (nI K) wd kd num pri hit val msk mv mm ask (nI C) nn ms ∧ ((((∀ k, k < K → ask k &&& et_rm wd (kd k) (msk (3 * e0 + k)) = val (3 * e0 + k))) ∧ r = 1) ∨ (¬ ((∀ k, k < K → ask k &&& et_rm wd (kd k) (msk (3 * e0 + k)) = val (3 * e0 + k))) ∧ r = 0))) := by
  refine eb_openI (cc := cX1_matches) (maxL := 6) (ret := (some .boolean)) (by decide +kernel) rfl (Nat.le_of_ble_eq_true rfl) ?_
  intro p e s m below meth c A ls H locs hx hb hr hts hown hlk hml hP hK hD hA hS hl
  have hU : ∀ w ∈ wsX10, w ∈ wsM_matches := fun w h => List.mem_cons_of_mem _ (MALL_u w h)
  have hf_keys := hts (.fieldLink RX1 38 "EntryTableModel" "keys" "I") (by decide +kernel)
  have hf_kind := hts (.fieldLink RX1 7 "EntryTableModel" "kind" "[I") (by decide +kernel)
  have hf_mask := hts (.fieldLink RX1 26 "EntryTableModel" "mask" "[J") (by decide +kernel)
  have hf_asked := hts (.fieldLink RX1 35 "EntryTableModel" "asked" "[J") (by decide +kernel)
  have hf_value := hts (.fieldLink RX1 22 "EntryTableModel" "value" "[J") (by decide +kernel)
  have hl : lv_has ls 6 [(0, .ref (q 0)), (1, .int (nI e0))] := hl
  refine lv_iconst (v := 1) hx hb dX1_matches_0 (by decide) ?_
  refine lv_istore_n hx hb dX1_matches_1 rfl hl (by decide) rfl (fun ls hl => ?_)
  have hl : lv_has ls 6 [(2, .int 1), (0, .ref (q 0)), (1, .int (nI e0))] := hl
  refine lv_iconst (v := 0) hx hb dX1_matches_2 (by decide) ?_
  refine lv_istore_n hx hb dX1_matches_3 rfl hl (by decide) rfl (fun ls hl => ?_)
  have hl : lv_has ls 6 [(3, .int 0), (2, .int 1), (0, .ref (q 0)), (1, .int (nI e0))] := hl
  refine eb_for (fun (i : Nat) (ls : Array Slot) (H : Heap) (locs : List Loc) => ∃ sm : Int32, lv_has ls 6 [(0, .ref (q 0)), (1, .int (nI e0)), (2, .int sm), (3, .int (nI i))] ∧ va_P D vwCl (MW q cs (nI K) wd kd num pri hit val msk mv mm ask (nI C) nn ms) H ∧ va_D A (MW q cs (nI K) wd kd num pri hit val msk mv mm ask (nI C) nn ms) ∧ va_S A s.heap H locs ∧ (((∀ k, k < i → ask k &&& et_rm wd (kd k) (msk (3 * e0 + k)) = val (3 * e0 + k)) ∧ sm = 1) ∨ (¬ (∀ k, k < i → ask k &&& et_rm wd (kd k) (msk (3 * e0 + k)) = val (3 * e0 + k)) ∧ sm = 0))) 4 (K) ?_ (K) (0) ls H locs (by omega) ⟨1, lv_sub hl [2, 3, 1, 0] rfl, hP, hD, hS, Or.inl ⟨fun j hj => absurd hj (Nat.not_lt_zero j), rfl⟩⟩
  intro i ls H locs hi hI hrec4
  obtain ⟨sm, hl, hP, hD, hS, hi4⟩ := hI
  refine lv_iload_n hx hb dX1_matches_4 rfl (lv_at hl 3 rfl) ?_
  refine lv_aload_n hx hb dX1_matches_5 rfl (lv_at hl 0 rfl) ?_
  refine va_get (D := D) (ci := 1) (C := RX1) (T := TX1) (N := 14) hx hb hts hU hown hK hP 0 rfl rfl 0 (by decide) hf_keys (fun _ h9 => h9) rfl dX1_matches_6 ?_
  refine lv_icmp_ge (tgt := 105) hx hb dX1_matches_9 (by decide) (fun c9 => ?_) (fun c9 => ?_)
  · have c9 : nI K ≤ nI i := c9
    rw [nI_leI (by omega) (by omega)] at c9
    refine lv_iload_n hx hb dX1_matches_105 rfl (lv_at hl 2 rfl) ?_
    have hiK : i = K := by omega
    subst hiK
    rcases hi4 with ⟨h1, rfl⟩ | ⟨h1, rfl⟩
    · refine eb_zret hx hb hr hlk hK hP hD hS dX1_matches_106 (by decide) ?_
      exact ⟨rfl, Or.inl ⟨h1, rfl⟩⟩
    · refine eb_zret hx hb hr hlk hK hP hD hS dX1_matches_106 (by decide) ?_
      exact ⟨rfl, Or.inr ⟨h1, rfl⟩⟩
  · have c9 : ¬ nI K ≤ nI i := c9
    rw [nI_leI (by omega) (by omega)] at c9
    refine eb_jl (MW q cs (nI K) wd kd num pri hit val msk mv mm ask (nI C) nn ms) hP hS 64 (et_rm wd (kd i) (msk (3 * e0 + i))) (fun hj12 => ?_) (fun H locs hP hS => ?_)
    · refine lv_aload_n hx hb dX1_matches_12 rfl (lv_at hl 0 rfl) ?_
      refine va_get (D := D) (ci := 1) (C := RX1) (T := TX1) (N := 14) hx hb hts hU hown hK hP 0 rfl rfl 2 (by decide) hf_kind (fun _ h9 => h9) rfl dX1_matches_13 ?_
      refine lv_iload_n hx hb dX1_matches_16 rfl (lv_at hl 3 rfl) ?_
      refine eb_iald hx hb hK hP 1 0 rfl rfl (i) (by omega) (by decide) dX1_matches_17 ?_
      refine lv_if_ne (tgt := 27) hx hb dX1_matches_18 (by decide) (fun c18 => ?_) (fun c18 => ?_)
      · refine lv_aload_n hx hb dX1_matches_27 rfl (lv_at hl 0 rfl) ?_
        refine va_get (D := D) (ci := 1) (C := RX1) (T := TX1) (N := 14) hx hb hts hU hown hK hP 0 rfl rfl 2 (by decide) hf_kind (fun _ h9 => h9) rfl dX1_matches_28 ?_
        refine lv_iload_n hx hb dX1_matches_31 rfl (lv_at hl 3 rfl) ?_
        refine eb_iald hx hb hK hP 1 0 rfl rfl (i) (by omega) (by decide) dX1_matches_32 ?_
        refine lv_iconst (v := 1) hx hb dX1_matches_33 (by decide) ?_
        refine lv_icmp_ne (tgt := 54) hx hb dX1_matches_34 (by decide) (fun c34 => ?_) (fun c34 => ?_)
        · refine lv_aload_n hx hb dX1_matches_54 rfl (lv_at hl 0 rfl) ?_
          refine va_get (D := D) (ci := 1) (C := RX1) (T := TX1) (N := 14) hx hb hts hU hown hK hP 0 rfl rfl 7 (by decide) hf_mask (fun _ h9 => h9) rfl dX1_matches_55 ?_
          refine lv_iconst (v := 3) hx hb dX1_matches_58 (by decide) ?_
          refine lv_iload_n hx hb dX1_matches_59 rfl (lv_at hl 1 rfl) ?_
          refine lv_imul hx hb dX1_matches_60 ?_
          refine eb_ti (nI (3 * e0)) (pk_mul 3 e0) ?_
          refine lv_iload_n hx hb dX1_matches_61 rfl (lv_at hl 3 rfl) ?_
          refine lv_iadd hx hb dX1_matches_62 ?_
          refine eb_ti (nI ((3 * e0) + i)) (nI_add (3 * e0) i) ?_
          refine eb_lald hx hb hK hP 6 5 rfl rfl ((3 * e0) + i) (by omega) (by decide) dX1_matches_63 ?_
          exact hj12 _ H locs (by unfold et_rm; rw [if_neg c18, if_neg c34]) hP hS
        · refine lv_aload_n hx hb dX1_matches_37 rfl (lv_at hl 0 rfl) ?_
          refine lv_aload_n hx hb dX1_matches_38 rfl (lv_at hl 0 rfl) ?_
          refine va_get (D := D) (ci := 1) (C := RX1) (T := TX1) (N := 14) hx hb hts hU hown hK hP 0 rfl rfl 7 (by decide) hf_mask (fun _ h9 => h9) rfl dX1_matches_39 ?_
          refine lv_iconst (v := 3) hx hb dX1_matches_42 (by decide) ?_
          refine lv_iload_n hx hb dX1_matches_43 rfl (lv_at hl 1 rfl) ?_
          refine lv_imul hx hb dX1_matches_44 ?_
          refine eb_ti (nI (3 * e0)) (pk_mul 3 e0) ?_
          refine lv_iload_n hx hb dX1_matches_45 rfl (lv_at hl 3 rfl) ?_
          refine lv_iadd hx hb dX1_matches_46 ?_
          refine eb_ti (nI ((3 * e0) + i)) (nI_add (3 * e0) i) ?_
          refine eb_lald hx hb hK hP 6 5 rfl rfl ((3 * e0) + i) (by omega) (by decide) dX1_matches_47 ?_
          refine eb_calll (As := [.long (msk ((3 * e0) + i))]) (rest := []) ⟨hx, hb, hml, hown, hts⟩ (tM_bits l D q cs (msk ((3 * e0) + i))) (cwV 1 hts gM_bits rfl rfl rfl (by decide +kernel) ⟨Nat.le_of_ble_eq_true rfl, Nat.le_of_ble_eq_true rfl⟩) hK hP hD hS hA rfl rfl rfl rfl hl.1 rfl (Nat.le_of_ble_eq_true rfl) dX1_matches_48 ⟨Nat.zero_le _, Nat.zero_le _⟩ (fun r1 w1 H locs hq hP hD hS => ?_)
          obtain ⟨rfl, rfl⟩ := hq
          refine lv_goto (tgt := 64) hx hb dX1_matches_51 (by decide) ?_
          exact hj12 _ H locs (by unfold et_rm; rw [if_neg c18, if_pos c34]) hP hS
      · refine lv_ldc2 (v := (-1)) hx hb hown (hts (.constantLong RX1 49 (-1)) (by decide +kernel)) dX1_matches_21 ?_
        refine lv_goto (tgt := 64) hx hb dX1_matches_24 (by decide) ?_
        exact hj12 _ H locs (by unfold et_rm; rw [if_pos c18]) hP hS
    · refine lv_lstore hx hb dX1_matches_64 hl (by decide) rfl (fun ls hl => ?_)
      have hl : lv_has ls 6 [(4, .long (et_rm wd (kd i) (msk (3 * e0 + i)))), (0, .ref (q 0)), (1, .int (nI e0)), (2, .int sm), (3, .int (nI i))] := hl
      refine eb_jn (MW q cs (nI K) wd kd num pri hit val msk mv mm ask (nI C) nn ms) hP hS 98 (fun s1 => (((∀ k, k < (i + 1) → ask k &&& et_rm wd (kd k) (msk (3 * e0 + k)) = val (3 * e0 + k))) ∧ s1 = 1) ∨ (¬ ((∀ k, k < (i + 1) → ask k &&& et_rm wd (kd k) (msk (3 * e0 + k)) = val (3 * e0 + k))) ∧ s1 = 0)) (fun hj66 => ?_) (fun s1 H locs hs1 hP hS => ?_)
      · refine lv_iload_n hx hb dX1_matches_66 rfl (lv_at hl 3 rfl) ?_
        refine lv_if_eq (tgt := 97) hx hb dX1_matches_67 (by decide) (fun c67 => ?_) (fun c67 => ?_)
        · have c67 := et_b0 hi4 c67
          refine lv_iconst (v := 0) hx hb dX1_matches_97 (by decide) ?_
          exact hj66 _ H locs (Or.inr ⟨fun hh => c67 (fun k hk => hh k (by omega)), rfl⟩) hP hS
        · have c67 := et_b1 hi4 c67
          refine lv_aload_n hx hb dX1_matches_70 rfl (lv_at hl 1 rfl) ?_
          refine va_get (D := D) (ci := 1) (C := RX1) (T := TX1) (N := 14) hx hb hts hU hown hK hP 0 rfl rfl 10 (by decide) hf_asked (fun _ h9 => h9) rfl dX1_matches_71 ?_
          refine lv_iload_n hx hb dX1_matches_74 rfl (lv_at hl 4 rfl) ?_
          refine eb_lald hx hb hK hP 9 8 rfl rfl (i) (by omega) (by decide) dX1_matches_75 ?_
          refine lv_lload hx hb dX1_matches_76 (lv_at hl 0 rfl) ?_
          refine lv_land hx hb dX1_matches_78 ?_
          refine lv_aload_n hx hb dX1_matches_79 rfl (lv_at hl 1 rfl) ?_
          refine va_get (D := D) (ci := 1) (C := RX1) (T := TX1) (N := 14) hx hb hts hU hown hK hP 0 rfl rfl 6 (by decide) hf_value (fun _ h9 => h9) rfl dX1_matches_80 ?_
          refine lv_iconst (v := 3) hx hb dX1_matches_83 (by decide) ?_
          refine lv_iload_n hx hb dX1_matches_84 rfl (lv_at hl 2 rfl) ?_
          refine lv_imul hx hb dX1_matches_85 ?_
          refine eb_ti (nI (3 * e0)) (pk_mul 3 e0) ?_
          refine lv_iload_n hx hb dX1_matches_86 rfl (lv_at hl 4 rfl) ?_
          refine lv_iadd hx hb dX1_matches_87 ?_
          refine eb_ti (nI ((3 * e0) + i)) (nI_add (3 * e0) i) ?_
          refine eb_lald hx hb hK hP 5 4 rfl rfl ((3 * e0) + i) (by omega) (by decide) dX1_matches_88 ?_
          refine W.lcmp hx hb dX1_matches_89 ?_
          refine lv_if_ne (tgt := 97) hx hb dX1_matches_90 (by decide) (fun c90 => ?_) (fun c90 => ?_)
          · rw [lg_cmp_eq] at c90
            refine lv_iconst (v := 0) hx hb dX1_matches_97 (by decide) ?_
            exact hj66 _ H locs (Or.inr ⟨fun hh => c90 (hh i (by omega)), rfl⟩) hP hS
          · rw [lg_cmp_eq] at c90
            refine lv_iconst (v := 1) hx hb dX1_matches_93 (by decide) ?_
            refine lv_goto (tgt := 98) hx hb dX1_matches_94 (by decide) ?_
            exact hj66 _ H locs (Or.inl ⟨lt_s c67 c90, rfl⟩) hP hS
      · refine lv_istore_n hx hb dX1_matches_98 rfl hl (by decide) rfl (fun ls hl => ?_)
        have hl : lv_has ls 6 [(2, .int s1), (4, .long (et_rm wd (kd i) (msk (3 * e0 + i)))), (0, .ref (q 0)), (1, .int (nI e0)), (3, .int (nI i))] := hl
        refine lv_iinc (k := 4) (v := nI (i + 1)) hx hb dX1_matches_99 hl rfl (nI_add i 1) (by decide) rfl (fun ls hl => ?_)
        have hl : lv_has ls 6 [(3, .int (nI (i + 1))), (2, .int s1), (4, .long (et_rm wd (kd i) (msk (3 * e0 + i)))), (0, .ref (q 0)), (1, .int (nI e0))] := hl
        refine lv_goto (tgt := 4) hx hb dX1_matches_102 (by decide) ?_
        exact hrec4 ls H locs (by omega) ⟨s1, lv_sub hl [3, 4, 1, 0] rfl, hP, hD, hS, hs1⟩
end
section
set_option maxHeartbeats 4000000 in
set_option maxRecDepth 100000 in
theorem tM_match (l : Launch) (D : va_G) (q : Nat → Nat) (cs : Nat → ClassId) {K w N : Nat} {B : List et_E} {kd num pri hit : Nat → Int32} {val msk dv dm ask : Nat → Int64} {ms : Int32} (hK3 : K ≤ 3) (hR : et_RR B num pri hit val msk) (k : Int32) (v0 m0 : Int64) : eb_MI l D vwCl (MTy cs) yX1_match wsM_match { frames := 0, cells := 0, slots := 0, locals := 0 } [.ref (q 0), .int k, .long v0, .long m0] (MW q cs (nI K) (nI w) kd num pri hit val msk dv dm ask (nI B.length) (nI N) ms) (fun r w1 => et_Qm (et_SM q cs K w kd) dv dm N ms B k v0 m0 r w1) := by
  refine eb_openI (cc := cX1_match) (maxL := 6) (ret := (some .int)) (by decide +kernel) rfl (Nat.le_of_ble_eq_true rfl) ?_
  intro p e s m below meth c A ls H locs hx hb hr hts hown hlk hml hP hK hD hA hS hl
  have hU : ∀ w ∈ wsX10, w ∈ wsM_match := fun w h => List.mem_cons_of_mem _ (MALL_u w h)
  have hf_madeValue := hts (.fieldLink RX1 29 "EntryTableModel" "madeValue" "[J") (by decide +kernel)
  have hf_madeMask := hts (.fieldLink RX1 32 "EntryTableModel" "madeMask" "[J") (by decide +kernel)
  have hC := hR.1
  have hl : lv_has ls 6 [(0, .ref (q 0)), (1, .int k), (2, .long v0), (4, .long m0)] := hl
  refine lv_iload_n hx hb dX1_match_0 rfl (lv_at hl 1 rfl) ?_
  refine lv_if_lt (tgt := 9) hx hb dX1_match_1 (by decide) (fun c1 => ?_) (fun c1 => ?_)
  · refine lv_iconst (v := (-1)) hx hb dX1_match_9 (by decide) ?_
    refine eb_iret hx hb hr hlk hK hP hD hS dX1_match_10 ?_
    exact Or.inl ⟨Or.inl c1, rfl, ⟨num, pri, hit, val, msk, ask, hR, rfl⟩⟩
  · refine lv_iload_n hx hb dX1_match_4 rfl (lv_at hl 1 rfl) ?_
    refine lv_iconst (v := 2) hx hb dX1_match_5 (by decide) ?_
    refine lv_icmp_le (tgt := 11) hx hb dX1_match_6 (by decide) (fun c6 => ?_) (fun c6 => ?_)
    · rw [← Int32.not_lt] at c6
      obtain ⟨j, hj, rfl⟩ := et_ix (n := 3) (by decide) c1 (et_le2 c6)
      have hl : lv_has ls 6 [(0, .ref (q 0)), (1, .int (nI j)), (2, .long v0), (4, .long m0)] := hl
      refine lv_aload_n hx hb dX1_match_11 rfl (lv_at hl 0 rfl) ?_
      refine va_get (D := D) (ci := 1) (C := RX1) (T := TX1) (N := 14) hx hb hts hU hown hK hP 0 rfl rfl 8 (by decide) hf_madeValue (fun _ h9 => h9) rfl dX1_match_12 ?_
      refine lv_iload_n hx hb dX1_match_15 rfl (lv_at hl 1 rfl) ?_
      refine lv_lload_n hx hb dX1_match_16 rfl (lv_at hl 2 rfl) ?_
      refine eb_last hx hb hK hP hD hS 7 6 rfl rfl (j) (by omega) (by decide) dX1_match_17 (fun H locs hP hD hS => ?_)
      have hP : va_P D vwCl (MW q cs (nI K) (nI w) kd num pri hit val msk (vp_updL dv j v0) dm ask (nI B.length) (nI N) ms) H := hP
      have hD : va_D A (MW q cs (nI K) (nI w) kd num pri hit val msk (vp_updL dv j v0) dm ask (nI B.length) (nI N) ms) := hD
      refine lv_aload_n hx hb dX1_match_18 rfl (lv_at hl 0 rfl) ?_
      refine va_get (D := D) (ci := 1) (C := RX1) (T := TX1) (N := 14) hx hb hts hU hown hK hP 0 rfl rfl 9 (by decide) hf_madeMask (fun _ h9 => h9) rfl dX1_match_19 ?_
      refine lv_iload_n hx hb dX1_match_22 rfl (lv_at hl 1 rfl) ?_
      refine lv_lload hx hb dX1_match_23 (lv_at hl 3 rfl) ?_
      refine eb_last hx hb hK hP hD hS 8 7 rfl rfl (j) (by omega) (by decide) dX1_match_25 (fun H locs hP hD hS => ?_)
      have hP : va_P D vwCl (MW q cs (nI K) (nI w) kd num pri hit val msk (vp_updL dv j v0) (vp_updL dm j m0) ask (nI B.length) (nI N) ms) H := hP
      have hD : va_D A (MW q cs (nI K) (nI w) kd num pri hit val msk (vp_updL dv j v0) (vp_updL dm j m0) ask (nI B.length) (nI N) ms) := hD
      refine lv_iload_n hx hb dX1_match_26 rfl (lv_at hl 1 rfl) ?_
      refine eb_iret hx hb hr hlk hK hP hD hS dX1_match_27 ?_
      exact Or.inr ⟨j, hj, rfl, rfl, ⟨num, pri, hit, val, msk, ask, hR, rfl⟩⟩
    · rw [Int32.not_le] at c6
      refine lv_iconst (v := (-1)) hx hb dX1_match_9 (by decide) ?_
      refine eb_iret hx hb hr hlk hK hP hD hS dX1_match_10 ?_
      exact Or.inl ⟨Or.inr (et_gt2 c6), rfl, ⟨num, pri, hit, val, msk, ask, hR, rfl⟩⟩

set_option maxHeartbeats 4000000 in
set_option maxRecDepth 100000 in
theorem tM_count (l : Launch) (D : va_G) (q : Nat → Nat) (cs : Nat → ClassId) {K w N : Nat} {B : List et_E} {kd num pri hit : Nat → Int32} {val msk dv dm ask : Nat → Int64} {ms : Int32} (hK3 : K ≤ 3) (hR : et_RR B num pri hit val msk) (what : Int32) : eb_MI l D vwCl (MTy cs) yX1_count wsM_count { frames := 0, cells := 0, slots := 0, locals := 0 } [.ref (q 0), .int what] (MW q cs (nI K) (nI w) kd num pri hit val msk dv dm ask (nI B.length) (nI N) ms) (fun r w1 => et_Qc (et_SM q cs K w kd) K w kd dv dm N ms B what r w1) := by
  refine eb_openI (cc := cX1_count) (maxL := 2) (ret := (some .int)) (by decide +kernel) rfl (Nat.le_of_ble_eq_true rfl) ?_
  intro p e s m below meth c A ls H locs hx hb hr hts hown hlk hml hP hK hD hA hS hl
  have hU : ∀ w ∈ wsX10, w ∈ wsM_count := fun w h => List.mem_cons_of_mem _ (MALL_u w h)
  have hf_keys := hts (.fieldLink RX1 38 "EntryTableModel" "keys" "I") (by decide +kernel)
  have hf_width := hts (.fieldLink RX1 42 "EntryTableModel" "width" "I") (by decide +kernel)
  have hf_count := hts (.fieldLink RX1 59 "EntryTableModel" "count" "I") (by decide +kernel)
  have hf_missed := hts (.fieldLink RX1 83 "EntryTableModel" "missed" "I") (by decide +kernel)
  have hf_kind := hts (.fieldLink RX1 7 "EntryTableModel" "kind" "[I") (by decide +kernel)
  have hC := hR.1
  have hl : lv_has ls 2 [(0, .ref (q 0)), (1, .int what)] := hl
  refine lv_iload_n hx hb dX1_count_0 rfl (lv_at hl 1 rfl) ?_
  by_cases h0 : what = 0
  · subst h0
    have hl : lv_has ls 2 [(0, .ref (q 0)), (1, .int 0)] := hl
    refine lv_tableIn (tgt := 44) hx hb dX1_count_1 (by decide) (by decide) rfl (by decide) ?_
    refine lv_aload_n hx hb dX1_count_44 rfl (lv_at hl 0 rfl) ?_
    refine va_get (D := D) (ci := 1) (C := RX1) (T := TX1) (N := 14) hx hb hts hU hown hK hP 0 rfl rfl 0 (by decide) hf_keys (fun _ h9 => h9) rfl dX1_count_45 ?_
    refine eb_iret hx hb hr hlk hK hP hD hS dX1_count_48 ?_
    exact ⟨⟨num, pri, hit, val, msk, ask, hR, rfl⟩, rfl⟩
  by_cases h1 : what = 1
  · subst h1
    have hl : lv_has ls 2 [(0, .ref (q 0)), (1, .int 1)] := hl
    refine lv_tableIn (tgt := 49) hx hb dX1_count_1 (by decide) (by decide) rfl (by decide) ?_
    refine lv_aload_n hx hb dX1_count_49 rfl (lv_at hl 0 rfl) ?_
    refine va_get (D := D) (ci := 1) (C := RX1) (T := TX1) (N := 14) hx hb hts hU hown hK hP 0 rfl rfl 1 (by decide) hf_width (fun _ h9 => h9) rfl dX1_count_50 ?_
    refine eb_iret hx hb hr hlk hK hP hD hS dX1_count_53 ?_
    exact ⟨⟨num, pri, hit, val, msk, ask, hR, rfl⟩, rfl⟩
  by_cases h2 : what = 2
  · subst h2
    have hl : lv_has ls 2 [(0, .ref (q 0)), (1, .int 2)] := hl
    refine lv_tableIn (tgt := 54) hx hb dX1_count_1 (by decide) (by decide) rfl (by decide) ?_
    refine lv_aload_n hx hb dX1_count_54 rfl (lv_at hl 0 rfl) ?_
    refine va_get (D := D) (ci := 1) (C := RX1) (T := TX1) (N := 14) hx hb hts hU hown hK hP 0 rfl rfl 11 (by decide) hf_count (fun _ h9 => h9) rfl dX1_count_55 ?_
    refine eb_iret hx hb hr hlk hK hP hD hS dX1_count_58 ?_
    exact ⟨⟨num, pri, hit, val, msk, ask, hR, rfl⟩, rfl⟩
  by_cases h3 : what = 3
  · subst h3
    have hl : lv_has ls 2 [(0, .ref (q 0)), (1, .int 3)] := hl
    refine lv_tableIn (tgt := 59) hx hb dX1_count_1 (by decide) (by decide) rfl (by decide) ?_
    refine lv_aload_n hx hb dX1_count_59 rfl (lv_at hl 0 rfl) ?_
    refine va_get (D := D) (ci := 1) (C := RX1) (T := TX1) (N := 14) hx hb hts hU hown hK hP 0 rfl rfl 13 (by decide) hf_missed (fun _ h9 => h9) rfl dX1_count_60 ?_
    refine eb_iret hx hb hr hlk hK hP hD hS dX1_count_63 ?_
    exact ⟨⟨num, pri, hit, val, msk, ask, hR, rfl⟩, rfl⟩
  by_cases h4 : what = 4
  · subst h4
    have hl : lv_has ls 2 [(0, .ref (q 0)), (1, .int 4)] := hl
    refine lv_tableIn (tgt := 64) hx hb dX1_count_1 (by decide) (by decide) rfl (by decide) ?_
    refine lv_aload_n hx hb dX1_count_64 rfl (lv_at hl 0 rfl) ?_
    refine va_get (D := D) (ci := 1) (C := RX1) (T := TX1) (N := 14) hx hb hts hU hown hK hP 0 rfl rfl 2 (by decide) hf_kind (fun _ h9 => h9) rfl dX1_count_65 ?_
    refine lv_iload_n hx hb dX1_count_68 rfl (lv_at hl 1 rfl) ?_
    refine lv_iconst (v := 4) hx hb dX1_count_69 (by decide) ?_
    refine lv_isub hx hb dX1_count_70 ?_
    refine eb_ti (nI (4 - 4)) (pk_sub (a := 4) (b := 4) (by omega)) ?_
    refine eb_iald hx hb hK hP 1 0 rfl rfl (4 - 4) (by omega) (by decide) dX1_count_71 ?_
    refine eb_iret hx hb hr hlk hK hP hD hS dX1_count_72 ?_
    exact ⟨⟨num, pri, hit, val, msk, ask, hR, rfl⟩, rfl⟩
  by_cases h5 : what = 5
  · subst h5
    have hl : lv_has ls 2 [(0, .ref (q 0)), (1, .int 5)] := hl
    refine lv_tableIn (tgt := 64) hx hb dX1_count_1 (by decide) (by decide) rfl (by decide) ?_
    refine lv_aload_n hx hb dX1_count_64 rfl (lv_at hl 0 rfl) ?_
    refine va_get (D := D) (ci := 1) (C := RX1) (T := TX1) (N := 14) hx hb hts hU hown hK hP 0 rfl rfl 2 (by decide) hf_kind (fun _ h9 => h9) rfl dX1_count_65 ?_
    refine lv_iload_n hx hb dX1_count_68 rfl (lv_at hl 1 rfl) ?_
    refine lv_iconst (v := 4) hx hb dX1_count_69 (by decide) ?_
    refine lv_isub hx hb dX1_count_70 ?_
    refine eb_ti (nI (5 - 4)) (pk_sub (a := 5) (b := 4) (by omega)) ?_
    refine eb_iald hx hb hK hP 1 0 rfl rfl (5 - 4) (by omega) (by decide) dX1_count_71 ?_
    refine eb_iret hx hb hr hlk hK hP hD hS dX1_count_72 ?_
    exact ⟨⟨num, pri, hit, val, msk, ask, hR, rfl⟩, rfl⟩
  by_cases h6 : what = 6
  · subst h6
    have hl : lv_has ls 2 [(0, .ref (q 0)), (1, .int 6)] := hl
    refine lv_tableIn (tgt := 64) hx hb dX1_count_1 (by decide) (by decide) rfl (by decide) ?_
    refine lv_aload_n hx hb dX1_count_64 rfl (lv_at hl 0 rfl) ?_
    refine va_get (D := D) (ci := 1) (C := RX1) (T := TX1) (N := 14) hx hb hts hU hown hK hP 0 rfl rfl 2 (by decide) hf_kind (fun _ h9 => h9) rfl dX1_count_65 ?_
    refine lv_iload_n hx hb dX1_count_68 rfl (lv_at hl 1 rfl) ?_
    refine lv_iconst (v := 4) hx hb dX1_count_69 (by decide) ?_
    refine lv_isub hx hb dX1_count_70 ?_
    refine eb_ti (nI (6 - 4)) (pk_sub (a := 6) (b := 4) (by omega)) ?_
    refine eb_iald hx hb hK hP 1 0 rfl rfl (6 - 4) (by omega) (by decide) dX1_count_71 ?_
    refine eb_iret hx hb hr hlk hK hP hD hS dX1_count_72 ?_
    exact ⟨⟨num, pri, hit, val, msk, ask, hR, rfl⟩, rfl⟩
  refine lv_tableOut (tgt := 73) hx hb dX1_count_1 (et_out h0 h1 h2 h3 h4 h5 h6) (by decide) ?_
  refine lv_iconst (v := (-1)) hx hb dX1_count_73 (by decide) ?_
  refine eb_iret hx hb hr hlk hK hP hD hS dX1_count_74 ?_
  exact ⟨⟨num, pri, hit, val, msk, ask, hR, rfl⟩, by unfold et_cnt; rw [if_neg h0, if_neg h1, if_neg h2, if_neg h3, if_neg h4, if_neg h5, if_neg h6]⟩

set_option maxHeartbeats 4000000 in
set_option maxRecDepth 100000 in
theorem tM_hits (l : Launch) (D : va_G) (q : Nat → Nat) (cs : Nat → ClassId) {K w N : Nat} {B : List et_E} {kd num pri hit : Nat → Int32} {val msk dv dm ask : Nat → Int64} {ms : Int32} (hK3 : K ≤ 3) (hR : et_RR B num pri hit val msk) (en : Int32) : eb_MI l D vwCl (MTy cs) yX1_hits wsM_hits { frames := 1, cells := 0, slots := 0, locals := 40 } [.ref (q 0), .int en] (MW q cs (nI K) (nI w) kd num pri hit val msk dv dm ask (nI B.length) (nI N) ms) (fun r w1 => et_Qh (et_SM q cs K w kd) dv dm N ms B en r w1) := by
  refine eb_openI (cc := cX1_hits) (maxL := 3) (ret := (some .int)) (by decide +kernel) rfl (Nat.le_of_ble_eq_true rfl) ?_
  intro p e s m below meth c A ls H locs hx hb hr hts hown hlk hml hP hK hD hA hS hl
  have hU : ∀ w ∈ wsX10, w ∈ wsM_hits := fun w h => List.mem_cons_of_mem _ (MALL_u w h)
  have hf_hits := hts (.fieldLink RX1 19 "EntryTableModel" "hits" "[I") (by decide +kernel)
  have hC := hR.1
  have hl : lv_has ls 3 [(0, .ref (q 0)), (1, .int en)] := hl
  refine lv_aload_n hx hb dX1_hits_0 rfl (lv_at hl 0 rfl) ?_
  refine lv_iload_n hx hb dX1_hits_1 rfl (lv_at hl 1 rfl) ?_
  refine eb_calli (As := [.int en]) (rest := []) ⟨hx, hb, hml, hown, hts⟩ (tM_place l D q cs hC en) (cwV 1 hts gM_place rfl rfl rfl (by decide +kernel) ⟨Nat.le_of_ble_eq_true rfl, Nat.le_of_ble_eq_true rfl⟩) hK hP hD hS hA rfl rfl rfl rfl hl.1 rfl (Nat.le_of_ble_eq_true rfl) dX1_hits_2 ⟨Nat.zero_le _, Nat.zero_le _⟩ (fun r1 w1 H locs hq hP hD hS => ?_)
  obtain ⟨rfl, ⟨j, hj1, hj2, rfl⟩ | ⟨hj, rfl⟩⟩ := hq
  · refine lv_istore_n hx hb dX1_hits_5 rfl hl (by decide) rfl (fun ls hl => ?_)
    have hl : lv_has ls 3 [(2, .int (nI j)), (0, .ref (q 0)), (1, .int en)] := hl
    refine lv_iload_n hx hb dX1_hits_6 rfl (lv_at hl 0 rfl) ?_
    refine lv_if_ge (tgt := 15) hx hb dX1_hits_7 (by decide) (fun _ => ?_) (fun c7 => absurd c7 (fun hh => hh (nI_pos' (by omega))))
    refine lv_aload_n hx hb dX1_hits_15 rfl (lv_at hl 1 rfl) ?_
    refine va_get (D := D) (ci := 1) (C := RX1) (T := TX1) (N := 14) hx hb hts hU hown hK hP 0 rfl rfl 5 (by decide) hf_hits (fun _ h9 => h9) rfl dX1_hits_16 ?_
    refine lv_iload_n hx hb dX1_hits_19 rfl (lv_at hl 0 rfl) ?_
    refine eb_iald hx hb hK hP 4 3 rfl rfl (j) (by omega) (by decide) dX1_hits_20 ?_
    have hx1 : B[j]? = some B[j] := List.getElem?_eq_getElem hj1
    have hx2 := hR.2 j B[j] hx1
    refine eb_iret hx hb hr hlk hK hP hD hS dX1_hits_21 ?_
    exact ⟨⟨num, pri, hit, val, msk, ask, hR, rfl⟩, Or.inr ⟨B[j], List.mem_of_getElem? hx1, hx2.1.symm.trans hj2, hx2.2.2.1⟩⟩
  · refine lv_istore_n hx hb dX1_hits_5 rfl hl (by decide) rfl (fun ls hl => ?_)
    have hl : lv_has ls 3 [(2, .int (-1)), (0, .ref (q 0)), (1, .int en)] := hl
    refine lv_iload_n hx hb dX1_hits_6 rfl (lv_at hl 0 rfl) ?_
    refine lv_if_ge (tgt := 15) hx hb dX1_hits_7 (by decide) (fun c7 => absurd c7 (by decide)) (fun _ => ?_)
    refine lv_bipush (v := (-2)) hx hb dX1_hits_10 (by decide) ?_
    refine lv_goto (tgt := 21) hx hb dX1_hits_12 (by decide) ?_
    refine eb_iret hx hb hr hlk hK hP hD hS dX1_hits_21 ?_
    refine ⟨⟨num, pri, hit, val, msk, ask, hR, rfl⟩, Or.inl ⟨fun x hx hh => by
      obtain ⟨i, hi⟩ := List.getElem?_of_mem hx
      exact hj i (List.getElem?_eq_some_iff.mp hi).1 ((hR.2 i x hi).1.trans hh), rfl⟩⟩

set_option maxHeartbeats 4000000 in
set_option maxRecDepth 100000 in
theorem tM_remove (l : Launch) (D : va_G) (q : Nat → Nat) (cs : Nat → ClassId) {K w N : Nat} {B : List et_E} {kd num pri hit : Nat → Int32} {val msk dv dm ask : Nat → Int64} {ms : Int32} (hK3 : K ≤ 3) (hR : et_RR B num pri hit val msk) (en : Int32) : eb_MI l D vwCl (MTy cs) yX1_remove wsM_remove { frames := 1, cells := 0, slots := 0, locals := 40 } [.ref (q 0), .int en] (MW q cs (nI K) (nI w) kd num pri hit val msk dv dm ask (nI B.length) (nI N) ms) (fun r w1 => et_Qr (et_SM q cs K w kd) dv dm N ms B en r w1) := by
  refine eb_openI (cc := cX1_remove) (maxL := 5) (ret := (some .int)) (by decide +kernel) rfl (Nat.le_of_ble_eq_true rfl) ?_
  intro p e s m below meth c A ls H locs hx hb hr hts hown hlk hml hP hK hD hA hS hl
  have hU : ∀ w ∈ wsX10, w ∈ wsM_remove := fun w h => List.mem_cons_of_mem _ (MALL_u w h)
  have hf_count := hts (.fieldLink RX1 59 "EntryTableModel" "count" "I") (by decide +kernel)
  have hf_number := hts (.fieldLink RX1 13 "EntryTableModel" "number" "[I") (by decide +kernel)
  have hf_priority := hts (.fieldLink RX1 16 "EntryTableModel" "priority" "[I") (by decide +kernel)
  have hf_hits := hts (.fieldLink RX1 19 "EntryTableModel" "hits" "[I") (by decide +kernel)
  have hf_value := hts (.fieldLink RX1 22 "EntryTableModel" "value" "[J") (by decide +kernel)
  have hf_mask := hts (.fieldLink RX1 26 "EntryTableModel" "mask" "[J") (by decide +kernel)
  have hC := hR.1
  have hl : lv_has ls 5 [(0, .ref (q 0)), (1, .int en)] := hl
  refine lv_aload_n hx hb dX1_remove_0 rfl (lv_at hl 0 rfl) ?_
  refine lv_iload_n hx hb dX1_remove_1 rfl (lv_at hl 1 rfl) ?_
  refine eb_calli (As := [.int en]) (rest := []) ⟨hx, hb, hml, hown, hts⟩ (tM_place l D q cs hC en) (cwV 1 hts gM_place rfl rfl rfl (by decide +kernel) ⟨Nat.le_of_ble_eq_true rfl, Nat.le_of_ble_eq_true rfl⟩) hK hP hD hS hA rfl rfl rfl rfl hl.1 rfl (Nat.le_of_ble_eq_true rfl) dX1_remove_2 ⟨Nat.zero_le _, Nat.zero_le _⟩ (fun r1 w1 H locs hq hP hD hS => ?_)
  obtain ⟨rfl, ⟨j, hj1, hj2, rfl⟩ | ⟨hj, rfl⟩⟩ := hq
  · refine lv_istore_n hx hb dX1_remove_5 rfl hl (by decide) rfl (fun ls hl => ?_)
    have hl : lv_has ls 5 [(2, .int (nI j)), (0, .ref (q 0)), (1, .int en)] := hl
    refine lv_iload_n hx hb dX1_remove_6 rfl (lv_at hl 0 rfl) ?_
    refine lv_if_ge (tgt := 13) hx hb dX1_remove_7 (by decide) (fun _ => ?_) (fun c7 => absurd c7 (fun hh => hh (nI_pos' (by omega))))
    refine lv_aload_n hx hb dX1_remove_13 rfl (lv_at hl 1 rfl) ?_
    refine lv_dup hx hb dX1_remove_14 rfl ?_
    refine va_get (D := D) (ci := 1) (C := RX1) (T := TX1) (N := 14) hx hb hts hU hown hK hP 0 rfl rfl 11 (by decide) hf_count (fun _ h9 => h9) rfl dX1_remove_15 ?_
    refine lv_iconst (v := 1) hx hb dX1_remove_18 (by decide) ?_
    refine lv_isub hx hb dX1_remove_19 ?_
    refine eb_ti (nI (B.length - 1)) (pk_sub (a := B.length) (b := 1) (by omega)) ?_
    refine va_put (D := D) (ci := 1) (ty := .int) (C := RX1) (T := TX1) (N := 14) hx hb hts hU tyX1 tyX1_ok nmX1 hown hK hP hD hS 0 rfl rfl 11 (by decide) hf_count (fun _ h9 => h9) rfl (by decide +kernel) rfl rfl (Nat.le_of_ble_eq_true rfl) dX1_remove_20 (fun H locs hP hD hS => ?_)
    have hP : va_P D vwCl (MW q cs (nI K) (nI w) kd num pri hit val msk dv dm ask (nI (B.length - 1)) (nI N) ms) H := hP
    have hD : va_D A (MW q cs (nI K) (nI w) kd num pri hit val msk dv dm ask (nI (B.length - 1)) (nI N) ms) := hD
    refine lv_iload_n hx hb dX1_remove_23 rfl (lv_at hl 0 rfl) ?_
    refine lv_istore_n hx hb dX1_remove_24 rfl hl (by decide) rfl (fun ls hl => ?_)
    have hl : lv_has ls 5 [(3, .int (nI j)), (2, .int (nI j)), (0, .ref (q 0)), (1, .int en)] := hl
    refine eb_for (fun (e0 : Nat) (ls : Array Slot) (H : Heap) (locs : List Loc) => ∃ num1 : Nat → Int32, ∃ pri1 : Nat → Int32, ∃ hit1 : Nat → Int32, ∃ val1 : Nat → Int64, ∃ msk1 : Nat → Int64, lv_has ls 5 [(0, .ref (q 0)), (1, .int en), (2, .int (nI j)), (3, .int (nI e0))] ∧ va_P D vwCl (MW q cs (nI K) (nI w) kd num1 pri1 hit1 val1 msk1 dv dm ask (nI (B.length - 1)) (nI N) ms) H ∧ va_D A (MW q cs (nI K) (nI w) kd num1 pri1 hit1 val1 msk1 dv dm ask (nI (B.length - 1)) (nI N) ms) ∧ va_S A s.heap H locs ∧ (j ≤ e0 ∧ et_sh 1 num num1 j (e0) ∧ et_sh 1 pri pri1 j (e0) ∧ et_sh 1 hit hit1 j (e0) ∧ et_sh 3 val val1 (3 * j) (3 * (e0)) ∧ et_sh 3 msk msk1 (3 * j) (3 * (e0)))) 25 (B.length - 1) ?_ (B.length - 1 - j) (j) ls H locs (by omega) ⟨num, pri, hit, val, msk, lv_sub hl [2, 3, 1, 0] rfl, hP, hD, hS, ⟨Nat.le_refl j, et_sh_0, et_sh_0, et_sh_0, et_sh_0, et_sh_0⟩⟩
    intro e0 ls H locs he0 hI hrec25
    obtain ⟨num1, pri1, hit1, val1, msk1, hl, hP, hD, hS, hi25⟩ := hI
    refine lv_iload_n hx hb dX1_remove_25 rfl (lv_at hl 3 rfl) ?_
    refine lv_aload_n hx hb dX1_remove_26 rfl (lv_at hl 0 rfl) ?_
    refine va_get (D := D) (ci := 1) (C := RX1) (T := TX1) (N := 14) hx hb hts hU hown hK hP 0 rfl rfl 11 (by decide) hf_count (fun _ h9 => h9) rfl dX1_remove_27 ?_
    refine lv_icmp_ge (tgt := 144) hx hb dX1_remove_30 (by decide) (fun c30 => ?_) (fun c30 => ?_)
    · have c30 : nI (B.length - 1) ≤ nI e0 := c30
      rw [nI_leI (by omega) (by omega)] at c30
      refine lv_aload_n hx hb dX1_remove_144 rfl (lv_at hl 0 rfl) ?_
      refine va_get (D := D) (ci := 1) (C := RX1) (T := TX1) (N := 14) hx hb hts hU hown hK hP 0 rfl rfl 11 (by decide) hf_count (fun _ h9 => h9) rfl dX1_remove_145 ?_
      have hx1 : B[j]? = some B[j] := List.getElem?_eq_getElem hj1
      have hx2 := hR.2 j B[j] hx1
      have he1 : e0 = B.length - 1 := by omega
      subst he1
      obtain ⟨-, g1, g2, g3, g4, g5⟩ := hi25
      refine eb_iret hx hb hr hlk hK hP hD hS dX1_remove_148 ?_
      refine Or.inr ⟨j, B[j], hx1, hx2.1.symm.trans hj2, rfl, num1, pri1, hit1, val1, msk1, ask, et_RR_del hR hj1 (fun i hi => ⟨g1.1 i (by omega), g2.1 i (by omega), g3.1 i (by omega)⟩) (fun i hi => ⟨g4.1 i (by omega), g5.1 i (by omega)⟩) (fun i h1 h2 => ⟨g1.2 i h1 (by omega), g2.2 i h1 (by omega), g3.2 i h1 (by omega)⟩) (fun i h1 h2 k hk => ?_), by rw [List.length_eraseIdx_of_lt hj1]⟩
      exact ⟨(g4.2 (3 * i + k) (by omega) (by omega)).trans (by congr 1; omega), (g5.2 (3 * i + k) (by omega) (by omega)).trans (by congr 1; omega)⟩
    · have c30 : ¬ nI (B.length - 1) ≤ nI e0 := c30
      rw [nI_leI (by omega) (by omega)] at c30
      refine lv_aload_n hx hb dX1_remove_33 rfl (lv_at hl 0 rfl) ?_
      refine va_get (D := D) (ci := 1) (C := RX1) (T := TX1) (N := 14) hx hb hts hU hown hK hP 0 rfl rfl 3 (by decide) hf_number (fun _ h9 => h9) rfl dX1_remove_34 ?_
      refine lv_iload_n hx hb dX1_remove_37 rfl (lv_at hl 3 rfl) ?_
      refine lv_aload_n hx hb dX1_remove_38 rfl (lv_at hl 0 rfl) ?_
      refine va_get (D := D) (ci := 1) (C := RX1) (T := TX1) (N := 14) hx hb hts hU hown hK hP 0 rfl rfl 3 (by decide) hf_number (fun _ h9 => h9) rfl dX1_remove_39 ?_
      refine lv_iload_n hx hb dX1_remove_42 rfl (lv_at hl 3 rfl) ?_
      refine lv_iconst (v := 1) hx hb dX1_remove_43 (by decide) ?_
      refine lv_iadd hx hb dX1_remove_44 ?_
      refine eb_ti (nI (e0 + 1)) (nI_add e0 1) ?_
      refine eb_iald hx hb hK hP 2 1 rfl rfl (e0 + 1) (by omega) (by decide) dX1_remove_45 ?_
      refine eb_iast hx hb hK hP hD hS 2 1 rfl rfl (e0) (by omega) (by decide) dX1_remove_46 (fun H locs hP hD hS => ?_)
      have hP : va_P D vwCl (MW q cs (nI K) (nI w) kd (upd num1 e0 (num1 (e0 + 1))) pri1 hit1 val1 msk1 dv dm ask (nI (B.length - 1)) (nI N) ms) H := hP
      have hD : va_D A (MW q cs (nI K) (nI w) kd (upd num1 e0 (num1 (e0 + 1))) pri1 hit1 val1 msk1 dv dm ask (nI (B.length - 1)) (nI N) ms) := hD
      refine lv_aload_n hx hb dX1_remove_47 rfl (lv_at hl 0 rfl) ?_
      refine va_get (D := D) (ci := 1) (C := RX1) (T := TX1) (N := 14) hx hb hts hU hown hK hP 0 rfl rfl 4 (by decide) hf_priority (fun _ h9 => h9) rfl dX1_remove_48 ?_
      refine lv_iload_n hx hb dX1_remove_51 rfl (lv_at hl 3 rfl) ?_
      refine lv_aload_n hx hb dX1_remove_52 rfl (lv_at hl 0 rfl) ?_
      refine va_get (D := D) (ci := 1) (C := RX1) (T := TX1) (N := 14) hx hb hts hU hown hK hP 0 rfl rfl 4 (by decide) hf_priority (fun _ h9 => h9) rfl dX1_remove_53 ?_
      refine lv_iload_n hx hb dX1_remove_56 rfl (lv_at hl 3 rfl) ?_
      refine lv_iconst (v := 1) hx hb dX1_remove_57 (by decide) ?_
      refine lv_iadd hx hb dX1_remove_58 ?_
      refine eb_ti (nI (e0 + 1)) (nI_add e0 1) ?_
      refine eb_iald hx hb hK hP 3 2 rfl rfl (e0 + 1) (by omega) (by decide) dX1_remove_59 ?_
      refine eb_iast hx hb hK hP hD hS 3 2 rfl rfl (e0) (by omega) (by decide) dX1_remove_60 (fun H locs hP hD hS => ?_)
      have hP : va_P D vwCl (MW q cs (nI K) (nI w) kd (upd num1 e0 (num1 (e0 + 1))) (upd pri1 e0 (pri1 (e0 + 1))) hit1 val1 msk1 dv dm ask (nI (B.length - 1)) (nI N) ms) H := hP
      have hD : va_D A (MW q cs (nI K) (nI w) kd (upd num1 e0 (num1 (e0 + 1))) (upd pri1 e0 (pri1 (e0 + 1))) hit1 val1 msk1 dv dm ask (nI (B.length - 1)) (nI N) ms) := hD
      refine lv_aload_n hx hb dX1_remove_61 rfl (lv_at hl 0 rfl) ?_
      refine va_get (D := D) (ci := 1) (C := RX1) (T := TX1) (N := 14) hx hb hts hU hown hK hP 0 rfl rfl 5 (by decide) hf_hits (fun _ h9 => h9) rfl dX1_remove_62 ?_
      refine lv_iload_n hx hb dX1_remove_65 rfl (lv_at hl 3 rfl) ?_
      refine lv_aload_n hx hb dX1_remove_66 rfl (lv_at hl 0 rfl) ?_
      refine va_get (D := D) (ci := 1) (C := RX1) (T := TX1) (N := 14) hx hb hts hU hown hK hP 0 rfl rfl 5 (by decide) hf_hits (fun _ h9 => h9) rfl dX1_remove_67 ?_
      refine lv_iload_n hx hb dX1_remove_70 rfl (lv_at hl 3 rfl) ?_
      refine lv_iconst (v := 1) hx hb dX1_remove_71 (by decide) ?_
      refine lv_iadd hx hb dX1_remove_72 ?_
      refine eb_ti (nI (e0 + 1)) (nI_add e0 1) ?_
      refine eb_iald hx hb hK hP 4 3 rfl rfl (e0 + 1) (by omega) (by decide) dX1_remove_73 ?_
      refine eb_iast hx hb hK hP hD hS 4 3 rfl rfl (e0) (by omega) (by decide) dX1_remove_74 (fun H locs hP hD hS => ?_)
      have hP : va_P D vwCl (MW q cs (nI K) (nI w) kd (upd num1 e0 (num1 (e0 + 1))) (upd pri1 e0 (pri1 (e0 + 1))) (upd hit1 e0 (hit1 (e0 + 1))) val1 msk1 dv dm ask (nI (B.length - 1)) (nI N) ms) H := hP
      have hD : va_D A (MW q cs (nI K) (nI w) kd (upd num1 e0 (num1 (e0 + 1))) (upd pri1 e0 (pri1 (e0 + 1))) (upd hit1 e0 (hit1 (e0 + 1))) val1 msk1 dv dm ask (nI (B.length - 1)) (nI N) ms) := hD
      refine lv_iconst (v := 0) hx hb dX1_remove_75 (by decide) ?_
      refine lv_istore hx hb dX1_remove_76 hl (by decide) rfl (fun ls hl => ?_)
      have hl : lv_has ls 5 [(4, .int 0), (0, .ref (q 0)), (1, .int en), (2, .int (nI j)), (3, .int (nI e0))] := hl
      refine eb_for (fun (i : Nat) (ls : Array Slot) (H : Heap) (locs : List Loc) => ∃ val2 : Nat → Int64, ∃ msk2 : Nat → Int64, lv_has ls 5 [(0, .ref (q 0)), (1, .int en), (2, .int (nI j)), (3, .int (nI e0)), (4, .int (nI i))] ∧ va_P D vwCl (MW q cs (nI K) (nI w) kd (upd num1 e0 (num1 (e0 + 1))) (upd pri1 e0 (pri1 (e0 + 1))) (upd hit1 e0 (hit1 (e0 + 1))) val2 msk2 dv dm ask (nI (B.length - 1)) (nI N) ms) H ∧ va_D A (MW q cs (nI K) (nI w) kd (upd num1 e0 (num1 (e0 + 1))) (upd pri1 e0 (pri1 (e0 + 1))) (upd hit1 e0 (hit1 (e0 + 1))) val2 msk2 dv dm ask (nI (B.length - 1)) (nI N) ms) ∧ va_S A s.heap H locs ∧ (et_sh 3 val val2 (3 * j) (3 * e0 + i) ∧ et_sh 3 msk msk2 (3 * j) (3 * e0 + i))) 78 (3) ?_ (3) (0) ls H locs (by omega) ⟨val1, msk1, lv_sub hl [1, 2, 3, 4, 0] rfl, hP, hD, hS, ⟨hi25.2.2.2.2.1, hi25.2.2.2.2.2⟩⟩
      intro i ls H locs hi hI hrec78
      obtain ⟨val2, msk2, hl, hP, hD, hS, hi78⟩ := hI
      refine lv_iload hx hb dX1_remove_78 (lv_at hl 4 rfl) ?_
      refine lv_iconst (v := 3) hx hb dX1_remove_80 (by decide) ?_
      refine lv_icmp_ge (tgt := 138) hx hb dX1_remove_81 (by decide) (fun c81 => ?_) (fun c81 => ?_)
      · have c81 : nI 3 ≤ nI i := c81
        rw [nI_leI (by omega) (by omega)] at c81
        refine lv_iinc (k := 3) (v := nI (e0 + 1)) hx hb dX1_remove_138 hl rfl (nI_add e0 1) (by decide) rfl (fun ls hl => ?_)
        have hl : lv_has ls 5 [(3, .int (nI (e0 + 1))), (0, .ref (q 0)), (1, .int en), (2, .int (nI j)), (4, .int (nI i))] := hl
        refine lv_goto (tgt := 25) hx hb dX1_remove_141 (by decide) ?_
        exact hrec25 ls H locs (by omega) ⟨(upd num1 e0 (num1 (e0 + 1))), (upd pri1 e0 (pri1 (e0 + 1))), (upd hit1 e0 (hit1 (e0 + 1))), val2, msk2, lv_sub hl [1, 2, 3, 0] rfl, hP, hD, hS, ⟨by omega, et_sh_i hi25.2.1 hi25.1 (by decide) rfl, et_sh_i hi25.2.2.1 hi25.1 (by decide) rfl, et_sh_i hi25.2.2.2.1 hi25.1 (by decide) rfl, by rw [show 3 * (e0 + 1) = 3 * e0 + i by omega]; exact hi78.1, by rw [show 3 * (e0 + 1) = 3 * e0 + i by omega]; exact hi78.2⟩⟩
      · have c81 : ¬ nI 3 ≤ nI i := c81
        rw [nI_leI (by omega) (by omega)] at c81
        refine lv_aload_n hx hb dX1_remove_84 rfl (lv_at hl 0 rfl) ?_
        refine va_get (D := D) (ci := 1) (C := RX1) (T := TX1) (N := 14) hx hb hts hU hown hK hP 0 rfl rfl 6 (by decide) hf_value (fun _ h9 => h9) rfl dX1_remove_85 ?_
        refine lv_iconst (v := 3) hx hb dX1_remove_88 (by decide) ?_
        refine lv_iload_n hx hb dX1_remove_89 rfl (lv_at hl 3 rfl) ?_
        refine lv_imul hx hb dX1_remove_90 ?_
        refine eb_ti (nI (3 * e0)) (pk_mul 3 e0) ?_
        refine lv_iload hx hb dX1_remove_91 (lv_at hl 4 rfl) ?_
        refine lv_iadd hx hb dX1_remove_93 ?_
        refine eb_ti (nI ((3 * e0) + i)) (nI_add (3 * e0) i) ?_
        refine lv_aload_n hx hb dX1_remove_94 rfl (lv_at hl 0 rfl) ?_
        refine va_get (D := D) (ci := 1) (C := RX1) (T := TX1) (N := 14) hx hb hts hU hown hK hP 0 rfl rfl 6 (by decide) hf_value (fun _ h9 => h9) rfl dX1_remove_95 ?_
        refine lv_iconst (v := 3) hx hb dX1_remove_98 (by decide) ?_
        refine lv_iload_n hx hb dX1_remove_99 rfl (lv_at hl 3 rfl) ?_
        refine lv_imul hx hb dX1_remove_100 ?_
        refine eb_ti (nI (3 * e0)) (pk_mul 3 e0) ?_
        refine lv_iconst (v := 3) hx hb dX1_remove_101 (by decide) ?_
        refine lv_iadd hx hb dX1_remove_102 ?_
        refine eb_ti (nI ((3 * e0) + 3)) (nI_add (3 * e0) 3) ?_
        refine lv_iload hx hb dX1_remove_103 (lv_at hl 4 rfl) ?_
        refine lv_iadd hx hb dX1_remove_105 ?_
        refine eb_ti (nI (((3 * e0) + 3) + i)) (nI_add ((3 * e0) + 3) i) ?_
        refine eb_lald hx hb hK hP 5 4 rfl rfl (((3 * e0) + 3) + i) (by omega) (by decide) dX1_remove_106 ?_
        refine eb_last hx hb hK hP hD hS 5 4 rfl rfl ((3 * e0) + i) (by omega) (by decide) dX1_remove_107 (fun H locs hP hD hS => ?_)
        have hP : va_P D vwCl (MW q cs (nI K) (nI w) kd (upd num1 e0 (num1 (e0 + 1))) (upd pri1 e0 (pri1 (e0 + 1))) (upd hit1 e0 (hit1 (e0 + 1))) (vp_updL val2 ((3 * e0) + i) (val2 (((3 * e0) + 3) + i))) msk2 dv dm ask (nI (B.length - 1)) (nI N) ms) H := hP
        have hD : va_D A (MW q cs (nI K) (nI w) kd (upd num1 e0 (num1 (e0 + 1))) (upd pri1 e0 (pri1 (e0 + 1))) (upd hit1 e0 (hit1 (e0 + 1))) (vp_updL val2 ((3 * e0) + i) (val2 (((3 * e0) + 3) + i))) msk2 dv dm ask (nI (B.length - 1)) (nI N) ms) := hD
        refine lv_aload_n hx hb dX1_remove_108 rfl (lv_at hl 0 rfl) ?_
        refine va_get (D := D) (ci := 1) (C := RX1) (T := TX1) (N := 14) hx hb hts hU hown hK hP 0 rfl rfl 7 (by decide) hf_mask (fun _ h9 => h9) rfl dX1_remove_109 ?_
        refine lv_iconst (v := 3) hx hb dX1_remove_112 (by decide) ?_
        refine lv_iload_n hx hb dX1_remove_113 rfl (lv_at hl 3 rfl) ?_
        refine lv_imul hx hb dX1_remove_114 ?_
        refine eb_ti (nI (3 * e0)) (pk_mul 3 e0) ?_
        refine lv_iload hx hb dX1_remove_115 (lv_at hl 4 rfl) ?_
        refine lv_iadd hx hb dX1_remove_117 ?_
        refine eb_ti (nI ((3 * e0) + i)) (nI_add (3 * e0) i) ?_
        refine lv_aload_n hx hb dX1_remove_118 rfl (lv_at hl 0 rfl) ?_
        refine va_get (D := D) (ci := 1) (C := RX1) (T := TX1) (N := 14) hx hb hts hU hown hK hP 0 rfl rfl 7 (by decide) hf_mask (fun _ h9 => h9) rfl dX1_remove_119 ?_
        refine lv_iconst (v := 3) hx hb dX1_remove_122 (by decide) ?_
        refine lv_iload_n hx hb dX1_remove_123 rfl (lv_at hl 3 rfl) ?_
        refine lv_imul hx hb dX1_remove_124 ?_
        refine eb_ti (nI (3 * e0)) (pk_mul 3 e0) ?_
        refine lv_iconst (v := 3) hx hb dX1_remove_125 (by decide) ?_
        refine lv_iadd hx hb dX1_remove_126 ?_
        refine eb_ti (nI ((3 * e0) + 3)) (nI_add (3 * e0) 3) ?_
        refine lv_iload hx hb dX1_remove_127 (lv_at hl 4 rfl) ?_
        refine lv_iadd hx hb dX1_remove_129 ?_
        refine eb_ti (nI (((3 * e0) + 3) + i)) (nI_add ((3 * e0) + 3) i) ?_
        refine eb_lald hx hb hK hP 6 5 rfl rfl (((3 * e0) + 3) + i) (by omega) (by decide) dX1_remove_130 ?_
        refine eb_last hx hb hK hP hD hS 6 5 rfl rfl ((3 * e0) + i) (by omega) (by decide) dX1_remove_131 (fun H locs hP hD hS => ?_)
        have hP : va_P D vwCl (MW q cs (nI K) (nI w) kd (upd num1 e0 (num1 (e0 + 1))) (upd pri1 e0 (pri1 (e0 + 1))) (upd hit1 e0 (hit1 (e0 + 1))) (vp_updL val2 ((3 * e0) + i) (val2 (((3 * e0) + 3) + i))) (vp_updL msk2 ((3 * e0) + i) (msk2 (((3 * e0) + 3) + i))) dv dm ask (nI (B.length - 1)) (nI N) ms) H := hP
        have hD : va_D A (MW q cs (nI K) (nI w) kd (upd num1 e0 (num1 (e0 + 1))) (upd pri1 e0 (pri1 (e0 + 1))) (upd hit1 e0 (hit1 (e0 + 1))) (vp_updL val2 ((3 * e0) + i) (val2 (((3 * e0) + 3) + i))) (vp_updL msk2 ((3 * e0) + i) (msk2 (((3 * e0) + 3) + i))) dv dm ask (nI (B.length - 1)) (nI N) ms) := hD
        refine lv_iinc (k := 4) (v := nI (i + 1)) hx hb dX1_remove_132 hl rfl (nI_add i 1) (by decide) rfl (fun ls hl => ?_)
        have hl : lv_has ls 5 [(4, .int (nI (i + 1))), (0, .ref (q 0)), (1, .int en), (2, .int (nI j)), (3, .int (nI e0))] := hl
        refine lv_goto (tgt := 78) hx hb dX1_remove_135 (by decide) ?_
        exact hrec78 ls H locs (by omega) ⟨(vp_updL val2 ((3 * e0) + i) (val2 (((3 * e0) + 3) + i))), (vp_updL msk2 ((3 * e0) + i) (msk2 (((3 * e0) + 3) + i))), lv_sub hl [1, 2, 3, 4, 0] rfl, hP, hD, hS, ⟨et_sh_l hi78.1 (by omega) (by decide) (by congr 1; omega), et_sh_l hi78.2 (by omega) (by decide) (by congr 1; omega)⟩⟩
  · refine lv_istore_n hx hb dX1_remove_5 rfl hl (by decide) rfl (fun ls hl => ?_)
    have hl : lv_has ls 5 [(2, .int (-1)), (0, .ref (q 0)), (1, .int en)] := hl
    refine lv_iload_n hx hb dX1_remove_6 rfl (lv_at hl 0 rfl) ?_
    refine lv_if_ge (tgt := 13) hx hb dX1_remove_7 (by decide) (fun c7 => absurd c7 (by decide)) (fun _ => ?_)
    refine lv_bipush (v := (-2)) hx hb dX1_remove_10 (by decide) ?_
    refine eb_iret hx hb hr hlk hK hP hD hS dX1_remove_12 ?_
    refine Or.inl ⟨fun x hx hh => by
      obtain ⟨i, hi⟩ := List.getElem?_of_mem hx
      exact hj i (List.getElem?_eq_some_iff.mp hi).1 ((hR.2 i x hi).1.trans hh), rfl, ⟨num, pri, hit, val, msk, ask, hR, rfl⟩⟩

set_option maxHeartbeats 4000000 in
set_option maxRecDepth 100000 in
theorem tM_insert (l : Launch) (D : va_G) (q : Nat → Nat) (cs : Nat → ClassId) {K w N : Nat} {B : List et_E} {kd num pri hit : Nat → Int32} {val msk dv dm ask : Nat → Int64} {ms : Int32} (hK3 : K ≤ 3) (hR : et_RR B num pri hit val msk) (pp : Int32) : eb_MI l D vwCl (MTy cs) yX1_insert wsM_insert { frames := 2, cells := 0, slots := 0, locals := 80 } [.ref (q 0), .int pp] (MW q cs (nI K) (nI w) kd num pri hit val msk dv dm ask (nI B.length) (nI N) ms) (fun r w1 => et_QMi (et_SM q cs K w kd) K w kd dv dm N ms B pp r w1) := by
  refine eb_openI (cc := cX1_insert) (maxL := 3) (ret := (some .int)) (by decide +kernel) rfl (Nat.le_of_ble_eq_true rfl) ?_
  intro p e s m below meth c A ls H locs hx hb hr hts hown hlk hml hP hK hD hA hS hl
  have hU : ∀ w ∈ wsX10, w ∈ wsM_insert := fun w h => List.mem_cons_of_mem _ (MALL_u w h)
  have hf_keys := hts (.fieldLink RX1 38 "EntryTableModel" "keys" "I") (by decide +kernel)
  have hf_count := hts (.fieldLink RX1 59 "EntryTableModel" "count" "I") (by decide +kernel)
  have hf_number := hts (.fieldLink RX1 13 "EntryTableModel" "number" "[I") (by decide +kernel)
  have hf_numbers := hts (.fieldLink RX1 66 "EntryTableModel" "numbers" "I") (by decide +kernel)
  have hf_priority := hts (.fieldLink RX1 16 "EntryTableModel" "priority" "[I") (by decide +kernel)
  have hf_hits := hts (.fieldLink RX1 19 "EntryTableModel" "hits" "[I") (by decide +kernel)
  have hf_value := hts (.fieldLink RX1 22 "EntryTableModel" "value" "[J") (by decide +kernel)
  have hf_madeValue := hts (.fieldLink RX1 29 "EntryTableModel" "madeValue" "[J") (by decide +kernel)
  have hf_mask := hts (.fieldLink RX1 26 "EntryTableModel" "mask" "[J") (by decide +kernel)
  have hf_madeMask := hts (.fieldLink RX1 32 "EntryTableModel" "madeMask" "[J") (by decide +kernel)
  have hC := hR.1
  have hl : lv_has ls 3 [(0, .ref (q 0)), (1, .int pp)] := hl
  refine lv_iconst (v := 0) hx hb dX1_insert_0 (by decide) ?_
  refine lv_istore_n hx hb dX1_insert_1 rfl hl (by decide) rfl (fun ls hl => ?_)
  have hl : lv_has ls 3 [(2, .int 0), (0, .ref (q 0)), (1, .int pp)] := hl
  refine eb_for (fun (i : Nat) (ls : Array Slot) (H : Heap) (locs : List Loc) => lv_has ls 3 [(0, .ref (q 0)), (1, .int pp), (2, .int (nI i))] ∧ va_P D vwCl (MW q cs (nI K) (nI w) kd num pri hit val msk dv dm ask (nI B.length) (nI N) ms) H ∧ va_D A (MW q cs (nI K) (nI w) kd num pri hit val msk dv dm ask (nI B.length) (nI N) ms) ∧ va_S A s.heap H locs ∧ (∀ j, j < i → et_rs (nI w) (kd j) (dv j) (dm j))) 2 (K) ?_ (K) (0) ls H locs (by omega) ⟨lv_sub hl [1, 2, 0] rfl, hP, hD, hS, fun j hj => absurd hj (Nat.not_lt_zero j)⟩
  intro i ls H locs hi hI hrec2
  obtain ⟨hl, hP, hD, hS, hi2⟩ := hI
  refine lv_iload_n hx hb dX1_insert_2 rfl (lv_at hl 2 rfl) ?_
  refine lv_aload_n hx hb dX1_insert_3 rfl (lv_at hl 0 rfl) ?_
  refine va_get (D := D) (ci := 1) (C := RX1) (T := TX1) (N := 14) hx hb hts hU hown hK hP 0 rfl rfl 0 (by decide) hf_keys (fun _ h9 => h9) rfl dX1_insert_4 ?_
  refine lv_icmp_ge (tgt := 26) hx hb dX1_insert_7 (by decide) (fun c7 => ?_) (fun c7 => ?_)
  · have c7 : nI K ≤ nI i := c7
    rw [nI_leI (by omega) (by omega)] at c7
    refine lv_iconst (v := 0) hx hb dX1_insert_26 (by decide) ?_
    refine lv_istore_n hx hb dX1_insert_27 rfl hl (by decide) rfl (fun ls hl => ?_)
    have hl : lv_has ls 3 [(2, .int 0), (0, .ref (q 0)), (1, .int pp)] := hl
    refine eb_for (fun (t : Nat) (ls : Array Slot) (H : Heap) (locs : List Loc) => lv_has ls 3 [(0, .ref (q 0)), (1, .int pp), (2, .int (nI t))] ∧ va_P D vwCl (MW q cs (nI K) (nI w) kd num pri hit val msk dv dm ask (nI B.length) (nI N) ms) H ∧ va_D A (MW q cs (nI K) (nI w) kd num pri hit val msk dv dm ask (nI B.length) (nI N) ms) ∧ va_S A s.heap H locs ∧ (∀ j, j < t → ¬ (pri j = pp ∧ ∀ k, k < K → val (3 * j + k) = dv k ∧ (kd k = 0 ∨ msk (3 * j + k) = dm k)))) 28 (B.length) ?_ (B.length) (0) ls H locs (by omega) ⟨lv_sub hl [1, 2, 0] rfl, hP, hD, hS, fun j hj => absurd hj (Nat.not_lt_zero j)⟩
    intro t ls H locs ht hI hrec28
    obtain ⟨hl, hP, hD, hS, hi28⟩ := hI
    refine lv_iload_n hx hb dX1_insert_28 rfl (lv_at hl 2 rfl) ?_
    refine lv_aload_n hx hb dX1_insert_29 rfl (lv_at hl 0 rfl) ?_
    refine va_get (D := D) (ci := 1) (C := RX1) (T := TX1) (N := 14) hx hb hts hU hown hK hP 0 rfl rfl 11 (by decide) hf_count (fun _ h9 => h9) rfl dX1_insert_30 ?_
    refine lv_icmp_ge (tgt := 54) hx hb dX1_insert_33 (by decide) (fun c33 => ?_) (fun c33 => ?_)
    · have c33 : nI B.length ≤ nI t := c33
      rw [nI_leI (by omega) (by omega)] at c33
      refine lv_aload_n hx hb dX1_insert_54 rfl (lv_at hl 0 rfl) ?_
      refine va_get (D := D) (ci := 1) (C := RX1) (T := TX1) (N := 14) hx hb hts hU hown hK hP 0 rfl rfl 11 (by decide) hf_count (fun _ h9 => h9) rfl dX1_insert_55 ?_
      refine lv_bipush (v := 24) hx hb dX1_insert_58 (by decide) ?_
      refine lv_icmp_ne (tgt := 66) hx hb dX1_insert_60 (by decide) (fun c60 => ?_) (fun c60 => ?_)
      · have c60 : ¬ nI B.length = nI 24 := c60
        rw [nI_eq (by omega) (by omega)] at c60
        refine lv_iconst (v := 0) hx hb dX1_insert_66 (by decide) ?_
        refine lv_istore_n hx hb dX1_insert_67 rfl hl (by decide) rfl (fun ls hl => ?_)
        have hl : lv_has ls 3 [(2, .int 0), (0, .ref (q 0)), (1, .int pp)] := hl
        refine eb_for (fun (k : Nat) (ls : Array Slot) (H : Heap) (locs : List Loc) => ∃ val1 : Nat → Int64, ∃ msk1 : Nat → Int64, ∃ dv1 : Nat → Int64, ∃ dm1 : Nat → Int64, lv_has ls 3 [(0, .ref (q 0)), (1, .int pp), (2, .int (nI k))] ∧ va_P D vwCl (MW q cs (nI K) (nI w) kd num pri hit val1 msk1 dv1 dm1 ask (nI B.length) (nI N) ms) H ∧ va_D A (MW q cs (nI K) (nI w) kd num pri hit val1 msk1 dv1 dm1 ask (nI B.length) (nI N) ms) ∧ va_S A s.heap H locs ∧ (et_fl val val1 dv (3 * B.length) k ∧ et_fl msk msk1 dm (3 * B.length) k ∧ dv1 = et_zz dv k ∧ dm1 = et_zz dm k)) 68 (3) ?_ (3) (0) ls H locs (by omega) ⟨val, msk, dv, dm, lv_sub hl [1, 2, 0] rfl, hP, hD, hS, ⟨et_fl_0, et_fl_0, et_zz_0.symm, et_zz_0.symm⟩⟩
        intro k ls H locs hk hI hrec68
        obtain ⟨val1, msk1, dv1, dm1, hl, hP, hD, hS, hi68⟩ := hI
        refine lv_iload_n hx hb dX1_insert_68 rfl (lv_at hl 2 rfl) ?_
        refine lv_iconst (v := 3) hx hb dX1_insert_69 (by decide) ?_
        refine lv_icmp_ge (tgt := 131) hx hb dX1_insert_70 (by decide) (fun c70 => ?_) (fun c70 => ?_)
        · have c70 : nI 3 ≤ nI k := c70
          rw [nI_leI (by omega) (by omega)] at c70
          refine lv_aload_n hx hb dX1_insert_131 rfl (lv_at hl 0 rfl) ?_
          refine va_get (D := D) (ci := 1) (C := RX1) (T := TX1) (N := 14) hx hb hts hU hown hK hP 0 rfl rfl 3 (by decide) hf_number (fun _ h9 => h9) rfl dX1_insert_132 ?_
          refine lv_aload_n hx hb dX1_insert_135 rfl (lv_at hl 0 rfl) ?_
          refine va_get (D := D) (ci := 1) (C := RX1) (T := TX1) (N := 14) hx hb hts hU hown hK hP 0 rfl rfl 11 (by decide) hf_count (fun _ h9 => h9) rfl dX1_insert_136 ?_
          refine lv_aload_n hx hb dX1_insert_139 rfl (lv_at hl 0 rfl) ?_
          refine va_get (D := D) (ci := 1) (C := RX1) (T := TX1) (N := 14) hx hb hts hU hown hK hP 0 rfl rfl 12 (by decide) hf_numbers (fun _ h9 => h9) rfl dX1_insert_140 ?_
          refine eb_iast hx hb hK hP hD hS 2 1 rfl rfl (B.length) (by omega) (by decide) dX1_insert_143 (fun H locs hP hD hS => ?_)
          have hP : va_P D vwCl (MW q cs (nI K) (nI w) kd (upd num B.length (nI N)) pri hit val1 msk1 dv1 dm1 ask (nI B.length) (nI N) ms) H := hP
          have hD : va_D A (MW q cs (nI K) (nI w) kd (upd num B.length (nI N)) pri hit val1 msk1 dv1 dm1 ask (nI B.length) (nI N) ms) := hD
          refine lv_aload_n hx hb dX1_insert_144 rfl (lv_at hl 0 rfl) ?_
          refine va_get (D := D) (ci := 1) (C := RX1) (T := TX1) (N := 14) hx hb hts hU hown hK hP 0 rfl rfl 4 (by decide) hf_priority (fun _ h9 => h9) rfl dX1_insert_145 ?_
          refine lv_aload_n hx hb dX1_insert_148 rfl (lv_at hl 0 rfl) ?_
          refine va_get (D := D) (ci := 1) (C := RX1) (T := TX1) (N := 14) hx hb hts hU hown hK hP 0 rfl rfl 11 (by decide) hf_count (fun _ h9 => h9) rfl dX1_insert_149 ?_
          refine lv_iload_n hx hb dX1_insert_152 rfl (lv_at hl 1 rfl) ?_
          refine eb_iast hx hb hK hP hD hS 3 2 rfl rfl (B.length) (by omega) (by decide) dX1_insert_153 (fun H locs hP hD hS => ?_)
          have hP : va_P D vwCl (MW q cs (nI K) (nI w) kd (upd num B.length (nI N)) (upd pri B.length pp) hit val1 msk1 dv1 dm1 ask (nI B.length) (nI N) ms) H := hP
          have hD : va_D A (MW q cs (nI K) (nI w) kd (upd num B.length (nI N)) (upd pri B.length pp) hit val1 msk1 dv1 dm1 ask (nI B.length) (nI N) ms) := hD
          refine lv_aload_n hx hb dX1_insert_154 rfl (lv_at hl 0 rfl) ?_
          refine va_get (D := D) (ci := 1) (C := RX1) (T := TX1) (N := 14) hx hb hts hU hown hK hP 0 rfl rfl 5 (by decide) hf_hits (fun _ h9 => h9) rfl dX1_insert_155 ?_
          refine lv_aload_n hx hb dX1_insert_158 rfl (lv_at hl 0 rfl) ?_
          refine va_get (D := D) (ci := 1) (C := RX1) (T := TX1) (N := 14) hx hb hts hU hown hK hP 0 rfl rfl 11 (by decide) hf_count (fun _ h9 => h9) rfl dX1_insert_159 ?_
          refine lv_iconst (v := 0) hx hb dX1_insert_162 (by decide) ?_
          refine eb_iast hx hb hK hP hD hS 4 3 rfl rfl (B.length) (by omega) (by decide) dX1_insert_163 (fun H locs hP hD hS => ?_)
          have hP : va_P D vwCl (MW q cs (nI K) (nI w) kd (upd num B.length (nI N)) (upd pri B.length pp) (upd hit B.length 0) val1 msk1 dv1 dm1 ask (nI B.length) (nI N) ms) H := hP
          have hD : va_D A (MW q cs (nI K) (nI w) kd (upd num B.length (nI N)) (upd pri B.length pp) (upd hit B.length 0) val1 msk1 dv1 dm1 ask (nI B.length) (nI N) ms) := hD
          refine lv_aload_n hx hb dX1_insert_164 rfl (lv_at hl 0 rfl) ?_
          refine lv_dup hx hb dX1_insert_165 rfl ?_
          refine va_get (D := D) (ci := 1) (C := RX1) (T := TX1) (N := 14) hx hb hts hU hown hK hP 0 rfl rfl 11 (by decide) hf_count (fun _ h9 => h9) rfl dX1_insert_166 ?_
          refine lv_iconst (v := 1) hx hb dX1_insert_169 (by decide) ?_
          refine lv_iadd hx hb dX1_insert_170 ?_
          refine eb_ti (nI (B.length + 1)) (nI_add B.length 1) ?_
          refine va_put (D := D) (ci := 1) (ty := .int) (C := RX1) (T := TX1) (N := 14) hx hb hts hU tyX1 tyX1_ok nmX1 hown hK hP hD hS 0 rfl rfl 11 (by decide) hf_count (fun _ h9 => h9) rfl (by decide +kernel) rfl rfl (Nat.le_of_ble_eq_true rfl) dX1_insert_171 (fun H locs hP hD hS => ?_)
          have hP : va_P D vwCl (MW q cs (nI K) (nI w) kd (upd num B.length (nI N)) (upd pri B.length pp) (upd hit B.length 0) val1 msk1 dv1 dm1 ask (nI (B.length + 1)) (nI N) ms) H := hP
          have hD : va_D A (MW q cs (nI K) (nI w) kd (upd num B.length (nI N)) (upd pri B.length pp) (upd hit B.length 0) val1 msk1 dv1 dm1 ask (nI (B.length + 1)) (nI N) ms) := hD
          refine lv_aload_n hx hb dX1_insert_174 rfl (lv_at hl 0 rfl) ?_
          refine lv_dup hx hb dX1_insert_175 rfl ?_
          refine va_get (D := D) (ci := 1) (C := RX1) (T := TX1) (N := 14) hx hb hts hU hown hK hP 0 rfl rfl 12 (by decide) hf_numbers (fun _ h9 => h9) rfl dX1_insert_176 ?_
          refine lv_iconst (v := 1) hx hb dX1_insert_179 (by decide) ?_
          refine lv_iadd hx hb dX1_insert_180 ?_
          refine eb_ti (nI (N + 1)) (nI_add N 1) ?_
          refine va_put (D := D) (ci := 1) (ty := .int) (C := RX1) (T := TX1) (N := 14) hx hb hts hU tyX1 tyX1_ok nmX1 hown hK hP hD hS 0 rfl rfl 12 (by decide) hf_numbers (fun _ h9 => h9) rfl (by decide +kernel) rfl rfl (Nat.le_of_ble_eq_true rfl) dX1_insert_181 (fun H locs hP hD hS => ?_)
          have hP : va_P D vwCl (MW q cs (nI K) (nI w) kd (upd num B.length (nI N)) (upd pri B.length pp) (upd hit B.length 0) val1 msk1 dv1 dm1 ask (nI (B.length + 1)) (nI (N + 1)) ms) H := hP
          have hD : va_D A (MW q cs (nI K) (nI w) kd (upd num B.length (nI N)) (upd pri B.length pp) (upd hit B.length 0) val1 msk1 dv1 dm1 ask (nI (B.length + 1)) (nI (N + 1)) ms) := hD
          refine lv_aload_n hx hb dX1_insert_184 rfl (lv_at hl 0 rfl) ?_
          refine va_get (D := D) (ci := 1) (C := RX1) (T := TX1) (N := 14) hx hb hts hU hown hK hP 0 rfl rfl 12 (by decide) hf_numbers (fun _ h9 => h9) rfl dX1_insert_185 ?_
          refine lv_iconst (v := 1) hx hb dX1_insert_188 (by decide) ?_
          refine lv_isub hx hb dX1_insert_189 ?_
          refine eb_ti (nI ((N + 1) - 1)) (pk_sub (a := (N + 1)) (b := 1) (by omega)) ?_
          have hk3 : k = 3 := by omega
          subst hk3
          obtain ⟨g1, g2, rfl, rfl⟩ := hi68
          refine eb_iret hx hb hr hlk hK hP hD hS dX1_insert_190 ?_
          exact Or.inr (Or.inr (Or.inr ⟨(fun k hk => hi2 k (by omega)), (fun x hx hh => by
              obtain ⟨j, hj⟩ := List.getElem?_of_mem hx
              exact hi28 j (by have := (List.getElem?_eq_some_iff.mp hj).1; omega) ((et_like_iff hK3 hR hj).mpr hh)), by omega, rfl, _, _, _, val1, msk1, ask, et_RR_ins hR (by omega) (fun i hi => ⟨pk_un (by omega), pk_un (by omega), pk_un (by omega)⟩) (fun i hi => ⟨g1.1 i (by omega), g2.1 i (by omega)⟩) ⟨pk_us, pk_us, pk_us⟩ (fun k hk => ⟨g1.2 k hk, g2.2 k hk⟩), by rw [List.length_append]; rfl⟩))
        · have c70 : ¬ nI 3 ≤ nI k := c70
          rw [nI_leI (by omega) (by omega)] at c70
          refine lv_aload_n hx hb dX1_insert_73 rfl (lv_at hl 0 rfl) ?_
          refine va_get (D := D) (ci := 1) (C := RX1) (T := TX1) (N := 14) hx hb hts hU hown hK hP 0 rfl rfl 6 (by decide) hf_value (fun _ h9 => h9) rfl dX1_insert_74 ?_
          refine lv_iconst (v := 3) hx hb dX1_insert_77 (by decide) ?_
          refine lv_aload_n hx hb dX1_insert_78 rfl (lv_at hl 0 rfl) ?_
          refine va_get (D := D) (ci := 1) (C := RX1) (T := TX1) (N := 14) hx hb hts hU hown hK hP 0 rfl rfl 11 (by decide) hf_count (fun _ h9 => h9) rfl dX1_insert_79 ?_
          refine lv_imul hx hb dX1_insert_82 ?_
          refine eb_ti (nI (3 * B.length)) (pk_mul 3 B.length) ?_
          refine lv_iload_n hx hb dX1_insert_83 rfl (lv_at hl 2 rfl) ?_
          refine lv_iadd hx hb dX1_insert_84 ?_
          refine eb_ti (nI ((3 * B.length) + k)) (nI_add (3 * B.length) k) ?_
          refine lv_aload_n hx hb dX1_insert_85 rfl (lv_at hl 0 rfl) ?_
          refine va_get (D := D) (ci := 1) (C := RX1) (T := TX1) (N := 14) hx hb hts hU hown hK hP 0 rfl rfl 8 (by decide) hf_madeValue (fun _ h9 => h9) rfl dX1_insert_86 ?_
          refine lv_iload_n hx hb dX1_insert_89 rfl (lv_at hl 2 rfl) ?_
          refine eb_lald hx hb hK hP 7 6 rfl rfl (k) (by omega) (by decide) dX1_insert_90 ?_
          refine eb_last hx hb hK hP hD hS 5 4 rfl rfl ((3 * B.length) + k) (by omega) (by decide) dX1_insert_91 (fun H locs hP hD hS => ?_)
          have hP : va_P D vwCl (MW q cs (nI K) (nI w) kd num pri hit (vp_updL val1 ((3 * B.length) + k) (dv1 k)) msk1 dv1 dm1 ask (nI B.length) (nI N) ms) H := hP
          have hD : va_D A (MW q cs (nI K) (nI w) kd num pri hit (vp_updL val1 ((3 * B.length) + k) (dv1 k)) msk1 dv1 dm1 ask (nI B.length) (nI N) ms) := hD
          refine lv_aload_n hx hb dX1_insert_92 rfl (lv_at hl 0 rfl) ?_
          refine va_get (D := D) (ci := 1) (C := RX1) (T := TX1) (N := 14) hx hb hts hU hown hK hP 0 rfl rfl 7 (by decide) hf_mask (fun _ h9 => h9) rfl dX1_insert_93 ?_
          refine lv_iconst (v := 3) hx hb dX1_insert_96 (by decide) ?_
          refine lv_aload_n hx hb dX1_insert_97 rfl (lv_at hl 0 rfl) ?_
          refine va_get (D := D) (ci := 1) (C := RX1) (T := TX1) (N := 14) hx hb hts hU hown hK hP 0 rfl rfl 11 (by decide) hf_count (fun _ h9 => h9) rfl dX1_insert_98 ?_
          refine lv_imul hx hb dX1_insert_101 ?_
          refine eb_ti (nI (3 * B.length)) (pk_mul 3 B.length) ?_
          refine lv_iload_n hx hb dX1_insert_102 rfl (lv_at hl 2 rfl) ?_
          refine lv_iadd hx hb dX1_insert_103 ?_
          refine eb_ti (nI ((3 * B.length) + k)) (nI_add (3 * B.length) k) ?_
          refine lv_aload_n hx hb dX1_insert_104 rfl (lv_at hl 0 rfl) ?_
          refine va_get (D := D) (ci := 1) (C := RX1) (T := TX1) (N := 14) hx hb hts hU hown hK hP 0 rfl rfl 9 (by decide) hf_madeMask (fun _ h9 => h9) rfl dX1_insert_105 ?_
          refine lv_iload_n hx hb dX1_insert_108 rfl (lv_at hl 2 rfl) ?_
          refine eb_lald hx hb hK hP 8 7 rfl rfl (k) (by omega) (by decide) dX1_insert_109 ?_
          refine eb_last hx hb hK hP hD hS 6 5 rfl rfl ((3 * B.length) + k) (by omega) (by decide) dX1_insert_110 (fun H locs hP hD hS => ?_)
          have hP : va_P D vwCl (MW q cs (nI K) (nI w) kd num pri hit (vp_updL val1 ((3 * B.length) + k) (dv1 k)) (vp_updL msk1 ((3 * B.length) + k) (dm1 k)) dv1 dm1 ask (nI B.length) (nI N) ms) H := hP
          have hD : va_D A (MW q cs (nI K) (nI w) kd num pri hit (vp_updL val1 ((3 * B.length) + k) (dv1 k)) (vp_updL msk1 ((3 * B.length) + k) (dm1 k)) dv1 dm1 ask (nI B.length) (nI N) ms) := hD
          refine lv_aload_n hx hb dX1_insert_111 rfl (lv_at hl 0 rfl) ?_
          refine va_get (D := D) (ci := 1) (C := RX1) (T := TX1) (N := 14) hx hb hts hU hown hK hP 0 rfl rfl 8 (by decide) hf_madeValue (fun _ h9 => h9) rfl dX1_insert_112 ?_
          refine lv_iload_n hx hb dX1_insert_115 rfl (lv_at hl 2 rfl) ?_
          refine lv_lconst (v := 0) hx hb dX1_insert_116 (by decide) ?_
          refine eb_last hx hb hK hP hD hS 7 6 rfl rfl (k) (by omega) (by decide) dX1_insert_117 (fun H locs hP hD hS => ?_)
          have hP : va_P D vwCl (MW q cs (nI K) (nI w) kd num pri hit (vp_updL val1 ((3 * B.length) + k) (dv1 k)) (vp_updL msk1 ((3 * B.length) + k) (dm1 k)) (vp_updL dv1 k 0) dm1 ask (nI B.length) (nI N) ms) H := hP
          have hD : va_D A (MW q cs (nI K) (nI w) kd num pri hit (vp_updL val1 ((3 * B.length) + k) (dv1 k)) (vp_updL msk1 ((3 * B.length) + k) (dm1 k)) (vp_updL dv1 k 0) dm1 ask (nI B.length) (nI N) ms) := hD
          refine lv_aload_n hx hb dX1_insert_118 rfl (lv_at hl 0 rfl) ?_
          refine va_get (D := D) (ci := 1) (C := RX1) (T := TX1) (N := 14) hx hb hts hU hown hK hP 0 rfl rfl 9 (by decide) hf_madeMask (fun _ h9 => h9) rfl dX1_insert_119 ?_
          refine lv_iload_n hx hb dX1_insert_122 rfl (lv_at hl 2 rfl) ?_
          refine lv_lconst (v := 0) hx hb dX1_insert_123 (by decide) ?_
          refine eb_last hx hb hK hP hD hS 8 7 rfl rfl (k) (by omega) (by decide) dX1_insert_124 (fun H locs hP hD hS => ?_)
          have hP : va_P D vwCl (MW q cs (nI K) (nI w) kd num pri hit (vp_updL val1 ((3 * B.length) + k) (dv1 k)) (vp_updL msk1 ((3 * B.length) + k) (dm1 k)) (vp_updL dv1 k 0) (vp_updL dm1 k 0) ask (nI B.length) (nI N) ms) H := hP
          have hD : va_D A (MW q cs (nI K) (nI w) kd num pri hit (vp_updL val1 ((3 * B.length) + k) (dv1 k)) (vp_updL msk1 ((3 * B.length) + k) (dm1 k)) (vp_updL dv1 k 0) (vp_updL dm1 k 0) ask (nI B.length) (nI N) ms) := hD
          refine lv_iinc (k := 2) (v := nI (k + 1)) hx hb dX1_insert_125 hl rfl (nI_add k 1) (by decide) rfl (fun ls hl => ?_)
          have hl : lv_has ls 3 [(2, .int (nI (k + 1))), (0, .ref (q 0)), (1, .int pp)] := hl
          refine lv_goto (tgt := 68) hx hb dX1_insert_128 (by decide) ?_
          exact hrec68 ls H locs (by omega) ⟨(vp_updL val1 ((3 * B.length) + k) (dv1 k)), (vp_updL msk1 ((3 * B.length) + k) (dm1 k)), (vp_updL dv1 k 0), (vp_updL dm1 k 0), lv_sub hl [1, 2, 0] rfl, hP, hD, hS, by rw [hi68.2.2.1, hi68.2.2.2]; exact ⟨et_fl_s hi68.1 et_zz_at, et_fl_s hi68.2.1 et_zz_at, et_zz_s, et_zz_s⟩⟩
      · have c60 : nI B.length = nI 24 := c60
        rw [nI_eq (by omega) (by omega)] at c60
        refine lv_bipush (v := (-3)) hx hb dX1_insert_63 (by decide) ?_
        refine eb_iret hx hb hr hlk hK hP hD hS dX1_insert_65 ?_
        exact Or.inr (Or.inr (Or.inl ⟨(fun k hk => hi2 k (by omega)), (fun x hx hh => by
            obtain ⟨j, hj⟩ := List.getElem?_of_mem hx
            exact hi28 j (by have := (List.getElem?_eq_some_iff.mp hj).1; omega) ((et_like_iff hK3 hR hj).mpr hh)), by omega, rfl, ⟨num, pri, hit, val, msk, ask, hR, rfl⟩⟩))
    · have c33 : ¬ nI B.length ≤ nI t := c33
      rw [nI_leI (by omega) (by omega)] at c33
      refine lv_aload_n hx hb dX1_insert_36 rfl (lv_at hl 0 rfl) ?_
      refine lv_iload_n hx hb dX1_insert_37 rfl (lv_at hl 2 rfl) ?_
      refine lv_iload_n hx hb dX1_insert_38 rfl (lv_at hl 1 rfl) ?_
      refine eb_calli (As := [.int (nI t), .int pp]) (rest := []) ⟨hx, hb, hml, hown, hts⟩ (tM_like l D q cs hK3 (t) (by omega) pp) (cwV 2 hts gM_like rfl rfl rfl (by decide +kernel) ⟨Nat.le_of_ble_eq_true rfl, Nat.le_of_ble_eq_true rfl⟩) hK hP hD hS hA rfl rfl rfl rfl hl.1 rfl (Nat.le_of_ble_eq_true rfl) dX1_insert_39 ⟨Nat.zero_le _, Nat.zero_le _⟩ (fun r1 w1 H locs hq hP hD hS => ?_)
      obtain ⟨rfl, hq1⟩ := hq
      refine lv_if_eq (tgt := 48) hx hb dX1_insert_42 (by decide) (fun c42 => ?_) (fun c42 => ?_)
      · have c42 := et_b0 hq1 c42
        refine lv_iinc (k := 2) (v := nI (t + 1)) hx hb dX1_insert_48 hl rfl (nI_add t 1) (by decide) rfl (fun ls hl => ?_)
        have hl : lv_has ls 3 [(2, .int (nI (t + 1))), (0, .ref (q 0)), (1, .int pp)] := hl
        refine lv_goto (tgt := 28) hx hb dX1_insert_51 (by decide) ?_
        exact hrec28 ls H locs (by omega) ⟨lv_sub hl [1, 2, 0] rfl, hP, hD, hS, lt_s hi28 c42⟩
      · have c42 := et_b1 hq1 c42
        refine lv_bipush (v := (-4)) hx hb dX1_insert_45 (by decide) ?_
        have ht1 : t < B.length := by omega
        have hx1 : B[t]? = some B[t] := List.getElem?_eq_getElem ht1
        refine eb_iret hx hb hr hlk hK hP hD hS dX1_insert_47 ?_
        exact Or.inr (Or.inl ⟨(fun k hk => hi2 k (by omega)), ⟨B[t], List.mem_of_getElem? hx1, (et_like_iff hK3 hR hx1).mp c42⟩, rfl, ⟨num, pri, hit, val, msk, ask, hR, rfl⟩⟩)
  · have c7 : ¬ nI K ≤ nI i := c7
    rw [nI_leI (by omega) (by omega)] at c7
    refine lv_aload_n hx hb dX1_insert_10 rfl (lv_at hl 0 rfl) ?_
    refine lv_iload_n hx hb dX1_insert_11 rfl (lv_at hl 2 rfl) ?_
    refine eb_calli (As := [.int (nI i)]) (rest := []) ⟨hx, hb, hml, hown, hts⟩ (tM_good l D q cs (i) (by omega)) (cwV 1 hts gM_good rfl rfl rfl (by decide +kernel) ⟨Nat.le_of_ble_eq_true rfl, Nat.le_of_ble_eq_true rfl⟩) hK hP hD hS hA rfl rfl rfl rfl hl.1 rfl (Nat.le_of_ble_eq_true rfl) dX1_insert_12 ⟨Nat.zero_le _, Nat.zero_le _⟩ (fun r1 w1 H locs hq hP hD hS => ?_)
    obtain ⟨rfl, hq1⟩ := hq
    refine lv_if_ne (tgt := 20) hx hb dX1_insert_15 (by decide) (fun c15 => ?_) (fun c15 => ?_)
    · have c15 := et_b1 hq1 c15
      refine lv_iinc (k := 2) (v := nI (i + 1)) hx hb dX1_insert_20 hl rfl (nI_add i 1) (by decide) rfl (fun ls hl => ?_)
      have hl : lv_has ls 3 [(2, .int (nI (i + 1))), (0, .ref (q 0)), (1, .int pp)] := hl
      refine lv_goto (tgt := 2) hx hb dX1_insert_23 (by decide) ?_
      exact hrec2 ls H locs (by omega) ⟨lv_sub hl [1, 2, 0] rfl, hP, hD, hS, lt_s hi2 c15⟩
    · have c15 := et_b0 hq1 c15
      refine lv_iconst (v := (-1)) hx hb dX1_insert_18 (by decide) ?_
      refine eb_iret hx hb hr hlk hK hP hD hS dX1_insert_19 ?_
      exact Or.inl ⟨fun hh => c15 (hh i (by omega)), rfl, ⟨num, pri, hit, val, msk, ask, hR, rfl⟩⟩
end
section
set_option maxHeartbeats 4000000 in
set_option maxRecDepth 100000 in
theorem tM_find (l : Launch) (D : va_G) (q : Nat → Nat) (cs : Nat → ClassId) {K w N : Nat} {B : List et_E} {kd num pri hit : Nat → Int32} {val msk dv dm ask : Nat → Int64} {ms : Int32} (hK3 : K ≤ 3) (hR : et_RR B num pri hit val msk) (hw : w < 49) (hn : ∀ x ∈ B, et_n x < 2 ^ 31) (a b c0 : Int64) : eb_MI l D vwCl (MTy cs) yX1_find wsM_find { frames := 2, cells := 0, slots := 0, locals := 80 } [.ref (q 0), .long a, .long b, .long c0] (MW q cs (nI K) (nI w) kd num pri hit val msk dv dm ask (nI B.length) (nI N) ms) (fun r w1 => et_QMf (et_SM q cs K w kd) K w kd dv dm N ms B (et_k3 a b c0) r w1) := by
  refine eb_openI (cc := cX1_find) (maxL := 9) (ret := (some .int)) (by decide +kernel) rfl (Nat.le_of_ble_eq_true rfl) ?_
  intro p e s m below meth c A ls H locs hx hb hr hts hown hlk hml hP hK hD hA hS hl
  have hU : ∀ w ∈ wsX10, w ∈ wsM_find := fun w h => List.mem_cons_of_mem _ (MALL_u w h)
  have hf_asked := hts (.fieldLink RX1 35 "EntryTableModel" "asked" "[J") (by decide +kernel)
  have hf_width := hts (.fieldLink RX1 42 "EntryTableModel" "width" "I") (by decide +kernel)
  have hf_count := hts (.fieldLink RX1 59 "EntryTableModel" "count" "I") (by decide +kernel)
  have hf_missed := hts (.fieldLink RX1 83 "EntryTableModel" "missed" "I") (by decide +kernel)
  have hf_hits := hts (.fieldLink RX1 19 "EntryTableModel" "hits" "[I") (by decide +kernel)
  have hf_number := hts (.fieldLink RX1 13 "EntryTableModel" "number" "[I") (by decide +kernel)
  have hC := hR.1
  have hl : lv_has ls 9 [(0, .ref (q 0)), (1, .long a), (3, .long b), (5, .long c0)] := hl
  refine lv_aload_n hx hb dX1_find_0 rfl (lv_at hl 0 rfl) ?_
  refine va_get (D := D) (ci := 1) (C := RX1) (T := TX1) (N := 14) hx hb hts hU hown hK hP 0 rfl rfl 10 (by decide) hf_asked (fun _ h9 => h9) rfl dX1_find_1 ?_
  refine lv_iconst (v := 0) hx hb dX1_find_4 (by decide) ?_
  refine lv_lload_n hx hb dX1_find_5 rfl (lv_at hl 1 rfl) ?_
  refine lv_lconst (v := 1) hx hb dX1_find_6 (by decide) ?_
  refine lv_aload_n hx hb dX1_find_7 rfl (lv_at hl 0 rfl) ?_
  refine va_get (D := D) (ci := 1) (C := RX1) (T := TX1) (N := 14) hx hb hts hU hown hK hP 0 rfl rfl 1 (by decide) hf_width (fun _ h9 => h9) rfl dX1_find_8 ?_
  refine lv_lshl hx hb dX1_find_11 rfl ?_
  refine lv_lconst (v := 1) hx hb dX1_find_12 (by decide) ?_
  refine lv_lsub hx hb dX1_find_13 ?_
  refine lv_land hx hb dX1_find_14 ?_
  refine eb_last hx hb hK hP hD hS 9 8 rfl rfl (0) (by omega) (by decide) dX1_find_15 (fun H locs hP hD hS => ?_)
  have hP : va_P D vwCl (MW q cs (nI K) (nI w) kd num pri hit val msk dv dm (vp_updL ask 0 (a &&& ((1 <<< ((nI w).toInt64 &&& 63)) - 1))) (nI B.length) (nI N) ms) H := hP
  have hD : va_D A (MW q cs (nI K) (nI w) kd num pri hit val msk dv dm (vp_updL ask 0 (a &&& ((1 <<< ((nI w).toInt64 &&& 63)) - 1))) (nI B.length) (nI N) ms) := hD
  refine lv_aload_n hx hb dX1_find_16 rfl (lv_at hl 0 rfl) ?_
  refine va_get (D := D) (ci := 1) (C := RX1) (T := TX1) (N := 14) hx hb hts hU hown hK hP 0 rfl rfl 10 (by decide) hf_asked (fun _ h9 => h9) rfl dX1_find_17 ?_
  refine lv_iconst (v := 1) hx hb dX1_find_20 (by decide) ?_
  refine lv_lload_n hx hb dX1_find_21 rfl (lv_at hl 2 rfl) ?_
  refine lv_lconst (v := 1) hx hb dX1_find_22 (by decide) ?_
  refine lv_aload_n hx hb dX1_find_23 rfl (lv_at hl 0 rfl) ?_
  refine va_get (D := D) (ci := 1) (C := RX1) (T := TX1) (N := 14) hx hb hts hU hown hK hP 0 rfl rfl 1 (by decide) hf_width (fun _ h9 => h9) rfl dX1_find_24 ?_
  refine lv_lshl hx hb dX1_find_27 rfl ?_
  refine lv_lconst (v := 1) hx hb dX1_find_28 (by decide) ?_
  refine lv_lsub hx hb dX1_find_29 ?_
  refine lv_land hx hb dX1_find_30 ?_
  refine eb_last hx hb hK hP hD hS 9 8 rfl rfl (1) (by omega) (by decide) dX1_find_31 (fun H locs hP hD hS => ?_)
  have hP : va_P D vwCl (MW q cs (nI K) (nI w) kd num pri hit val msk dv dm (vp_updL (vp_updL ask 0 (a &&& ((1 <<< ((nI w).toInt64 &&& 63)) - 1))) 1 (b &&& ((1 <<< ((nI w).toInt64 &&& 63)) - 1))) (nI B.length) (nI N) ms) H := hP
  have hD : va_D A (MW q cs (nI K) (nI w) kd num pri hit val msk dv dm (vp_updL (vp_updL ask 0 (a &&& ((1 <<< ((nI w).toInt64 &&& 63)) - 1))) 1 (b &&& ((1 <<< ((nI w).toInt64 &&& 63)) - 1))) (nI B.length) (nI N) ms) := hD
  refine lv_aload_n hx hb dX1_find_32 rfl (lv_at hl 0 rfl) ?_
  refine va_get (D := D) (ci := 1) (C := RX1) (T := TX1) (N := 14) hx hb hts hU hown hK hP 0 rfl rfl 10 (by decide) hf_asked (fun _ h9 => h9) rfl dX1_find_33 ?_
  refine lv_iconst (v := 2) hx hb dX1_find_36 (by decide) ?_
  refine lv_lload hx hb dX1_find_37 (lv_at hl 3 rfl) ?_
  refine lv_lconst (v := 1) hx hb dX1_find_39 (by decide) ?_
  refine lv_aload_n hx hb dX1_find_40 rfl (lv_at hl 0 rfl) ?_
  refine va_get (D := D) (ci := 1) (C := RX1) (T := TX1) (N := 14) hx hb hts hU hown hK hP 0 rfl rfl 1 (by decide) hf_width (fun _ h9 => h9) rfl dX1_find_41 ?_
  refine lv_lshl hx hb dX1_find_44 rfl ?_
  refine lv_lconst (v := 1) hx hb dX1_find_45 (by decide) ?_
  refine lv_lsub hx hb dX1_find_46 ?_
  refine lv_land hx hb dX1_find_47 ?_
  refine eb_last hx hb hK hP hD hS 9 8 rfl rfl (2) (by omega) (by decide) dX1_find_48 (fun H locs hP hD hS => ?_)
  have hP : va_P D vwCl (MW q cs (nI K) (nI w) kd num pri hit val msk dv dm (vp_updL (vp_updL (vp_updL ask 0 (a &&& ((1 <<< ((nI w).toInt64 &&& 63)) - 1))) 1 (b &&& ((1 <<< ((nI w).toInt64 &&& 63)) - 1))) 2 (c0 &&& ((1 <<< ((nI w).toInt64 &&& 63)) - 1))) (nI B.length) (nI N) ms) H := hP
  have hD : va_D A (MW q cs (nI K) (nI w) kd num pri hit val msk dv dm (vp_updL (vp_updL (vp_updL ask 0 (a &&& ((1 <<< ((nI w).toInt64 &&& 63)) - 1))) 1 (b &&& ((1 <<< ((nI w).toInt64 &&& 63)) - 1))) 2 (c0 &&& ((1 <<< ((nI w).toInt64 &&& 63)) - 1))) (nI B.length) (nI N) ms) := hD
  refine lv_iconst (v := (-1)) hx hb dX1_find_49 (by decide) ?_
  have hask : ∀ k, k < 3 → (vp_updL (vp_updL (vp_updL ask 0 (a &&& ((1 <<< ((nI w).toInt64 &&& 63)) - 1))) 1 (b &&& ((1 <<< ((nI w).toInt64 &&& 63)) - 1))) 2 (c0 &&& ((1 <<< ((nI w).toInt64 &&& 63)) - 1))) k = et_k3 a b c0 k &&& et_ab w := by
    intro k hk
    rw [← et_abW w hw]
    rcases (show k = 0 ∨ k = 1 ∨ k = 2 by omega) with rfl | rfl | rfl <;> rfl
  generalize (vp_updL (vp_updL (vp_updL ask 0 (a &&& ((1 <<< ((nI w).toInt64 &&& 63)) - 1))) 1 (b &&& ((1 <<< ((nI w).toInt64 &&& 63)) - 1))) 2 (c0 &&& ((1 <<< ((nI w).toInt64 &&& 63)) - 1))) = ask1 at hP hD hask
  refine lv_istore hx hb dX1_find_50 hl (by decide) rfl (fun ls hl => ?_)
  have hl : lv_has ls 9 [(7, .int (-1)), (0, .ref (q 0)), (1, .long a), (3, .long b), (5, .long c0)] := hl
  refine lv_iconst (v := 0) hx hb dX1_find_52 (by decide) ?_
  refine lv_istore hx hb dX1_find_53 hl (by decide) rfl (fun ls hl => ?_)
  have hl : lv_has ls 9 [(8, .int 0), (7, .int (-1)), (0, .ref (q 0)), (1, .long a), (3, .long b), (5, .long c0)] := hl
  refine eb_for (fun (t : Nat) (ls : Array Slot) (H : Heap) (locs : List Loc) => ∃ bs : Int32, lv_has ls 9 [(0, .ref (q 0)), (1, .long a), (3, .long b), (5, .long c0), (7, .int bs), (8, .int (nI t))] ∧ va_P D vwCl (MW q cs (nI K) (nI w) kd num pri hit val msk dv dm ask1 (nI B.length) (nI N) ms) H ∧ va_D A (MW q cs (nI K) (nI w) kd num pri hit val msk dv dm ask1 (nI B.length) (nI N) ms) ∧ va_S A s.heap H locs ∧ (et_fd K kd (et_Mmt K w kd (et_k3 a b c0)) B t bs)) 55 (B.length) ?_ (B.length) (0) ls H locs (by omega) ⟨(-1), lv_sub hl [2, 3, 4, 5, 1, 0] rfl, hP, hD, hS, (Or.inl ⟨rfl, fun j y hj => absurd hj (Nat.not_lt_zero j)⟩)⟩
  intro t ls H locs ht hI hrec55
  obtain ⟨bs, hl, hP, hD, hS, hi55⟩ := hI
  rcases hi55 with ⟨rfl, hno⟩ | ⟨b0, x0, hb0, rfl, hb2, hb3⟩
  · have hl : lv_has ls 9 [(0, .ref (q 0)), (1, .long a), (3, .long b), (5, .long c0), (7, .int (-1)), (8, .int (nI t))] := hl
    refine lv_iload hx hb dX1_find_55 (lv_at hl 5 rfl) ?_
    refine lv_aload_n hx hb dX1_find_57 rfl (lv_at hl 0 rfl) ?_
    refine va_get (D := D) (ci := 1) (C := RX1) (T := TX1) (N := 14) hx hb hts hU hown hK hP 0 rfl rfl 11 (by decide) hf_count (fun _ h9 => h9) rfl dX1_find_58 ?_
    refine lv_icmp_ge (tgt := 99) hx hb dX1_find_61 (by decide) (fun c61 => ?_) (fun c61 => ?_)
    · have c61 : nI B.length ≤ nI t := c61
      rw [nI_leI (by omega) (by omega)] at c61
      refine lv_iload hx hb dX1_find_99 (lv_at hl 4 rfl) ?_
      refine lv_if_ge (tgt := 117) hx hb dX1_find_101 (by decide) (fun c101 => absurd c101 (by decide)) (fun _ => ?_)
      refine lv_aload_n hx hb dX1_find_104 rfl (lv_at hl 0 rfl) ?_
      refine lv_dup hx hb dX1_find_105 rfl ?_
      refine va_get (D := D) (ci := 1) (C := RX1) (T := TX1) (N := 14) hx hb hts hU hown hK hP 0 rfl rfl 13 (by decide) hf_missed (fun _ h9 => h9) rfl dX1_find_106 ?_
      refine lv_iconst (v := 1) hx hb dX1_find_109 (by decide) ?_
      refine lv_iadd hx hb dX1_find_110 ?_
      refine va_put (D := D) (ci := 1) (ty := .int) (C := RX1) (T := TX1) (N := 14) hx hb hts hU tyX1 tyX1_ok nmX1 hown hK hP hD hS 0 rfl rfl 13 (by decide) hf_missed (fun _ h9 => h9) rfl (by decide +kernel) rfl rfl (Nat.le_of_ble_eq_true rfl) dX1_find_111 (fun H locs hP hD hS => ?_)
      have hP : va_P D vwCl (MW q cs (nI K) (nI w) kd num pri hit val msk dv dm ask1 (nI B.length) (nI N) (ms + 1)) H := hP
      have hD : va_D A (MW q cs (nI K) (nI w) kd num pri hit val msk dv dm ask1 (nI B.length) (nI N) (ms + 1)) := hD
      refine lv_bipush (v := (-2)) hx hb dX1_find_114 (by decide) ?_
      refine eb_iret hx hb hr hlk hK hP hD hS dX1_find_116 ?_
      refine Or.inl ⟨fun x hx hh => ?_, rfl, num, pri, hit, val, msk, ask1, hR, rfl⟩
      obtain ⟨j, hj⟩ := List.getElem?_of_mem hx
      exact hno j x (by have := (List.getElem?_eq_some_iff.mp hj).1; omega) hj hh
    · have c61 : ¬ nI B.length ≤ nI t := c61
      rw [nI_leI (by omega) (by omega)] at c61
      refine lv_aload_n hx hb dX1_find_64 rfl (lv_at hl 0 rfl) ?_
      refine lv_iload hx hb dX1_find_65 (lv_at hl 5 rfl) ?_
      refine eb_calli (As := [.int (nI t)]) (rest := []) ⟨hx, hb, hml, hown, hts⟩ (tM_matches l D q cs hK3 (t) (by omega)) (cwV 1 hts gM_matches rfl rfl rfl (by decide +kernel) ⟨Nat.le_of_ble_eq_true rfl, Nat.le_of_ble_eq_true rfl⟩) hK hP hD hS hA rfl rfl rfl rfl hl.1 rfl (Nat.le_of_ble_eq_true rfl) dX1_find_67 ⟨Nat.zero_le _, Nat.zero_le _⟩ (fun r1 w1 H locs hq hP hD hS => ?_)
      obtain ⟨rfl, hq1⟩ := hq
      refine lv_if_eq (tgt := 93) hx hb dX1_find_70 (by decide) (fun c70 => ?_) (fun c70 => ?_)
      · have c70 := et_b0 hq1 c70
        refine lv_iinc (k := 5) (v := nI (t + 1)) hx hb dX1_find_93 hl rfl (nI_add t 1) (by decide) rfl (fun ls hl => ?_)
        have hl : lv_has ls 9 [(8, .int (nI (t + 1))), (0, .ref (q 0)), (1, .long a), (3, .long b), (5, .long c0), (7, .int (-1))] := hl
        refine lv_goto (tgt := 55) hx hb dX1_find_96 (by decide) ?_
        exact hrec55 ls H locs (by omega) ⟨(-1), lv_sub hl [1, 2, 3, 4, 5, 0] rfl, hP, hD, hS, et_fd_n (Or.inl ⟨rfl, hno⟩) (fun y hy hh => c70 ((et_Mmt_iff hK3 hR hask hy).mpr hh))⟩
      · have c70 := et_b1 hq1 c70
        refine lv_iload hx hb dX1_find_73 (lv_at hl 4 rfl) ?_
        refine lv_if_lt (tgt := 89) hx hb dX1_find_75 (by decide) (fun _ => ?_) (fun c75 => absurd c75 (fun hh => hh (by decide)))
        refine lv_iload hx hb dX1_find_89 (lv_at hl 5 rfl) ?_
        refine lv_istore hx hb dX1_find_91 hl (by decide) rfl (fun ls hl => ?_)
        have hl : lv_has ls 9 [(7, .int (nI t)), (0, .ref (q 0)), (1, .long a), (3, .long b), (5, .long c0), (8, .int (nI t))] := hl
        refine lv_iinc (k := 5) (v := nI (t + 1)) hx hb dX1_find_93 hl rfl (nI_add t 1) (by decide) rfl (fun ls hl => ?_)
        have hl : lv_has ls 9 [(8, .int (nI (t + 1))), (7, .int (nI t)), (0, .ref (q 0)), (1, .long a), (3, .long b), (5, .long c0)] := hl
        refine lv_goto (tgt := 55) hx hb dX1_find_96 (by decide) ?_
        exact hrec55 ls H locs (by omega) ⟨(nI t), lv_sub hl [2, 3, 4, 5, 1, 0] rfl, hP, hD, hS, et_fd_1 hno (List.getElem?_eq_getElem (by omega)) ((et_Mmt_iff hK3 hR hask (List.getElem?_eq_getElem (by omega))).mp c70)⟩
  · have hl : lv_has ls 9 [(0, .ref (q 0)), (1, .long a), (3, .long b), (5, .long c0), (7, .int (nI b0)), (8, .int (nI t))] := hl
    have hb4 := (List.getElem?_eq_some_iff.mp hb0).1
    refine lv_iload hx hb dX1_find_55 (lv_at hl 5 rfl) ?_
    refine lv_aload_n hx hb dX1_find_57 rfl (lv_at hl 0 rfl) ?_
    refine va_get (D := D) (ci := 1) (C := RX1) (T := TX1) (N := 14) hx hb hts hU hown hK hP 0 rfl rfl 11 (by decide) hf_count (fun _ h9 => h9) rfl dX1_find_58 ?_
    refine lv_icmp_ge (tgt := 99) hx hb dX1_find_61 (by decide) (fun c61 => ?_) (fun c61 => ?_)
    · have c61 : nI B.length ≤ nI t := c61
      rw [nI_leI (by omega) (by omega)] at c61
      refine lv_iload hx hb dX1_find_99 (lv_at hl 4 rfl) ?_
      refine lv_if_ge (tgt := 117) hx hb dX1_find_101 (by decide) (fun _ => ?_) (fun c101 => absurd c101 (fun hh => hh (nI_pos' (by omega))))
      refine lv_aload_n hx hb dX1_find_117 rfl (lv_at hl 0 rfl) ?_
      refine va_get (D := D) (ci := 1) (C := RX1) (T := TX1) (N := 14) hx hb hts hU hown hK hP 0 rfl rfl 5 (by decide) hf_hits (fun _ h9 => h9) rfl dX1_find_118 ?_
      refine lv_iload hx hb dX1_find_121 (lv_at hl 4 rfl) ?_
      refine lv_dup2_11 hx hb dX1_find_123 rfl rfl ?_
      refine eb_iald hx hb hK hP 4 3 rfl rfl (b0) (by omega) (by decide) dX1_find_124 ?_
      refine lv_iconst (v := 1) hx hb dX1_find_125 (by decide) ?_
      refine lv_iadd hx hb dX1_find_126 ?_
      refine eb_iast hx hb hK hP hD hS 4 3 rfl rfl (b0) (by omega) (by decide) dX1_find_127 (fun H locs hP hD hS => ?_)
      have hP : va_P D vwCl (MW q cs (nI K) (nI w) kd num pri (upd hit b0 ((hit b0) + 1)) val msk dv dm ask1 (nI B.length) (nI N) ms) H := hP
      have hD : va_D A (MW q cs (nI K) (nI w) kd num pri (upd hit b0 ((hit b0) + 1)) val msk dv dm ask1 (nI B.length) (nI N) ms) := hD
      refine lv_aload_n hx hb dX1_find_128 rfl (lv_at hl 0 rfl) ?_
      refine va_get (D := D) (ci := 1) (C := RX1) (T := TX1) (N := 14) hx hb hts hU hown hK hP 0 rfl rfl 3 (by decide) hf_number (fun _ h9 => h9) rfl dX1_find_129 ?_
      refine lv_iload hx hb dX1_find_132 (lv_at hl 4 rfl) ?_
      refine eb_iald hx hb hK hP 2 1 rfl rfl (b0) (by omega) (by decide) dX1_find_134 ?_
      refine eb_iret hx hb hr hlk hK hP hD hS dX1_find_135 ?_
      refine Or.inr ⟨b0, x0, hb0, hb2, fun y hy hh => ?_, (hR.2 b0 x0 hb0).1, num, pri, _, val, msk, ask1, et_RR_hit hR hb0, by rw [List.length_set]⟩
      obtain ⟨j, hj⟩ := List.getElem?_of_mem hy
      exact hb3 j y (by have := (List.getElem?_eq_some_iff.mp hj).1; omega) hj hh
    · have c61 : ¬ nI B.length ≤ nI t := c61
      rw [nI_leI (by omega) (by omega)] at c61
      refine lv_aload_n hx hb dX1_find_64 rfl (lv_at hl 0 rfl) ?_
      refine lv_iload hx hb dX1_find_65 (lv_at hl 5 rfl) ?_
      refine eb_calli (As := [.int (nI t)]) (rest := []) ⟨hx, hb, hml, hown, hts⟩ (tM_matches l D q cs hK3 (t) (by omega)) (cwV 1 hts gM_matches rfl rfl rfl (by decide +kernel) ⟨Nat.le_of_ble_eq_true rfl, Nat.le_of_ble_eq_true rfl⟩) hK hP hD hS hA rfl rfl rfl rfl hl.1 rfl (Nat.le_of_ble_eq_true rfl) dX1_find_67 ⟨Nat.zero_le _, Nat.zero_le _⟩ (fun r1 w1 H locs hq hP hD hS => ?_)
      obtain ⟨rfl, hq1⟩ := hq
      refine lv_if_eq (tgt := 93) hx hb dX1_find_70 (by decide) (fun c70 => ?_) (fun c70 => ?_)
      · have c70 := et_b0 hq1 c70
        refine lv_iinc (k := 5) (v := nI (t + 1)) hx hb dX1_find_93 hl rfl (nI_add t 1) (by decide) rfl (fun ls hl => ?_)
        have hl : lv_has ls 9 [(8, .int (nI (t + 1))), (0, .ref (q 0)), (1, .long a), (3, .long b), (5, .long c0), (7, .int (nI b0))] := hl
        refine lv_goto (tgt := 55) hx hb dX1_find_96 (by decide) ?_
        exact hrec55 ls H locs (by omega) ⟨(nI b0), lv_sub hl [1, 2, 3, 4, 5, 0] rfl, hP, hD, hS, et_fd_n (Or.inr ⟨b0, x0, hb0, rfl, hb2, hb3⟩) (fun y hy hh => c70 ((et_Mmt_iff hK3 hR hask hy).mpr hh))⟩
      · have c70 := et_b1 hq1 c70
        refine lv_iload hx hb dX1_find_73 (lv_at hl 4 rfl) ?_
        refine lv_if_lt (tgt := 89) hx hb dX1_find_75 (by decide) (fun c75 => absurd c75 (nI_pos (by omega))) (fun _ => ?_)
        refine lv_aload_n hx hb dX1_find_78 rfl (lv_at hl 0 rfl) ?_
        refine lv_iload hx hb dX1_find_79 (lv_at hl 5 rfl) ?_
        refine lv_iload hx hb dX1_find_81 (lv_at hl 4 rfl) ?_
        refine eb_calli (As := [.int (nI t), .int (nI b0)]) (rest := []) ⟨hx, hb, hml, hown, hts⟩ (tM_before l D q cs hK3 (t) (b0) (by omega) (by omega)) (cwV 2 hts gM_before rfl rfl rfl (by decide +kernel) ⟨Nat.le_of_ble_eq_true rfl, Nat.le_of_ble_eq_true rfl⟩) hK hP hD hS hA rfl rfl rfl rfl hl.1 rfl (Nat.le_of_ble_eq_true rfl) dX1_find_83 ⟨Nat.zero_le _, Nat.zero_le _⟩ (fun r2 w1 H locs hq hP hD hS => ?_)
        obtain ⟨rfl, hq2⟩ := hq
        refine lv_if_eq (tgt := 93) hx hb dX1_find_86 (by decide) (fun c86 => ?_) (fun c86 => ?_)
        · have c86 := et_b0 hq2 c86
          refine lv_iinc (k := 5) (v := nI (t + 1)) hx hb dX1_find_93 hl rfl (nI_add t 1) (by decide) rfl (fun ls hl => ?_)
          have hl : lv_has ls 9 [(8, .int (nI (t + 1))), (0, .ref (q 0)), (1, .long a), (3, .long b), (5, .long c0), (7, .int (nI b0))] := hl
          refine lv_goto (tgt := 55) hx hb dX1_find_96 (by decide) ?_
          exact hrec55 ls H locs (by omega) ⟨(nI b0), lv_sub hl [1, 2, 3, 4, 5, 0] rfl, hP, hD, hS, et_fd_k hb0 hb2 hb3 (List.getElem?_eq_getElem (by omega)) (fun hh => c86 ((et_mb_iff hK3 hR hn (List.getElem?_eq_getElem (by omega)) hb0).mpr hh))⟩
        · have c86 := et_b1 hq2 c86
          refine lv_iload hx hb dX1_find_89 (lv_at hl 5 rfl) ?_
          refine lv_istore hx hb dX1_find_91 hl (by decide) rfl (fun ls hl => ?_)
          have hl : lv_has ls 9 [(7, .int (nI t)), (0, .ref (q 0)), (1, .long a), (3, .long b), (5, .long c0), (8, .int (nI t))] := hl
          refine lv_iinc (k := 5) (v := nI (t + 1)) hx hb dX1_find_93 hl rfl (nI_add t 1) (by decide) rfl (fun ls hl => ?_)
          have hl : lv_has ls 9 [(8, .int (nI (t + 1))), (7, .int (nI t)), (0, .ref (q 0)), (1, .long a), (3, .long b), (5, .long c0)] := hl
          refine lv_goto (tgt := 55) hx hb dX1_find_96 (by decide) ?_
          exact hrec55 ls H locs (by omega) ⟨(nI t), lv_sub hl [2, 3, 4, 5, 1, 0] rfl, hP, hD, hS, et_fd_b hb3 (List.getElem?_eq_getElem (by omega)) ((et_Mmt_iff hK3 hR hask (List.getElem?_eq_getElem (by omega))).mp c70) ((et_mb_iff hK3 hR hn (List.getElem?_eq_getElem (by omega)) hb0).mp c86)⟩

set_option maxHeartbeats 4000000 in
set_option maxRecDepth 100000 in
theorem tM_nth (l : Launch) (D : va_G) (q : Nat → Nat) (cs : Nat → ClassId) {K w N : Nat} {B : List et_E} {kd num pri hit : Nat → Int32} {val msk dv dm ask : Nat → Int64} {ms : Int32} (hK3 : K ≤ 3) (hR : et_RR B num pri hit val msk) (hn : ∀ x ∈ B, et_n x < 2 ^ 31) (kk : Int32) : eb_MI l D vwCl (MTy cs) yX1_nth wsM_nth { frames := 2, cells := 0, slots := 0, locals := 80 } [.ref (q 0), .int kk] (MW q cs (nI K) (nI w) kd num pri hit val msk dv dm ask (nI B.length) (nI N) ms) (fun r w1 => et_QMn (et_SM q cs K w kd) K kd dv dm N ms B kk r w1) := by
  refine eb_openI (cc := cX1_nth) (maxL := 5) (ret := (some .int)) (by decide +kernel) rfl (Nat.le_of_ble_eq_true rfl) ?_
  intro p e s m below meth c A ls H locs hx hb hr hts hown hlk hml hP hK hD hA hS hl
  have hU : ∀ w ∈ wsX10, w ∈ wsM_nth := fun w h => List.mem_cons_of_mem _ (MALL_u w h)
  have hf_count := hts (.fieldLink RX1 59 "EntryTableModel" "count" "I") (by decide +kernel)
  have hf_number := hts (.fieldLink RX1 13 "EntryTableModel" "number" "[I") (by decide +kernel)
  have hC := hR.1
  have hl : lv_has ls 5 [(0, .ref (q 0)), (1, .int kk)] := hl
  refine lv_iconst (v := 0) hx hb dX1_nth_0 (by decide) ?_
  refine lv_istore_n hx hb dX1_nth_1 rfl hl (by decide) rfl (fun ls hl => ?_)
  have hl : lv_has ls 5 [(2, .int 0), (0, .ref (q 0)), (1, .int kk)] := hl
  refine eb_for (fun (e0 : Nat) (ls : Array Slot) (H : Heap) (locs : List Loc) => lv_has ls 5 [(0, .ref (q 0)), (1, .int kk), (2, .int (nI e0))] ∧ va_P D vwCl (MW q cs (nI K) (nI w) kd num pri hit val msk dv dm ask (nI B.length) (nI N) ms) H ∧ va_D A (MW q cs (nI K) (nI w) kd num pri hit val msk dv dm ask (nI B.length) (nI N) ms) ∧ va_S A s.heap H locs ∧ (∀ j y, j < e0 → B[j]? = some y → ¬ kk = nI ((B).countP (fun z => decide (et_bf K kd z y))))) 2 (B.length) ?_ (B.length) (0) ls H locs (by omega) ⟨lv_sub hl [1, 2, 0] rfl, hP, hD, hS, fun j y hj => absurd hj (Nat.not_lt_zero j)⟩
  intro e0 ls H locs he0 hI hrec2
  obtain ⟨hl, hP, hD, hS, hi2⟩ := hI
  refine lv_iload_n hx hb dX1_nth_2 rfl (lv_at hl 2 rfl) ?_
  refine lv_aload_n hx hb dX1_nth_3 rfl (lv_at hl 0 rfl) ?_
  refine va_get (D := D) (ci := 1) (C := RX1) (T := TX1) (N := 14) hx hb hts hU hown hK hP 0 rfl rfl 11 (by decide) hf_count (fun _ h9 => h9) rfl dX1_nth_4 ?_
  refine lv_icmp_ge (tgt := 66) hx hb dX1_nth_7 (by decide) (fun c7 => ?_) (fun c7 => ?_)
  · have c7 : nI B.length ≤ nI e0 := c7
    rw [nI_leI (by omega) (by omega)] at c7
    refine lv_bipush (v := (-2)) hx hb dX1_nth_66 (by decide) ?_
    refine eb_iret hx hb hr hlk hK hP hD hS dX1_nth_68 ?_
    refine ⟨⟨num, pri, hit, val, msk, ask, hR, rfl⟩, Or.inl ⟨fun x hx => ?_, rfl⟩⟩
    obtain ⟨j, hj⟩ := List.getElem?_of_mem hx
    exact hi2 j x (by have := (List.getElem?_eq_some_iff.mp hj).1; omega) hj
  · have c7 : ¬ nI B.length ≤ nI e0 := c7
    rw [nI_leI (by omega) (by omega)] at c7
    obtain ⟨ye, hye⟩ : ∃ y, B[e0]? = some y := ⟨B[e0], List.getElem?_eq_getElem (by omega)⟩
    refine lv_iconst (v := 0) hx hb dX1_nth_10 (by decide) ?_
    refine lv_istore_n hx hb dX1_nth_11 rfl hl (by decide) rfl (fun ls hl => ?_)
    have hl : lv_has ls 5 [(3, .int 0), (0, .ref (q 0)), (1, .int kk), (2, .int (nI e0))] := hl
    refine lv_iconst (v := 0) hx hb dX1_nth_12 (by decide) ?_
    refine lv_istore hx hb dX1_nth_13 hl (by decide) rfl (fun ls hl => ?_)
    have hl : lv_has ls 5 [(4, .int 0), (3, .int 0), (0, .ref (q 0)), (1, .int kk), (2, .int (nI e0))] := hl
    refine eb_for (fun (t : Nat) (ls : Array Slot) (H : Heap) (locs : List Loc) => ∃ ah : Int32, lv_has ls 5 [(0, .ref (q 0)), (1, .int kk), (2, .int (nI e0)), (3, .int ah), (4, .int (nI t))] ∧ va_P D vwCl (MW q cs (nI K) (nI w) kd num pri hit val msk dv dm ask (nI B.length) (nI N) ms) H ∧ va_D A (MW q cs (nI K) (nI w) kd num pri hit val msk dv dm ask (nI B.length) (nI N) ms) ∧ va_S A s.heap H locs ∧ (ah = nI ((B.take t).countP (fun z => decide (et_bf K kd z ye))))) 15 (B.length) ?_ (B.length) (0) ls H locs (by omega) ⟨0, lv_sub hl [2, 3, 4, 1, 0] rfl, hP, hD, hS, rfl⟩
    intro t ls H locs ht hI hrec15
    obtain ⟨ah, hl, hP, hD, hS, hi15⟩ := hI
    obtain rfl := hi15
    have hl : lv_has ls 5 [(0, .ref (q 0)), (1, .int kk), (2, .int (nI e0)), (3, .int (nI ((B.take t).countP (fun z => decide (et_bf K kd z ye))))), (4, .int (nI t))] := hl
    refine lv_iload hx hb dX1_nth_15 (lv_at hl 4 rfl) ?_
    refine lv_aload_n hx hb dX1_nth_17 rfl (lv_at hl 0 rfl) ?_
    refine va_get (D := D) (ci := 1) (C := RX1) (T := TX1) (N := 14) hx hb hts hU hown hK hP 0 rfl rfl 11 (by decide) hf_count (fun _ h9 => h9) rfl dX1_nth_18 ?_
    refine lv_icmp_ge (tgt := 48) hx hb dX1_nth_21 (by decide) (fun c21 => ?_) (fun c21 => ?_)
    · have c21 : nI B.length ≤ nI t := c21
      rw [nI_leI (by omega) (by omega)] at c21
      refine lv_iload_n hx hb dX1_nth_48 rfl (lv_at hl 3 rfl) ?_
      refine lv_iload_n hx hb dX1_nth_49 rfl (lv_at hl 1 rfl) ?_
      refine lv_icmp_ne (tgt := 60) hx hb dX1_nth_50 (by decide) (fun c50 => ?_) (fun c50 => ?_)
      · refine lv_iinc (k := 2) (v := nI (e0 + 1)) hx hb dX1_nth_60 hl rfl (nI_add e0 1) (by decide) rfl (fun ls hl => ?_)
        have hl : lv_has ls 5 [(2, .int (nI (e0 + 1))), (0, .ref (q 0)), (1, .int kk), (3, .int (nI ((B.take t).countP (fun z => decide (et_bf K kd z ye))))), (4, .int (nI t))] := hl
        refine lv_goto (tgt := 2) hx hb dX1_nth_63 (by decide) ?_
        exact hrec2 ls H locs (by omega) ⟨lv_sub hl [1, 2, 0] rfl, hP, hD, hS, et_ltx (P := fun y => kk = nI ((B).countP (fun z => decide (et_bf K kd z y)))) hi2 (fun y hy hh => c50 (by rw [hye] at hy; cases hy; rw [hh, List.take_of_length_le (by omega)]))⟩
      · refine lv_aload_n hx hb dX1_nth_53 rfl (lv_at hl 0 rfl) ?_
        refine va_get (D := D) (ci := 1) (C := RX1) (T := TX1) (N := 14) hx hb hts hU hown hK hP 0 rfl rfl 3 (by decide) hf_number (fun _ h9 => h9) rfl dX1_nth_54 ?_
        refine lv_iload_n hx hb dX1_nth_57 rfl (lv_at hl 2 rfl) ?_
        refine eb_iald hx hb hK hP 2 1 rfl rfl (e0) (by omega) (by decide) dX1_nth_58 ?_
        refine eb_iret hx hb hr hlk hK hP hD hS dX1_nth_59 ?_
        exact ⟨⟨num, pri, hit, val, msk, ask, hR, rfl⟩, Or.inr ⟨ye, List.mem_of_getElem? hye, by rw [← c50, List.take_of_length_le (by omega)], (hR.2 e0 ye hye).1⟩⟩
    · have c21 : ¬ nI B.length ≤ nI t := c21
      rw [nI_leI (by omega) (by omega)] at c21
      refine lv_iload_n hx hb dX1_nth_24 rfl (lv_at hl 3 rfl) ?_
      refine lv_aload_n hx hb dX1_nth_25 rfl (lv_at hl 0 rfl) ?_
      refine lv_iload hx hb dX1_nth_26 (lv_at hl 4 rfl) ?_
      refine lv_iload_n hx hb dX1_nth_28 rfl (lv_at hl 2 rfl) ?_
      refine eb_calli (As := [.int (nI t), .int (nI e0)]) (rest := [.int (nI ((B.take t).countP (fun z => decide (et_bf K kd z ye))))]) ⟨hx, hb, hml, hown, hts⟩ (tM_before l D q cs hK3 (t) (e0) (by omega) (by omega)) (cwV 2 hts gM_before rfl rfl rfl (by decide +kernel) ⟨Nat.le_of_ble_eq_true rfl, Nat.le_of_ble_eq_true rfl⟩) hK hP hD hS hA rfl rfl rfl rfl hl.1 rfl (Nat.le_of_ble_eq_true rfl) dX1_nth_29 ⟨Nat.zero_le _, Nat.zero_le _⟩ (fun r1 w1 H locs hq hP hD hS => ?_)
      obtain ⟨rfl, hq1⟩ := hq
      refine lv_if_eq (tgt := 39) hx hb dX1_nth_32 (by decide) (fun c32 => ?_) (fun c32 => ?_)
      · have c32 := et_b0 hq1 c32
        refine lv_iconst (v := 0) hx hb dX1_nth_39 (by decide) ?_
        refine lv_iadd hx hb dX1_nth_40 ?_
        refine eb_ti (nI (((B.take t).countP (fun z => decide (et_bf K kd z ye))) + 0)) (nI_add ((B.take t).countP (fun z => decide (et_bf K kd z ye))) 0) ?_
        refine lv_istore_n hx hb dX1_nth_41 rfl hl (by decide) rfl (fun ls hl => ?_)
        have hl : lv_has ls 5 [(3, .int (nI (((B.take t).countP (fun z => decide (et_bf K kd z ye))) + 0))), (0, .ref (q 0)), (1, .int kk), (2, .int (nI e0)), (4, .int (nI t))] := hl
        refine lv_iinc (k := 4) (v := nI (t + 1)) hx hb dX1_nth_42 hl rfl (nI_add t 1) (by decide) rfl (fun ls hl => ?_)
        have hl : lv_has ls 5 [(4, .int (nI (t + 1))), (3, .int (nI (((B.take t).countP (fun z => decide (et_bf K kd z ye))) + 0))), (0, .ref (q 0)), (1, .int kk), (2, .int (nI e0))] := hl
        refine lv_goto (tgt := 15) hx hb dX1_nth_45 (by decide) ?_
        exact hrec15 ls H locs (by omega) ⟨(nI (((B.take t).countP (fun z => decide (et_bf K kd z ye))) + 0)), lv_sub hl [2, 3, 4, 1, 0] rfl, hP, hD, hS, by rw [et_ct_s (List.getElem?_eq_getElem (by omega)), if_neg (by simpa only [decide_eq_true_eq] using fun hh => c32 ((et_mb_iff hK3 hR hn (List.getElem?_eq_getElem (by omega)) hye).mpr hh))]⟩
      · have c32 := et_b1 hq1 c32
        refine lv_iconst (v := 1) hx hb dX1_nth_35 (by decide) ?_
        refine lv_goto (tgt := 40) hx hb dX1_nth_36 (by decide) ?_
        refine lv_iadd hx hb dX1_nth_40 ?_
        refine eb_ti (nI (((B.take t).countP (fun z => decide (et_bf K kd z ye))) + 1)) (nI_add ((B.take t).countP (fun z => decide (et_bf K kd z ye))) 1) ?_
        refine lv_istore_n hx hb dX1_nth_41 rfl hl (by decide) rfl (fun ls hl => ?_)
        have hl : lv_has ls 5 [(3, .int (nI (((B.take t).countP (fun z => decide (et_bf K kd z ye))) + 1))), (0, .ref (q 0)), (1, .int kk), (2, .int (nI e0)), (4, .int (nI t))] := hl
        refine lv_iinc (k := 4) (v := nI (t + 1)) hx hb dX1_nth_42 hl rfl (nI_add t 1) (by decide) rfl (fun ls hl => ?_)
        have hl : lv_has ls 5 [(4, .int (nI (t + 1))), (3, .int (nI (((B.take t).countP (fun z => decide (et_bf K kd z ye))) + 1))), (0, .ref (q 0)), (1, .int kk), (2, .int (nI e0))] := hl
        refine lv_goto (tgt := 15) hx hb dX1_nth_45 (by decide) ?_
        exact hrec15 ls H locs (by omega) ⟨(nI (((B.take t).countP (fun z => decide (et_bf K kd z ye))) + 1)), lv_sub hl [2, 3, 4, 1, 0] rfl, hP, hD, hS, by rw [et_ct_s (List.getElem?_eq_getElem (by omega)), if_pos (by simpa only [decide_eq_true_eq] using (et_mb_iff hK3 hR hn (List.getElem?_eq_getElem (by omega)) hye).mp c32)]⟩
end
section
/-! Constructors: how they begin and end; the numbers that both sides make of their arguments. -/
theorem eb_openC {l : Launch} {D : va_G} {cl : List vw_C} {tys : List (ClassId × FieldType)} {y : MethodName} {ws ws' : List Cond} {rm : Room} {cc : ByteArray} {maxL : Nat} {ret : Option FieldType} {av : List Value} {w0 : va_W} {mc ms : Nat} {Qc : (Nat → Prop) → Array Value → State → Outcome → State → Prop} (hy : plainName y.cls = true) (hi : y.name = "<init>") (hw : ws = Cond.code y cc maxL ret :: ws') (hnl : (lg_sl av).length ≤ maxL)
    (body : ∀ (p : Program) (e : Env) (s : State) (m : MethodId) (below : List Frame) (meth : Method) (c : Code) (A : Nat → Prop) (ls : Array Slot) (H : Heap) (locs : List Loc), p.tables.exec = Jvm.exec → c.code = cc → meth.sig.returnType = ret → (∀ w ∈ ws, w.before av.toArray s = true) → s.vm.findClass y.cls = some m.cls → meth.locks = false → c.maxLocals = maxL → meth.name = "<init>" → va_P D cl w0 H → va_K D cl tys s → va_D A w0 → (∀ q : Nat, s.heap.size ≤ q → A q) → va_S A s.heap H locs → lv_has ls maxL (lv_args 0 av) → W p l e rm s m av.toArray below meth c H locs 0 0 (MQ below (Qc A) av.toArray s mc ms A) (F0 m 0 ls [])) : ∀ sz : Nat, Met l y ws rm (va_Pc av (eb_pre D cl tys w0 sz)) (Qc (va_A w0 sz)) mc ms (va_A w0 sz) := by
  intro sz
  refine Met.ofW (cc := cc) (maxL := maxL) (ret := ret) hy hw ?_
  intro p e s m args below meth c s₁ B hml hv
  obtain ⟨rfl, hsz, hP, hK, hD0⟩ := hv
  subst hsz
  have hl := lv_entry av (n := maxL) hnl
  have hin : meth.name = y.name := (name_of_methodNamed B.named B.method).1
  rw [lg_entry_eq]
  exact body p e s m below meth c (va_A w0 s.heap.size) _ _ _ B.exec B.bytes B.returns (atoms_spec (ws := ws) B.pre) (findClass_of_methodNamed B.named) B.notSynchronized hml (hin.trans hi) hP hK (hD0.self (sz := s.heap.size)) (fun q h => Or.inr h) va_S.rf hl
section EK
variable {p : Program} {l : Launch} {e : Env} {R : Room} {s : State} {m : MethodId} {args : Array Value} {below : List Frame} {meth : Method} {c : Code} {H : Heap} {locs : List Loc} {cells slots : Nat} {Q : State → Prop}
variable {cc : ByteArray} {pc : Nat} {ls : Array Slot} {st : List Value} {D : va_G} {cl : List vw_C} {A : Nat → Prop} {H0 : Heap}
abbrev eb_endS {S : Type} (D : va_G) (cl : List vw_C) (tf : S → List (ClassId × FieldType)) (wf : S → va_W) (A : Nat → Prop) : S → State → Prop := fun u t => va_P D cl (wf u) t.heap ∧ va_K D cl (tf u) t ∧ va_D A (wf u)
theorem eb_vretC {S : Type} {post : S → Prop} {wf : S → va_W} {tf : S → List (ClassId × FieldType)} (u : S) (hx : p.tables.exec = Jvm.exec) (hb : c.code = cc) (hr : meth.sig.returnType = none) (hlk : meth.locks = false) (hK : va_K D cl (tf u) s) (hP : va_P D cl (wf u) H) (hD : va_D A (wf u)) (hS : va_S A s.heap H locs) (hdg : decode cc pc = .ok (.return_, 1)) (hpost : post u) :
    W p l e R s m args below meth c H locs cells slots (MQ below (va_Qv post (eb_endS D cl tf wf A) A) args s cells slots A) (F0 m pc ls []) :=
  W.vret hx hb hr (fun t ht hW => ⟨⟨u, rfl, hpost, by rw [ht]; exact hP, va_K.moved hW.alike hK, hD⟩, hS.F ht⟩) hS.2.2 hdg hlk
theorem eb_ji (w : va_W) (hP : va_P D cl w H) (hS : va_S A H0 H locs) (pc2 : Nat) (y : Int32) (k1 : (∀ (x : Int32) (H1 : Heap) (locs1 : List Loc), x = y → va_P D cl w H1 → va_S A H0 H1 locs1 → W p l e R s m args below meth c H1 locs1 cells slots Q (F0 m pc2 ls (.int x :: st))) → W p l e R s m args below meth c H locs cells slots Q (F0 m pc ls st)) (k2 : ∀ (H1 : Heap) (locs1 : List Loc), va_P D cl w H1 → va_S A H0 H1 locs1 → W p l e R s m args below meth c H1 locs1 cells slots Q (F0 m pc2 ls (.int y :: st))) : W p l e R s m args below meth c H locs cells slots Q (F0 m pc ls st) := k1 (fun x H1 locs1 h => by rw [h]; exact k2 H1 locs1)
end EK
/-- a number held between 1 and h -/
def et_cl (h : Nat) (x : Int32) : Nat := if x.toInt < 1 then 1 else if (h : Int) < x.toInt then h else x.toInt.toNat
theorem et_cl_in {h : Nat} (hh : 1 ≤ h) (x : Int32) : 1 ≤ et_cl h x ∧ et_cl h x ≤ h := by
  unfold et_cl
  split
  · omega
  · split <;> omega
theorem et_cl_lo {h : Nat} {x : Int32} (hx : x < 1) : (1 : Int32) = nI (et_cl h x) := by
  rw [Int32.lt_iff_toInt_lt] at hx
  have h1 : (1 : Int32).toInt = 1 := by decide
  unfold et_cl
  rw [if_pos (by omega)]
  rfl
theorem et_cl_hi {h : Nat} (hb : h < 2 ^ 31) {x : Int32} (h0 : ¬ x < 1) (hx : nI h < x) : nI h = nI (et_cl h x) := by
  rw [Int32.lt_iff_toInt_lt] at hx h0
  rw [nI_toInt hb] at hx
  have h1 : (1 : Int32).toInt = 1 := by decide
  unfold et_cl
  rw [if_neg (by omega), if_pos hx]
theorem et_cl_mid {h : Nat} (hb : h < 2 ^ 31) {x : Int32} (h0 : ¬ x < 1) (hx : ¬ nI h < x) : x = nI (et_cl h x) := by
  rw [Int32.lt_iff_toInt_lt] at hx h0
  rw [nI_toInt hb] at hx
  have h1 : (1 : Int32).toInt = 1 := by decide
  unfold et_cl
  rw [if_neg (by omega), if_neg hx]
  apply Int32.toInt_inj.mp
  rw [nI_toInt (by omega)]
  omega
theorem et_cl_X {h : Nat} (h1 : 1 ≤ h) (hb : h < 2 ^ 31) (x : Int32) : (if (1 : Int32) < (if x < nI h then x else nI h) then (if x < nI h then x else nI h) else 1) = nI (et_cl h x) := by
  have e1 : (1 : Int32).toInt = 1 := by decide
  have eh : (nI h).toInt = h := nI_toInt hb
  by_cases a : x < nI h
  · rw [if_pos a]
    by_cases b : (1 : Int32) < x
    · rw [if_pos b]
      rw [Int32.lt_iff_toInt_lt] at a b
      exact et_cl_mid hb (by rw [Int32.lt_iff_toInt_lt]; omega) (by rw [Int32.lt_iff_toInt_lt]; omega)
    · rw [if_neg b]
      by_cases d : x < 1
      · exact et_cl_lo d
      · have : x = 1 := by
          apply Int32.toInt_inj.mp
          rw [Int32.lt_iff_toInt_lt] at b d
          omega
        subst this
        exact et_cl_mid hb d (by rw [Int32.lt_iff_toInt_lt] at a ⊢; omega)
  · rw [if_neg a]
    rw [Int32.lt_iff_toInt_lt] at a
    by_cases b : (1 : Int32) < nI h
    · rw [if_pos b]
      rw [Int32.lt_iff_toInt_lt] at b
      by_cases d : nI h < x
      · exact et_cl_hi hb (by rw [Int32.lt_iff_toInt_lt]; omega) d
      · have : x = nI h := by
          apply Int32.toInt_inj.mp
          rw [Int32.lt_iff_toInt_lt] at d
          omega
        subst this
        exact et_cl_mid hb (by rw [Int32.lt_iff_toInt_lt]; omega) d
    · rw [if_neg b]
      rw [Int32.lt_iff_toInt_lt] at b
      have hh : h = 1 := by omega
      subst hh
      by_cases d : nI 1 < x
      · exact et_cl_hi hb (by rw [Int32.lt_iff_toInt_lt]; omega) d
      · have : x = nI 1 := by
          apply Int32.toInt_inj.mp
          rw [Int32.lt_iff_toInt_lt] at d
          omega
        subst this
        exact et_cl_mid hb (by decide) d
def et_d0 (x : Int32) : Nat := x.toInt.toNat
theorem et_d0_lt (x : Int32) : et_d0 x < 2 ^ 31 := by
  have := Int32.toInt_lt x
  unfold et_d0
  omega
theorem et_d0_pos {x : Int32} (h : ¬ x < 0) : x = nI (et_d0 x) := by
  have h0 : (0 : Int32).toInt = 0 := by decide
  rw [Int32.lt_iff_toInt_lt] at h
  apply Int32.toInt_inj.mp
  rw [nI_toInt (et_d0_lt x)]
  unfold et_d0
  omega
theorem et_d0_neg {x : Int32} (h : ¬ 0 < x) : (0 : Int32) = nI (et_d0 x) := by
  have h0 : (0 : Int32).toInt = 0 := by decide
  rw [Int32.lt_iff_toInt_lt] at h
  have : et_d0 x = 0 := by unfold et_d0; omega
  rw [this]
  rfl
theorem et_d0_X (x : Int32) : (if (0 : Int32) < x then x else 0) = nI (et_d0 x) := by
  by_cases h : (0 : Int32) < x
  · rw [if_pos h]
    refine et_d0_pos ?_
    rw [Int32.lt_iff_toInt_lt] at h ⊢
    omega
  · rw [if_neg h]
    exact et_d0_neg h
/-- the kinds: digits to the base 3; a second 1 is a 0 -/
def et_hp (n i : Nat) : Prop := ∃ j, j < i ∧ n / 3 ^ j % 3 = 1
noncomputable def et_kv (n i : Nat) : Int32 := @ite Int32 (n / 3 ^ i % 3 = 1 ∧ et_hp n i) (Classical.propDecidable _) 0 (nI (n / 3 ^ i % 3))
noncomputable def et_kf (n i : Nat) : Nat → Int32 := fun j => if j < i then et_kv n j else 0
theorem et_kf_0 {n : Nat} : (fun _ => 0) = et_kf n 0 := by
  funext j; unfold et_kf; rw [if_neg (Nat.not_lt_zero j)]
theorem et_kf_s {n i : Nat} {v : Int32} (hv : v = et_kv n i) : upd (et_kf n i) i v = et_kf n (i + 1) := by
  funext j
  unfold upd et_kf
  by_cases h : j = i
  · subst h
    rw [if_pos rfl, if_pos (by omega), hv]
  · rw [if_neg h]
    by_cases h2 : j < i
    · rw [if_pos h2, if_pos (by omega)]
    · rw [if_neg h2, if_neg (by omega)]
theorem et_kv_1 {n i : Nat} (h1 : n / 3 ^ i % 3 = 1) (h2 : et_hp n i) : (0 : Int32) = et_kv n i := by
  unfold et_kv; rw [if_pos ⟨h1, h2⟩]
theorem et_kv_2 {n i : Nat} (h1 : ¬ n / 3 ^ i % 3 = 1) : nI (n / 3 ^ i % 3) = et_kv n i := by
  unfold et_kv; rw [if_neg (fun h => h1 h.1)]
theorem et_kv_3 {n i : Nat} (h2 : ¬ et_hp n i) : nI (n / 3 ^ i % 3) = et_kv n i := by
  unfold et_kv; rw [if_neg (fun h => h2 h.2)]
theorem et_hp_0 {n : Nat} : ¬ et_hp n 0 := fun ⟨j, h, _⟩ => Nat.not_lt_zero j h
theorem et_hp_k {n i : Nat} (h : et_hp n i) : et_hp n (i + 1) := by
  obtain ⟨j, h1, h2⟩ := h
  exact ⟨j, by omega, h2⟩
theorem et_hp_1 {n i : Nat} (h : n / 3 ^ i % 3 = 1) : et_hp n (i + 1) := ⟨i, Nat.lt_succ_self i, h⟩
theorem et_hp_n {n i : Nat} (h : ¬ et_hp n i) (h1 : ¬ n / 3 ^ i % 3 = 1) : ¬ et_hp n (i + 1) := by
  rintro ⟨j, h2, h3⟩
  by_cases e : j = i
  · subst e; exact h1 h3
  · exact h ⟨j, by omega, h3⟩
theorem et_dg_s {n i : Nat} : n / 3 ^ i / 3 = n / 3 ^ (i + 1) := by
  rw [Nat.div_div_eq_div_mul, Nat.pow_succ]
theorem et_kf_kk (n : Nat) : ∀ k, et_kk (et_kf n 3 k) := by
  intro k
  unfold et_kf
  split
  · unfold et_kv
    by_cases h : (n / 3 ^ k % 3 = 1 ∧ et_hp n k)
    · rw [if_pos h]; exact Or.inl rfl
    · rw [if_neg h]
      have h3 : n / 3 ^ k % 3 < 3 := Nat.mod_lt _ (by decide)
      generalize n / 3 ^ k % 3 = x at h3
      rcases (show x = 0 ∨ x = 1 ∨ x = 2 by omega) with rfl | rfl | rfl
      · exact Or.inl rfl
      · exact Or.inr (Or.inl rfl)
      · exact Or.inr (Or.inr rfl)
  · exact Or.inl rfl
theorem et_d0_neg' {x : Int32} (h : x < 0) : (0 : Int32) = nI (et_d0 x) := by
  refine et_d0_neg ?_
  rw [Int32.lt_iff_toInt_lt] at h ⊢
  omega
theorem et_uu {f : Nat → Int32} {k : Nat} {v w : Int32} : upd (upd f k v) k w = upd f k w := by
  funext j
  unfold upd
  by_cases h : j = k
  · rw [if_pos h, if_pos h]
  · rw [if_neg h, if_neg h, if_neg h]
end
section
set_option maxHeartbeats 1000000 in
set_option maxRecDepth 100000 in
theorem tX_init (l : Launch) (D : va_G) (h0 : Nat) (a1 a2 a3 : Int32) : ∀ sz : Nat, Met l yX0_init wsX0_init { frames := 1, cells := 10, slots := 273, locals := 40 } (va_Pc [.ref h0, .int a1, .int a2, .int a3] (eb_pre D vwCl [] [(h0, .inr (0, [.int 0, .int 0, .long 0, .null, .null, .null, .null, .int 0, .int 0, .int 0, .null, .null, .null, .null, .null, .null]))] sz)) (va_Qv (fun u : (Nat → Nat) × (Nat → ClassId) × (Nat → Int32) => u.1 0 = h0 ∧ ∀ r, r < 24 → u.2.2 r = nI r) (eb_endS D vwCl (fun u => XTy u.2.1) (fun u => XW u.1 u.2.1 (nI (et_cl 3 a1)) (nI (et_cl 48 a3)) (et_ab (et_cl 48 a3)) (et_kf (et_d0 a2) 3) (fun _ => 0) (fun _ => 0) u.2.2 0 0 0 (fun _ => 0) (fun _ => 0) (fun _ => 0) (fun _ => 0) (fun _ => 0) (fun _ => 0)) (va_A [(h0, .inr (0, [.int 0, .int 0, .long 0, .null, .null, .null, .null, .int 0, .int 0, .int 0, .null, .null, .null, .null, .null, .null]))] sz)) (va_A [(h0, .inr (0, [.int 0, .int 0, .long 0, .null, .null, .null, .null, .int 0, .int 0, .int 0, .null, .null, .null, .null, .null, .null]))] sz)) 10 273 (va_A [(h0, .inr (0, [.int 0, .int 0, .long 0, .null, .null, .null, .null, .int 0, .int 0, .int 0, .null, .null, .null, .null, .null, .null]))] sz) := by
  refine eb_openC (Qc := fun A => va_Qv (fun u : (Nat → Nat) × (Nat → ClassId) × (Nat → Int32) => u.1 0 = h0 ∧ ∀ r, r < 24 → u.2.2 r = nI r) (eb_endS D vwCl (fun u => XTy u.2.1) (fun u => XW u.1 u.2.1 (nI (et_cl 3 a1)) (nI (et_cl 48 a3)) (et_ab (et_cl 48 a3)) (et_kf (et_d0 a2) 3) (fun _ => 0) (fun _ => 0) u.2.2 0 0 0 (fun _ => 0) (fun _ => 0) (fun _ => 0) (fun _ => 0) (fun _ => 0) (fun _ => 0)) A) A) (cc := cX0_init) (maxL := 8) (ret := none) (by decide +kernel) rfl rfl (Nat.le_of_ble_eq_true rfl) ?_
  intro p e s m below meth c A ls H locs hx hb hr hts hown hlk hml hin hP hK hD hA hS hl
  have hU : ∀ w ∈ wsX00, w ∈ wsX0_init := fun w h => List.mem_cons_of_mem _ (List.mem_append_right _ h)
  have hf_kinds := hts (.fieldLink RX0 9 "EntryTable" "kinds" "[I") (by decide +kernel)
  have hf_draftValues := hts (.fieldLink RX0 13 "EntryTable" "draftValues" "[J") (by decide +kernel)
  have hf_draftMasks := hts (.fieldLink RX0 17 "EntryTable" "draftMasks" "[J") (by decide +kernel)
  have hf_order := hts (.fieldLink RX0 20 "EntryTable" "order" "[I") (by decide +kernel)
  have hf_entries := hts (.fieldLink RX0 23 "EntryTable" "entries" "I") (by decide +kernel)
  have hf_nextNumber := hts (.fieldLink RX0 27 "EntryTable" "nextNumber" "I") (by decide +kernel)
  have hf_misses := hts (.fieldLink RX0 30 "EntryTable" "misses" "I") (by decide +kernel)
  have hf_numbers := hts (.fieldLink RX0 33 "EntryTable" "numbers" "[I") (by decide +kernel)
  have hf_priorities := hts (.fieldLink RX0 36 "EntryTable" "priorities" "[I") (by decide +kernel)
  have hf_prefixes := hts (.fieldLink RX0 39 "EntryTable" "prefixes" "[I") (by decide +kernel)
  have hf_finds := hts (.fieldLink RX0 42 "EntryTable" "finds" "[I") (by decide +kernel)
  have hf_values := hts (.fieldLink RX0 45 "EntryTable" "values" "[J") (by decide +kernel)
  have hf_masks := hts (.fieldLink RX0 48 "EntryTable" "masks" "[J") (by decide +kernel)
  have hf_keys := hts (.fieldLink RX0 60 "EntryTable" "keys" "I") (by decide +kernel)
  have hf_width := hts (.fieldLink RX0 63 "EntryTable" "width" "I") (by decide +kernel)
  have hf_allBits := hts (.fieldLink RX0 66 "EntryTable" "allBits" "J") (by decide +kernel)
  have hl : lv_has ls 8 [(0, .ref h0), (1, .int a1), (2, .int a2), (3, .int a3)] := hl
  refine lv_aload_n hx hb dX0_init_0 rfl (lv_at hl 0 rfl) ?_
  refine W.objInit hx hb hown (hts (.methodLink RX0 1 objectInit) (by decide +kernel)) (hts (.instanceMethod objectInit) (by decide +kernel)) (hts _ (List.mem_cons_of_mem _ (List.mem_append_left _ (List.mem_append_left _ (List.mem_of_getElem? (i := 2) rfl))))) rfl (by rw [hml]; exact hl.1) rfl dX0_init_1 (Nat.le_of_ble_eq_true rfl) (Nat.le_of_ble_eq_true rfl) ?_
  refine W.eq (g2 := F0 m 4 ls []) rfl ?_
  refine lv_aload_n hx hb dX0_init_4 rfl (lv_at hl 0 rfl) ?_
  refine lv_iconst (v := 3) hx hb dX0_init_5 (by decide) ?_
  refine va_newa (atype := .int) (ty := .int) (N' := 3) (a0 := (3, .inl (fun _ => 0))) hx hb (hts (.arrayClass .int) (by decide +kernel)) rfl hK hP hD hS hA (fun _ => vp_cell_i ..) (by decide) (by decide) (by decide) (Nat.le_of_ble_eq_true rfl) (Nat.le_of_ble_eq_true rfl) dX0_init_6 (fun q1 c1 H hK hP hD hS => ?_)
  have hK : va_K D vwCl [(c1, .int)] s := hK
  have hP : va_P D vwCl ([(h0, .inr (0, [.int 0, .int 0, .long 0, .null, .null, .null, .null, .int 0, .int 0, .int 0, .null, .null, .null, .null, .null, .null])), (q1, .inl (c1, 3, .inl (fun _ => 0)))]) H := hP
  have hD : va_D A ([(h0, .inr (0, [.int 0, .int 0, .long 0, .null, .null, .null, .null, .int 0, .int 0, .int 0, .null, .null, .null, .null, .null, .null])), (q1, .inl (c1, 3, .inl (fun _ => 0)))]) := hD
  refine va_putF (D := D) (ci := 0) (ty := (.array .int)) (C := RX0) (T := TX0) (N := 16) hx hb hts hU tyX0 tyX0_ok nmX0 hown hK hP hD hS 0 rfl rfl 3 (by decide) hf_kinds (fun _ h9 => h9) rfl hin rfl (by decide +kernel) rfl rfl (Nat.le_of_ble_eq_true rfl) dX0_init_8 (fun H locs hP hD hS => ?_)
  have hP : va_P D vwCl ([(h0, .inr (0, [.int 0, .int 0, .long 0, .ref q1, .null, .null, .null, .int 0, .int 0, .int 0, .null, .null, .null, .null, .null, .null])), (q1, .inl (c1, 3, .inl (fun _ => 0)))]) H := hP
  have hD : va_D A ([(h0, .inr (0, [.int 0, .int 0, .long 0, .ref q1, .null, .null, .null, .int 0, .int 0, .int 0, .null, .null, .null, .null, .null, .null])), (q1, .inl (c1, 3, .inl (fun _ => 0)))]) := hD
  refine lv_aload_n hx hb dX0_init_11 rfl (lv_at hl 0 rfl) ?_
  refine lv_iconst (v := 3) hx hb dX0_init_12 (by decide) ?_
  refine va_newa (atype := .long) (ty := .long) (N' := 3) (a0 := (3, .inr (.inl (fun _ => 0)))) hx hb (hts (.arrayClass .long) (by decide +kernel)) rfl hK hP hD hS hA (fun _ => vp_cell_l ..) (by decide) (by decide) (by decide) (Nat.le_of_ble_eq_true rfl) (Nat.le_of_ble_eq_true rfl) dX0_init_13 (fun q2 c2 H hK hP hD hS => ?_)
  have hK : va_K D vwCl [(c1, .int), (c2, .long)] s := hK
  have hP : va_P D vwCl ([(h0, .inr (0, [.int 0, .int 0, .long 0, .ref q1, .null, .null, .null, .int 0, .int 0, .int 0, .null, .null, .null, .null, .null, .null])), (q1, .inl (c1, 3, .inl (fun _ => 0))), (q2, .inl (c2, 3, .inr (.inl (fun _ => 0))))]) H := hP
  have hD : va_D A ([(h0, .inr (0, [.int 0, .int 0, .long 0, .ref q1, .null, .null, .null, .int 0, .int 0, .int 0, .null, .null, .null, .null, .null, .null])), (q1, .inl (c1, 3, .inl (fun _ => 0))), (q2, .inl (c2, 3, .inr (.inl (fun _ => 0))))]) := hD
  refine va_putF (D := D) (ci := 0) (ty := (.array .long)) (C := RX0) (T := TX0) (N := 16) hx hb hts hU tyX0 tyX0_ok nmX0 hown hK hP hD hS 0 rfl rfl 4 (by decide) hf_draftValues (fun _ h9 => h9) rfl hin rfl (by decide +kernel) rfl rfl (Nat.le_of_ble_eq_true rfl) dX0_init_15 (fun H locs hP hD hS => ?_)
  have hP : va_P D vwCl ([(h0, .inr (0, [.int 0, .int 0, .long 0, .ref q1, .ref q2, .null, .null, .int 0, .int 0, .int 0, .null, .null, .null, .null, .null, .null])), (q1, .inl (c1, 3, .inl (fun _ => 0))), (q2, .inl (c2, 3, .inr (.inl (fun _ => 0))))]) H := hP
  have hD : va_D A ([(h0, .inr (0, [.int 0, .int 0, .long 0, .ref q1, .ref q2, .null, .null, .int 0, .int 0, .int 0, .null, .null, .null, .null, .null, .null])), (q1, .inl (c1, 3, .inl (fun _ => 0))), (q2, .inl (c2, 3, .inr (.inl (fun _ => 0))))]) := hD
  refine lv_aload_n hx hb dX0_init_18 rfl (lv_at hl 0 rfl) ?_
  refine lv_iconst (v := 3) hx hb dX0_init_19 (by decide) ?_
  refine va_newa (atype := .long) (ty := .long) (N' := 3) (a0 := (3, .inr (.inl (fun _ => 0)))) hx hb (hts (.arrayClass .long) (by decide +kernel)) rfl hK hP hD hS hA (fun _ => vp_cell_l ..) (by decide) (by decide) (by decide) (Nat.le_of_ble_eq_true rfl) (Nat.le_of_ble_eq_true rfl) dX0_init_20 (fun q3 c3 H hK hP hD hS => ?_)
  have hK : va_K D vwCl [(c1, .int), (c2, .long), (c3, .long)] s := hK
  have hP : va_P D vwCl ([(h0, .inr (0, [.int 0, .int 0, .long 0, .ref q1, .ref q2, .null, .null, .int 0, .int 0, .int 0, .null, .null, .null, .null, .null, .null])), (q1, .inl (c1, 3, .inl (fun _ => 0))), (q2, .inl (c2, 3, .inr (.inl (fun _ => 0)))), (q3, .inl (c3, 3, .inr (.inl (fun _ => 0))))]) H := hP
  have hD : va_D A ([(h0, .inr (0, [.int 0, .int 0, .long 0, .ref q1, .ref q2, .null, .null, .int 0, .int 0, .int 0, .null, .null, .null, .null, .null, .null])), (q1, .inl (c1, 3, .inl (fun _ => 0))), (q2, .inl (c2, 3, .inr (.inl (fun _ => 0)))), (q3, .inl (c3, 3, .inr (.inl (fun _ => 0))))]) := hD
  refine va_putF (D := D) (ci := 0) (ty := (.array .long)) (C := RX0) (T := TX0) (N := 16) hx hb hts hU tyX0 tyX0_ok nmX0 hown hK hP hD hS 0 rfl rfl 5 (by decide) hf_draftMasks (fun _ h9 => h9) rfl hin rfl (by decide +kernel) rfl rfl (Nat.le_of_ble_eq_true rfl) dX0_init_22 (fun H locs hP hD hS => ?_)
  have hP : va_P D vwCl ([(h0, .inr (0, [.int 0, .int 0, .long 0, .ref q1, .ref q2, .ref q3, .null, .int 0, .int 0, .int 0, .null, .null, .null, .null, .null, .null])), (q1, .inl (c1, 3, .inl (fun _ => 0))), (q2, .inl (c2, 3, .inr (.inl (fun _ => 0)))), (q3, .inl (c3, 3, .inr (.inl (fun _ => 0))))]) H := hP
  have hD : va_D A ([(h0, .inr (0, [.int 0, .int 0, .long 0, .ref q1, .ref q2, .ref q3, .null, .int 0, .int 0, .int 0, .null, .null, .null, .null, .null, .null])), (q1, .inl (c1, 3, .inl (fun _ => 0))), (q2, .inl (c2, 3, .inr (.inl (fun _ => 0)))), (q3, .inl (c3, 3, .inr (.inl (fun _ => 0))))]) := hD
  refine lv_aload_n hx hb dX0_init_25 rfl (lv_at hl 0 rfl) ?_
  refine lv_bipush (v := 24) hx hb dX0_init_26 (by decide) ?_
  refine va_newa (atype := .int) (ty := .int) (N' := 24) (a0 := (24, .inl (fun _ => 0))) hx hb (hts (.arrayClass .int) (by decide +kernel)) rfl hK hP hD hS hA (fun _ => vp_cell_i ..) (by decide) (by decide) (by decide) (Nat.le_of_ble_eq_true rfl) (Nat.le_of_ble_eq_true rfl) dX0_init_28 (fun q4 c4 H hK hP hD hS => ?_)
  have hK : va_K D vwCl [(c1, .int), (c2, .long), (c3, .long), (c4, .int)] s := hK
  have hP : va_P D vwCl ([(h0, .inr (0, [.int 0, .int 0, .long 0, .ref q1, .ref q2, .ref q3, .null, .int 0, .int 0, .int 0, .null, .null, .null, .null, .null, .null])), (q1, .inl (c1, 3, .inl (fun _ => 0))), (q2, .inl (c2, 3, .inr (.inl (fun _ => 0)))), (q3, .inl (c3, 3, .inr (.inl (fun _ => 0)))), (q4, .inl (c4, 24, .inl (fun _ => 0)))]) H := hP
  have hD : va_D A ([(h0, .inr (0, [.int 0, .int 0, .long 0, .ref q1, .ref q2, .ref q3, .null, .int 0, .int 0, .int 0, .null, .null, .null, .null, .null, .null])), (q1, .inl (c1, 3, .inl (fun _ => 0))), (q2, .inl (c2, 3, .inr (.inl (fun _ => 0)))), (q3, .inl (c3, 3, .inr (.inl (fun _ => 0)))), (q4, .inl (c4, 24, .inl (fun _ => 0)))]) := hD
  refine va_putF (D := D) (ci := 0) (ty := (.array .int)) (C := RX0) (T := TX0) (N := 16) hx hb hts hU tyX0 tyX0_ok nmX0 hown hK hP hD hS 0 rfl rfl 6 (by decide) hf_order (fun _ h9 => h9) rfl hin rfl (by decide +kernel) rfl rfl (Nat.le_of_ble_eq_true rfl) dX0_init_30 (fun H locs hP hD hS => ?_)
  have hP : va_P D vwCl ([(h0, .inr (0, [.int 0, .int 0, .long 0, .ref q1, .ref q2, .ref q3, .ref q4, .int 0, .int 0, .int 0, .null, .null, .null, .null, .null, .null])), (q1, .inl (c1, 3, .inl (fun _ => 0))), (q2, .inl (c2, 3, .inr (.inl (fun _ => 0)))), (q3, .inl (c3, 3, .inr (.inl (fun _ => 0)))), (q4, .inl (c4, 24, .inl (fun _ => 0)))]) H := hP
  have hD : va_D A ([(h0, .inr (0, [.int 0, .int 0, .long 0, .ref q1, .ref q2, .ref q3, .ref q4, .int 0, .int 0, .int 0, .null, .null, .null, .null, .null, .null])), (q1, .inl (c1, 3, .inl (fun _ => 0))), (q2, .inl (c2, 3, .inr (.inl (fun _ => 0)))), (q3, .inl (c3, 3, .inr (.inl (fun _ => 0)))), (q4, .inl (c4, 24, .inl (fun _ => 0)))]) := hD
  refine lv_aload_n hx hb dX0_init_33 rfl (lv_at hl 0 rfl) ?_
  refine lv_iconst (v := 0) hx hb dX0_init_34 (by decide) ?_
  refine va_put (D := D) (ci := 0) (ty := .int) (C := RX0) (T := TX0) (N := 16) hx hb hts hU tyX0 tyX0_ok nmX0 hown hK hP hD hS 0 rfl rfl 7 (by decide) hf_entries (fun _ h9 => h9) rfl (by decide +kernel) rfl rfl (Nat.le_of_ble_eq_true rfl) dX0_init_35 (fun H locs hP hD hS => ?_)
  have hP : va_P D vwCl ([(h0, .inr (0, [.int 0, .int 0, .long 0, .ref q1, .ref q2, .ref q3, .ref q4, .int 0, .int 0, .int 0, .null, .null, .null, .null, .null, .null])), (q1, .inl (c1, 3, .inl (fun _ => 0))), (q2, .inl (c2, 3, .inr (.inl (fun _ => 0)))), (q3, .inl (c3, 3, .inr (.inl (fun _ => 0)))), (q4, .inl (c4, 24, .inl (fun _ => 0)))]) H := hP
  have hD : va_D A ([(h0, .inr (0, [.int 0, .int 0, .long 0, .ref q1, .ref q2, .ref q3, .ref q4, .int 0, .int 0, .int 0, .null, .null, .null, .null, .null, .null])), (q1, .inl (c1, 3, .inl (fun _ => 0))), (q2, .inl (c2, 3, .inr (.inl (fun _ => 0)))), (q3, .inl (c3, 3, .inr (.inl (fun _ => 0)))), (q4, .inl (c4, 24, .inl (fun _ => 0)))]) := hD
  refine lv_aload_n hx hb dX0_init_38 rfl (lv_at hl 0 rfl) ?_
  refine lv_iconst (v := 0) hx hb dX0_init_39 (by decide) ?_
  refine va_put (D := D) (ci := 0) (ty := .int) (C := RX0) (T := TX0) (N := 16) hx hb hts hU tyX0 tyX0_ok nmX0 hown hK hP hD hS 0 rfl rfl 8 (by decide) hf_nextNumber (fun _ h9 => h9) rfl (by decide +kernel) rfl rfl (Nat.le_of_ble_eq_true rfl) dX0_init_40 (fun H locs hP hD hS => ?_)
  have hP : va_P D vwCl ([(h0, .inr (0, [.int 0, .int 0, .long 0, .ref q1, .ref q2, .ref q3, .ref q4, .int 0, .int 0, .int 0, .null, .null, .null, .null, .null, .null])), (q1, .inl (c1, 3, .inl (fun _ => 0))), (q2, .inl (c2, 3, .inr (.inl (fun _ => 0)))), (q3, .inl (c3, 3, .inr (.inl (fun _ => 0)))), (q4, .inl (c4, 24, .inl (fun _ => 0)))]) H := hP
  have hD : va_D A ([(h0, .inr (0, [.int 0, .int 0, .long 0, .ref q1, .ref q2, .ref q3, .ref q4, .int 0, .int 0, .int 0, .null, .null, .null, .null, .null, .null])), (q1, .inl (c1, 3, .inl (fun _ => 0))), (q2, .inl (c2, 3, .inr (.inl (fun _ => 0)))), (q3, .inl (c3, 3, .inr (.inl (fun _ => 0)))), (q4, .inl (c4, 24, .inl (fun _ => 0)))]) := hD
  refine lv_aload_n hx hb dX0_init_43 rfl (lv_at hl 0 rfl) ?_
  refine lv_iconst (v := 0) hx hb dX0_init_44 (by decide) ?_
  refine va_put (D := D) (ci := 0) (ty := .int) (C := RX0) (T := TX0) (N := 16) hx hb hts hU tyX0 tyX0_ok nmX0 hown hK hP hD hS 0 rfl rfl 9 (by decide) hf_misses (fun _ h9 => h9) rfl (by decide +kernel) rfl rfl (Nat.le_of_ble_eq_true rfl) dX0_init_45 (fun H locs hP hD hS => ?_)
  have hP : va_P D vwCl ([(h0, .inr (0, [.int 0, .int 0, .long 0, .ref q1, .ref q2, .ref q3, .ref q4, .int 0, .int 0, .int 0, .null, .null, .null, .null, .null, .null])), (q1, .inl (c1, 3, .inl (fun _ => 0))), (q2, .inl (c2, 3, .inr (.inl (fun _ => 0)))), (q3, .inl (c3, 3, .inr (.inl (fun _ => 0)))), (q4, .inl (c4, 24, .inl (fun _ => 0)))]) H := hP
  have hD : va_D A ([(h0, .inr (0, [.int 0, .int 0, .long 0, .ref q1, .ref q2, .ref q3, .ref q4, .int 0, .int 0, .int 0, .null, .null, .null, .null, .null, .null])), (q1, .inl (c1, 3, .inl (fun _ => 0))), (q2, .inl (c2, 3, .inr (.inl (fun _ => 0)))), (q3, .inl (c3, 3, .inr (.inl (fun _ => 0)))), (q4, .inl (c4, 24, .inl (fun _ => 0)))]) := hD
  refine lv_aload_n hx hb dX0_init_48 rfl (lv_at hl 0 rfl) ?_
  refine lv_bipush (v := 24) hx hb dX0_init_49 (by decide) ?_
  refine va_newa (atype := .int) (ty := .int) (N' := 24) (a0 := (24, .inl (fun _ => 0))) hx hb (hts (.arrayClass .int) (by decide +kernel)) rfl hK hP hD hS hA (fun _ => vp_cell_i ..) (by decide) (by decide) (by decide) (Nat.le_of_ble_eq_true rfl) (Nat.le_of_ble_eq_true rfl) dX0_init_51 (fun q5 c5 H hK hP hD hS => ?_)
  have hK : va_K D vwCl [(c1, .int), (c2, .long), (c3, .long), (c4, .int), (c5, .int)] s := hK
  have hP : va_P D vwCl ([(h0, .inr (0, [.int 0, .int 0, .long 0, .ref q1, .ref q2, .ref q3, .ref q4, .int 0, .int 0, .int 0, .null, .null, .null, .null, .null, .null])), (q1, .inl (c1, 3, .inl (fun _ => 0))), (q2, .inl (c2, 3, .inr (.inl (fun _ => 0)))), (q3, .inl (c3, 3, .inr (.inl (fun _ => 0)))), (q4, .inl (c4, 24, .inl (fun _ => 0))), (q5, .inl (c5, 24, .inl (fun _ => 0)))]) H := hP
  have hD : va_D A ([(h0, .inr (0, [.int 0, .int 0, .long 0, .ref q1, .ref q2, .ref q3, .ref q4, .int 0, .int 0, .int 0, .null, .null, .null, .null, .null, .null])), (q1, .inl (c1, 3, .inl (fun _ => 0))), (q2, .inl (c2, 3, .inr (.inl (fun _ => 0)))), (q3, .inl (c3, 3, .inr (.inl (fun _ => 0)))), (q4, .inl (c4, 24, .inl (fun _ => 0))), (q5, .inl (c5, 24, .inl (fun _ => 0)))]) := hD
  refine va_putF (D := D) (ci := 0) (ty := (.array .int)) (C := RX0) (T := TX0) (N := 16) hx hb hts hU tyX0 tyX0_ok nmX0 hown hK hP hD hS 0 rfl rfl 10 (by decide) hf_numbers (fun _ h9 => h9) rfl hin rfl (by decide +kernel) rfl rfl (Nat.le_of_ble_eq_true rfl) dX0_init_53 (fun H locs hP hD hS => ?_)
  have hP : va_P D vwCl ([(h0, .inr (0, [.int 0, .int 0, .long 0, .ref q1, .ref q2, .ref q3, .ref q4, .int 0, .int 0, .int 0, .ref q5, .null, .null, .null, .null, .null])), (q1, .inl (c1, 3, .inl (fun _ => 0))), (q2, .inl (c2, 3, .inr (.inl (fun _ => 0)))), (q3, .inl (c3, 3, .inr (.inl (fun _ => 0)))), (q4, .inl (c4, 24, .inl (fun _ => 0))), (q5, .inl (c5, 24, .inl (fun _ => 0)))]) H := hP
  have hD : va_D A ([(h0, .inr (0, [.int 0, .int 0, .long 0, .ref q1, .ref q2, .ref q3, .ref q4, .int 0, .int 0, .int 0, .ref q5, .null, .null, .null, .null, .null])), (q1, .inl (c1, 3, .inl (fun _ => 0))), (q2, .inl (c2, 3, .inr (.inl (fun _ => 0)))), (q3, .inl (c3, 3, .inr (.inl (fun _ => 0)))), (q4, .inl (c4, 24, .inl (fun _ => 0))), (q5, .inl (c5, 24, .inl (fun _ => 0)))]) := hD
  refine lv_aload_n hx hb dX0_init_56 rfl (lv_at hl 0 rfl) ?_
  refine lv_bipush (v := 24) hx hb dX0_init_57 (by decide) ?_
  refine va_newa (atype := .int) (ty := .int) (N' := 24) (a0 := (24, .inl (fun _ => 0))) hx hb (hts (.arrayClass .int) (by decide +kernel)) rfl hK hP hD hS hA (fun _ => vp_cell_i ..) (by decide) (by decide) (by decide) (Nat.le_of_ble_eq_true rfl) (Nat.le_of_ble_eq_true rfl) dX0_init_59 (fun q6 c6 H hK hP hD hS => ?_)
  have hK : va_K D vwCl [(c1, .int), (c2, .long), (c3, .long), (c4, .int), (c5, .int), (c6, .int)] s := hK
  have hP : va_P D vwCl ([(h0, .inr (0, [.int 0, .int 0, .long 0, .ref q1, .ref q2, .ref q3, .ref q4, .int 0, .int 0, .int 0, .ref q5, .null, .null, .null, .null, .null])), (q1, .inl (c1, 3, .inl (fun _ => 0))), (q2, .inl (c2, 3, .inr (.inl (fun _ => 0)))), (q3, .inl (c3, 3, .inr (.inl (fun _ => 0)))), (q4, .inl (c4, 24, .inl (fun _ => 0))), (q5, .inl (c5, 24, .inl (fun _ => 0))), (q6, .inl (c6, 24, .inl (fun _ => 0)))]) H := hP
  have hD : va_D A ([(h0, .inr (0, [.int 0, .int 0, .long 0, .ref q1, .ref q2, .ref q3, .ref q4, .int 0, .int 0, .int 0, .ref q5, .null, .null, .null, .null, .null])), (q1, .inl (c1, 3, .inl (fun _ => 0))), (q2, .inl (c2, 3, .inr (.inl (fun _ => 0)))), (q3, .inl (c3, 3, .inr (.inl (fun _ => 0)))), (q4, .inl (c4, 24, .inl (fun _ => 0))), (q5, .inl (c5, 24, .inl (fun _ => 0))), (q6, .inl (c6, 24, .inl (fun _ => 0)))]) := hD
  refine va_putF (D := D) (ci := 0) (ty := (.array .int)) (C := RX0) (T := TX0) (N := 16) hx hb hts hU tyX0 tyX0_ok nmX0 hown hK hP hD hS 0 rfl rfl 11 (by decide) hf_priorities (fun _ h9 => h9) rfl hin rfl (by decide +kernel) rfl rfl (Nat.le_of_ble_eq_true rfl) dX0_init_61 (fun H locs hP hD hS => ?_)
  have hP : va_P D vwCl ([(h0, .inr (0, [.int 0, .int 0, .long 0, .ref q1, .ref q2, .ref q3, .ref q4, .int 0, .int 0, .int 0, .ref q5, .ref q6, .null, .null, .null, .null])), (q1, .inl (c1, 3, .inl (fun _ => 0))), (q2, .inl (c2, 3, .inr (.inl (fun _ => 0)))), (q3, .inl (c3, 3, .inr (.inl (fun _ => 0)))), (q4, .inl (c4, 24, .inl (fun _ => 0))), (q5, .inl (c5, 24, .inl (fun _ => 0))), (q6, .inl (c6, 24, .inl (fun _ => 0)))]) H := hP
  have hD : va_D A ([(h0, .inr (0, [.int 0, .int 0, .long 0, .ref q1, .ref q2, .ref q3, .ref q4, .int 0, .int 0, .int 0, .ref q5, .ref q6, .null, .null, .null, .null])), (q1, .inl (c1, 3, .inl (fun _ => 0))), (q2, .inl (c2, 3, .inr (.inl (fun _ => 0)))), (q3, .inl (c3, 3, .inr (.inl (fun _ => 0)))), (q4, .inl (c4, 24, .inl (fun _ => 0))), (q5, .inl (c5, 24, .inl (fun _ => 0))), (q6, .inl (c6, 24, .inl (fun _ => 0)))]) := hD
  refine lv_aload_n hx hb dX0_init_64 rfl (lv_at hl 0 rfl) ?_
  refine lv_bipush (v := 24) hx hb dX0_init_65 (by decide) ?_
  refine va_newa (atype := .int) (ty := .int) (N' := 24) (a0 := (24, .inl (fun _ => 0))) hx hb (hts (.arrayClass .int) (by decide +kernel)) rfl hK hP hD hS hA (fun _ => vp_cell_i ..) (by decide) (by decide) (by decide) (Nat.le_of_ble_eq_true rfl) (Nat.le_of_ble_eq_true rfl) dX0_init_67 (fun q7 c7 H hK hP hD hS => ?_)
  have hK : va_K D vwCl [(c1, .int), (c2, .long), (c3, .long), (c4, .int), (c5, .int), (c6, .int), (c7, .int)] s := hK
  have hP : va_P D vwCl ([(h0, .inr (0, [.int 0, .int 0, .long 0, .ref q1, .ref q2, .ref q3, .ref q4, .int 0, .int 0, .int 0, .ref q5, .ref q6, .null, .null, .null, .null])), (q1, .inl (c1, 3, .inl (fun _ => 0))), (q2, .inl (c2, 3, .inr (.inl (fun _ => 0)))), (q3, .inl (c3, 3, .inr (.inl (fun _ => 0)))), (q4, .inl (c4, 24, .inl (fun _ => 0))), (q5, .inl (c5, 24, .inl (fun _ => 0))), (q6, .inl (c6, 24, .inl (fun _ => 0))), (q7, .inl (c7, 24, .inl (fun _ => 0)))]) H := hP
  have hD : va_D A ([(h0, .inr (0, [.int 0, .int 0, .long 0, .ref q1, .ref q2, .ref q3, .ref q4, .int 0, .int 0, .int 0, .ref q5, .ref q6, .null, .null, .null, .null])), (q1, .inl (c1, 3, .inl (fun _ => 0))), (q2, .inl (c2, 3, .inr (.inl (fun _ => 0)))), (q3, .inl (c3, 3, .inr (.inl (fun _ => 0)))), (q4, .inl (c4, 24, .inl (fun _ => 0))), (q5, .inl (c5, 24, .inl (fun _ => 0))), (q6, .inl (c6, 24, .inl (fun _ => 0))), (q7, .inl (c7, 24, .inl (fun _ => 0)))]) := hD
  refine va_putF (D := D) (ci := 0) (ty := (.array .int)) (C := RX0) (T := TX0) (N := 16) hx hb hts hU tyX0 tyX0_ok nmX0 hown hK hP hD hS 0 rfl rfl 12 (by decide) hf_prefixes (fun _ h9 => h9) rfl hin rfl (by decide +kernel) rfl rfl (Nat.le_of_ble_eq_true rfl) dX0_init_69 (fun H locs hP hD hS => ?_)
  have hP : va_P D vwCl ([(h0, .inr (0, [.int 0, .int 0, .long 0, .ref q1, .ref q2, .ref q3, .ref q4, .int 0, .int 0, .int 0, .ref q5, .ref q6, .ref q7, .null, .null, .null])), (q1, .inl (c1, 3, .inl (fun _ => 0))), (q2, .inl (c2, 3, .inr (.inl (fun _ => 0)))), (q3, .inl (c3, 3, .inr (.inl (fun _ => 0)))), (q4, .inl (c4, 24, .inl (fun _ => 0))), (q5, .inl (c5, 24, .inl (fun _ => 0))), (q6, .inl (c6, 24, .inl (fun _ => 0))), (q7, .inl (c7, 24, .inl (fun _ => 0)))]) H := hP
  have hD : va_D A ([(h0, .inr (0, [.int 0, .int 0, .long 0, .ref q1, .ref q2, .ref q3, .ref q4, .int 0, .int 0, .int 0, .ref q5, .ref q6, .ref q7, .null, .null, .null])), (q1, .inl (c1, 3, .inl (fun _ => 0))), (q2, .inl (c2, 3, .inr (.inl (fun _ => 0)))), (q3, .inl (c3, 3, .inr (.inl (fun _ => 0)))), (q4, .inl (c4, 24, .inl (fun _ => 0))), (q5, .inl (c5, 24, .inl (fun _ => 0))), (q6, .inl (c6, 24, .inl (fun _ => 0))), (q7, .inl (c7, 24, .inl (fun _ => 0)))]) := hD
  refine lv_aload_n hx hb dX0_init_72 rfl (lv_at hl 0 rfl) ?_
  refine lv_bipush (v := 24) hx hb dX0_init_73 (by decide) ?_
  refine va_newa (atype := .int) (ty := .int) (N' := 24) (a0 := (24, .inl (fun _ => 0))) hx hb (hts (.arrayClass .int) (by decide +kernel)) rfl hK hP hD hS hA (fun _ => vp_cell_i ..) (by decide) (by decide) (by decide) (Nat.le_of_ble_eq_true rfl) (Nat.le_of_ble_eq_true rfl) dX0_init_75 (fun q8 c8 H hK hP hD hS => ?_)
  have hK : va_K D vwCl [(c1, .int), (c2, .long), (c3, .long), (c4, .int), (c5, .int), (c6, .int), (c7, .int), (c8, .int)] s := hK
  have hP : va_P D vwCl ([(h0, .inr (0, [.int 0, .int 0, .long 0, .ref q1, .ref q2, .ref q3, .ref q4, .int 0, .int 0, .int 0, .ref q5, .ref q6, .ref q7, .null, .null, .null])), (q1, .inl (c1, 3, .inl (fun _ => 0))), (q2, .inl (c2, 3, .inr (.inl (fun _ => 0)))), (q3, .inl (c3, 3, .inr (.inl (fun _ => 0)))), (q4, .inl (c4, 24, .inl (fun _ => 0))), (q5, .inl (c5, 24, .inl (fun _ => 0))), (q6, .inl (c6, 24, .inl (fun _ => 0))), (q7, .inl (c7, 24, .inl (fun _ => 0))), (q8, .inl (c8, 24, .inl (fun _ => 0)))]) H := hP
  have hD : va_D A ([(h0, .inr (0, [.int 0, .int 0, .long 0, .ref q1, .ref q2, .ref q3, .ref q4, .int 0, .int 0, .int 0, .ref q5, .ref q6, .ref q7, .null, .null, .null])), (q1, .inl (c1, 3, .inl (fun _ => 0))), (q2, .inl (c2, 3, .inr (.inl (fun _ => 0)))), (q3, .inl (c3, 3, .inr (.inl (fun _ => 0)))), (q4, .inl (c4, 24, .inl (fun _ => 0))), (q5, .inl (c5, 24, .inl (fun _ => 0))), (q6, .inl (c6, 24, .inl (fun _ => 0))), (q7, .inl (c7, 24, .inl (fun _ => 0))), (q8, .inl (c8, 24, .inl (fun _ => 0)))]) := hD
  refine va_putF (D := D) (ci := 0) (ty := (.array .int)) (C := RX0) (T := TX0) (N := 16) hx hb hts hU tyX0 tyX0_ok nmX0 hown hK hP hD hS 0 rfl rfl 13 (by decide) hf_finds (fun _ h9 => h9) rfl hin rfl (by decide +kernel) rfl rfl (Nat.le_of_ble_eq_true rfl) dX0_init_77 (fun H locs hP hD hS => ?_)
  have hP : va_P D vwCl ([(h0, .inr (0, [.int 0, .int 0, .long 0, .ref q1, .ref q2, .ref q3, .ref q4, .int 0, .int 0, .int 0, .ref q5, .ref q6, .ref q7, .ref q8, .null, .null])), (q1, .inl (c1, 3, .inl (fun _ => 0))), (q2, .inl (c2, 3, .inr (.inl (fun _ => 0)))), (q3, .inl (c3, 3, .inr (.inl (fun _ => 0)))), (q4, .inl (c4, 24, .inl (fun _ => 0))), (q5, .inl (c5, 24, .inl (fun _ => 0))), (q6, .inl (c6, 24, .inl (fun _ => 0))), (q7, .inl (c7, 24, .inl (fun _ => 0))), (q8, .inl (c8, 24, .inl (fun _ => 0)))]) H := hP
  have hD : va_D A ([(h0, .inr (0, [.int 0, .int 0, .long 0, .ref q1, .ref q2, .ref q3, .ref q4, .int 0, .int 0, .int 0, .ref q5, .ref q6, .ref q7, .ref q8, .null, .null])), (q1, .inl (c1, 3, .inl (fun _ => 0))), (q2, .inl (c2, 3, .inr (.inl (fun _ => 0)))), (q3, .inl (c3, 3, .inr (.inl (fun _ => 0)))), (q4, .inl (c4, 24, .inl (fun _ => 0))), (q5, .inl (c5, 24, .inl (fun _ => 0))), (q6, .inl (c6, 24, .inl (fun _ => 0))), (q7, .inl (c7, 24, .inl (fun _ => 0))), (q8, .inl (c8, 24, .inl (fun _ => 0)))]) := hD
  refine lv_aload_n hx hb dX0_init_80 rfl (lv_at hl 0 rfl) ?_
  refine lv_bipush (v := 72) hx hb dX0_init_81 (by decide) ?_
  refine va_newa (atype := .long) (ty := .long) (N' := 72) (a0 := (72, .inr (.inl (fun _ => 0)))) hx hb (hts (.arrayClass .long) (by decide +kernel)) rfl hK hP hD hS hA (fun _ => vp_cell_l ..) (by decide) (by decide) (by decide) (Nat.le_of_ble_eq_true rfl) (Nat.le_of_ble_eq_true rfl) dX0_init_83 (fun q9 c9 H hK hP hD hS => ?_)
  have hK : va_K D vwCl [(c1, .int), (c2, .long), (c3, .long), (c4, .int), (c5, .int), (c6, .int), (c7, .int), (c8, .int), (c9, .long)] s := hK
  have hP : va_P D vwCl ([(h0, .inr (0, [.int 0, .int 0, .long 0, .ref q1, .ref q2, .ref q3, .ref q4, .int 0, .int 0, .int 0, .ref q5, .ref q6, .ref q7, .ref q8, .null, .null])), (q1, .inl (c1, 3, .inl (fun _ => 0))), (q2, .inl (c2, 3, .inr (.inl (fun _ => 0)))), (q3, .inl (c3, 3, .inr (.inl (fun _ => 0)))), (q4, .inl (c4, 24, .inl (fun _ => 0))), (q5, .inl (c5, 24, .inl (fun _ => 0))), (q6, .inl (c6, 24, .inl (fun _ => 0))), (q7, .inl (c7, 24, .inl (fun _ => 0))), (q8, .inl (c8, 24, .inl (fun _ => 0))), (q9, .inl (c9, 72, .inr (.inl (fun _ => 0))))]) H := hP
  have hD : va_D A ([(h0, .inr (0, [.int 0, .int 0, .long 0, .ref q1, .ref q2, .ref q3, .ref q4, .int 0, .int 0, .int 0, .ref q5, .ref q6, .ref q7, .ref q8, .null, .null])), (q1, .inl (c1, 3, .inl (fun _ => 0))), (q2, .inl (c2, 3, .inr (.inl (fun _ => 0)))), (q3, .inl (c3, 3, .inr (.inl (fun _ => 0)))), (q4, .inl (c4, 24, .inl (fun _ => 0))), (q5, .inl (c5, 24, .inl (fun _ => 0))), (q6, .inl (c6, 24, .inl (fun _ => 0))), (q7, .inl (c7, 24, .inl (fun _ => 0))), (q8, .inl (c8, 24, .inl (fun _ => 0))), (q9, .inl (c9, 72, .inr (.inl (fun _ => 0))))]) := hD
  refine va_putF (D := D) (ci := 0) (ty := (.array .long)) (C := RX0) (T := TX0) (N := 16) hx hb hts hU tyX0 tyX0_ok nmX0 hown hK hP hD hS 0 rfl rfl 14 (by decide) hf_values (fun _ h9 => h9) rfl hin rfl (by decide +kernel) rfl rfl (Nat.le_of_ble_eq_true rfl) dX0_init_85 (fun H locs hP hD hS => ?_)
  have hP : va_P D vwCl ([(h0, .inr (0, [.int 0, .int 0, .long 0, .ref q1, .ref q2, .ref q3, .ref q4, .int 0, .int 0, .int 0, .ref q5, .ref q6, .ref q7, .ref q8, .ref q9, .null])), (q1, .inl (c1, 3, .inl (fun _ => 0))), (q2, .inl (c2, 3, .inr (.inl (fun _ => 0)))), (q3, .inl (c3, 3, .inr (.inl (fun _ => 0)))), (q4, .inl (c4, 24, .inl (fun _ => 0))), (q5, .inl (c5, 24, .inl (fun _ => 0))), (q6, .inl (c6, 24, .inl (fun _ => 0))), (q7, .inl (c7, 24, .inl (fun _ => 0))), (q8, .inl (c8, 24, .inl (fun _ => 0))), (q9, .inl (c9, 72, .inr (.inl (fun _ => 0))))]) H := hP
  have hD : va_D A ([(h0, .inr (0, [.int 0, .int 0, .long 0, .ref q1, .ref q2, .ref q3, .ref q4, .int 0, .int 0, .int 0, .ref q5, .ref q6, .ref q7, .ref q8, .ref q9, .null])), (q1, .inl (c1, 3, .inl (fun _ => 0))), (q2, .inl (c2, 3, .inr (.inl (fun _ => 0)))), (q3, .inl (c3, 3, .inr (.inl (fun _ => 0)))), (q4, .inl (c4, 24, .inl (fun _ => 0))), (q5, .inl (c5, 24, .inl (fun _ => 0))), (q6, .inl (c6, 24, .inl (fun _ => 0))), (q7, .inl (c7, 24, .inl (fun _ => 0))), (q8, .inl (c8, 24, .inl (fun _ => 0))), (q9, .inl (c9, 72, .inr (.inl (fun _ => 0))))]) := hD
  refine lv_aload_n hx hb dX0_init_88 rfl (lv_at hl 0 rfl) ?_
  refine lv_bipush (v := 72) hx hb dX0_init_89 (by decide) ?_
  refine va_newa (atype := .long) (ty := .long) (N' := 72) (a0 := (72, .inr (.inl (fun _ => 0)))) hx hb (hts (.arrayClass .long) (by decide +kernel)) rfl hK hP hD hS hA (fun _ => vp_cell_l ..) (by decide) (by decide) (by decide) (Nat.le_of_ble_eq_true rfl) (Nat.le_of_ble_eq_true rfl) dX0_init_91 (fun q10 c10 H hK hP hD hS => ?_)
  have hK : va_K D vwCl [(c1, .int), (c2, .long), (c3, .long), (c4, .int), (c5, .int), (c6, .int), (c7, .int), (c8, .int), (c9, .long), (c10, .long)] s := hK
  have hP : va_P D vwCl ([(h0, .inr (0, [.int 0, .int 0, .long 0, .ref q1, .ref q2, .ref q3, .ref q4, .int 0, .int 0, .int 0, .ref q5, .ref q6, .ref q7, .ref q8, .ref q9, .null])), (q1, .inl (c1, 3, .inl (fun _ => 0))), (q2, .inl (c2, 3, .inr (.inl (fun _ => 0)))), (q3, .inl (c3, 3, .inr (.inl (fun _ => 0)))), (q4, .inl (c4, 24, .inl (fun _ => 0))), (q5, .inl (c5, 24, .inl (fun _ => 0))), (q6, .inl (c6, 24, .inl (fun _ => 0))), (q7, .inl (c7, 24, .inl (fun _ => 0))), (q8, .inl (c8, 24, .inl (fun _ => 0))), (q9, .inl (c9, 72, .inr (.inl (fun _ => 0)))), (q10, .inl (c10, 72, .inr (.inl (fun _ => 0))))]) H := hP
  have hD : va_D A ([(h0, .inr (0, [.int 0, .int 0, .long 0, .ref q1, .ref q2, .ref q3, .ref q4, .int 0, .int 0, .int 0, .ref q5, .ref q6, .ref q7, .ref q8, .ref q9, .null])), (q1, .inl (c1, 3, .inl (fun _ => 0))), (q2, .inl (c2, 3, .inr (.inl (fun _ => 0)))), (q3, .inl (c3, 3, .inr (.inl (fun _ => 0)))), (q4, .inl (c4, 24, .inl (fun _ => 0))), (q5, .inl (c5, 24, .inl (fun _ => 0))), (q6, .inl (c6, 24, .inl (fun _ => 0))), (q7, .inl (c7, 24, .inl (fun _ => 0))), (q8, .inl (c8, 24, .inl (fun _ => 0))), (q9, .inl (c9, 72, .inr (.inl (fun _ => 0)))), (q10, .inl (c10, 72, .inr (.inl (fun _ => 0))))]) := hD
  refine va_putF (D := D) (ci := 0) (ty := (.array .long)) (C := RX0) (T := TX0) (N := 16) hx hb hts hU tyX0 tyX0_ok nmX0 hown hK hP hD hS 0 rfl rfl 15 (by decide) hf_masks (fun _ h9 => h9) rfl hin rfl (by decide +kernel) rfl rfl (Nat.le_of_ble_eq_true rfl) dX0_init_93 (fun H locs hP hD hS => ?_)
  have hP : va_P D vwCl ([(h0, .inr (0, [.int 0, .int 0, .long 0, .ref q1, .ref q2, .ref q3, .ref q4, .int 0, .int 0, .int 0, .ref q5, .ref q6, .ref q7, .ref q8, .ref q9, .ref q10])), (q1, .inl (c1, 3, .inl (fun _ => 0))), (q2, .inl (c2, 3, .inr (.inl (fun _ => 0)))), (q3, .inl (c3, 3, .inr (.inl (fun _ => 0)))), (q4, .inl (c4, 24, .inl (fun _ => 0))), (q5, .inl (c5, 24, .inl (fun _ => 0))), (q6, .inl (c6, 24, .inl (fun _ => 0))), (q7, .inl (c7, 24, .inl (fun _ => 0))), (q8, .inl (c8, 24, .inl (fun _ => 0))), (q9, .inl (c9, 72, .inr (.inl (fun _ => 0)))), (q10, .inl (c10, 72, .inr (.inl (fun _ => 0))))]) H := hP
  have hD : va_D A ([(h0, .inr (0, [.int 0, .int 0, .long 0, .ref q1, .ref q2, .ref q3, .ref q4, .int 0, .int 0, .int 0, .ref q5, .ref q6, .ref q7, .ref q8, .ref q9, .ref q10])), (q1, .inl (c1, 3, .inl (fun _ => 0))), (q2, .inl (c2, 3, .inr (.inl (fun _ => 0)))), (q3, .inl (c3, 3, .inr (.inl (fun _ => 0)))), (q4, .inl (c4, 24, .inl (fun _ => 0))), (q5, .inl (c5, 24, .inl (fun _ => 0))), (q6, .inl (c6, 24, .inl (fun _ => 0))), (q7, .inl (c7, 24, .inl (fun _ => 0))), (q8, .inl (c8, 24, .inl (fun _ => 0))), (q9, .inl (c9, 72, .inr (.inl (fun _ => 0)))), (q10, .inl (c10, 72, .inr (.inl (fun _ => 0))))]) := hD
  refine lv_aload_n hx hb dX0_init_96 rfl (lv_at hl 0 rfl) ?_
  refine lv_iconst (v := 1) hx hb dX0_init_97 (by decide) ?_
  refine lv_iconst (v := 3) hx hb dX0_init_98 (by decide) ?_
  refine lv_iload_n hx hb dX0_init_99 rfl (lv_at hl 1 rfl) ?_
  refine va_mmin hx hb (hml.trans hl.1.symm) hown (hts (.methodLink RX0 51 Lib.Math.min.name) (by decide +kernel)) (hts (.static Lib.Math.min.name) (by decide +kernel)) (hts (.initialized "java/lang/Math") (by decide +kernel)) (hts (.code Lib.Math.min.name Lib.Math.min.code 2 (some .int)) (by decide +kernel)) (Nat.le_of_ble_eq_true rfl) (Nat.le_of_ble_eq_true rfl) (Nat.le_of_ble_eq_true rfl) (Nat.le_of_ble_eq_true rfl) dX0_init_100 ?_
  refine va_mmax hx hb (hml.trans hl.1.symm) hown (hts (.methodLink RX0 57 Lib.Math.max.name) (by decide +kernel)) (hts (.static Lib.Math.max.name) (by decide +kernel)) (hts (.initialized "java/lang/Math") (by decide +kernel)) (hts (.code Lib.Math.max.name Lib.Math.max.code 2 (some .int)) (by decide +kernel)) (Nat.le_of_ble_eq_true rfl) (Nat.le_of_ble_eq_true rfl) (Nat.le_of_ble_eq_true rfl) (Nat.le_of_ble_eq_true rfl) dX0_init_103 ?_
  refine eb_ti (nI (et_cl 3 a1)) (et_cl_X (h := 3) (by decide) (by decide) a1) ?_
  refine va_putF (D := D) (ci := 0) (ty := .int) (C := RX0) (T := TX0) (N := 16) hx hb hts hU tyX0 tyX0_ok nmX0 hown hK hP hD hS 0 rfl rfl 0 (by decide) hf_keys (fun _ h9 => h9) rfl hin rfl (by decide +kernel) rfl rfl (Nat.le_of_ble_eq_true rfl) dX0_init_106 (fun H locs hP hD hS => ?_)
  have hP : va_P D vwCl ([(h0, .inr (0, [.int (nI (et_cl 3 a1)), .int 0, .long 0, .ref q1, .ref q2, .ref q3, .ref q4, .int 0, .int 0, .int 0, .ref q5, .ref q6, .ref q7, .ref q8, .ref q9, .ref q10])), (q1, .inl (c1, 3, .inl (fun _ => 0))), (q2, .inl (c2, 3, .inr (.inl (fun _ => 0)))), (q3, .inl (c3, 3, .inr (.inl (fun _ => 0)))), (q4, .inl (c4, 24, .inl (fun _ => 0))), (q5, .inl (c5, 24, .inl (fun _ => 0))), (q6, .inl (c6, 24, .inl (fun _ => 0))), (q7, .inl (c7, 24, .inl (fun _ => 0))), (q8, .inl (c8, 24, .inl (fun _ => 0))), (q9, .inl (c9, 72, .inr (.inl (fun _ => 0)))), (q10, .inl (c10, 72, .inr (.inl (fun _ => 0))))]) H := hP
  have hD : va_D A ([(h0, .inr (0, [.int (nI (et_cl 3 a1)), .int 0, .long 0, .ref q1, .ref q2, .ref q3, .ref q4, .int 0, .int 0, .int 0, .ref q5, .ref q6, .ref q7, .ref q8, .ref q9, .ref q10])), (q1, .inl (c1, 3, .inl (fun _ => 0))), (q2, .inl (c2, 3, .inr (.inl (fun _ => 0)))), (q3, .inl (c3, 3, .inr (.inl (fun _ => 0)))), (q4, .inl (c4, 24, .inl (fun _ => 0))), (q5, .inl (c5, 24, .inl (fun _ => 0))), (q6, .inl (c6, 24, .inl (fun _ => 0))), (q7, .inl (c7, 24, .inl (fun _ => 0))), (q8, .inl (c8, 24, .inl (fun _ => 0))), (q9, .inl (c9, 72, .inr (.inl (fun _ => 0)))), (q10, .inl (c10, 72, .inr (.inl (fun _ => 0))))]) := hD
  refine lv_aload_n hx hb dX0_init_109 rfl (lv_at hl 0 rfl) ?_
  refine lv_iconst (v := 1) hx hb dX0_init_110 (by decide) ?_
  refine lv_bipush (v := 48) hx hb dX0_init_111 (by decide) ?_
  refine lv_iload_n hx hb dX0_init_113 rfl (lv_at hl 3 rfl) ?_
  refine va_mmin hx hb (hml.trans hl.1.symm) hown (hts (.methodLink RX0 51 Lib.Math.min.name) (by decide +kernel)) (hts (.static Lib.Math.min.name) (by decide +kernel)) (hts (.initialized "java/lang/Math") (by decide +kernel)) (hts (.code Lib.Math.min.name Lib.Math.min.code 2 (some .int)) (by decide +kernel)) (Nat.le_of_ble_eq_true rfl) (Nat.le_of_ble_eq_true rfl) (Nat.le_of_ble_eq_true rfl) (Nat.le_of_ble_eq_true rfl) dX0_init_114 ?_
  refine va_mmax hx hb (hml.trans hl.1.symm) hown (hts (.methodLink RX0 57 Lib.Math.max.name) (by decide +kernel)) (hts (.static Lib.Math.max.name) (by decide +kernel)) (hts (.initialized "java/lang/Math") (by decide +kernel)) (hts (.code Lib.Math.max.name Lib.Math.max.code 2 (some .int)) (by decide +kernel)) (Nat.le_of_ble_eq_true rfl) (Nat.le_of_ble_eq_true rfl) (Nat.le_of_ble_eq_true rfl) (Nat.le_of_ble_eq_true rfl) dX0_init_117 ?_
  refine eb_ti (nI (et_cl 48 a3)) (et_cl_X (h := 48) (by decide) (by decide) a3) ?_
  refine va_putF (D := D) (ci := 0) (ty := .int) (C := RX0) (T := TX0) (N := 16) hx hb hts hU tyX0 tyX0_ok nmX0 hown hK hP hD hS 0 rfl rfl 1 (by decide) hf_width (fun _ h9 => h9) rfl hin rfl (by decide +kernel) rfl rfl (Nat.le_of_ble_eq_true rfl) dX0_init_120 (fun H locs hP hD hS => ?_)
  have hP : va_P D vwCl ([(h0, .inr (0, [.int (nI (et_cl 3 a1)), .int (nI (et_cl 48 a3)), .long 0, .ref q1, .ref q2, .ref q3, .ref q4, .int 0, .int 0, .int 0, .ref q5, .ref q6, .ref q7, .ref q8, .ref q9, .ref q10])), (q1, .inl (c1, 3, .inl (fun _ => 0))), (q2, .inl (c2, 3, .inr (.inl (fun _ => 0)))), (q3, .inl (c3, 3, .inr (.inl (fun _ => 0)))), (q4, .inl (c4, 24, .inl (fun _ => 0))), (q5, .inl (c5, 24, .inl (fun _ => 0))), (q6, .inl (c6, 24, .inl (fun _ => 0))), (q7, .inl (c7, 24, .inl (fun _ => 0))), (q8, .inl (c8, 24, .inl (fun _ => 0))), (q9, .inl (c9, 72, .inr (.inl (fun _ => 0)))), (q10, .inl (c10, 72, .inr (.inl (fun _ => 0))))]) H := hP
  have hD : va_D A ([(h0, .inr (0, [.int (nI (et_cl 3 a1)), .int (nI (et_cl 48 a3)), .long 0, .ref q1, .ref q2, .ref q3, .ref q4, .int 0, .int 0, .int 0, .ref q5, .ref q6, .ref q7, .ref q8, .ref q9, .ref q10])), (q1, .inl (c1, 3, .inl (fun _ => 0))), (q2, .inl (c2, 3, .inr (.inl (fun _ => 0)))), (q3, .inl (c3, 3, .inr (.inl (fun _ => 0)))), (q4, .inl (c4, 24, .inl (fun _ => 0))), (q5, .inl (c5, 24, .inl (fun _ => 0))), (q6, .inl (c6, 24, .inl (fun _ => 0))), (q7, .inl (c7, 24, .inl (fun _ => 0))), (q8, .inl (c8, 24, .inl (fun _ => 0))), (q9, .inl (c9, 72, .inr (.inl (fun _ => 0)))), (q10, .inl (c10, 72, .inr (.inl (fun _ => 0))))]) := hD
  refine lv_aload_n hx hb dX0_init_123 rfl (lv_at hl 0 rfl) ?_
  refine lv_lconst (v := 1) hx hb dX0_init_124 (by decide) ?_
  refine lv_aload_n hx hb dX0_init_125 rfl (lv_at hl 0 rfl) ?_
  refine va_get (D := D) (ci := 0) (C := RX0) (T := TX0) (N := 16) hx hb hts hU hown hK hP 0 rfl rfl 1 (by decide) hf_width (fun _ h9 => h9) rfl dX0_init_126 ?_
  refine lv_lshl hx hb dX0_init_129 rfl ?_
  refine lv_lconst (v := 1) hx hb dX0_init_130 (by decide) ?_
  refine lv_lsub hx hb dX0_init_131 ?_
  refine eb_tl (et_ab (et_cl 48 a3)) (et_abW _ (by have := (et_cl_in (h := 48) (by decide) a3).2; omega)) ?_
  refine va_putF (D := D) (ci := 0) (ty := .long) (C := RX0) (T := TX0) (N := 16) hx hb hts hU tyX0 tyX0_ok nmX0 hown hK hP hD hS 0 rfl rfl 2 (by decide) hf_allBits (fun _ h9 => h9) rfl hin rfl (by decide +kernel) rfl rfl (Nat.le_of_ble_eq_true rfl) dX0_init_132 (fun H locs hP hD hS => ?_)
  have hP : va_P D vwCl ([(h0, .inr (0, [.int (nI (et_cl 3 a1)), .int (nI (et_cl 48 a3)), .long (et_ab (et_cl 48 a3)), .ref q1, .ref q2, .ref q3, .ref q4, .int 0, .int 0, .int 0, .ref q5, .ref q6, .ref q7, .ref q8, .ref q9, .ref q10])), (q1, .inl (c1, 3, .inl (fun _ => 0))), (q2, .inl (c2, 3, .inr (.inl (fun _ => 0)))), (q3, .inl (c3, 3, .inr (.inl (fun _ => 0)))), (q4, .inl (c4, 24, .inl (fun _ => 0))), (q5, .inl (c5, 24, .inl (fun _ => 0))), (q6, .inl (c6, 24, .inl (fun _ => 0))), (q7, .inl (c7, 24, .inl (fun _ => 0))), (q8, .inl (c8, 24, .inl (fun _ => 0))), (q9, .inl (c9, 72, .inr (.inl (fun _ => 0)))), (q10, .inl (c10, 72, .inr (.inl (fun _ => 0))))]) H := hP
  have hD : va_D A ([(h0, .inr (0, [.int (nI (et_cl 3 a1)), .int (nI (et_cl 48 a3)), .long (et_ab (et_cl 48 a3)), .ref q1, .ref q2, .ref q3, .ref q4, .int 0, .int 0, .int 0, .ref q5, .ref q6, .ref q7, .ref q8, .ref q9, .ref q10])), (q1, .inl (c1, 3, .inl (fun _ => 0))), (q2, .inl (c2, 3, .inr (.inl (fun _ => 0)))), (q3, .inl (c3, 3, .inr (.inl (fun _ => 0)))), (q4, .inl (c4, 24, .inl (fun _ => 0))), (q5, .inl (c5, 24, .inl (fun _ => 0))), (q6, .inl (c6, 24, .inl (fun _ => 0))), (q7, .inl (c7, 24, .inl (fun _ => 0))), (q8, .inl (c8, 24, .inl (fun _ => 0))), (q9, .inl (c9, 72, .inr (.inl (fun _ => 0)))), (q10, .inl (c10, 72, .inr (.inl (fun _ => 0))))]) := hD
  refine lv_iconst (v := 0) hx hb dX0_init_135 (by decide) ?_
  refine lv_iload_n hx hb dX0_init_136 rfl (lv_at hl 2 rfl) ?_
  refine va_mmax hx hb (hml.trans hl.1.symm) hown (hts (.methodLink RX0 57 Lib.Math.max.name) (by decide +kernel)) (hts (.static Lib.Math.max.name) (by decide +kernel)) (hts (.initialized "java/lang/Math") (by decide +kernel)) (hts (.code Lib.Math.max.name Lib.Math.max.code 2 (some .int)) (by decide +kernel)) (Nat.le_of_ble_eq_true rfl) (Nat.le_of_ble_eq_true rfl) (Nat.le_of_ble_eq_true rfl) (Nat.le_of_ble_eq_true rfl) dX0_init_137 ?_
  refine eb_ti (nI (et_d0 a2)) (et_d0_X a2) ?_
  refine lv_istore hx hb dX0_init_140 hl (by decide) rfl (fun ls hl => ?_)
  have hl : lv_has ls 8 [(4, .int (nI (et_d0 a2))), (0, .ref h0), (1, .int a1), (2, .int a2), (3, .int a3)] := hl
  refine lv_iconst (v := 0) hx hb dX0_init_142 (by decide) ?_
  refine lv_istore hx hb dX0_init_143 hl (by decide) rfl (fun ls hl => ?_)
  have hl : lv_has ls 8 [(5, .int 0), (4, .int (nI (et_d0 a2))), (0, .ref h0), (1, .int a1), (2, .int a2), (3, .int a3)] := hl
  refine lv_iconst (v := 0) hx hb dX0_init_145 (by decide) ?_
  refine lv_istore hx hb dX0_init_146 hl (by decide) rfl (fun ls hl => ?_)
  have hl : lv_has ls 8 [(6, .int 0), (5, .int 0), (4, .int (nI (et_d0 a2))), (0, .ref h0), (1, .int a1), (2, .int a2), (3, .int a3)] := hl
  refine eb_for (fun (k : Nat) (ls : Array Slot) (H : Heap) (locs : List Loc) => ∃ kd1 : Nat → Int32, ∃ d : Nat, ∃ hb0 : Int32, lv_has ls 8 [(0, .ref h0), (1, .int a1), (2, .int a2), (3, .int a3), (4, .int (nI d)), (5, .int hb0), (6, .int (nI k))] ∧ va_P D vwCl ([(h0, .inr (0, [.int (nI (et_cl 3 a1)), .int (nI (et_cl 48 a3)), .long (et_ab (et_cl 48 a3)), .ref q1, .ref q2, .ref q3, .ref q4, .int 0, .int 0, .int 0, .ref q5, .ref q6, .ref q7, .ref q8, .ref q9, .ref q10])), (q1, .inl (c1, 3, .inl kd1)), (q2, .inl (c2, 3, .inr (.inl (fun _ => 0)))), (q3, .inl (c3, 3, .inr (.inl (fun _ => 0)))), (q4, .inl (c4, 24, .inl (fun _ => 0))), (q5, .inl (c5, 24, .inl (fun _ => 0))), (q6, .inl (c6, 24, .inl (fun _ => 0))), (q7, .inl (c7, 24, .inl (fun _ => 0))), (q8, .inl (c8, 24, .inl (fun _ => 0))), (q9, .inl (c9, 72, .inr (.inl (fun _ => 0)))), (q10, .inl (c10, 72, .inr (.inl (fun _ => 0))))]) H ∧ va_D A ([(h0, .inr (0, [.int (nI (et_cl 3 a1)), .int (nI (et_cl 48 a3)), .long (et_ab (et_cl 48 a3)), .ref q1, .ref q2, .ref q3, .ref q4, .int 0, .int 0, .int 0, .ref q5, .ref q6, .ref q7, .ref q8, .ref q9, .ref q10])), (q1, .inl (c1, 3, .inl kd1)), (q2, .inl (c2, 3, .inr (.inl (fun _ => 0)))), (q3, .inl (c3, 3, .inr (.inl (fun _ => 0)))), (q4, .inl (c4, 24, .inl (fun _ => 0))), (q5, .inl (c5, 24, .inl (fun _ => 0))), (q6, .inl (c6, 24, .inl (fun _ => 0))), (q7, .inl (c7, 24, .inl (fun _ => 0))), (q8, .inl (c8, 24, .inl (fun _ => 0))), (q9, .inl (c9, 72, .inr (.inl (fun _ => 0)))), (q10, .inl (c10, 72, .inr (.inl (fun _ => 0))))]) ∧ va_S A s.heap H locs ∧ (kd1 = et_kf (et_d0 a2) k ∧ d = et_d0 a2 / 3 ^ k ∧ d < 2 ^ 31 ∧ ((et_hp (et_d0 a2) k ∧ hb0 = 1) ∨ (¬ et_hp (et_d0 a2) k ∧ hb0 = 0)))) 148 (3) ?_ (3) (0) ls H locs (by omega) ⟨(fun _ => 0), (et_d0 a2), 0, lv_sub hl [3, 4, 5, 6, 2, 1, 0] rfl, hP, hD, hS, ⟨et_kf_0, (Nat.div_one _).symm, et_d0_lt a2, Or.inr ⟨et_hp_0, rfl⟩⟩⟩
  intro k ls H locs hk hI hrec148
  obtain ⟨kd1, d, hb0, hl, hP, hD, hS, hi148⟩ := hI
  refine lv_iload hx hb dX0_init_148 (lv_at hl 6 rfl) ?_
  refine lv_iconst (v := 3) hx hb dX0_init_150 (by decide) ?_
  refine lv_icmp_ge (tgt := 214) hx hb dX0_init_151 (by decide) (fun c151 => ?_) (fun c151 => ?_)
  · have c151 : nI 3 ≤ nI k := c151
    rw [nI_leI (by omega) (by omega)] at c151
    have hk3 : k = 3 := by omega
    subst hk3
    obtain rfl := hi148.1
    refine lv_iconst (v := 0) hx hb dX0_init_214 (by decide) ?_
    refine lv_istore hx hb dX0_init_215 hl (by decide) rfl (fun ls hl => ?_)
    have hl : lv_has ls 8 [(6, .int 0), (0, .ref h0), (1, .int a1), (2, .int a2), (3, .int a3), (4, .int (nI d)), (5, .int hb0)] := hl
    refine eb_for (fun (t : Nat) (ls : Array Slot) (H : Heap) (locs : List Loc) => ∃ ord1 : Nat → Int32, lv_has ls 8 [(0, .ref h0), (6, .int (nI t))] ∧ va_P D vwCl ([(h0, .inr (0, [.int (nI (et_cl 3 a1)), .int (nI (et_cl 48 a3)), .long (et_ab (et_cl 48 a3)), .ref q1, .ref q2, .ref q3, .ref q4, .int 0, .int 0, .int 0, .ref q5, .ref q6, .ref q7, .ref q8, .ref q9, .ref q10])), (q1, .inl (c1, 3, .inl (et_kf (et_d0 a2) 3))), (q2, .inl (c2, 3, .inr (.inl (fun _ => 0)))), (q3, .inl (c3, 3, .inr (.inl (fun _ => 0)))), (q4, .inl (c4, 24, .inl ord1)), (q5, .inl (c5, 24, .inl (fun _ => 0))), (q6, .inl (c6, 24, .inl (fun _ => 0))), (q7, .inl (c7, 24, .inl (fun _ => 0))), (q8, .inl (c8, 24, .inl (fun _ => 0))), (q9, .inl (c9, 72, .inr (.inl (fun _ => 0)))), (q10, .inl (c10, 72, .inr (.inl (fun _ => 0))))]) H ∧ va_D A ([(h0, .inr (0, [.int (nI (et_cl 3 a1)), .int (nI (et_cl 48 a3)), .long (et_ab (et_cl 48 a3)), .ref q1, .ref q2, .ref q3, .ref q4, .int 0, .int 0, .int 0, .ref q5, .ref q6, .ref q7, .ref q8, .ref q9, .ref q10])), (q1, .inl (c1, 3, .inl (et_kf (et_d0 a2) 3))), (q2, .inl (c2, 3, .inr (.inl (fun _ => 0)))), (q3, .inl (c3, 3, .inr (.inl (fun _ => 0)))), (q4, .inl (c4, 24, .inl ord1)), (q5, .inl (c5, 24, .inl (fun _ => 0))), (q6, .inl (c6, 24, .inl (fun _ => 0))), (q7, .inl (c7, 24, .inl (fun _ => 0))), (q8, .inl (c8, 24, .inl (fun _ => 0))), (q9, .inl (c9, 72, .inr (.inl (fun _ => 0)))), (q10, .inl (c10, 72, .inr (.inl (fun _ => 0))))]) ∧ va_S A s.heap H locs ∧ (∀ r, r < t → ord1 r = nI r)) 217 (24) ?_ (24) (0) ls H locs (by omega) ⟨(fun _ => 0), lv_sub hl [1, 0] rfl, hP, hD, hS, fun r hr => absurd hr (Nat.not_lt_zero r)⟩
    intro t ls H locs ht hI hrec217
    obtain ⟨ord1, hl, hP, hD, hS, hi217⟩ := hI
    refine lv_iload hx hb dX0_init_217 (lv_at hl 1 rfl) ?_
    refine lv_bipush (v := 24) hx hb dX0_init_219 (by decide) ?_
    refine lv_icmp_ge (tgt := 239) hx hb dX0_init_221 (by decide) (fun c221 => ?_) (fun c221 => ?_)
    · have c221 : nI 24 ≤ nI t := c221
      rw [nI_leI (by omega) (by omega)] at c221
      have ht24 : t = 24 := by omega
      subst ht24
      exact eb_vretC ((fun k => [h0, q1, q2, q3, q4, q5, q6, q7, q8, q9, q10].getD k 0), (fun k => [c1, c1, c2, c3, c4, c5, c6, c7, c8, c9, c10].getD k c1), ord1) hx hb hr hlk hK hP hD hS dX0_init_239 ⟨rfl, hi217⟩
    · have c221 : ¬ nI 24 ≤ nI t := c221
      rw [nI_leI (by omega) (by omega)] at c221
      refine lv_aload_n hx hb dX0_init_224 rfl (lv_at hl 0 rfl) ?_
      refine va_get (D := D) (ci := 0) (C := RX0) (T := TX0) (N := 16) hx hb hts hU hown hK hP 0 rfl rfl 6 (by decide) hf_order (fun _ h9 => h9) rfl dX0_init_225 ?_
      refine lv_iload hx hb dX0_init_228 (lv_at hl 1 rfl) ?_
      refine lv_iload hx hb dX0_init_230 (lv_at hl 1 rfl) ?_
      refine eb_iast hx hb hK hP hD hS 4 3 rfl rfl (t) (by omega) (by decide) dX0_init_232 (fun H locs hP hD hS => ?_)
      have hP : va_P D vwCl ([(h0, .inr (0, [.int (nI (et_cl 3 a1)), .int (nI (et_cl 48 a3)), .long (et_ab (et_cl 48 a3)), .ref q1, .ref q2, .ref q3, .ref q4, .int 0, .int 0, .int 0, .ref q5, .ref q6, .ref q7, .ref q8, .ref q9, .ref q10])), (q1, .inl (c1, 3, .inl (et_kf (et_d0 a2) 3))), (q2, .inl (c2, 3, .inr (.inl (fun _ => 0)))), (q3, .inl (c3, 3, .inr (.inl (fun _ => 0)))), (q4, .inl (c4, 24, .inl (upd ord1 t (nI t)))), (q5, .inl (c5, 24, .inl (fun _ => 0))), (q6, .inl (c6, 24, .inl (fun _ => 0))), (q7, .inl (c7, 24, .inl (fun _ => 0))), (q8, .inl (c8, 24, .inl (fun _ => 0))), (q9, .inl (c9, 72, .inr (.inl (fun _ => 0)))), (q10, .inl (c10, 72, .inr (.inl (fun _ => 0))))]) H := hP
      have hD : va_D A ([(h0, .inr (0, [.int (nI (et_cl 3 a1)), .int (nI (et_cl 48 a3)), .long (et_ab (et_cl 48 a3)), .ref q1, .ref q2, .ref q3, .ref q4, .int 0, .int 0, .int 0, .ref q5, .ref q6, .ref q7, .ref q8, .ref q9, .ref q10])), (q1, .inl (c1, 3, .inl (et_kf (et_d0 a2) 3))), (q2, .inl (c2, 3, .inr (.inl (fun _ => 0)))), (q3, .inl (c3, 3, .inr (.inl (fun _ => 0)))), (q4, .inl (c4, 24, .inl (upd ord1 t (nI t)))), (q5, .inl (c5, 24, .inl (fun _ => 0))), (q6, .inl (c6, 24, .inl (fun _ => 0))), (q7, .inl (c7, 24, .inl (fun _ => 0))), (q8, .inl (c8, 24, .inl (fun _ => 0))), (q9, .inl (c9, 72, .inr (.inl (fun _ => 0)))), (q10, .inl (c10, 72, .inr (.inl (fun _ => 0))))]) := hD
      refine lv_iinc (k := 1) (v := nI (t + 1)) hx hb dX0_init_233 hl rfl (nI_add t 1) (by decide) rfl (fun ls hl => ?_)
      have hl : lv_has ls 8 [(6, .int (nI (t + 1))), (0, .ref h0)] := hl
      refine lv_goto (tgt := 217) hx hb dX0_init_236 (by decide) ?_
      exact hrec217 ls H locs (by omega) ⟨(upd ord1 t (nI t)), lv_sub hl [1, 0] rfl, hP, hD, hS, fun r hr => by
          by_cases e9 : r = t
          · subst e9; exact pk_us
          · rw [pk_un e9]; exact hi217 r (by omega)⟩
  · have c151 : ¬ nI 3 ≤ nI k := c151
    rw [nI_leI (by omega) (by omega)] at c151
    have hd := hi148.2.2.1
    refine lv_iload hx hb dX0_init_154 (lv_at hl 4 rfl) ?_
    refine lv_iconst (v := 3) hx hb dX0_init_156 (by decide) ?_
    refine lv_irem hx hb dX0_init_157 (by decide) ?_
    refine eb_ti (nI (d % 3)) (pk_rem (a := d) (d := 3) hd (by decide) (by decide)) ?_
    refine lv_istore hx hb dX0_init_158 hl (by decide) rfl (fun ls hl => ?_)
    have hl : lv_has ls 8 [(7, .int (nI (d % 3))), (0, .ref h0), (1, .int a1), (2, .int a2), (3, .int a3), (4, .int (nI d)), (5, .int hb0), (6, .int (nI k))] := hl
    refine lv_iload hx hb dX0_init_160 (lv_at hl 5 rfl) ?_
    refine lv_iconst (v := 3) hx hb dX0_init_162 (by decide) ?_
    refine lv_idiv hx hb dX0_init_163 (by decide) ?_
    refine eb_ti (nI (d / 3)) (pk_div (a := d) (d := 3) hd (by decide) (by decide)) ?_
    refine lv_istore hx hb dX0_init_164 hl (by decide) rfl (fun ls hl => ?_)
    have hl : lv_has ls 8 [(4, .int (nI (d / 3))), (7, .int (nI (d % 3))), (0, .ref h0), (1, .int a1), (2, .int a2), (3, .int a3), (5, .int hb0), (6, .int (nI k))] := hl
    refine lv_aload_n hx hb dX0_init_166 rfl (lv_at hl 2 rfl) ?_
    refine va_get (D := D) (ci := 0) (C := RX0) (T := TX0) (N := 16) hx hb hts hU hown hK hP 0 rfl rfl 3 (by decide) hf_kinds (fun _ h9 => h9) rfl dX0_init_167 ?_
    refine lv_iload hx hb dX0_init_170 (lv_at hl 7 rfl) ?_
    refine lv_iload hx hb dX0_init_172 (lv_at hl 1 rfl) ?_
    refine lv_iconst (v := 1) hx hb dX0_init_174 (by decide) ?_
    refine lv_icmp_ne (tgt := 187) hx hb dX0_init_175 (by decide) (fun c175 => ?_) (fun c175 => ?_)
    · have c175 : ¬ nI (d % 3) = nI 1 := c175
      rw [nI_eq (by omega) (by omega)] at c175
      refine lv_iload hx hb dX0_init_187 (lv_at hl 1 rfl) ?_
      refine eb_iast hx hb hK hP hD hS 1 0 rfl rfl (k) (by omega) (by decide) dX0_init_189 (fun H locs hP hD hS => ?_)
      have hP : va_P D vwCl ([(h0, .inr (0, [.int (nI (et_cl 3 a1)), .int (nI (et_cl 48 a3)), .long (et_ab (et_cl 48 a3)), .ref q1, .ref q2, .ref q3, .ref q4, .int 0, .int 0, .int 0, .ref q5, .ref q6, .ref q7, .ref q8, .ref q9, .ref q10])), (q1, .inl (c1, 3, .inl (upd kd1 k (nI (d % 3))))), (q2, .inl (c2, 3, .inr (.inl (fun _ => 0)))), (q3, .inl (c3, 3, .inr (.inl (fun _ => 0)))), (q4, .inl (c4, 24, .inl (fun _ => 0))), (q5, .inl (c5, 24, .inl (fun _ => 0))), (q6, .inl (c6, 24, .inl (fun _ => 0))), (q7, .inl (c7, 24, .inl (fun _ => 0))), (q8, .inl (c8, 24, .inl (fun _ => 0))), (q9, .inl (c9, 72, .inr (.inl (fun _ => 0)))), (q10, .inl (c10, 72, .inr (.inl (fun _ => 0))))]) H := hP
      have hD : va_D A ([(h0, .inr (0, [.int (nI (et_cl 3 a1)), .int (nI (et_cl 48 a3)), .long (et_ab (et_cl 48 a3)), .ref q1, .ref q2, .ref q3, .ref q4, .int 0, .int 0, .int 0, .ref q5, .ref q6, .ref q7, .ref q8, .ref q9, .ref q10])), (q1, .inl (c1, 3, .inl (upd kd1 k (nI (d % 3))))), (q2, .inl (c2, 3, .inr (.inl (fun _ => 0)))), (q3, .inl (c3, 3, .inr (.inl (fun _ => 0)))), (q4, .inl (c4, 24, .inl (fun _ => 0))), (q5, .inl (c5, 24, .inl (fun _ => 0))), (q6, .inl (c6, 24, .inl (fun _ => 0))), (q7, .inl (c7, 24, .inl (fun _ => 0))), (q8, .inl (c8, 24, .inl (fun _ => 0))), (q9, .inl (c9, 72, .inr (.inl (fun _ => 0)))), (q10, .inl (c10, 72, .inr (.inl (fun _ => 0))))]) := hD
      refine lv_iload hx hb dX0_init_190 (lv_at hl 6 rfl) ?_
      refine lv_if_ne (tgt := 201) hx hb dX0_init_192 (by decide) (fun c192 => ?_) (fun c192 => ?_)
      · have c192 := et_b1 hi148.2.2.2 c192
        refine lv_iconst (v := 1) hx hb dX0_init_201 (by decide) ?_
        refine lv_goto (tgt := 206) hx hb dX0_init_202 (by decide) ?_
        refine lv_istore hx hb dX0_init_206 hl (by decide) rfl (fun ls hl => ?_)
        have hl : lv_has ls 8 [(5, .int 1), (4, .int (nI (d / 3))), (7, .int (nI (d % 3))), (0, .ref h0), (1, .int a1), (2, .int a2), (3, .int a3), (6, .int (nI k))] := hl
        refine lv_iinc (k := 7) (v := nI (k + 1)) hx hb dX0_init_208 hl rfl (nI_add k 1) (by decide) rfl (fun ls hl => ?_)
        have hl : lv_has ls 8 [(6, .int (nI (k + 1))), (5, .int 1), (4, .int (nI (d / 3))), (7, .int (nI (d % 3))), (0, .ref h0), (1, .int a1), (2, .int a2), (3, .int a3)] := hl
        refine lv_goto (tgt := 148) hx hb dX0_init_211 (by decide) ?_
        obtain ⟨g1, g2, g3, g4⟩ := hi148
        subst g2
        exact hrec148 ls H locs (by omega) ⟨(upd kd1 k (nI (et_d0 a2 / 3 ^ k % 3))), (et_d0 a2 / 3 ^ k / 3), 1, lv_sub hl [4, 5, 6, 7, 2, 1, 0] rfl, hP, hD, hS, ⟨by rw [g1]; exact et_kf_s (by first | contradiction | (exfalso; omega) | exact et_kv_1 c175 c192 | exact et_kv_1 c192 c175 | exact et_kv_2 c175 | exact et_kv_2 c192 | exact et_kv_3 c175 | exact et_kv_3 c192), et_dg_s, Nat.lt_of_le_of_lt (Nat.div_le_self _ _) g3, by first | contradiction | (exfalso; omega) | exact Or.inl ⟨by first | exact et_hp_k c175 | exact et_hp_k c192 | exact et_hp_1 c175 | exact et_hp_1 c192, rfl⟩⟩⟩
      · have c192 := et_b0 hi148.2.2.2 c192
        refine lv_iload hx hb dX0_init_195 (lv_at hl 1 rfl) ?_
        refine lv_iconst (v := 1) hx hb dX0_init_197 (by decide) ?_
        refine lv_icmp_ne (tgt := 205) hx hb dX0_init_198 (by decide) (fun c198 => ?_) (fun c198 => ?_)
        · have c198 : ¬ nI (d % 3) = nI 1 := c198
          rw [nI_eq (by omega) (by omega)] at c198
          refine lv_iconst (v := 0) hx hb dX0_init_205 (by decide) ?_
          refine lv_istore hx hb dX0_init_206 hl (by decide) rfl (fun ls hl => ?_)
          have hl : lv_has ls 8 [(5, .int 0), (4, .int (nI (d / 3))), (7, .int (nI (d % 3))), (0, .ref h0), (1, .int a1), (2, .int a2), (3, .int a3), (6, .int (nI k))] := hl
          refine lv_iinc (k := 7) (v := nI (k + 1)) hx hb dX0_init_208 hl rfl (nI_add k 1) (by decide) rfl (fun ls hl => ?_)
          have hl : lv_has ls 8 [(6, .int (nI (k + 1))), (5, .int 0), (4, .int (nI (d / 3))), (7, .int (nI (d % 3))), (0, .ref h0), (1, .int a1), (2, .int a2), (3, .int a3)] := hl
          refine lv_goto (tgt := 148) hx hb dX0_init_211 (by decide) ?_
          obtain ⟨g1, g2, g3, g4⟩ := hi148
          subst g2
          exact hrec148 ls H locs (by omega) ⟨(upd kd1 k (nI (et_d0 a2 / 3 ^ k % 3))), (et_d0 a2 / 3 ^ k / 3), 0, lv_sub hl [4, 5, 6, 7, 2, 1, 0] rfl, hP, hD, hS, ⟨by rw [g1]; exact et_kf_s (by first | contradiction | (exfalso; omega) | exact et_kv_1 c175 c192 | exact et_kv_1 c175 c198 | exact et_kv_1 c192 c175 | exact et_kv_1 c192 c198 | exact et_kv_1 c198 c175 | exact et_kv_1 c198 c192 | exact et_kv_2 c175 | exact et_kv_2 c192 | exact et_kv_2 c198 | exact et_kv_3 c175 | exact et_kv_3 c192 | exact et_kv_3 c198), et_dg_s, Nat.lt_of_le_of_lt (Nat.div_le_self _ _) g3, by first | contradiction | (exfalso; omega) | exact Or.inr ⟨by first | exact et_hp_n c175 c192 | exact et_hp_n c175 c198 | exact et_hp_n c192 c175 | exact et_hp_n c192 c198 | exact et_hp_n c198 c175 | exact et_hp_n c198 c192, rfl⟩⟩⟩
        · have c198 : nI (d % 3) = nI 1 := c198
          rw [nI_eq (by omega) (by omega)] at c198
          refine lv_iconst (v := 1) hx hb dX0_init_201 (by decide) ?_
          refine lv_goto (tgt := 206) hx hb dX0_init_202 (by decide) ?_
          refine lv_istore hx hb dX0_init_206 hl (by decide) rfl (fun ls hl => ?_)
          have hl : lv_has ls 8 [(5, .int 1), (4, .int (nI (d / 3))), (7, .int (nI (d % 3))), (0, .ref h0), (1, .int a1), (2, .int a2), (3, .int a3), (6, .int (nI k))] := hl
          refine lv_iinc (k := 7) (v := nI (k + 1)) hx hb dX0_init_208 hl rfl (nI_add k 1) (by decide) rfl (fun ls hl => ?_)
          have hl : lv_has ls 8 [(6, .int (nI (k + 1))), (5, .int 1), (4, .int (nI (d / 3))), (7, .int (nI (d % 3))), (0, .ref h0), (1, .int a1), (2, .int a2), (3, .int a3)] := hl
          refine lv_goto (tgt := 148) hx hb dX0_init_211 (by decide) ?_
          obtain ⟨g1, g2, g3, g4⟩ := hi148
          subst g2
          exact hrec148 ls H locs (by omega) ⟨(upd kd1 k (nI (et_d0 a2 / 3 ^ k % 3))), (et_d0 a2 / 3 ^ k / 3), 1, lv_sub hl [4, 5, 6, 7, 2, 1, 0] rfl, hP, hD, hS, ⟨by rw [g1]; exact et_kf_s (by first | contradiction | (exfalso; omega) | exact et_kv_1 c175 c192 | exact et_kv_1 c175 c198 | exact et_kv_1 c192 c175 | exact et_kv_1 c192 c198 | exact et_kv_1 c198 c175 | exact et_kv_1 c198 c192 | exact et_kv_2 c175 | exact et_kv_2 c192 | exact et_kv_2 c198 | exact et_kv_3 c175 | exact et_kv_3 c192 | exact et_kv_3 c198), et_dg_s, Nat.lt_of_le_of_lt (Nat.div_le_self _ _) g3, by first | contradiction | (exfalso; omega) | exact Or.inl ⟨by first | exact et_hp_k c175 | exact et_hp_k c192 | exact et_hp_k c198 | exact et_hp_1 c175 | exact et_hp_1 c192 | exact et_hp_1 c198, rfl⟩⟩⟩
    · have c175 : nI (d % 3) = nI 1 := c175
      rw [nI_eq (by omega) (by omega)] at c175
      refine lv_iload hx hb dX0_init_178 (lv_at hl 6 rfl) ?_
      refine lv_if_eq (tgt := 187) hx hb dX0_init_180 (by decide) (fun c180 => ?_) (fun c180 => ?_)
      · have c180 := et_b0 hi148.2.2.2 c180
        refine lv_iload hx hb dX0_init_187 (lv_at hl 1 rfl) ?_
        refine eb_iast hx hb hK hP hD hS 1 0 rfl rfl (k) (by omega) (by decide) dX0_init_189 (fun H locs hP hD hS => ?_)
        have hP : va_P D vwCl ([(h0, .inr (0, [.int (nI (et_cl 3 a1)), .int (nI (et_cl 48 a3)), .long (et_ab (et_cl 48 a3)), .ref q1, .ref q2, .ref q3, .ref q4, .int 0, .int 0, .int 0, .ref q5, .ref q6, .ref q7, .ref q8, .ref q9, .ref q10])), (q1, .inl (c1, 3, .inl (upd kd1 k (nI (d % 3))))), (q2, .inl (c2, 3, .inr (.inl (fun _ => 0)))), (q3, .inl (c3, 3, .inr (.inl (fun _ => 0)))), (q4, .inl (c4, 24, .inl (fun _ => 0))), (q5, .inl (c5, 24, .inl (fun _ => 0))), (q6, .inl (c6, 24, .inl (fun _ => 0))), (q7, .inl (c7, 24, .inl (fun _ => 0))), (q8, .inl (c8, 24, .inl (fun _ => 0))), (q9, .inl (c9, 72, .inr (.inl (fun _ => 0)))), (q10, .inl (c10, 72, .inr (.inl (fun _ => 0))))]) H := hP
        have hD : va_D A ([(h0, .inr (0, [.int (nI (et_cl 3 a1)), .int (nI (et_cl 48 a3)), .long (et_ab (et_cl 48 a3)), .ref q1, .ref q2, .ref q3, .ref q4, .int 0, .int 0, .int 0, .ref q5, .ref q6, .ref q7, .ref q8, .ref q9, .ref q10])), (q1, .inl (c1, 3, .inl (upd kd1 k (nI (d % 3))))), (q2, .inl (c2, 3, .inr (.inl (fun _ => 0)))), (q3, .inl (c3, 3, .inr (.inl (fun _ => 0)))), (q4, .inl (c4, 24, .inl (fun _ => 0))), (q5, .inl (c5, 24, .inl (fun _ => 0))), (q6, .inl (c6, 24, .inl (fun _ => 0))), (q7, .inl (c7, 24, .inl (fun _ => 0))), (q8, .inl (c8, 24, .inl (fun _ => 0))), (q9, .inl (c9, 72, .inr (.inl (fun _ => 0)))), (q10, .inl (c10, 72, .inr (.inl (fun _ => 0))))]) := hD
        refine lv_iload hx hb dX0_init_190 (lv_at hl 6 rfl) ?_
        refine lv_if_ne (tgt := 201) hx hb dX0_init_192 (by decide) (fun c192 => ?_) (fun c192 => ?_)
        · have c192 := et_b1 hi148.2.2.2 c192
          refine lv_iconst (v := 1) hx hb dX0_init_201 (by decide) ?_
          refine lv_goto (tgt := 206) hx hb dX0_init_202 (by decide) ?_
          refine lv_istore hx hb dX0_init_206 hl (by decide) rfl (fun ls hl => ?_)
          have hl : lv_has ls 8 [(5, .int 1), (4, .int (nI (d / 3))), (7, .int (nI (d % 3))), (0, .ref h0), (1, .int a1), (2, .int a2), (3, .int a3), (6, .int (nI k))] := hl
          refine lv_iinc (k := 7) (v := nI (k + 1)) hx hb dX0_init_208 hl rfl (nI_add k 1) (by decide) rfl (fun ls hl => ?_)
          have hl : lv_has ls 8 [(6, .int (nI (k + 1))), (5, .int 1), (4, .int (nI (d / 3))), (7, .int (nI (d % 3))), (0, .ref h0), (1, .int a1), (2, .int a2), (3, .int a3)] := hl
          refine lv_goto (tgt := 148) hx hb dX0_init_211 (by decide) ?_
          obtain ⟨g1, g2, g3, g4⟩ := hi148
          subst g2
          exact hrec148 ls H locs (by omega) ⟨(upd kd1 k (nI (et_d0 a2 / 3 ^ k % 3))), (et_d0 a2 / 3 ^ k / 3), 1, lv_sub hl [4, 5, 6, 7, 2, 1, 0] rfl, hP, hD, hS, ⟨by rw [g1]; exact et_kf_s (by first | contradiction | (exfalso; omega) | exact et_kv_1 c175 c180 | exact et_kv_1 c175 c192 | exact et_kv_1 c180 c175 | exact et_kv_1 c180 c192 | exact et_kv_1 c192 c175 | exact et_kv_1 c192 c180 | exact et_kv_2 c175 | exact et_kv_2 c180 | exact et_kv_2 c192 | exact et_kv_3 c175 | exact et_kv_3 c180 | exact et_kv_3 c192), et_dg_s, Nat.lt_of_le_of_lt (Nat.div_le_self _ _) g3, by first | contradiction | (exfalso; omega) | exact Or.inl ⟨by first | exact et_hp_k c175 | exact et_hp_k c180 | exact et_hp_k c192 | exact et_hp_1 c175 | exact et_hp_1 c180 | exact et_hp_1 c192, rfl⟩⟩⟩
        · have c192 := et_b0 hi148.2.2.2 c192
          refine lv_iload hx hb dX0_init_195 (lv_at hl 1 rfl) ?_
          refine lv_iconst (v := 1) hx hb dX0_init_197 (by decide) ?_
          refine lv_icmp_ne (tgt := 205) hx hb dX0_init_198 (by decide) (fun c198 => ?_) (fun c198 => ?_)
          · have c198 : ¬ nI (d % 3) = nI 1 := c198
            rw [nI_eq (by omega) (by omega)] at c198
            refine lv_iconst (v := 0) hx hb dX0_init_205 (by decide) ?_
            refine lv_istore hx hb dX0_init_206 hl (by decide) rfl (fun ls hl => ?_)
            have hl : lv_has ls 8 [(5, .int 0), (4, .int (nI (d / 3))), (7, .int (nI (d % 3))), (0, .ref h0), (1, .int a1), (2, .int a2), (3, .int a3), (6, .int (nI k))] := hl
            refine lv_iinc (k := 7) (v := nI (k + 1)) hx hb dX0_init_208 hl rfl (nI_add k 1) (by decide) rfl (fun ls hl => ?_)
            have hl : lv_has ls 8 [(6, .int (nI (k + 1))), (5, .int 0), (4, .int (nI (d / 3))), (7, .int (nI (d % 3))), (0, .ref h0), (1, .int a1), (2, .int a2), (3, .int a3)] := hl
            refine lv_goto (tgt := 148) hx hb dX0_init_211 (by decide) ?_
            obtain ⟨g1, g2, g3, g4⟩ := hi148
            subst g2
            exact hrec148 ls H locs (by omega) ⟨(upd kd1 k (nI (et_d0 a2 / 3 ^ k % 3))), (et_d0 a2 / 3 ^ k / 3), 0, lv_sub hl [4, 5, 6, 7, 2, 1, 0] rfl, hP, hD, hS, ⟨by rw [g1]; exact et_kf_s (by first | contradiction | (exfalso; omega) | exact et_kv_1 c175 c180 | exact et_kv_1 c175 c192 | exact et_kv_1 c175 c198 | exact et_kv_1 c180 c175 | exact et_kv_1 c180 c192 | exact et_kv_1 c180 c198 | exact et_kv_1 c192 c175 | exact et_kv_1 c192 c180 | exact et_kv_1 c192 c198 | exact et_kv_1 c198 c175 | exact et_kv_1 c198 c180 | exact et_kv_1 c198 c192 | exact et_kv_2 c175 | exact et_kv_2 c180 | exact et_kv_2 c192 | exact et_kv_2 c198 | exact et_kv_3 c175 | exact et_kv_3 c180 | exact et_kv_3 c192 | exact et_kv_3 c198), et_dg_s, Nat.lt_of_le_of_lt (Nat.div_le_self _ _) g3, by first | contradiction | (exfalso; omega) | exact Or.inr ⟨by first | exact et_hp_n c175 c180 | exact et_hp_n c175 c192 | exact et_hp_n c175 c198 | exact et_hp_n c180 c175 | exact et_hp_n c180 c192 | exact et_hp_n c180 c198 | exact et_hp_n c192 c175 | exact et_hp_n c192 c180 | exact et_hp_n c192 c198 | exact et_hp_n c198 c175 | exact et_hp_n c198 c180 | exact et_hp_n c198 c192, rfl⟩⟩⟩
          · have c198 : nI (d % 3) = nI 1 := c198
            rw [nI_eq (by omega) (by omega)] at c198
            refine lv_iconst (v := 1) hx hb dX0_init_201 (by decide) ?_
            refine lv_goto (tgt := 206) hx hb dX0_init_202 (by decide) ?_
            refine lv_istore hx hb dX0_init_206 hl (by decide) rfl (fun ls hl => ?_)
            have hl : lv_has ls 8 [(5, .int 1), (4, .int (nI (d / 3))), (7, .int (nI (d % 3))), (0, .ref h0), (1, .int a1), (2, .int a2), (3, .int a3), (6, .int (nI k))] := hl
            refine lv_iinc (k := 7) (v := nI (k + 1)) hx hb dX0_init_208 hl rfl (nI_add k 1) (by decide) rfl (fun ls hl => ?_)
            have hl : lv_has ls 8 [(6, .int (nI (k + 1))), (5, .int 1), (4, .int (nI (d / 3))), (7, .int (nI (d % 3))), (0, .ref h0), (1, .int a1), (2, .int a2), (3, .int a3)] := hl
            refine lv_goto (tgt := 148) hx hb dX0_init_211 (by decide) ?_
            obtain ⟨g1, g2, g3, g4⟩ := hi148
            subst g2
            exact hrec148 ls H locs (by omega) ⟨(upd kd1 k (nI (et_d0 a2 / 3 ^ k % 3))), (et_d0 a2 / 3 ^ k / 3), 1, lv_sub hl [4, 5, 6, 7, 2, 1, 0] rfl, hP, hD, hS, ⟨by rw [g1]; exact et_kf_s (by first | contradiction | (exfalso; omega) | exact et_kv_1 c175 c180 | exact et_kv_1 c175 c192 | exact et_kv_1 c175 c198 | exact et_kv_1 c180 c175 | exact et_kv_1 c180 c192 | exact et_kv_1 c180 c198 | exact et_kv_1 c192 c175 | exact et_kv_1 c192 c180 | exact et_kv_1 c192 c198 | exact et_kv_1 c198 c175 | exact et_kv_1 c198 c180 | exact et_kv_1 c198 c192 | exact et_kv_2 c175 | exact et_kv_2 c180 | exact et_kv_2 c192 | exact et_kv_2 c198 | exact et_kv_3 c175 | exact et_kv_3 c180 | exact et_kv_3 c192 | exact et_kv_3 c198), et_dg_s, Nat.lt_of_le_of_lt (Nat.div_le_self _ _) g3, by first | contradiction | (exfalso; omega) | exact Or.inl ⟨by first | exact et_hp_k c175 | exact et_hp_k c180 | exact et_hp_k c192 | exact et_hp_k c198 | exact et_hp_1 c175 | exact et_hp_1 c180 | exact et_hp_1 c192 | exact et_hp_1 c198, rfl⟩⟩⟩
      · have c180 := et_b1 hi148.2.2.2 c180
        refine lv_iconst (v := 0) hx hb dX0_init_183 (by decide) ?_
        refine lv_goto (tgt := 189) hx hb dX0_init_184 (by decide) ?_
        refine eb_iast hx hb hK hP hD hS 1 0 rfl rfl (k) (by omega) (by decide) dX0_init_189 (fun H locs hP hD hS => ?_)
        have hP : va_P D vwCl ([(h0, .inr (0, [.int (nI (et_cl 3 a1)), .int (nI (et_cl 48 a3)), .long (et_ab (et_cl 48 a3)), .ref q1, .ref q2, .ref q3, .ref q4, .int 0, .int 0, .int 0, .ref q5, .ref q6, .ref q7, .ref q8, .ref q9, .ref q10])), (q1, .inl (c1, 3, .inl (upd kd1 k 0))), (q2, .inl (c2, 3, .inr (.inl (fun _ => 0)))), (q3, .inl (c3, 3, .inr (.inl (fun _ => 0)))), (q4, .inl (c4, 24, .inl (fun _ => 0))), (q5, .inl (c5, 24, .inl (fun _ => 0))), (q6, .inl (c6, 24, .inl (fun _ => 0))), (q7, .inl (c7, 24, .inl (fun _ => 0))), (q8, .inl (c8, 24, .inl (fun _ => 0))), (q9, .inl (c9, 72, .inr (.inl (fun _ => 0)))), (q10, .inl (c10, 72, .inr (.inl (fun _ => 0))))]) H := hP
        have hD : va_D A ([(h0, .inr (0, [.int (nI (et_cl 3 a1)), .int (nI (et_cl 48 a3)), .long (et_ab (et_cl 48 a3)), .ref q1, .ref q2, .ref q3, .ref q4, .int 0, .int 0, .int 0, .ref q5, .ref q6, .ref q7, .ref q8, .ref q9, .ref q10])), (q1, .inl (c1, 3, .inl (upd kd1 k 0))), (q2, .inl (c2, 3, .inr (.inl (fun _ => 0)))), (q3, .inl (c3, 3, .inr (.inl (fun _ => 0)))), (q4, .inl (c4, 24, .inl (fun _ => 0))), (q5, .inl (c5, 24, .inl (fun _ => 0))), (q6, .inl (c6, 24, .inl (fun _ => 0))), (q7, .inl (c7, 24, .inl (fun _ => 0))), (q8, .inl (c8, 24, .inl (fun _ => 0))), (q9, .inl (c9, 72, .inr (.inl (fun _ => 0)))), (q10, .inl (c10, 72, .inr (.inl (fun _ => 0))))]) := hD
        refine lv_iload hx hb dX0_init_190 (lv_at hl 6 rfl) ?_
        refine lv_if_ne (tgt := 201) hx hb dX0_init_192 (by decide) (fun c192 => ?_) (fun c192 => ?_)
        · have c192 := et_b1 hi148.2.2.2 c192
          refine lv_iconst (v := 1) hx hb dX0_init_201 (by decide) ?_
          refine lv_goto (tgt := 206) hx hb dX0_init_202 (by decide) ?_
          refine lv_istore hx hb dX0_init_206 hl (by decide) rfl (fun ls hl => ?_)
          have hl : lv_has ls 8 [(5, .int 1), (4, .int (nI (d / 3))), (7, .int (nI (d % 3))), (0, .ref h0), (1, .int a1), (2, .int a2), (3, .int a3), (6, .int (nI k))] := hl
          refine lv_iinc (k := 7) (v := nI (k + 1)) hx hb dX0_init_208 hl rfl (nI_add k 1) (by decide) rfl (fun ls hl => ?_)
          have hl : lv_has ls 8 [(6, .int (nI (k + 1))), (5, .int 1), (4, .int (nI (d / 3))), (7, .int (nI (d % 3))), (0, .ref h0), (1, .int a1), (2, .int a2), (3, .int a3)] := hl
          refine lv_goto (tgt := 148) hx hb dX0_init_211 (by decide) ?_
          obtain ⟨g1, g2, g3, g4⟩ := hi148
          subst g2
          exact hrec148 ls H locs (by omega) ⟨(upd kd1 k 0), (et_d0 a2 / 3 ^ k / 3), 1, lv_sub hl [4, 5, 6, 7, 2, 1, 0] rfl, hP, hD, hS, ⟨by rw [g1]; exact et_kf_s (by first | contradiction | (exfalso; omega) | exact et_kv_1 c175 c180 | exact et_kv_1 c175 c192 | exact et_kv_1 c180 c175 | exact et_kv_1 c180 c192 | exact et_kv_1 c192 c175 | exact et_kv_1 c192 c180 | exact et_kv_2 c175 | exact et_kv_2 c180 | exact et_kv_2 c192 | exact et_kv_3 c175 | exact et_kv_3 c180 | exact et_kv_3 c192), et_dg_s, Nat.lt_of_le_of_lt (Nat.div_le_self _ _) g3, by first | contradiction | (exfalso; omega) | exact Or.inl ⟨by first | exact et_hp_k c175 | exact et_hp_k c180 | exact et_hp_k c192 | exact et_hp_1 c175 | exact et_hp_1 c180 | exact et_hp_1 c192, rfl⟩⟩⟩
        · have c192 := et_b0 hi148.2.2.2 c192
          refine lv_iload hx hb dX0_init_195 (lv_at hl 1 rfl) ?_
          refine lv_iconst (v := 1) hx hb dX0_init_197 (by decide) ?_
          refine lv_icmp_ne (tgt := 205) hx hb dX0_init_198 (by decide) (fun c198 => ?_) (fun c198 => ?_)
          · have c198 : ¬ nI (d % 3) = nI 1 := c198
            rw [nI_eq (by omega) (by omega)] at c198
            refine lv_iconst (v := 0) hx hb dX0_init_205 (by decide) ?_
            refine lv_istore hx hb dX0_init_206 hl (by decide) rfl (fun ls hl => ?_)
            have hl : lv_has ls 8 [(5, .int 0), (4, .int (nI (d / 3))), (7, .int (nI (d % 3))), (0, .ref h0), (1, .int a1), (2, .int a2), (3, .int a3), (6, .int (nI k))] := hl
            refine lv_iinc (k := 7) (v := nI (k + 1)) hx hb dX0_init_208 hl rfl (nI_add k 1) (by decide) rfl (fun ls hl => ?_)
            have hl : lv_has ls 8 [(6, .int (nI (k + 1))), (5, .int 0), (4, .int (nI (d / 3))), (7, .int (nI (d % 3))), (0, .ref h0), (1, .int a1), (2, .int a2), (3, .int a3)] := hl
            refine lv_goto (tgt := 148) hx hb dX0_init_211 (by decide) ?_
            obtain ⟨g1, g2, g3, g4⟩ := hi148
            subst g2
            exact hrec148 ls H locs (by omega) ⟨(upd kd1 k 0), (et_d0 a2 / 3 ^ k / 3), 0, lv_sub hl [4, 5, 6, 7, 2, 1, 0] rfl, hP, hD, hS, ⟨by rw [g1]; exact et_kf_s (by first | contradiction | (exfalso; omega) | exact et_kv_1 c175 c180 | exact et_kv_1 c175 c192 | exact et_kv_1 c175 c198 | exact et_kv_1 c180 c175 | exact et_kv_1 c180 c192 | exact et_kv_1 c180 c198 | exact et_kv_1 c192 c175 | exact et_kv_1 c192 c180 | exact et_kv_1 c192 c198 | exact et_kv_1 c198 c175 | exact et_kv_1 c198 c180 | exact et_kv_1 c198 c192 | exact et_kv_2 c175 | exact et_kv_2 c180 | exact et_kv_2 c192 | exact et_kv_2 c198 | exact et_kv_3 c175 | exact et_kv_3 c180 | exact et_kv_3 c192 | exact et_kv_3 c198), et_dg_s, Nat.lt_of_le_of_lt (Nat.div_le_self _ _) g3, by first | contradiction | (exfalso; omega) | exact Or.inr ⟨by first | exact et_hp_n c175 c180 | exact et_hp_n c175 c192 | exact et_hp_n c175 c198 | exact et_hp_n c180 c175 | exact et_hp_n c180 c192 | exact et_hp_n c180 c198 | exact et_hp_n c192 c175 | exact et_hp_n c192 c180 | exact et_hp_n c192 c198 | exact et_hp_n c198 c175 | exact et_hp_n c198 c180 | exact et_hp_n c198 c192, rfl⟩⟩⟩
          · have c198 : nI (d % 3) = nI 1 := c198
            rw [nI_eq (by omega) (by omega)] at c198
            refine lv_iconst (v := 1) hx hb dX0_init_201 (by decide) ?_
            refine lv_goto (tgt := 206) hx hb dX0_init_202 (by decide) ?_
            refine lv_istore hx hb dX0_init_206 hl (by decide) rfl (fun ls hl => ?_)
            have hl : lv_has ls 8 [(5, .int 1), (4, .int (nI (d / 3))), (7, .int (nI (d % 3))), (0, .ref h0), (1, .int a1), (2, .int a2), (3, .int a3), (6, .int (nI k))] := hl
            refine lv_iinc (k := 7) (v := nI (k + 1)) hx hb dX0_init_208 hl rfl (nI_add k 1) (by decide) rfl (fun ls hl => ?_)
            have hl : lv_has ls 8 [(6, .int (nI (k + 1))), (5, .int 1), (4, .int (nI (d / 3))), (7, .int (nI (d % 3))), (0, .ref h0), (1, .int a1), (2, .int a2), (3, .int a3)] := hl
            refine lv_goto (tgt := 148) hx hb dX0_init_211 (by decide) ?_
            obtain ⟨g1, g2, g3, g4⟩ := hi148
            subst g2
            exact hrec148 ls H locs (by omega) ⟨(upd kd1 k 0), (et_d0 a2 / 3 ^ k / 3), 1, lv_sub hl [4, 5, 6, 7, 2, 1, 0] rfl, hP, hD, hS, ⟨by rw [g1]; exact et_kf_s (by first | contradiction | (exfalso; omega) | exact et_kv_1 c175 c180 | exact et_kv_1 c175 c192 | exact et_kv_1 c175 c198 | exact et_kv_1 c180 c175 | exact et_kv_1 c180 c192 | exact et_kv_1 c180 c198 | exact et_kv_1 c192 c175 | exact et_kv_1 c192 c180 | exact et_kv_1 c192 c198 | exact et_kv_1 c198 c175 | exact et_kv_1 c198 c180 | exact et_kv_1 c198 c192 | exact et_kv_2 c175 | exact et_kv_2 c180 | exact et_kv_2 c192 | exact et_kv_2 c198 | exact et_kv_3 c175 | exact et_kv_3 c180 | exact et_kv_3 c192 | exact et_kv_3 c198), et_dg_s, Nat.lt_of_le_of_lt (Nat.div_le_self _ _) g3, by first | contradiction | (exfalso; omega) | exact Or.inl ⟨by first | exact et_hp_k c175 | exact et_hp_k c180 | exact et_hp_k c192 | exact et_hp_k c198 | exact et_hp_1 c175 | exact et_hp_1 c180 | exact et_hp_1 c192 | exact et_hp_1 c198, rfl⟩⟩⟩
end
section
set_option maxHeartbeats 1000000 in
set_option maxRecDepth 100000 in
theorem tM_init (l : Launch) (D : va_G) (h0 : Nat) (a1 a2 a3 : Int32) : ∀ sz : Nat, Met l yX1_init wsX1_init { frames := 1, cells := 9, slots := 228, locals := 40 } (va_Pc [.ref h0, .int a1, .int a2, .int a3] (eb_pre D vwCl [] [(h0, .inr (1, [.int 0, .int 0, .null, .null, .null, .null, .null, .null, .null, .null, .null, .int 0, .int 0, .int 0]))] sz)) (va_Qv (fun u : (Nat → Nat) × (Nat → ClassId) => u.1 0 = h0) (eb_endS D vwCl (fun u => MTy u.2) (fun u => MW u.1 u.2 (nI (et_cl 3 a1)) (nI (et_cl 48 a3)) (et_kf (et_d0 a2) 3) (fun _ => 0) (fun _ => 0) (fun _ => 0) (fun _ => 0) (fun _ => 0) (fun _ => 0) (fun _ => 0) (fun _ => 0) 0 0 0) (va_A [(h0, .inr (1, [.int 0, .int 0, .null, .null, .null, .null, .null, .null, .null, .null, .null, .int 0, .int 0, .int 0]))] sz)) (va_A [(h0, .inr (1, [.int 0, .int 0, .null, .null, .null, .null, .null, .null, .null, .null, .null, .int 0, .int 0, .int 0]))] sz)) 9 228 (va_A [(h0, .inr (1, [.int 0, .int 0, .null, .null, .null, .null, .null, .null, .null, .null, .null, .int 0, .int 0, .int 0]))] sz) := by
  refine eb_openC (Qc := fun A => va_Qv (fun u : (Nat → Nat) × (Nat → ClassId) => u.1 0 = h0) (eb_endS D vwCl (fun u => MTy u.2) (fun u => MW u.1 u.2 (nI (et_cl 3 a1)) (nI (et_cl 48 a3)) (et_kf (et_d0 a2) 3) (fun _ => 0) (fun _ => 0) (fun _ => 0) (fun _ => 0) (fun _ => 0) (fun _ => 0) (fun _ => 0) (fun _ => 0) 0 0 0) A) A) (cc := cX1_init) (maxL := 7) (ret := none) (by decide +kernel) rfl rfl (Nat.le_of_ble_eq_true rfl) ?_
  intro p e s m below meth c A ls H locs hx hb hr hts hown hlk hml hin hP hK hD hA hS hl
  have hU : ∀ w ∈ wsX10, w ∈ wsX1_init := fun w h => List.mem_cons_of_mem _ (List.mem_append_right _ h)
  have hf_kind := hts (.fieldLink RX1 7 "EntryTableModel" "kind" "[I") (by decide +kernel)
  have hf_number := hts (.fieldLink RX1 13 "EntryTableModel" "number" "[I") (by decide +kernel)
  have hf_priority := hts (.fieldLink RX1 16 "EntryTableModel" "priority" "[I") (by decide +kernel)
  have hf_hits := hts (.fieldLink RX1 19 "EntryTableModel" "hits" "[I") (by decide +kernel)
  have hf_value := hts (.fieldLink RX1 22 "EntryTableModel" "value" "[J") (by decide +kernel)
  have hf_mask := hts (.fieldLink RX1 26 "EntryTableModel" "mask" "[J") (by decide +kernel)
  have hf_madeValue := hts (.fieldLink RX1 29 "EntryTableModel" "madeValue" "[J") (by decide +kernel)
  have hf_madeMask := hts (.fieldLink RX1 32 "EntryTableModel" "madeMask" "[J") (by decide +kernel)
  have hf_asked := hts (.fieldLink RX1 35 "EntryTableModel" "asked" "[J") (by decide +kernel)
  have hf_keys := hts (.fieldLink RX1 38 "EntryTableModel" "keys" "I") (by decide +kernel)
  have hf_width := hts (.fieldLink RX1 42 "EntryTableModel" "width" "I") (by decide +kernel)
  have hl : lv_has ls 7 [(0, .ref h0), (1, .int a1), (2, .int a2), (3, .int a3)] := hl
  refine lv_aload_n hx hb dX1_init_0 rfl (lv_at hl 0 rfl) ?_
  refine W.objInit hx hb hown (hts (.methodLink RX1 1 objectInit) (by decide +kernel)) (hts (.instanceMethod objectInit) (by decide +kernel)) (hts _ (List.mem_cons_of_mem _ (List.mem_append_left _ (List.mem_of_getElem? (i := 2) rfl)))) rfl (by rw [hml]; exact hl.1) rfl dX1_init_1 (Nat.le_of_ble_eq_true rfl) (Nat.le_of_ble_eq_true rfl) ?_
  refine W.eq (g2 := F0 m 4 ls []) rfl ?_
  refine lv_aload_n hx hb dX1_init_4 rfl (lv_at hl 0 rfl) ?_
  refine lv_iconst (v := 3) hx hb dX1_init_5 (by decide) ?_
  refine va_newa (atype := .int) (ty := .int) (N' := 3) (a0 := (3, .inl (fun _ => 0))) hx hb (hts (.arrayClass .int) (by decide +kernel)) rfl hK hP hD hS hA (fun _ => vp_cell_i ..) (by decide) (by decide) (by decide) (Nat.le_of_ble_eq_true rfl) (Nat.le_of_ble_eq_true rfl) dX1_init_6 (fun q1 c1 H hK hP hD hS => ?_)
  have hK : va_K D vwCl [(c1, .int)] s := hK
  have hP : va_P D vwCl ([(h0, .inr (1, [.int 0, .int 0, .null, .null, .null, .null, .null, .null, .null, .null, .null, .int 0, .int 0, .int 0])), (q1, .inl (c1, 3, .inl (fun _ => 0)))]) H := hP
  have hD : va_D A ([(h0, .inr (1, [.int 0, .int 0, .null, .null, .null, .null, .null, .null, .null, .null, .null, .int 0, .int 0, .int 0])), (q1, .inl (c1, 3, .inl (fun _ => 0)))]) := hD
  refine va_putF (D := D) (ci := 1) (ty := (.array .int)) (C := RX1) (T := TX1) (N := 14) hx hb hts hU tyX1 tyX1_ok nmX1 hown hK hP hD hS 0 rfl rfl 2 (by decide) hf_kind (fun _ h9 => h9) rfl hin rfl (by decide +kernel) rfl rfl (Nat.le_of_ble_eq_true rfl) dX1_init_8 (fun H locs hP hD hS => ?_)
  have hP : va_P D vwCl ([(h0, .inr (1, [.int 0, .int 0, .ref q1, .null, .null, .null, .null, .null, .null, .null, .null, .int 0, .int 0, .int 0])), (q1, .inl (c1, 3, .inl (fun _ => 0)))]) H := hP
  have hD : va_D A ([(h0, .inr (1, [.int 0, .int 0, .ref q1, .null, .null, .null, .null, .null, .null, .null, .null, .int 0, .int 0, .int 0])), (q1, .inl (c1, 3, .inl (fun _ => 0)))]) := hD
  refine lv_aload_n hx hb dX1_init_11 rfl (lv_at hl 0 rfl) ?_
  refine lv_bipush (v := 24) hx hb dX1_init_12 (by decide) ?_
  refine va_newa (atype := .int) (ty := .int) (N' := 24) (a0 := (24, .inl (fun _ => 0))) hx hb (hts (.arrayClass .int) (by decide +kernel)) rfl hK hP hD hS hA (fun _ => vp_cell_i ..) (by decide) (by decide) (by decide) (Nat.le_of_ble_eq_true rfl) (Nat.le_of_ble_eq_true rfl) dX1_init_14 (fun q2 c2 H hK hP hD hS => ?_)
  have hK : va_K D vwCl [(c1, .int), (c2, .int)] s := hK
  have hP : va_P D vwCl ([(h0, .inr (1, [.int 0, .int 0, .ref q1, .null, .null, .null, .null, .null, .null, .null, .null, .int 0, .int 0, .int 0])), (q1, .inl (c1, 3, .inl (fun _ => 0))), (q2, .inl (c2, 24, .inl (fun _ => 0)))]) H := hP
  have hD : va_D A ([(h0, .inr (1, [.int 0, .int 0, .ref q1, .null, .null, .null, .null, .null, .null, .null, .null, .int 0, .int 0, .int 0])), (q1, .inl (c1, 3, .inl (fun _ => 0))), (q2, .inl (c2, 24, .inl (fun _ => 0)))]) := hD
  refine va_putF (D := D) (ci := 1) (ty := (.array .int)) (C := RX1) (T := TX1) (N := 14) hx hb hts hU tyX1 tyX1_ok nmX1 hown hK hP hD hS 0 rfl rfl 3 (by decide) hf_number (fun _ h9 => h9) rfl hin rfl (by decide +kernel) rfl rfl (Nat.le_of_ble_eq_true rfl) dX1_init_16 (fun H locs hP hD hS => ?_)
  have hP : va_P D vwCl ([(h0, .inr (1, [.int 0, .int 0, .ref q1, .ref q2, .null, .null, .null, .null, .null, .null, .null, .int 0, .int 0, .int 0])), (q1, .inl (c1, 3, .inl (fun _ => 0))), (q2, .inl (c2, 24, .inl (fun _ => 0)))]) H := hP
  have hD : va_D A ([(h0, .inr (1, [.int 0, .int 0, .ref q1, .ref q2, .null, .null, .null, .null, .null, .null, .null, .int 0, .int 0, .int 0])), (q1, .inl (c1, 3, .inl (fun _ => 0))), (q2, .inl (c2, 24, .inl (fun _ => 0)))]) := hD
  refine lv_aload_n hx hb dX1_init_19 rfl (lv_at hl 0 rfl) ?_
  refine lv_bipush (v := 24) hx hb dX1_init_20 (by decide) ?_
  refine va_newa (atype := .int) (ty := .int) (N' := 24) (a0 := (24, .inl (fun _ => 0))) hx hb (hts (.arrayClass .int) (by decide +kernel)) rfl hK hP hD hS hA (fun _ => vp_cell_i ..) (by decide) (by decide) (by decide) (Nat.le_of_ble_eq_true rfl) (Nat.le_of_ble_eq_true rfl) dX1_init_22 (fun q3 c3 H hK hP hD hS => ?_)
  have hK : va_K D vwCl [(c1, .int), (c2, .int), (c3, .int)] s := hK
  have hP : va_P D vwCl ([(h0, .inr (1, [.int 0, .int 0, .ref q1, .ref q2, .null, .null, .null, .null, .null, .null, .null, .int 0, .int 0, .int 0])), (q1, .inl (c1, 3, .inl (fun _ => 0))), (q2, .inl (c2, 24, .inl (fun _ => 0))), (q3, .inl (c3, 24, .inl (fun _ => 0)))]) H := hP
  have hD : va_D A ([(h0, .inr (1, [.int 0, .int 0, .ref q1, .ref q2, .null, .null, .null, .null, .null, .null, .null, .int 0, .int 0, .int 0])), (q1, .inl (c1, 3, .inl (fun _ => 0))), (q2, .inl (c2, 24, .inl (fun _ => 0))), (q3, .inl (c3, 24, .inl (fun _ => 0)))]) := hD
  refine va_putF (D := D) (ci := 1) (ty := (.array .int)) (C := RX1) (T := TX1) (N := 14) hx hb hts hU tyX1 tyX1_ok nmX1 hown hK hP hD hS 0 rfl rfl 4 (by decide) hf_priority (fun _ h9 => h9) rfl hin rfl (by decide +kernel) rfl rfl (Nat.le_of_ble_eq_true rfl) dX1_init_24 (fun H locs hP hD hS => ?_)
  have hP : va_P D vwCl ([(h0, .inr (1, [.int 0, .int 0, .ref q1, .ref q2, .ref q3, .null, .null, .null, .null, .null, .null, .int 0, .int 0, .int 0])), (q1, .inl (c1, 3, .inl (fun _ => 0))), (q2, .inl (c2, 24, .inl (fun _ => 0))), (q3, .inl (c3, 24, .inl (fun _ => 0)))]) H := hP
  have hD : va_D A ([(h0, .inr (1, [.int 0, .int 0, .ref q1, .ref q2, .ref q3, .null, .null, .null, .null, .null, .null, .int 0, .int 0, .int 0])), (q1, .inl (c1, 3, .inl (fun _ => 0))), (q2, .inl (c2, 24, .inl (fun _ => 0))), (q3, .inl (c3, 24, .inl (fun _ => 0)))]) := hD
  refine lv_aload_n hx hb dX1_init_27 rfl (lv_at hl 0 rfl) ?_
  refine lv_bipush (v := 24) hx hb dX1_init_28 (by decide) ?_
  refine va_newa (atype := .int) (ty := .int) (N' := 24) (a0 := (24, .inl (fun _ => 0))) hx hb (hts (.arrayClass .int) (by decide +kernel)) rfl hK hP hD hS hA (fun _ => vp_cell_i ..) (by decide) (by decide) (by decide) (Nat.le_of_ble_eq_true rfl) (Nat.le_of_ble_eq_true rfl) dX1_init_30 (fun q4 c4 H hK hP hD hS => ?_)
  have hK : va_K D vwCl [(c1, .int), (c2, .int), (c3, .int), (c4, .int)] s := hK
  have hP : va_P D vwCl ([(h0, .inr (1, [.int 0, .int 0, .ref q1, .ref q2, .ref q3, .null, .null, .null, .null, .null, .null, .int 0, .int 0, .int 0])), (q1, .inl (c1, 3, .inl (fun _ => 0))), (q2, .inl (c2, 24, .inl (fun _ => 0))), (q3, .inl (c3, 24, .inl (fun _ => 0))), (q4, .inl (c4, 24, .inl (fun _ => 0)))]) H := hP
  have hD : va_D A ([(h0, .inr (1, [.int 0, .int 0, .ref q1, .ref q2, .ref q3, .null, .null, .null, .null, .null, .null, .int 0, .int 0, .int 0])), (q1, .inl (c1, 3, .inl (fun _ => 0))), (q2, .inl (c2, 24, .inl (fun _ => 0))), (q3, .inl (c3, 24, .inl (fun _ => 0))), (q4, .inl (c4, 24, .inl (fun _ => 0)))]) := hD
  refine va_putF (D := D) (ci := 1) (ty := (.array .int)) (C := RX1) (T := TX1) (N := 14) hx hb hts hU tyX1 tyX1_ok nmX1 hown hK hP hD hS 0 rfl rfl 5 (by decide) hf_hits (fun _ h9 => h9) rfl hin rfl (by decide +kernel) rfl rfl (Nat.le_of_ble_eq_true rfl) dX1_init_32 (fun H locs hP hD hS => ?_)
  have hP : va_P D vwCl ([(h0, .inr (1, [.int 0, .int 0, .ref q1, .ref q2, .ref q3, .ref q4, .null, .null, .null, .null, .null, .int 0, .int 0, .int 0])), (q1, .inl (c1, 3, .inl (fun _ => 0))), (q2, .inl (c2, 24, .inl (fun _ => 0))), (q3, .inl (c3, 24, .inl (fun _ => 0))), (q4, .inl (c4, 24, .inl (fun _ => 0)))]) H := hP
  have hD : va_D A ([(h0, .inr (1, [.int 0, .int 0, .ref q1, .ref q2, .ref q3, .ref q4, .null, .null, .null, .null, .null, .int 0, .int 0, .int 0])), (q1, .inl (c1, 3, .inl (fun _ => 0))), (q2, .inl (c2, 24, .inl (fun _ => 0))), (q3, .inl (c3, 24, .inl (fun _ => 0))), (q4, .inl (c4, 24, .inl (fun _ => 0)))]) := hD
  refine lv_aload_n hx hb dX1_init_35 rfl (lv_at hl 0 rfl) ?_
  refine lv_bipush (v := 72) hx hb dX1_init_36 (by decide) ?_
  refine va_newa (atype := .long) (ty := .long) (N' := 72) (a0 := (72, .inr (.inl (fun _ => 0)))) hx hb (hts (.arrayClass .long) (by decide +kernel)) rfl hK hP hD hS hA (fun _ => vp_cell_l ..) (by decide) (by decide) (by decide) (Nat.le_of_ble_eq_true rfl) (Nat.le_of_ble_eq_true rfl) dX1_init_38 (fun q5 c5 H hK hP hD hS => ?_)
  have hK : va_K D vwCl [(c1, .int), (c2, .int), (c3, .int), (c4, .int), (c5, .long)] s := hK
  have hP : va_P D vwCl ([(h0, .inr (1, [.int 0, .int 0, .ref q1, .ref q2, .ref q3, .ref q4, .null, .null, .null, .null, .null, .int 0, .int 0, .int 0])), (q1, .inl (c1, 3, .inl (fun _ => 0))), (q2, .inl (c2, 24, .inl (fun _ => 0))), (q3, .inl (c3, 24, .inl (fun _ => 0))), (q4, .inl (c4, 24, .inl (fun _ => 0))), (q5, .inl (c5, 72, .inr (.inl (fun _ => 0))))]) H := hP
  have hD : va_D A ([(h0, .inr (1, [.int 0, .int 0, .ref q1, .ref q2, .ref q3, .ref q4, .null, .null, .null, .null, .null, .int 0, .int 0, .int 0])), (q1, .inl (c1, 3, .inl (fun _ => 0))), (q2, .inl (c2, 24, .inl (fun _ => 0))), (q3, .inl (c3, 24, .inl (fun _ => 0))), (q4, .inl (c4, 24, .inl (fun _ => 0))), (q5, .inl (c5, 72, .inr (.inl (fun _ => 0))))]) := hD
  refine va_putF (D := D) (ci := 1) (ty := (.array .long)) (C := RX1) (T := TX1) (N := 14) hx hb hts hU tyX1 tyX1_ok nmX1 hown hK hP hD hS 0 rfl rfl 6 (by decide) hf_value (fun _ h9 => h9) rfl hin rfl (by decide +kernel) rfl rfl (Nat.le_of_ble_eq_true rfl) dX1_init_40 (fun H locs hP hD hS => ?_)
  have hP : va_P D vwCl ([(h0, .inr (1, [.int 0, .int 0, .ref q1, .ref q2, .ref q3, .ref q4, .ref q5, .null, .null, .null, .null, .int 0, .int 0, .int 0])), (q1, .inl (c1, 3, .inl (fun _ => 0))), (q2, .inl (c2, 24, .inl (fun _ => 0))), (q3, .inl (c3, 24, .inl (fun _ => 0))), (q4, .inl (c4, 24, .inl (fun _ => 0))), (q5, .inl (c5, 72, .inr (.inl (fun _ => 0))))]) H := hP
  have hD : va_D A ([(h0, .inr (1, [.int 0, .int 0, .ref q1, .ref q2, .ref q3, .ref q4, .ref q5, .null, .null, .null, .null, .int 0, .int 0, .int 0])), (q1, .inl (c1, 3, .inl (fun _ => 0))), (q2, .inl (c2, 24, .inl (fun _ => 0))), (q3, .inl (c3, 24, .inl (fun _ => 0))), (q4, .inl (c4, 24, .inl (fun _ => 0))), (q5, .inl (c5, 72, .inr (.inl (fun _ => 0))))]) := hD
  refine lv_aload_n hx hb dX1_init_43 rfl (lv_at hl 0 rfl) ?_
  refine lv_bipush (v := 72) hx hb dX1_init_44 (by decide) ?_
  refine va_newa (atype := .long) (ty := .long) (N' := 72) (a0 := (72, .inr (.inl (fun _ => 0)))) hx hb (hts (.arrayClass .long) (by decide +kernel)) rfl hK hP hD hS hA (fun _ => vp_cell_l ..) (by decide) (by decide) (by decide) (Nat.le_of_ble_eq_true rfl) (Nat.le_of_ble_eq_true rfl) dX1_init_46 (fun q6 c6 H hK hP hD hS => ?_)
  have hK : va_K D vwCl [(c1, .int), (c2, .int), (c3, .int), (c4, .int), (c5, .long), (c6, .long)] s := hK
  have hP : va_P D vwCl ([(h0, .inr (1, [.int 0, .int 0, .ref q1, .ref q2, .ref q3, .ref q4, .ref q5, .null, .null, .null, .null, .int 0, .int 0, .int 0])), (q1, .inl (c1, 3, .inl (fun _ => 0))), (q2, .inl (c2, 24, .inl (fun _ => 0))), (q3, .inl (c3, 24, .inl (fun _ => 0))), (q4, .inl (c4, 24, .inl (fun _ => 0))), (q5, .inl (c5, 72, .inr (.inl (fun _ => 0)))), (q6, .inl (c6, 72, .inr (.inl (fun _ => 0))))]) H := hP
  have hD : va_D A ([(h0, .inr (1, [.int 0, .int 0, .ref q1, .ref q2, .ref q3, .ref q4, .ref q5, .null, .null, .null, .null, .int 0, .int 0, .int 0])), (q1, .inl (c1, 3, .inl (fun _ => 0))), (q2, .inl (c2, 24, .inl (fun _ => 0))), (q3, .inl (c3, 24, .inl (fun _ => 0))), (q4, .inl (c4, 24, .inl (fun _ => 0))), (q5, .inl (c5, 72, .inr (.inl (fun _ => 0)))), (q6, .inl (c6, 72, .inr (.inl (fun _ => 0))))]) := hD
  refine va_putF (D := D) (ci := 1) (ty := (.array .long)) (C := RX1) (T := TX1) (N := 14) hx hb hts hU tyX1 tyX1_ok nmX1 hown hK hP hD hS 0 rfl rfl 7 (by decide) hf_mask (fun _ h9 => h9) rfl hin rfl (by decide +kernel) rfl rfl (Nat.le_of_ble_eq_true rfl) dX1_init_48 (fun H locs hP hD hS => ?_)
  have hP : va_P D vwCl ([(h0, .inr (1, [.int 0, .int 0, .ref q1, .ref q2, .ref q3, .ref q4, .ref q5, .ref q6, .null, .null, .null, .int 0, .int 0, .int 0])), (q1, .inl (c1, 3, .inl (fun _ => 0))), (q2, .inl (c2, 24, .inl (fun _ => 0))), (q3, .inl (c3, 24, .inl (fun _ => 0))), (q4, .inl (c4, 24, .inl (fun _ => 0))), (q5, .inl (c5, 72, .inr (.inl (fun _ => 0)))), (q6, .inl (c6, 72, .inr (.inl (fun _ => 0))))]) H := hP
  have hD : va_D A ([(h0, .inr (1, [.int 0, .int 0, .ref q1, .ref q2, .ref q3, .ref q4, .ref q5, .ref q6, .null, .null, .null, .int 0, .int 0, .int 0])), (q1, .inl (c1, 3, .inl (fun _ => 0))), (q2, .inl (c2, 24, .inl (fun _ => 0))), (q3, .inl (c3, 24, .inl (fun _ => 0))), (q4, .inl (c4, 24, .inl (fun _ => 0))), (q5, .inl (c5, 72, .inr (.inl (fun _ => 0)))), (q6, .inl (c6, 72, .inr (.inl (fun _ => 0))))]) := hD
  refine lv_aload_n hx hb dX1_init_51 rfl (lv_at hl 0 rfl) ?_
  refine lv_iconst (v := 3) hx hb dX1_init_52 (by decide) ?_
  refine va_newa (atype := .long) (ty := .long) (N' := 3) (a0 := (3, .inr (.inl (fun _ => 0)))) hx hb (hts (.arrayClass .long) (by decide +kernel)) rfl hK hP hD hS hA (fun _ => vp_cell_l ..) (by decide) (by decide) (by decide) (Nat.le_of_ble_eq_true rfl) (Nat.le_of_ble_eq_true rfl) dX1_init_53 (fun q7 c7 H hK hP hD hS => ?_)
  have hK : va_K D vwCl [(c1, .int), (c2, .int), (c3, .int), (c4, .int), (c5, .long), (c6, .long), (c7, .long)] s := hK
  have hP : va_P D vwCl ([(h0, .inr (1, [.int 0, .int 0, .ref q1, .ref q2, .ref q3, .ref q4, .ref q5, .ref q6, .null, .null, .null, .int 0, .int 0, .int 0])), (q1, .inl (c1, 3, .inl (fun _ => 0))), (q2, .inl (c2, 24, .inl (fun _ => 0))), (q3, .inl (c3, 24, .inl (fun _ => 0))), (q4, .inl (c4, 24, .inl (fun _ => 0))), (q5, .inl (c5, 72, .inr (.inl (fun _ => 0)))), (q6, .inl (c6, 72, .inr (.inl (fun _ => 0)))), (q7, .inl (c7, 3, .inr (.inl (fun _ => 0))))]) H := hP
  have hD : va_D A ([(h0, .inr (1, [.int 0, .int 0, .ref q1, .ref q2, .ref q3, .ref q4, .ref q5, .ref q6, .null, .null, .null, .int 0, .int 0, .int 0])), (q1, .inl (c1, 3, .inl (fun _ => 0))), (q2, .inl (c2, 24, .inl (fun _ => 0))), (q3, .inl (c3, 24, .inl (fun _ => 0))), (q4, .inl (c4, 24, .inl (fun _ => 0))), (q5, .inl (c5, 72, .inr (.inl (fun _ => 0)))), (q6, .inl (c6, 72, .inr (.inl (fun _ => 0)))), (q7, .inl (c7, 3, .inr (.inl (fun _ => 0))))]) := hD
  refine va_putF (D := D) (ci := 1) (ty := (.array .long)) (C := RX1) (T := TX1) (N := 14) hx hb hts hU tyX1 tyX1_ok nmX1 hown hK hP hD hS 0 rfl rfl 8 (by decide) hf_madeValue (fun _ h9 => h9) rfl hin rfl (by decide +kernel) rfl rfl (Nat.le_of_ble_eq_true rfl) dX1_init_55 (fun H locs hP hD hS => ?_)
  have hP : va_P D vwCl ([(h0, .inr (1, [.int 0, .int 0, .ref q1, .ref q2, .ref q3, .ref q4, .ref q5, .ref q6, .ref q7, .null, .null, .int 0, .int 0, .int 0])), (q1, .inl (c1, 3, .inl (fun _ => 0))), (q2, .inl (c2, 24, .inl (fun _ => 0))), (q3, .inl (c3, 24, .inl (fun _ => 0))), (q4, .inl (c4, 24, .inl (fun _ => 0))), (q5, .inl (c5, 72, .inr (.inl (fun _ => 0)))), (q6, .inl (c6, 72, .inr (.inl (fun _ => 0)))), (q7, .inl (c7, 3, .inr (.inl (fun _ => 0))))]) H := hP
  have hD : va_D A ([(h0, .inr (1, [.int 0, .int 0, .ref q1, .ref q2, .ref q3, .ref q4, .ref q5, .ref q6, .ref q7, .null, .null, .int 0, .int 0, .int 0])), (q1, .inl (c1, 3, .inl (fun _ => 0))), (q2, .inl (c2, 24, .inl (fun _ => 0))), (q3, .inl (c3, 24, .inl (fun _ => 0))), (q4, .inl (c4, 24, .inl (fun _ => 0))), (q5, .inl (c5, 72, .inr (.inl (fun _ => 0)))), (q6, .inl (c6, 72, .inr (.inl (fun _ => 0)))), (q7, .inl (c7, 3, .inr (.inl (fun _ => 0))))]) := hD
  refine lv_aload_n hx hb dX1_init_58 rfl (lv_at hl 0 rfl) ?_
  refine lv_iconst (v := 3) hx hb dX1_init_59 (by decide) ?_
  refine va_newa (atype := .long) (ty := .long) (N' := 3) (a0 := (3, .inr (.inl (fun _ => 0)))) hx hb (hts (.arrayClass .long) (by decide +kernel)) rfl hK hP hD hS hA (fun _ => vp_cell_l ..) (by decide) (by decide) (by decide) (Nat.le_of_ble_eq_true rfl) (Nat.le_of_ble_eq_true rfl) dX1_init_60 (fun q8 c8 H hK hP hD hS => ?_)
  have hK : va_K D vwCl [(c1, .int), (c2, .int), (c3, .int), (c4, .int), (c5, .long), (c6, .long), (c7, .long), (c8, .long)] s := hK
  have hP : va_P D vwCl ([(h0, .inr (1, [.int 0, .int 0, .ref q1, .ref q2, .ref q3, .ref q4, .ref q5, .ref q6, .ref q7, .null, .null, .int 0, .int 0, .int 0])), (q1, .inl (c1, 3, .inl (fun _ => 0))), (q2, .inl (c2, 24, .inl (fun _ => 0))), (q3, .inl (c3, 24, .inl (fun _ => 0))), (q4, .inl (c4, 24, .inl (fun _ => 0))), (q5, .inl (c5, 72, .inr (.inl (fun _ => 0)))), (q6, .inl (c6, 72, .inr (.inl (fun _ => 0)))), (q7, .inl (c7, 3, .inr (.inl (fun _ => 0)))), (q8, .inl (c8, 3, .inr (.inl (fun _ => 0))))]) H := hP
  have hD : va_D A ([(h0, .inr (1, [.int 0, .int 0, .ref q1, .ref q2, .ref q3, .ref q4, .ref q5, .ref q6, .ref q7, .null, .null, .int 0, .int 0, .int 0])), (q1, .inl (c1, 3, .inl (fun _ => 0))), (q2, .inl (c2, 24, .inl (fun _ => 0))), (q3, .inl (c3, 24, .inl (fun _ => 0))), (q4, .inl (c4, 24, .inl (fun _ => 0))), (q5, .inl (c5, 72, .inr (.inl (fun _ => 0)))), (q6, .inl (c6, 72, .inr (.inl (fun _ => 0)))), (q7, .inl (c7, 3, .inr (.inl (fun _ => 0)))), (q8, .inl (c8, 3, .inr (.inl (fun _ => 0))))]) := hD
  refine va_putF (D := D) (ci := 1) (ty := (.array .long)) (C := RX1) (T := TX1) (N := 14) hx hb hts hU tyX1 tyX1_ok nmX1 hown hK hP hD hS 0 rfl rfl 9 (by decide) hf_madeMask (fun _ h9 => h9) rfl hin rfl (by decide +kernel) rfl rfl (Nat.le_of_ble_eq_true rfl) dX1_init_62 (fun H locs hP hD hS => ?_)
  have hP : va_P D vwCl ([(h0, .inr (1, [.int 0, .int 0, .ref q1, .ref q2, .ref q3, .ref q4, .ref q5, .ref q6, .ref q7, .ref q8, .null, .int 0, .int 0, .int 0])), (q1, .inl (c1, 3, .inl (fun _ => 0))), (q2, .inl (c2, 24, .inl (fun _ => 0))), (q3, .inl (c3, 24, .inl (fun _ => 0))), (q4, .inl (c4, 24, .inl (fun _ => 0))), (q5, .inl (c5, 72, .inr (.inl (fun _ => 0)))), (q6, .inl (c6, 72, .inr (.inl (fun _ => 0)))), (q7, .inl (c7, 3, .inr (.inl (fun _ => 0)))), (q8, .inl (c8, 3, .inr (.inl (fun _ => 0))))]) H := hP
  have hD : va_D A ([(h0, .inr (1, [.int 0, .int 0, .ref q1, .ref q2, .ref q3, .ref q4, .ref q5, .ref q6, .ref q7, .ref q8, .null, .int 0, .int 0, .int 0])), (q1, .inl (c1, 3, .inl (fun _ => 0))), (q2, .inl (c2, 24, .inl (fun _ => 0))), (q3, .inl (c3, 24, .inl (fun _ => 0))), (q4, .inl (c4, 24, .inl (fun _ => 0))), (q5, .inl (c5, 72, .inr (.inl (fun _ => 0)))), (q6, .inl (c6, 72, .inr (.inl (fun _ => 0)))), (q7, .inl (c7, 3, .inr (.inl (fun _ => 0)))), (q8, .inl (c8, 3, .inr (.inl (fun _ => 0))))]) := hD
  refine lv_aload_n hx hb dX1_init_65 rfl (lv_at hl 0 rfl) ?_
  refine lv_iconst (v := 3) hx hb dX1_init_66 (by decide) ?_
  refine va_newa (atype := .long) (ty := .long) (N' := 3) (a0 := (3, .inr (.inl (fun _ => 0)))) hx hb (hts (.arrayClass .long) (by decide +kernel)) rfl hK hP hD hS hA (fun _ => vp_cell_l ..) (by decide) (by decide) (by decide) (Nat.le_of_ble_eq_true rfl) (Nat.le_of_ble_eq_true rfl) dX1_init_67 (fun q9 c9 H hK hP hD hS => ?_)
  have hK : va_K D vwCl [(c1, .int), (c2, .int), (c3, .int), (c4, .int), (c5, .long), (c6, .long), (c7, .long), (c8, .long), (c9, .long)] s := hK
  have hP : va_P D vwCl ([(h0, .inr (1, [.int 0, .int 0, .ref q1, .ref q2, .ref q3, .ref q4, .ref q5, .ref q6, .ref q7, .ref q8, .null, .int 0, .int 0, .int 0])), (q1, .inl (c1, 3, .inl (fun _ => 0))), (q2, .inl (c2, 24, .inl (fun _ => 0))), (q3, .inl (c3, 24, .inl (fun _ => 0))), (q4, .inl (c4, 24, .inl (fun _ => 0))), (q5, .inl (c5, 72, .inr (.inl (fun _ => 0)))), (q6, .inl (c6, 72, .inr (.inl (fun _ => 0)))), (q7, .inl (c7, 3, .inr (.inl (fun _ => 0)))), (q8, .inl (c8, 3, .inr (.inl (fun _ => 0)))), (q9, .inl (c9, 3, .inr (.inl (fun _ => 0))))]) H := hP
  have hD : va_D A ([(h0, .inr (1, [.int 0, .int 0, .ref q1, .ref q2, .ref q3, .ref q4, .ref q5, .ref q6, .ref q7, .ref q8, .null, .int 0, .int 0, .int 0])), (q1, .inl (c1, 3, .inl (fun _ => 0))), (q2, .inl (c2, 24, .inl (fun _ => 0))), (q3, .inl (c3, 24, .inl (fun _ => 0))), (q4, .inl (c4, 24, .inl (fun _ => 0))), (q5, .inl (c5, 72, .inr (.inl (fun _ => 0)))), (q6, .inl (c6, 72, .inr (.inl (fun _ => 0)))), (q7, .inl (c7, 3, .inr (.inl (fun _ => 0)))), (q8, .inl (c8, 3, .inr (.inl (fun _ => 0)))), (q9, .inl (c9, 3, .inr (.inl (fun _ => 0))))]) := hD
  refine va_putF (D := D) (ci := 1) (ty := (.array .long)) (C := RX1) (T := TX1) (N := 14) hx hb hts hU tyX1 tyX1_ok nmX1 hown hK hP hD hS 0 rfl rfl 10 (by decide) hf_asked (fun _ h9 => h9) rfl hin rfl (by decide +kernel) rfl rfl (Nat.le_of_ble_eq_true rfl) dX1_init_69 (fun H locs hP hD hS => ?_)
  have hP : va_P D vwCl ([(h0, .inr (1, [.int 0, .int 0, .ref q1, .ref q2, .ref q3, .ref q4, .ref q5, .ref q6, .ref q7, .ref q8, .ref q9, .int 0, .int 0, .int 0])), (q1, .inl (c1, 3, .inl (fun _ => 0))), (q2, .inl (c2, 24, .inl (fun _ => 0))), (q3, .inl (c3, 24, .inl (fun _ => 0))), (q4, .inl (c4, 24, .inl (fun _ => 0))), (q5, .inl (c5, 72, .inr (.inl (fun _ => 0)))), (q6, .inl (c6, 72, .inr (.inl (fun _ => 0)))), (q7, .inl (c7, 3, .inr (.inl (fun _ => 0)))), (q8, .inl (c8, 3, .inr (.inl (fun _ => 0)))), (q9, .inl (c9, 3, .inr (.inl (fun _ => 0))))]) H := hP
  have hD : va_D A ([(h0, .inr (1, [.int 0, .int 0, .ref q1, .ref q2, .ref q3, .ref q4, .ref q5, .ref q6, .ref q7, .ref q8, .ref q9, .int 0, .int 0, .int 0])), (q1, .inl (c1, 3, .inl (fun _ => 0))), (q2, .inl (c2, 24, .inl (fun _ => 0))), (q3, .inl (c3, 24, .inl (fun _ => 0))), (q4, .inl (c4, 24, .inl (fun _ => 0))), (q5, .inl (c5, 72, .inr (.inl (fun _ => 0)))), (q6, .inl (c6, 72, .inr (.inl (fun _ => 0)))), (q7, .inl (c7, 3, .inr (.inl (fun _ => 0)))), (q8, .inl (c8, 3, .inr (.inl (fun _ => 0)))), (q9, .inl (c9, 3, .inr (.inl (fun _ => 0))))]) := hD
  refine lv_aload_n hx hb dX1_init_72 rfl (lv_at hl 0 rfl) ?_
  refine eb_ji ([(h0, .inr (1, [.int 0, .int 0, .ref q1, .ref q2, .ref q3, .ref q4, .ref q5, .ref q6, .ref q7, .ref q8, .ref q9, .int 0, .int 0, .int 0])), (q1, .inl (c1, 3, .inl (fun _ => 0))), (q2, .inl (c2, 24, .inl (fun _ => 0))), (q3, .inl (c3, 24, .inl (fun _ => 0))), (q4, .inl (c4, 24, .inl (fun _ => 0))), (q5, .inl (c5, 72, .inr (.inl (fun _ => 0)))), (q6, .inl (c6, 72, .inr (.inl (fun _ => 0)))), (q7, .inl (c7, 3, .inr (.inl (fun _ => 0)))), (q8, .inl (c8, 3, .inr (.inl (fun _ => 0)))), (q9, .inl (c9, 3, .inr (.inl (fun _ => 0))))]) hP hS 92 (nI (et_cl 3 a1)) (fun hj73 => ?_) (fun H locs hP hS => ?_)
  · refine lv_iload_n hx hb dX1_init_73 rfl (lv_at hl 1 rfl) ?_
    refine lv_iconst (v := 1) hx hb dX1_init_74 (by decide) ?_
    refine lv_icmp_ge (tgt := 82) hx hb dX1_init_75 (by decide) (fun c75 => ?_) (fun c75 => ?_)
    · rw [← Int32.not_lt] at c75
      refine lv_iload_n hx hb dX1_init_82 rfl (lv_at hl 1 rfl) ?_
      refine lv_iconst (v := 3) hx hb dX1_init_83 (by decide) ?_
      refine lv_icmp_le (tgt := 91) hx hb dX1_init_84 (by decide) (fun c84 => ?_) (fun c84 => ?_)
      · rw [← Int32.not_lt] at c84
        refine lv_iload_n hx hb dX1_init_91 rfl (lv_at hl 1 rfl) ?_
        exact hj73 _ H locs (et_cl_mid (h := 3) (by decide) c75 c84) hP hS
      · rw [Int32.not_le] at c84
        refine lv_iconst (v := 3) hx hb dX1_init_87 (by decide) ?_
        refine lv_goto (tgt := 92) hx hb dX1_init_88 (by decide) ?_
        exact hj73 _ H locs (et_cl_hi (h := 3) (by decide) c75 c84) hP hS
    · rw [Int32.not_le] at c75
      refine lv_iconst (v := 1) hx hb dX1_init_78 (by decide) ?_
      refine lv_goto (tgt := 92) hx hb dX1_init_79 (by decide) ?_
      exact hj73 _ H locs (et_cl_lo c75) hP hS
  · refine va_putF (D := D) (ci := 1) (ty := .int) (C := RX1) (T := TX1) (N := 14) hx hb hts hU tyX1 tyX1_ok nmX1 hown hK hP hD hS 0 rfl rfl 0 (by decide) hf_keys (fun _ h9 => h9) rfl hin rfl (by decide +kernel) rfl rfl (Nat.le_of_ble_eq_true rfl) dX1_init_92 (fun H locs hP hD hS => ?_)
    have hP : va_P D vwCl ([(h0, .inr (1, [.int (nI (et_cl 3 a1)), .int 0, .ref q1, .ref q2, .ref q3, .ref q4, .ref q5, .ref q6, .ref q7, .ref q8, .ref q9, .int 0, .int 0, .int 0])), (q1, .inl (c1, 3, .inl (fun _ => 0))), (q2, .inl (c2, 24, .inl (fun _ => 0))), (q3, .inl (c3, 24, .inl (fun _ => 0))), (q4, .inl (c4, 24, .inl (fun _ => 0))), (q5, .inl (c5, 72, .inr (.inl (fun _ => 0)))), (q6, .inl (c6, 72, .inr (.inl (fun _ => 0)))), (q7, .inl (c7, 3, .inr (.inl (fun _ => 0)))), (q8, .inl (c8, 3, .inr (.inl (fun _ => 0)))), (q9, .inl (c9, 3, .inr (.inl (fun _ => 0))))]) H := hP
    have hD : va_D A ([(h0, .inr (1, [.int (nI (et_cl 3 a1)), .int 0, .ref q1, .ref q2, .ref q3, .ref q4, .ref q5, .ref q6, .ref q7, .ref q8, .ref q9, .int 0, .int 0, .int 0])), (q1, .inl (c1, 3, .inl (fun _ => 0))), (q2, .inl (c2, 24, .inl (fun _ => 0))), (q3, .inl (c3, 24, .inl (fun _ => 0))), (q4, .inl (c4, 24, .inl (fun _ => 0))), (q5, .inl (c5, 72, .inr (.inl (fun _ => 0)))), (q6, .inl (c6, 72, .inr (.inl (fun _ => 0)))), (q7, .inl (c7, 3, .inr (.inl (fun _ => 0)))), (q8, .inl (c8, 3, .inr (.inl (fun _ => 0)))), (q9, .inl (c9, 3, .inr (.inl (fun _ => 0))))]) := hD
    refine lv_aload_n hx hb dX1_init_95 rfl (lv_at hl 0 rfl) ?_
    refine eb_ji ([(h0, .inr (1, [.int (nI (et_cl 3 a1)), .int 0, .ref q1, .ref q2, .ref q3, .ref q4, .ref q5, .ref q6, .ref q7, .ref q8, .ref q9, .int 0, .int 0, .int 0])), (q1, .inl (c1, 3, .inl (fun _ => 0))), (q2, .inl (c2, 24, .inl (fun _ => 0))), (q3, .inl (c3, 24, .inl (fun _ => 0))), (q4, .inl (c4, 24, .inl (fun _ => 0))), (q5, .inl (c5, 72, .inr (.inl (fun _ => 0)))), (q6, .inl (c6, 72, .inr (.inl (fun _ => 0)))), (q7, .inl (c7, 3, .inr (.inl (fun _ => 0)))), (q8, .inl (c8, 3, .inr (.inl (fun _ => 0)))), (q9, .inl (c9, 3, .inr (.inl (fun _ => 0))))]) hP hS 117 (nI (et_cl 48 a3)) (fun hj96 => ?_) (fun H locs hP hS => ?_)
    · refine lv_iload_n hx hb dX1_init_96 rfl (lv_at hl 3 rfl) ?_
      refine lv_iconst (v := 1) hx hb dX1_init_97 (by decide) ?_
      refine lv_icmp_ge (tgt := 105) hx hb dX1_init_98 (by decide) (fun c98 => ?_) (fun c98 => ?_)
      · rw [← Int32.not_lt] at c98
        refine lv_iload_n hx hb dX1_init_105 rfl (lv_at hl 3 rfl) ?_
        refine lv_bipush (v := 48) hx hb dX1_init_106 (by decide) ?_
        refine lv_icmp_le (tgt := 116) hx hb dX1_init_108 (by decide) (fun c108 => ?_) (fun c108 => ?_)
        · rw [← Int32.not_lt] at c108
          refine lv_iload_n hx hb dX1_init_116 rfl (lv_at hl 3 rfl) ?_
          exact hj96 _ H locs (et_cl_mid (h := 48) (by decide) c98 c108) hP hS
        · rw [Int32.not_le] at c108
          refine lv_bipush (v := 48) hx hb dX1_init_111 (by decide) ?_
          refine lv_goto (tgt := 117) hx hb dX1_init_113 (by decide) ?_
          exact hj96 _ H locs (et_cl_hi (h := 48) (by decide) c98 c108) hP hS
      · rw [Int32.not_le] at c98
        refine lv_iconst (v := 1) hx hb dX1_init_101 (by decide) ?_
        refine lv_goto (tgt := 117) hx hb dX1_init_102 (by decide) ?_
        exact hj96 _ H locs (et_cl_lo c98) hP hS
    · refine va_putF (D := D) (ci := 1) (ty := .int) (C := RX1) (T := TX1) (N := 14) hx hb hts hU tyX1 tyX1_ok nmX1 hown hK hP hD hS 0 rfl rfl 1 (by decide) hf_width (fun _ h9 => h9) rfl hin rfl (by decide +kernel) rfl rfl (Nat.le_of_ble_eq_true rfl) dX1_init_117 (fun H locs hP hD hS => ?_)
      have hP : va_P D vwCl ([(h0, .inr (1, [.int (nI (et_cl 3 a1)), .int (nI (et_cl 48 a3)), .ref q1, .ref q2, .ref q3, .ref q4, .ref q5, .ref q6, .ref q7, .ref q8, .ref q9, .int 0, .int 0, .int 0])), (q1, .inl (c1, 3, .inl (fun _ => 0))), (q2, .inl (c2, 24, .inl (fun _ => 0))), (q3, .inl (c3, 24, .inl (fun _ => 0))), (q4, .inl (c4, 24, .inl (fun _ => 0))), (q5, .inl (c5, 72, .inr (.inl (fun _ => 0)))), (q6, .inl (c6, 72, .inr (.inl (fun _ => 0)))), (q7, .inl (c7, 3, .inr (.inl (fun _ => 0)))), (q8, .inl (c8, 3, .inr (.inl (fun _ => 0)))), (q9, .inl (c9, 3, .inr (.inl (fun _ => 0))))]) H := hP
      have hD : va_D A ([(h0, .inr (1, [.int (nI (et_cl 3 a1)), .int (nI (et_cl 48 a3)), .ref q1, .ref q2, .ref q3, .ref q4, .ref q5, .ref q6, .ref q7, .ref q8, .ref q9, .int 0, .int 0, .int 0])), (q1, .inl (c1, 3, .inl (fun _ => 0))), (q2, .inl (c2, 24, .inl (fun _ => 0))), (q3, .inl (c3, 24, .inl (fun _ => 0))), (q4, .inl (c4, 24, .inl (fun _ => 0))), (q5, .inl (c5, 72, .inr (.inl (fun _ => 0)))), (q6, .inl (c6, 72, .inr (.inl (fun _ => 0)))), (q7, .inl (c7, 3, .inr (.inl (fun _ => 0)))), (q8, .inl (c8, 3, .inr (.inl (fun _ => 0)))), (q9, .inl (c9, 3, .inr (.inl (fun _ => 0))))]) := hD
      refine eb_ji ([(h0, .inr (1, [.int (nI (et_cl 3 a1)), .int (nI (et_cl 48 a3)), .ref q1, .ref q2, .ref q3, .ref q4, .ref q5, .ref q6, .ref q7, .ref q8, .ref q9, .int 0, .int 0, .int 0])), (q1, .inl (c1, 3, .inl (fun _ => 0))), (q2, .inl (c2, 24, .inl (fun _ => 0))), (q3, .inl (c3, 24, .inl (fun _ => 0))), (q4, .inl (c4, 24, .inl (fun _ => 0))), (q5, .inl (c5, 72, .inr (.inl (fun _ => 0)))), (q6, .inl (c6, 72, .inr (.inl (fun _ => 0)))), (q7, .inl (c7, 3, .inr (.inl (fun _ => 0)))), (q8, .inl (c8, 3, .inr (.inl (fun _ => 0)))), (q9, .inl (c9, 3, .inr (.inl (fun _ => 0))))]) hP hS 129 (nI (et_d0 a2)) (fun hj120 => ?_) (fun H locs hP hS => ?_)
      · refine lv_iload_n hx hb dX1_init_120 rfl (lv_at hl 2 rfl) ?_
        refine lv_if_ge (tgt := 128) hx hb dX1_init_121 (by decide) (fun c121 => ?_) (fun c121 => ?_)
        · rw [← Int32.not_lt] at c121
          refine lv_iload_n hx hb dX1_init_128 rfl (lv_at hl 2 rfl) ?_
          exact hj120 _ H locs (et_d0_pos c121) hP hS
        · rw [Int32.not_le] at c121
          refine lv_iconst (v := 0) hx hb dX1_init_124 (by decide) ?_
          refine lv_goto (tgt := 129) hx hb dX1_init_125 (by decide) ?_
          exact hj120 _ H locs (et_d0_neg' c121) hP hS
      · refine lv_istore hx hb dX1_init_129 hl (by decide) rfl (fun ls hl => ?_)
        have hl : lv_has ls 7 [(4, .int (nI (et_d0 a2))), (0, .ref h0), (1, .int a1), (2, .int a2), (3, .int a3)] := hl
        refine lv_iconst (v := 0) hx hb dX1_init_131 (by decide) ?_
        refine lv_istore hx hb dX1_init_132 hl (by decide) rfl (fun ls hl => ?_)
        have hl : lv_has ls 7 [(5, .int 0), (4, .int (nI (et_d0 a2))), (0, .ref h0), (1, .int a1), (2, .int a2), (3, .int a3)] := hl
        refine lv_iconst (v := 0) hx hb dX1_init_134 (by decide) ?_
        refine lv_istore hx hb dX1_init_135 hl (by decide) rfl (fun ls hl => ?_)
        have hl : lv_has ls 7 [(6, .int 0), (5, .int 0), (4, .int (nI (et_d0 a2))), (0, .ref h0), (1, .int a1), (2, .int a2), (3, .int a3)] := hl
        refine eb_for (fun (k : Nat) (ls : Array Slot) (H : Heap) (locs : List Loc) => ∃ kd1 : Nat → Int32, ∃ d : Nat, ∃ hb0 : Int32, lv_has ls 7 [(0, .ref h0), (1, .int a1), (2, .int a2), (3, .int a3), (4, .int (nI d)), (5, .int hb0), (6, .int (nI k))] ∧ va_P D vwCl ([(h0, .inr (1, [.int (nI (et_cl 3 a1)), .int (nI (et_cl 48 a3)), .ref q1, .ref q2, .ref q3, .ref q4, .ref q5, .ref q6, .ref q7, .ref q8, .ref q9, .int 0, .int 0, .int 0])), (q1, .inl (c1, 3, .inl kd1)), (q2, .inl (c2, 24, .inl (fun _ => 0))), (q3, .inl (c3, 24, .inl (fun _ => 0))), (q4, .inl (c4, 24, .inl (fun _ => 0))), (q5, .inl (c5, 72, .inr (.inl (fun _ => 0)))), (q6, .inl (c6, 72, .inr (.inl (fun _ => 0)))), (q7, .inl (c7, 3, .inr (.inl (fun _ => 0)))), (q8, .inl (c8, 3, .inr (.inl (fun _ => 0)))), (q9, .inl (c9, 3, .inr (.inl (fun _ => 0))))]) H ∧ va_D A ([(h0, .inr (1, [.int (nI (et_cl 3 a1)), .int (nI (et_cl 48 a3)), .ref q1, .ref q2, .ref q3, .ref q4, .ref q5, .ref q6, .ref q7, .ref q8, .ref q9, .int 0, .int 0, .int 0])), (q1, .inl (c1, 3, .inl kd1)), (q2, .inl (c2, 24, .inl (fun _ => 0))), (q3, .inl (c3, 24, .inl (fun _ => 0))), (q4, .inl (c4, 24, .inl (fun _ => 0))), (q5, .inl (c5, 72, .inr (.inl (fun _ => 0)))), (q6, .inl (c6, 72, .inr (.inl (fun _ => 0)))), (q7, .inl (c7, 3, .inr (.inl (fun _ => 0)))), (q8, .inl (c8, 3, .inr (.inl (fun _ => 0)))), (q9, .inl (c9, 3, .inr (.inl (fun _ => 0))))]) ∧ va_S A s.heap H locs ∧ (kd1 = et_kf (et_d0 a2) k ∧ d = et_d0 a2 / 3 ^ k ∧ d < 2 ^ 31 ∧ ((et_hp (et_d0 a2) k ∧ hb0 = 1) ∨ (¬ et_hp (et_d0 a2) k ∧ hb0 = 0)))) 137 (3) ?_ (3) (0) ls H locs (by omega) ⟨(fun _ => 0), (et_d0 a2), 0, lv_sub hl [3, 4, 5, 6, 2, 1, 0] rfl, hP, hD, hS, ⟨et_kf_0, (Nat.div_one _).symm, et_d0_lt a2, Or.inr ⟨et_hp_0, rfl⟩⟩⟩
        intro k ls H locs hk hI hrec137
        obtain ⟨kd1, d, hb0, hl, hP, hD, hS, hi137⟩ := hI
        refine lv_iload hx hb dX1_init_137 (lv_at hl 6 rfl) ?_
        refine lv_iconst (v := 3) hx hb dX1_init_139 (by decide) ?_
        refine lv_icmp_ge (tgt := 213) hx hb dX1_init_140 (by decide) (fun c140 => ?_) (fun c140 => ?_)
        · have c140 : nI 3 ≤ nI k := c140
          rw [nI_leI (by omega) (by omega)] at c140
          have hk3 : k = 3 := by omega
          subst hk3
          obtain rfl := hi137.1
          exact eb_vretC ((fun k => [h0, q1, q2, q3, q4, q5, q6, q7, q8, q9].getD k 0), (fun k => [c1, c1, c2, c3, c4, c5, c6, c7, c8, c9].getD k c1)) hx hb hr hlk hK hP hD hS dX1_init_213 rfl
        · have c140 : ¬ nI 3 ≤ nI k := c140
          rw [nI_leI (by omega) (by omega)] at c140
          have hd := hi137.2.2.1
          refine lv_aload_n hx hb dX1_init_143 rfl (lv_at hl 0 rfl) ?_
          refine va_get (D := D) (ci := 1) (C := RX1) (T := TX1) (N := 14) hx hb hts hU hown hK hP 0 rfl rfl 2 (by decide) hf_kind (fun _ h9 => h9) rfl dX1_init_144 ?_
          refine lv_iload hx hb dX1_init_147 (lv_at hl 6 rfl) ?_
          refine lv_iload hx hb dX1_init_149 (lv_at hl 4 rfl) ?_
          refine lv_iconst (v := 3) hx hb dX1_init_151 (by decide) ?_
          refine lv_irem hx hb dX1_init_152 (by decide) ?_
          refine eb_ti (nI (d % 3)) (pk_rem (a := d) (d := 3) hd (by decide) (by decide)) ?_
          refine eb_iast hx hb hK hP hD hS 1 0 rfl rfl (k) (by omega) (by decide) dX1_init_153 (fun H locs hP hD hS => ?_)
          have hP : va_P D vwCl ([(h0, .inr (1, [.int (nI (et_cl 3 a1)), .int (nI (et_cl 48 a3)), .ref q1, .ref q2, .ref q3, .ref q4, .ref q5, .ref q6, .ref q7, .ref q8, .ref q9, .int 0, .int 0, .int 0])), (q1, .inl (c1, 3, .inl (upd kd1 k (nI (d % 3))))), (q2, .inl (c2, 24, .inl (fun _ => 0))), (q3, .inl (c3, 24, .inl (fun _ => 0))), (q4, .inl (c4, 24, .inl (fun _ => 0))), (q5, .inl (c5, 72, .inr (.inl (fun _ => 0)))), (q6, .inl (c6, 72, .inr (.inl (fun _ => 0)))), (q7, .inl (c7, 3, .inr (.inl (fun _ => 0)))), (q8, .inl (c8, 3, .inr (.inl (fun _ => 0)))), (q9, .inl (c9, 3, .inr (.inl (fun _ => 0))))]) H := hP
          have hD : va_D A ([(h0, .inr (1, [.int (nI (et_cl 3 a1)), .int (nI (et_cl 48 a3)), .ref q1, .ref q2, .ref q3, .ref q4, .ref q5, .ref q6, .ref q7, .ref q8, .ref q9, .int 0, .int 0, .int 0])), (q1, .inl (c1, 3, .inl (upd kd1 k (nI (d % 3))))), (q2, .inl (c2, 24, .inl (fun _ => 0))), (q3, .inl (c3, 24, .inl (fun _ => 0))), (q4, .inl (c4, 24, .inl (fun _ => 0))), (q5, .inl (c5, 72, .inr (.inl (fun _ => 0)))), (q6, .inl (c6, 72, .inr (.inl (fun _ => 0)))), (q7, .inl (c7, 3, .inr (.inl (fun _ => 0)))), (q8, .inl (c8, 3, .inr (.inl (fun _ => 0)))), (q9, .inl (c9, 3, .inr (.inl (fun _ => 0))))]) := hD
          refine lv_iload hx hb dX1_init_154 (lv_at hl 4 rfl) ?_
          refine lv_iconst (v := 3) hx hb dX1_init_156 (by decide) ?_
          refine lv_idiv hx hb dX1_init_157 (by decide) ?_
          refine eb_ti (nI (d / 3)) (pk_div (a := d) (d := 3) hd (by decide) (by decide)) ?_
          refine lv_istore hx hb dX1_init_158 hl (by decide) rfl (fun ls hl => ?_)
          have hl : lv_has ls 7 [(4, .int (nI (d / 3))), (0, .ref h0), (1, .int a1), (2, .int a2), (3, .int a3), (5, .int hb0), (6, .int (nI k))] := hl
          refine lv_aload_n hx hb dX1_init_160 rfl (lv_at hl 1 rfl) ?_
          refine va_get (D := D) (ci := 1) (C := RX1) (T := TX1) (N := 14) hx hb hts hU hown hK hP 0 rfl rfl 2 (by decide) hf_kind (fun _ h9 => h9) rfl dX1_init_161 ?_
          refine lv_iload hx hb dX1_init_164 (lv_at hl 6 rfl) ?_
          refine eb_iald hx hb hK hP 1 0 rfl rfl (k) (by omega) (by decide) dX1_init_166 ?_
          refine eb_ti (nI (d % 3)) (pk_us) ?_
          refine lv_iconst (v := 1) hx hb dX1_init_167 (by decide) ?_
          refine lv_icmp_ne (tgt := 184) hx hb dX1_init_168 (by decide) (fun c168 => ?_) (fun c168 => ?_)
          · have c168 : ¬ nI (d % 3) = nI 1 := c168
            rw [nI_eq (by omega) (by omega)] at c168
            refine lv_iload hx hb dX1_init_184 (lv_at hl 5 rfl) ?_
            refine lv_if_ne (tgt := 200) hx hb dX1_init_186 (by decide) (fun c186 => ?_) (fun c186 => ?_)
            · have c186 := et_b1 hi137.2.2.2 c186
              refine lv_iconst (v := 1) hx hb dX1_init_200 (by decide) ?_
              refine lv_goto (tgt := 205) hx hb dX1_init_201 (by decide) ?_
              refine lv_istore hx hb dX1_init_205 hl (by decide) rfl (fun ls hl => ?_)
              have hl : lv_has ls 7 [(5, .int 1), (4, .int (nI (d / 3))), (0, .ref h0), (1, .int a1), (2, .int a2), (3, .int a3), (6, .int (nI k))] := hl
              refine lv_iinc (k := 6) (v := nI (k + 1)) hx hb dX1_init_207 hl rfl (nI_add k 1) (by decide) rfl (fun ls hl => ?_)
              have hl : lv_has ls 7 [(6, .int (nI (k + 1))), (5, .int 1), (4, .int (nI (d / 3))), (0, .ref h0), (1, .int a1), (2, .int a2), (3, .int a3)] := hl
              refine lv_goto (tgt := 137) hx hb dX1_init_210 (by decide) ?_
              obtain ⟨g1, g2, g3, g4⟩ := hi137
              subst g2
              exact hrec137 ls H locs (by omega) ⟨(upd kd1 k (nI (et_d0 a2 / 3 ^ k % 3))), (et_d0 a2 / 3 ^ k / 3), 1, lv_sub hl [3, 4, 5, 6, 2, 1, 0] rfl, hP, hD, hS, ⟨by rw [g1]; exact et_kf_s (by first | contradiction | (exfalso; omega) | exact et_kv_1 c168 c186 | exact et_kv_1 c186 c168 | exact et_kv_2 c168 | exact et_kv_2 c186 | exact et_kv_3 c168 | exact et_kv_3 c186), et_dg_s, Nat.lt_of_le_of_lt (Nat.div_le_self _ _) g3, by first | contradiction | (exfalso; omega) | exact Or.inl ⟨by first | exact et_hp_k c168 | exact et_hp_k c186 | exact et_hp_1 c168 | exact et_hp_1 c186, rfl⟩⟩⟩
            · have c186 := et_b0 hi137.2.2.2 c186
              refine lv_aload_n hx hb dX1_init_189 rfl (lv_at hl 1 rfl) ?_
              refine va_get (D := D) (ci := 1) (C := RX1) (T := TX1) (N := 14) hx hb hts hU hown hK hP 0 rfl rfl 2 (by decide) hf_kind (fun _ h9 => h9) rfl dX1_init_190 ?_
              refine lv_iload hx hb dX1_init_193 (lv_at hl 6 rfl) ?_
              refine eb_iald hx hb hK hP 1 0 rfl rfl (k) (by omega) (by decide) dX1_init_195 ?_
              refine eb_ti (nI (d % 3)) (pk_us) ?_
              refine lv_iconst (v := 1) hx hb dX1_init_196 (by decide) ?_
              refine lv_icmp_ne (tgt := 204) hx hb dX1_init_197 (by decide) (fun c197 => ?_) (fun c197 => ?_)
              · have c197 : ¬ nI (d % 3) = nI 1 := c197
                rw [nI_eq (by omega) (by omega)] at c197
                refine lv_iconst (v := 0) hx hb dX1_init_204 (by decide) ?_
                refine lv_istore hx hb dX1_init_205 hl (by decide) rfl (fun ls hl => ?_)
                have hl : lv_has ls 7 [(5, .int 0), (4, .int (nI (d / 3))), (0, .ref h0), (1, .int a1), (2, .int a2), (3, .int a3), (6, .int (nI k))] := hl
                refine lv_iinc (k := 6) (v := nI (k + 1)) hx hb dX1_init_207 hl rfl (nI_add k 1) (by decide) rfl (fun ls hl => ?_)
                have hl : lv_has ls 7 [(6, .int (nI (k + 1))), (5, .int 0), (4, .int (nI (d / 3))), (0, .ref h0), (1, .int a1), (2, .int a2), (3, .int a3)] := hl
                refine lv_goto (tgt := 137) hx hb dX1_init_210 (by decide) ?_
                obtain ⟨g1, g2, g3, g4⟩ := hi137
                subst g2
                exact hrec137 ls H locs (by omega) ⟨(upd kd1 k (nI (et_d0 a2 / 3 ^ k % 3))), (et_d0 a2 / 3 ^ k / 3), 0, lv_sub hl [3, 4, 5, 6, 2, 1, 0] rfl, hP, hD, hS, ⟨by rw [g1]; exact et_kf_s (by first | contradiction | (exfalso; omega) | exact et_kv_1 c168 c186 | exact et_kv_1 c168 c197 | exact et_kv_1 c186 c168 | exact et_kv_1 c186 c197 | exact et_kv_1 c197 c168 | exact et_kv_1 c197 c186 | exact et_kv_2 c168 | exact et_kv_2 c186 | exact et_kv_2 c197 | exact et_kv_3 c168 | exact et_kv_3 c186 | exact et_kv_3 c197), et_dg_s, Nat.lt_of_le_of_lt (Nat.div_le_self _ _) g3, by first | contradiction | (exfalso; omega) | exact Or.inr ⟨by first | exact et_hp_n c168 c186 | exact et_hp_n c168 c197 | exact et_hp_n c186 c168 | exact et_hp_n c186 c197 | exact et_hp_n c197 c168 | exact et_hp_n c197 c186, rfl⟩⟩⟩
              · have c197 : nI (d % 3) = nI 1 := c197
                rw [nI_eq (by omega) (by omega)] at c197
                refine lv_iconst (v := 1) hx hb dX1_init_200 (by decide) ?_
                refine lv_goto (tgt := 205) hx hb dX1_init_201 (by decide) ?_
                refine lv_istore hx hb dX1_init_205 hl (by decide) rfl (fun ls hl => ?_)
                have hl : lv_has ls 7 [(5, .int 1), (4, .int (nI (d / 3))), (0, .ref h0), (1, .int a1), (2, .int a2), (3, .int a3), (6, .int (nI k))] := hl
                refine lv_iinc (k := 6) (v := nI (k + 1)) hx hb dX1_init_207 hl rfl (nI_add k 1) (by decide) rfl (fun ls hl => ?_)
                have hl : lv_has ls 7 [(6, .int (nI (k + 1))), (5, .int 1), (4, .int (nI (d / 3))), (0, .ref h0), (1, .int a1), (2, .int a2), (3, .int a3)] := hl
                refine lv_goto (tgt := 137) hx hb dX1_init_210 (by decide) ?_
                obtain ⟨g1, g2, g3, g4⟩ := hi137
                subst g2
                exact hrec137 ls H locs (by omega) ⟨(upd kd1 k (nI (et_d0 a2 / 3 ^ k % 3))), (et_d0 a2 / 3 ^ k / 3), 1, lv_sub hl [3, 4, 5, 6, 2, 1, 0] rfl, hP, hD, hS, ⟨by rw [g1]; exact et_kf_s (by first | contradiction | (exfalso; omega) | exact et_kv_1 c168 c186 | exact et_kv_1 c168 c197 | exact et_kv_1 c186 c168 | exact et_kv_1 c186 c197 | exact et_kv_1 c197 c168 | exact et_kv_1 c197 c186 | exact et_kv_2 c168 | exact et_kv_2 c186 | exact et_kv_2 c197 | exact et_kv_3 c168 | exact et_kv_3 c186 | exact et_kv_3 c197), et_dg_s, Nat.lt_of_le_of_lt (Nat.div_le_self _ _) g3, by first | contradiction | (exfalso; omega) | exact Or.inl ⟨by first | exact et_hp_k c168 | exact et_hp_k c186 | exact et_hp_k c197 | exact et_hp_1 c168 | exact et_hp_1 c186 | exact et_hp_1 c197, rfl⟩⟩⟩
          · have c168 : nI (d % 3) = nI 1 := c168
            rw [nI_eq (by omega) (by omega)] at c168
            refine lv_iload hx hb dX1_init_171 (lv_at hl 5 rfl) ?_
            refine lv_if_eq (tgt := 184) hx hb dX1_init_173 (by decide) (fun c173 => ?_) (fun c173 => ?_)
            · have c173 := et_b0 hi137.2.2.2 c173
              refine lv_iload hx hb dX1_init_184 (lv_at hl 5 rfl) ?_
              refine lv_if_ne (tgt := 200) hx hb dX1_init_186 (by decide) (fun c186 => ?_) (fun c186 => ?_)
              · have c186 := et_b1 hi137.2.2.2 c186
                refine lv_iconst (v := 1) hx hb dX1_init_200 (by decide) ?_
                refine lv_goto (tgt := 205) hx hb dX1_init_201 (by decide) ?_
                refine lv_istore hx hb dX1_init_205 hl (by decide) rfl (fun ls hl => ?_)
                have hl : lv_has ls 7 [(5, .int 1), (4, .int (nI (d / 3))), (0, .ref h0), (1, .int a1), (2, .int a2), (3, .int a3), (6, .int (nI k))] := hl
                refine lv_iinc (k := 6) (v := nI (k + 1)) hx hb dX1_init_207 hl rfl (nI_add k 1) (by decide) rfl (fun ls hl => ?_)
                have hl : lv_has ls 7 [(6, .int (nI (k + 1))), (5, .int 1), (4, .int (nI (d / 3))), (0, .ref h0), (1, .int a1), (2, .int a2), (3, .int a3)] := hl
                refine lv_goto (tgt := 137) hx hb dX1_init_210 (by decide) ?_
                obtain ⟨g1, g2, g3, g4⟩ := hi137
                subst g2
                exact hrec137 ls H locs (by omega) ⟨(upd kd1 k (nI (et_d0 a2 / 3 ^ k % 3))), (et_d0 a2 / 3 ^ k / 3), 1, lv_sub hl [3, 4, 5, 6, 2, 1, 0] rfl, hP, hD, hS, ⟨by rw [g1]; exact et_kf_s (by first | contradiction | (exfalso; omega) | exact et_kv_1 c168 c173 | exact et_kv_1 c168 c186 | exact et_kv_1 c173 c168 | exact et_kv_1 c173 c186 | exact et_kv_1 c186 c168 | exact et_kv_1 c186 c173 | exact et_kv_2 c168 | exact et_kv_2 c173 | exact et_kv_2 c186 | exact et_kv_3 c168 | exact et_kv_3 c173 | exact et_kv_3 c186), et_dg_s, Nat.lt_of_le_of_lt (Nat.div_le_self _ _) g3, by first | contradiction | (exfalso; omega) | exact Or.inl ⟨by first | exact et_hp_k c168 | exact et_hp_k c173 | exact et_hp_k c186 | exact et_hp_1 c168 | exact et_hp_1 c173 | exact et_hp_1 c186, rfl⟩⟩⟩
              · have c186 := et_b0 hi137.2.2.2 c186
                refine lv_aload_n hx hb dX1_init_189 rfl (lv_at hl 1 rfl) ?_
                refine va_get (D := D) (ci := 1) (C := RX1) (T := TX1) (N := 14) hx hb hts hU hown hK hP 0 rfl rfl 2 (by decide) hf_kind (fun _ h9 => h9) rfl dX1_init_190 ?_
                refine lv_iload hx hb dX1_init_193 (lv_at hl 6 rfl) ?_
                refine eb_iald hx hb hK hP 1 0 rfl rfl (k) (by omega) (by decide) dX1_init_195 ?_
                refine eb_ti (nI (d % 3)) (pk_us) ?_
                refine lv_iconst (v := 1) hx hb dX1_init_196 (by decide) ?_
                refine lv_icmp_ne (tgt := 204) hx hb dX1_init_197 (by decide) (fun c197 => ?_) (fun c197 => ?_)
                · have c197 : ¬ nI (d % 3) = nI 1 := c197
                  rw [nI_eq (by omega) (by omega)] at c197
                  refine lv_iconst (v := 0) hx hb dX1_init_204 (by decide) ?_
                  refine lv_istore hx hb dX1_init_205 hl (by decide) rfl (fun ls hl => ?_)
                  have hl : lv_has ls 7 [(5, .int 0), (4, .int (nI (d / 3))), (0, .ref h0), (1, .int a1), (2, .int a2), (3, .int a3), (6, .int (nI k))] := hl
                  refine lv_iinc (k := 6) (v := nI (k + 1)) hx hb dX1_init_207 hl rfl (nI_add k 1) (by decide) rfl (fun ls hl => ?_)
                  have hl : lv_has ls 7 [(6, .int (nI (k + 1))), (5, .int 0), (4, .int (nI (d / 3))), (0, .ref h0), (1, .int a1), (2, .int a2), (3, .int a3)] := hl
                  refine lv_goto (tgt := 137) hx hb dX1_init_210 (by decide) ?_
                  obtain ⟨g1, g2, g3, g4⟩ := hi137
                  subst g2
                  exact hrec137 ls H locs (by omega) ⟨(upd kd1 k (nI (et_d0 a2 / 3 ^ k % 3))), (et_d0 a2 / 3 ^ k / 3), 0, lv_sub hl [3, 4, 5, 6, 2, 1, 0] rfl, hP, hD, hS, ⟨by rw [g1]; exact et_kf_s (by first | contradiction | (exfalso; omega) | exact et_kv_1 c168 c173 | exact et_kv_1 c168 c186 | exact et_kv_1 c168 c197 | exact et_kv_1 c173 c168 | exact et_kv_1 c173 c186 | exact et_kv_1 c173 c197 | exact et_kv_1 c186 c168 | exact et_kv_1 c186 c173 | exact et_kv_1 c186 c197 | exact et_kv_1 c197 c168 | exact et_kv_1 c197 c173 | exact et_kv_1 c197 c186 | exact et_kv_2 c168 | exact et_kv_2 c173 | exact et_kv_2 c186 | exact et_kv_2 c197 | exact et_kv_3 c168 | exact et_kv_3 c173 | exact et_kv_3 c186 | exact et_kv_3 c197), et_dg_s, Nat.lt_of_le_of_lt (Nat.div_le_self _ _) g3, by first | contradiction | (exfalso; omega) | exact Or.inr ⟨by first | exact et_hp_n c168 c173 | exact et_hp_n c168 c186 | exact et_hp_n c168 c197 | exact et_hp_n c173 c168 | exact et_hp_n c173 c186 | exact et_hp_n c173 c197 | exact et_hp_n c186 c168 | exact et_hp_n c186 c173 | exact et_hp_n c186 c197 | exact et_hp_n c197 c168 | exact et_hp_n c197 c173 | exact et_hp_n c197 c186, rfl⟩⟩⟩
                · have c197 : nI (d % 3) = nI 1 := c197
                  rw [nI_eq (by omega) (by omega)] at c197
                  refine lv_iconst (v := 1) hx hb dX1_init_200 (by decide) ?_
                  refine lv_goto (tgt := 205) hx hb dX1_init_201 (by decide) ?_
                  refine lv_istore hx hb dX1_init_205 hl (by decide) rfl (fun ls hl => ?_)
                  have hl : lv_has ls 7 [(5, .int 1), (4, .int (nI (d / 3))), (0, .ref h0), (1, .int a1), (2, .int a2), (3, .int a3), (6, .int (nI k))] := hl
                  refine lv_iinc (k := 6) (v := nI (k + 1)) hx hb dX1_init_207 hl rfl (nI_add k 1) (by decide) rfl (fun ls hl => ?_)
                  have hl : lv_has ls 7 [(6, .int (nI (k + 1))), (5, .int 1), (4, .int (nI (d / 3))), (0, .ref h0), (1, .int a1), (2, .int a2), (3, .int a3)] := hl
                  refine lv_goto (tgt := 137) hx hb dX1_init_210 (by decide) ?_
                  obtain ⟨g1, g2, g3, g4⟩ := hi137
                  subst g2
                  exact hrec137 ls H locs (by omega) ⟨(upd kd1 k (nI (et_d0 a2 / 3 ^ k % 3))), (et_d0 a2 / 3 ^ k / 3), 1, lv_sub hl [3, 4, 5, 6, 2, 1, 0] rfl, hP, hD, hS, ⟨by rw [g1]; exact et_kf_s (by first | contradiction | (exfalso; omega) | exact et_kv_1 c168 c173 | exact et_kv_1 c168 c186 | exact et_kv_1 c168 c197 | exact et_kv_1 c173 c168 | exact et_kv_1 c173 c186 | exact et_kv_1 c173 c197 | exact et_kv_1 c186 c168 | exact et_kv_1 c186 c173 | exact et_kv_1 c186 c197 | exact et_kv_1 c197 c168 | exact et_kv_1 c197 c173 | exact et_kv_1 c197 c186 | exact et_kv_2 c168 | exact et_kv_2 c173 | exact et_kv_2 c186 | exact et_kv_2 c197 | exact et_kv_3 c168 | exact et_kv_3 c173 | exact et_kv_3 c186 | exact et_kv_3 c197), et_dg_s, Nat.lt_of_le_of_lt (Nat.div_le_self _ _) g3, by first | contradiction | (exfalso; omega) | exact Or.inl ⟨by first | exact et_hp_k c168 | exact et_hp_k c173 | exact et_hp_k c186 | exact et_hp_k c197 | exact et_hp_1 c168 | exact et_hp_1 c173 | exact et_hp_1 c186 | exact et_hp_1 c197, rfl⟩⟩⟩
            · have c173 := et_b1 hi137.2.2.2 c173
              refine lv_aload_n hx hb dX1_init_176 rfl (lv_at hl 1 rfl) ?_
              refine va_get (D := D) (ci := 1) (C := RX1) (T := TX1) (N := 14) hx hb hts hU hown hK hP 0 rfl rfl 2 (by decide) hf_kind (fun _ h9 => h9) rfl dX1_init_177 ?_
              refine lv_iload hx hb dX1_init_180 (lv_at hl 6 rfl) ?_
              refine lv_iconst (v := 0) hx hb dX1_init_182 (by decide) ?_
              refine eb_iast hx hb hK hP hD hS 1 0 rfl rfl (k) (by omega) (by decide) dX1_init_183 (fun H locs hP hD hS => ?_)
              have hP : va_P D vwCl ([(h0, .inr (1, [.int (nI (et_cl 3 a1)), .int (nI (et_cl 48 a3)), .ref q1, .ref q2, .ref q3, .ref q4, .ref q5, .ref q6, .ref q7, .ref q8, .ref q9, .int 0, .int 0, .int 0])), (q1, .inl (c1, 3, .inl (upd (upd kd1 k (nI (d % 3))) k 0))), (q2, .inl (c2, 24, .inl (fun _ => 0))), (q3, .inl (c3, 24, .inl (fun _ => 0))), (q4, .inl (c4, 24, .inl (fun _ => 0))), (q5, .inl (c5, 72, .inr (.inl (fun _ => 0)))), (q6, .inl (c6, 72, .inr (.inl (fun _ => 0)))), (q7, .inl (c7, 3, .inr (.inl (fun _ => 0)))), (q8, .inl (c8, 3, .inr (.inl (fun _ => 0)))), (q9, .inl (c9, 3, .inr (.inl (fun _ => 0))))]) H := hP
              have hD : va_D A ([(h0, .inr (1, [.int (nI (et_cl 3 a1)), .int (nI (et_cl 48 a3)), .ref q1, .ref q2, .ref q3, .ref q4, .ref q5, .ref q6, .ref q7, .ref q8, .ref q9, .int 0, .int 0, .int 0])), (q1, .inl (c1, 3, .inl (upd (upd kd1 k (nI (d % 3))) k 0))), (q2, .inl (c2, 24, .inl (fun _ => 0))), (q3, .inl (c3, 24, .inl (fun _ => 0))), (q4, .inl (c4, 24, .inl (fun _ => 0))), (q5, .inl (c5, 72, .inr (.inl (fun _ => 0)))), (q6, .inl (c6, 72, .inr (.inl (fun _ => 0)))), (q7, .inl (c7, 3, .inr (.inl (fun _ => 0)))), (q8, .inl (c8, 3, .inr (.inl (fun _ => 0)))), (q9, .inl (c9, 3, .inr (.inl (fun _ => 0))))]) := hD
              refine lv_iload hx hb dX1_init_184 (lv_at hl 5 rfl) ?_
              refine lv_if_ne (tgt := 200) hx hb dX1_init_186 (by decide) (fun c186 => ?_) (fun c186 => ?_)
              · have c186 := et_b1 hi137.2.2.2 c186
                refine lv_iconst (v := 1) hx hb dX1_init_200 (by decide) ?_
                refine lv_goto (tgt := 205) hx hb dX1_init_201 (by decide) ?_
                refine lv_istore hx hb dX1_init_205 hl (by decide) rfl (fun ls hl => ?_)
                have hl : lv_has ls 7 [(5, .int 1), (4, .int (nI (d / 3))), (0, .ref h0), (1, .int a1), (2, .int a2), (3, .int a3), (6, .int (nI k))] := hl
                refine lv_iinc (k := 6) (v := nI (k + 1)) hx hb dX1_init_207 hl rfl (nI_add k 1) (by decide) rfl (fun ls hl => ?_)
                have hl : lv_has ls 7 [(6, .int (nI (k + 1))), (5, .int 1), (4, .int (nI (d / 3))), (0, .ref h0), (1, .int a1), (2, .int a2), (3, .int a3)] := hl
                refine lv_goto (tgt := 137) hx hb dX1_init_210 (by decide) ?_
                obtain ⟨g1, g2, g3, g4⟩ := hi137
                subst g2
                exact hrec137 ls H locs (by omega) ⟨(upd (upd kd1 k (nI (et_d0 a2 / 3 ^ k % 3))) k 0), (et_d0 a2 / 3 ^ k / 3), 1, lv_sub hl [3, 4, 5, 6, 2, 1, 0] rfl, hP, hD, hS, ⟨by rw [et_uu, g1]; exact et_kf_s (by first | contradiction | (exfalso; omega) | exact et_kv_1 c168 c173 | exact et_kv_1 c168 c186 | exact et_kv_1 c173 c168 | exact et_kv_1 c173 c186 | exact et_kv_1 c186 c168 | exact et_kv_1 c186 c173 | exact et_kv_2 c168 | exact et_kv_2 c173 | exact et_kv_2 c186 | exact et_kv_3 c168 | exact et_kv_3 c173 | exact et_kv_3 c186), et_dg_s, Nat.lt_of_le_of_lt (Nat.div_le_self _ _) g3, by first | contradiction | (exfalso; omega) | exact Or.inl ⟨by first | exact et_hp_k c168 | exact et_hp_k c173 | exact et_hp_k c186 | exact et_hp_1 c168 | exact et_hp_1 c173 | exact et_hp_1 c186, rfl⟩⟩⟩
              · have c186 := et_b0 hi137.2.2.2 c186
                refine lv_aload_n hx hb dX1_init_189 rfl (lv_at hl 1 rfl) ?_
                refine va_get (D := D) (ci := 1) (C := RX1) (T := TX1) (N := 14) hx hb hts hU hown hK hP 0 rfl rfl 2 (by decide) hf_kind (fun _ h9 => h9) rfl dX1_init_190 ?_
                refine lv_iload hx hb dX1_init_193 (lv_at hl 6 rfl) ?_
                refine eb_iald hx hb hK hP 1 0 rfl rfl (k) (by omega) (by decide) dX1_init_195 ?_
                refine eb_ti (0) (pk_us) ?_
                refine lv_iconst (v := 1) hx hb dX1_init_196 (by decide) ?_
                refine lv_icmp_ne (tgt := 204) hx hb dX1_init_197 (by decide) (fun c197 => ?_) (fun c197 => ?_)
                · have c197 : ¬ nI 0 = nI 1 := c197
                  rw [nI_eq (by omega) (by omega)] at c197
                  refine lv_iconst (v := 0) hx hb dX1_init_204 (by decide) ?_
                  refine lv_istore hx hb dX1_init_205 hl (by decide) rfl (fun ls hl => ?_)
                  have hl : lv_has ls 7 [(5, .int 0), (4, .int (nI (d / 3))), (0, .ref h0), (1, .int a1), (2, .int a2), (3, .int a3), (6, .int (nI k))] := hl
                  refine lv_iinc (k := 6) (v := nI (k + 1)) hx hb dX1_init_207 hl rfl (nI_add k 1) (by decide) rfl (fun ls hl => ?_)
                  have hl : lv_has ls 7 [(6, .int (nI (k + 1))), (5, .int 0), (4, .int (nI (d / 3))), (0, .ref h0), (1, .int a1), (2, .int a2), (3, .int a3)] := hl
                  refine lv_goto (tgt := 137) hx hb dX1_init_210 (by decide) ?_
                  obtain ⟨g1, g2, g3, g4⟩ := hi137
                  subst g2
                  exact hrec137 ls H locs (by omega) ⟨(upd (upd kd1 k (nI (et_d0 a2 / 3 ^ k % 3))) k 0), (et_d0 a2 / 3 ^ k / 3), 0, lv_sub hl [3, 4, 5, 6, 2, 1, 0] rfl, hP, hD, hS, ⟨by rw [et_uu, g1]; exact et_kf_s (by first | contradiction | (exfalso; omega) | exact et_kv_1 c168 c173 | exact et_kv_1 c168 c186 | exact et_kv_1 c168 c197 | exact et_kv_1 c173 c168 | exact et_kv_1 c173 c186 | exact et_kv_1 c173 c197 | exact et_kv_1 c186 c168 | exact et_kv_1 c186 c173 | exact et_kv_1 c186 c197 | exact et_kv_1 c197 c168 | exact et_kv_1 c197 c173 | exact et_kv_1 c197 c186 | exact et_kv_2 c168 | exact et_kv_2 c173 | exact et_kv_2 c186 | exact et_kv_2 c197 | exact et_kv_3 c168 | exact et_kv_3 c173 | exact et_kv_3 c186 | exact et_kv_3 c197), et_dg_s, Nat.lt_of_le_of_lt (Nat.div_le_self _ _) g3, by first | contradiction | (exfalso; omega) | exact Or.inr ⟨by first | exact et_hp_n c168 c173 | exact et_hp_n c168 c186 | exact et_hp_n c168 c197 | exact et_hp_n c173 c168 | exact et_hp_n c173 c186 | exact et_hp_n c173 c197 | exact et_hp_n c186 c168 | exact et_hp_n c186 c173 | exact et_hp_n c186 c197 | exact et_hp_n c197 c168 | exact et_hp_n c197 c173 | exact et_hp_n c197 c186, rfl⟩⟩⟩
                · have c197 : nI 0 = nI 1 := c197
                  rw [nI_eq (by omega) (by omega)] at c197
                  refine lv_iconst (v := 1) hx hb dX1_init_200 (by decide) ?_
                  refine lv_goto (tgt := 205) hx hb dX1_init_201 (by decide) ?_
                  refine lv_istore hx hb dX1_init_205 hl (by decide) rfl (fun ls hl => ?_)
                  have hl : lv_has ls 7 [(5, .int 1), (4, .int (nI (d / 3))), (0, .ref h0), (1, .int a1), (2, .int a2), (3, .int a3), (6, .int (nI k))] := hl
                  refine lv_iinc (k := 6) (v := nI (k + 1)) hx hb dX1_init_207 hl rfl (nI_add k 1) (by decide) rfl (fun ls hl => ?_)
                  have hl : lv_has ls 7 [(6, .int (nI (k + 1))), (5, .int 1), (4, .int (nI (d / 3))), (0, .ref h0), (1, .int a1), (2, .int a2), (3, .int a3)] := hl
                  refine lv_goto (tgt := 137) hx hb dX1_init_210 (by decide) ?_
                  obtain ⟨g1, g2, g3, g4⟩ := hi137
                  subst g2
                  exact hrec137 ls H locs (by omega) ⟨(upd (upd kd1 k (nI (et_d0 a2 / 3 ^ k % 3))) k 0), (et_d0 a2 / 3 ^ k / 3), 1, lv_sub hl [3, 4, 5, 6, 2, 1, 0] rfl, hP, hD, hS, ⟨by rw [et_uu, g1]; exact et_kf_s (by first | contradiction | (exfalso; omega) | exact et_kv_1 c168 c173 | exact et_kv_1 c168 c186 | exact et_kv_1 c168 c197 | exact et_kv_1 c173 c168 | exact et_kv_1 c173 c186 | exact et_kv_1 c173 c197 | exact et_kv_1 c186 c168 | exact et_kv_1 c186 c173 | exact et_kv_1 c186 c197 | exact et_kv_1 c197 c168 | exact et_kv_1 c197 c173 | exact et_kv_1 c197 c186 | exact et_kv_2 c168 | exact et_kv_2 c173 | exact et_kv_2 c186 | exact et_kv_2 c197 | exact et_kv_3 c168 | exact et_kv_3 c173 | exact et_kv_3 c186 | exact et_kv_3 c197), et_dg_s, Nat.lt_of_le_of_lt (Nat.div_le_self _ _) g3, by first | contradiction | (exfalso; omega) | exact Or.inl ⟨by first | exact et_hp_k c168 | exact et_hp_k c173 | exact et_hp_k c186 | exact et_hp_k c197 | exact et_hp_1 c168 | exact et_hp_1 c173 | exact et_hp_1 c186 | exact et_hp_1 c197, rfl⟩⟩⟩
end
section
set_option maxRecDepth 100000 in
theorem MALL_in : ∀ w ∈ MALL, w ∈ lw_tbl := fun w h => (goodIn_p MALL [235, 239, 243, 247, 252, 256, 260, 264, 268, 272, 276, 280, 284, 288, 292] (by decide +kernel) (by decide +kernel) w h).1
theorem MALL_law {idx n : Nat} {y : MethodName} {cc : ByteArray} {ret : Option FieldType} (hc : Cond.code y cc n ret ∈ MALL) (h4 : GoodIn lw_tbl ([.methodLink RL idx y, .instanceMethod y, .selects RX1 y y, .initialized RX1] : List Cond)) : GoodIn lw_tbl (wsV RL idx RX1 y (Cond.code y cc n ret :: MALL)) := by
  intro w hw
  rcases List.mem_append.mp hw with h | h
  · exact h4 w h
  · rcases List.mem_cons.mp h with rfl | h
    · exact ⟨MALL_in _ hc, (MALL_good _ hc).2⟩
    · exact ⟨MALL_in _ h, (MALL_good _ h).2⟩
set_option maxRecDepth 100000 in
theorem gLM_match : GoodIn lw_tbl (wsV RL 27 RX1 yX1_match wsM_match) := MALL_law MALL_c_match (goodIn_of _ (by decide +kernel))
set_option maxRecDepth 100000 in
theorem gLM_insert : GoodIn lw_tbl (wsV RL 32 RX1 yX1_insert wsM_insert) := MALL_law MALL_c_insert (goodIn_of _ (by decide +kernel))
set_option maxRecDepth 100000 in
theorem gLM_remove : GoodIn lw_tbl (wsV RL 36 RX1 yX1_remove wsM_remove) := MALL_law MALL_c_remove (goodIn_of _ (by decide +kernel))
set_option maxRecDepth 100000 in
theorem gLM_find : GoodIn lw_tbl (wsV RL 41 RX1 yX1_find wsM_find) := MALL_law MALL_c_find (goodIn_of _ (by decide +kernel))
set_option maxRecDepth 100000 in
theorem gLM_nth : GoodIn lw_tbl (wsV RL 45 RX1 yX1_nth wsM_nth) := MALL_law MALL_c_nth (goodIn_of _ (by decide +kernel))
set_option maxRecDepth 100000 in
theorem gLM_hits : GoodIn lw_tbl (wsV RL 49 RX1 yX1_hits wsM_hits) := MALL_law MALL_c_hits (goodIn_of _ (by decide +kernel))
set_option maxRecDepth 100000 in
theorem gLM_count : GoodIn lw_tbl (wsV RL 53 RX1 yX1_count wsM_count) := MALL_law MALL_c_count (goodIn_of _ (by decide +kernel))

set_option maxHeartbeats 1000000 in
theorem tL_cell (l : Launch) (b L : Nat) (xs : Nat → Int32) (hL : L < 2 ^ 31) (j : Nat) (hj : j < 2 ^ 31) : ∀ sz : Nat, Met l yL_cell wsL_cell { frames := 0, cells := 0, slots := 0, locals := 0 } (va_Pc [.ref b, .int (nI j)] (fun U => U.heap.size = sz ∧ va_X b L xs U U.heap)) (va_Qi (fun r (_ : Unit) => r = if j < L then xs j else 0) (fun _ _ => True) (fun _ => False)) 0 0 (fun _ => False) := by
  intro sz
  refine Met.ofW (cc := cL_cell) (maxL := 2) (ret := (some .int)) (by decide +kernel) rfl ?_
  intro p e s m args below meth c s₁ B hml hv
  obtain ⟨rfl, hsz, hX⟩ := hv
  have hx := B.exec
  have hb := B.bytes
  have hr := B.returns
  have hlk := B.notSynchronized
  have hbl : b < s.heap.size := by
    obtain ⟨scr, h1, -⟩ := hX
    exact (Array.getElem?_eq_some_iff.mp h1).1
  have hS : va_S (fun _ => False) s.heap s.heap [] := va_S.rf
  have hl := lv_entry ([.ref b, .int (nI j)]) (n := 2) (Nat.le_of_ble_eq_true rfl)
  rw [lg_entry_eq]
  generalize (lg_sl ([.ref b, .int (nI j)]) ++ List.replicate (2 - (lg_sl ([.ref b, .int (nI j)])).length) Slot.unset).toArray = ls at hl ⊢
  have hl : lv_has ls 2 [(0, .ref b), (1, .int (nI j))] := hl
  refine lv_iload_n hx hb dL_cell_0 rfl (lv_at hl 1 rfl) ?_
  refine lv_aload_n hx hb dL_cell_1 rfl (lv_at hl 0 rfl) ?_
  refine va_slen hx hb hX hbl (fun h => h) hS dL_cell_2 ?_
  refine lv_icmp_ge (tgt := 12) hx hb dL_cell_3 (by decide) (fun c3 => ?_) (fun c3 => ?_)
  · have c3 : nI L ≤ nI j := c3
    rw [nI_leI hL hj] at c3
    refine lv_iconst (v := 0) hx hb dL_cell_12 (by decide) ?_
    exact W.iret (v := 0) hx hb hr (fun t ht hW => ⟨⟨0, (), rfl, by rw [if_neg (by omega)], trivial⟩, hS.F ht⟩) hS.2.2 dL_cell_13 hlk
  · have c3 : ¬ nI L ≤ nI j := c3
    rw [nI_leI hL hj] at c3
    refine lv_aload_n hx hb dL_cell_6 rfl (lv_at hl 0 rfl) ?_
    refine lv_iload_n hx hb dL_cell_7 rfl (lv_at hl 1 rfl) ?_
    refine va_sld hx hb hX hbl (fun h => h) hS (vp_in_nI (by omega) hL) dL_cell_8 ?_
    rw [nI_clamp hj]
    refine lv_goto (tgt := 13) hx hb dL_cell_9 (by decide) ?_
    exact W.iret (v := xs j) hx hb hr (fun t ht hW => ⟨⟨xs j, (), rfl, by rw [if_pos (by omega)], trivial⟩, hS.F ht⟩) hS.2.2 dL_cell_13 hlk
section EL
variable {p : Program} {l : Launch} {e : Env} {R : Room} {s : State} {m : MethodId} {args : Array Value} {below : List Frame} {meth : Method} {c : Code} {H : Heap} {locs : List Loc} {cells slots : Nat} {Q : State → Prop}
variable {cc : ByteArray} {pc : Nat} {ls : Array Slot} {rest st : List Value} {D : va_G} {cl : List vw_C} {A : Nat → Prop} {t1 : List (ClassId × FieldType)} {wx wm : va_W} {H0 : Heap}
variable {nL maxL index n b L mc ms : Nat} {Ts wsy : List Cond} {own : String} {y : MethodName} {bytes : ByteArray} {rm : Room} {As : List Value} {xs : Nat → Int32}
theorem e3_cell {w : va_W} (S : CallFix p m c cc nL s args Ts own) (hL : L < 2 ^ 31) (j : Nat) (hj : j < 2 ^ 31) (a : Int32) (ha : a = if j < L then xs j else 0) (cw : CallB R s args own index yL_cell bytes maxL (some .int) wsL_cell { frames := 0, cells := 0, slots := 0, locals := 0 } 0 0 2 ∧ (Cond.static yL_cell).before args s = true) (hXs : va_X b L xs s H0) (hbl : b < H0.size) (hbA : ¬ A b) (hP : va_P D cl w H) (hS : va_S A H0 H locs)
    (hsize : ls.size = nL) (hst : st = [Value.ref b, Value.int (nI j)].reverse ++ rest) (hW : (rest.map fun v => v.category).sum ≤ 8) (hdg : decode cc pc = .ok (.invokestatic index, 3)) (hf : cells ≤ R.cells ∧ slots ≤ R.slots)
    (kk : ∀ (H1 : Heap) (locs1 : List Loc), va_P D cl w H1 → va_S A H0 H1 locs1 → W p l e R s m args below meth c H1 locs1 cells slots Q (F0 m (pc + 3) ls (.int a :: rest))) : W p l e R s m args below meth c H locs cells slots Q (F0 m pc ls st) := by
  have hXH : va_X b L xs s H := va_X.kept hXs (hS.2.1 b hbl hbA)
  refine va_calli (va_runS (As := [.ref b, .int (nI j)]) (rest := rest) S (tL_cell l b L xs hL j hj H.size) cw ⟨fun a U g mk q => ?_, fun U hU hW => ⟨rfl, by rw [hU], by rw [hU]; exact va_X.moved hW.alike hXH⟩⟩ rfl rfl hsize hst (lv_room hW) hdg hf) hS (fun x _ h => h.elim) (fun x h => h.elim) (fun r u t H1 locs1 ht hvm hw hB hz1 hk1 hS1 => ?_)
  · obtain ⟨q0, q1, q2⟩ := q
    exact ⟨q0, q1, va_X.moved (u := U) (U := U.calling g mk a) (Vm.Alike.refl U.vm) q2⟩
  · have e1 : r = a := by rw [hw, ha]
    subst e1
    exact kk H1 locs1 (hP.kept (fun k q hk => hk1 q.1 ((hP k q hk).lt) (fun h => h))) hS1
theorem e3_sld (hx : p.tables.exec = Jvm.exec) (hb : c.code = cc) (hXs : va_X b L xs s H0) (hbl : b < H0.size) (hbA : ¬ A b) (hS : va_S A H0 H locs) (hL : L < 2 ^ 31) (j : Nat) (hj : j < L) (hdg : decode cc pc = .ok (.iaload, 1))
    (kk : W p l e R s m args below meth c H locs cells slots Q (F0 m (pc + 1) ls (.int (xs j) :: rest))) : W p l e R s m args below meth c H locs cells slots Q (F0 m pc ls (.int (nI j) :: .ref b :: rest)) := by
  refine va_sld hx hb hXs hbl hbA hS (vp_in_nI hj hL) hdg ?_
  rw [nI_clamp (by omega)]
  exact kk
/-- a constructor on the last part of the world -/
theorem e3_ctor {S' : Type} {post : S' → Prop} {wf : S' → va_W} {tf : S' → List (ClassId × FieldType)} (S : CallFix p m c cc nL s args Ts own) (hM : ∀ sz : Nat, Met l y wsy rm (va_Pc (.ref b :: As) (eb_pre D cl [] wm sz)) (va_Qv post (eb_endS D cl tf wf (va_A wm sz)) (va_A wm sz)) mc ms (va_A wm sz)) (cw : CallB R s args own index y bytes maxL none wsy rm mc ms n ∧ y.name = "<init>" ∧ (Cond.instanceMethod y).before args s = true) (hK : va_K D cl t1 s) (hP : va_P D cl (wx ++ wm) H) (hD : va_D A (wx ++ wm)) (hS : va_S A H0 H locs) (hA : ∀ q, H0.size ≤ q → A q)
    (hn : As.length = n) (hsize : ls.size = nL) (hst : st = As.reverse ++ .ref b :: rest) (hW : (rest.map fun v => v.category).sum ≤ 8) (hdg : decode cc pc = .ok (.invokespecial index, 3)) (hf : cells + mc ≤ R.cells ∧ slots + ms ≤ R.slots)
    (kk : ∀ (u : S') (H1 : Heap) (locs1 : List Loc), post u → va_K D cl (t1 ++ tf u) s → va_P D cl (wx ++ wf u) H1 → va_D A (wx ++ wf u) → va_S A H0 H1 locs1 → W p l e R s m args below meth c H1 locs1 (cells + mc) (slots + ms) Q (F0 m (pc + 3) ls rest)) : W p l e R s m args below meth c H locs cells slots Q (F0 m pc ls st) := by
  have hF := eb_freeA (e2_Dr hD) hS hA
  have hK0 : va_K D cl [] s := ⟨hK.1, fun k q hk => by simp at hk⟩
  refine va_callv (va_runI (As := As) (rest := rest) S (hM H.size) cw ⟨eb_blind, fun U hU hW => ⟨rfl, by rw [hU], by rw [hU]; exact e2_Pr hP, va_K.moved hW.alike hK0, (e2_Dr hD).weaken (fun _ _ _ _ => trivial)⟩⟩ rfl hn hsize hst (lv_room hW) hdg hf) hS (fun x _ h => hF x h) hF (fun u t H1 locs1 ht hvm hw hB hz1 hk1 hS1 => ?_)
  obtain ⟨hP1, hK1, hD1⟩ := hB
  rw [ht] at hP1
  obtain ⟨hP2, hD2⟩ := e2_jr hP hD hk1 hF hP1 hD1
  exact kk u H1 locs1 hw (hK.app (va_K.moved hvm.symm hK1)) hP2 hD2 hS1
end EL
theorem et_lc {L i : Nat} (hL : L < 2 ^ 30) (hi : i < 2 ^ 30) : nI L - nI 7 < nI i ↔ L < i + 7 := by
  rw [Int32.lt_iff_toInt_lt, pk_sub_toInt hL (by decide), nI_toInt (by omega)]
  omega
/-- a new class object, a new reference: no entry -/
theorem et_SX_new {q : Nat → Nat} {cs : Nat → ClassId} {K w : Nat} {kd : Nat → Int32} {ord : Nat → Int32} (ho : ∀ r, r < 24 → ord r = nI r) : et_SX q cs K w kd (fun _ => 0) (fun _ => 0) 0 0 [] (XW q cs (nI K) (nI w) (et_ab w) kd (fun _ => 0) (fun _ => 0) ord 0 0 0 (fun _ => 0) (fun _ => 0) (fun _ => 0) (fun _ => 0) (fun _ => 0) (fun _ => 0)) :=
  ⟨fun r => r, ord, _, _, _, _, _, _, ⟨fun r hr => ⟨ho r hr, hr⟩, fun _ _ _ _ h => h, Nat.zero_le _, fun r x h => by simp at h, fun _ _ _ _ _ => ⟨rfl, rfl⟩⟩, rfl⟩
theorem et_SM_new {q : Nat → Nat} {cs : Nat → ClassId} {K w : Nat} {kd : Nat → Int32} : et_SM q cs K w kd (fun _ => 0) (fun _ => 0) 0 0 [] (MW q cs (nI K) (nI w) kd (fun _ => 0) (fun _ => 0) (fun _ => 0) (fun _ => 0) (fun _ => 0) (fun _ => 0) (fun _ => 0) (fun _ => 0) 0 0 0) :=
  ⟨_, _, _, _, _, _, ⟨Nat.zero_le _, fun i x h => by simp at h⟩, rfl⟩
theorem et_IV_new {K w : Nat} {kd : Nat → Int32} : et_IV K w kd 0 [] [] := ⟨List.Perm.refl _, List.Pairwise.nil, List.Pairwise.nil, fun x h => by simp at h⟩
theorem et_K0 {s : State} {c0 c1 : ClassId} {i0 i1 : Nat → Nat} (h0 : u_Kn s RX0 TX0 16 c0 i0) (h1 : u_Kn s RX1 TX1 14 c1 i1) : va_K ((fun k => if k = 0 then c0 else c1), (fun k => if k = 0 then i0 else i1)) vwCl [] s := by
  refine ⟨fun k q hq => ?_, fun k q hk => by simp at hk⟩
  match k, hq with
  | 0, hq => cases hq; exact h0
  | 1, hq => cases hq; exact h1
  | k + 2, hq => simp at hq
end
section
/-! THE CLAIM OUT OF ONE WALK OF THE LAW'S BODY. Your part is whole_start (and what it stands on); all else here is the same for every law, but numbers. -/
def R_law : String := "EntryTableLaw"
def lw_P (b : Addr) (xs : List Int32) (args : Array Value) (s : State) : Prop := args = #[.ref b] ∧ s.IntsAt b xs ∧ xs.length ≤ 3587 ∧ (Jvm.Cond.and given_1 narrow_1).before args s = true
def lw_Q (_ : Array Value) (s : State) (o : Outcome) (t : State) : Prop := o = .returned (some (.int 1)) ∧ Framed s o t [] 21 531
def lw_Z (below : List Frame) (a : Array Value) (s : State) : State → Prop := fun t => ∃ o, t.status = .running ∧ Ended t below o ∧ lw_Q a s o t
/-- the law's own end, with 1 on the stack, nothing written that was there before, its room as the claim has it -/
theorem lw_ret {p : Program} {l : Launch} {e : Env} {s : State} {m : MethodId} {below : List Frame} {meth : Method} {c : Code} {b : Nat} (hx : p.tables.exec = Jvm.exec) (hb : c.code = code) (hr : meth.sig.returnType = ret) (hlocks : meth.locks = false) {pc : Nat} {H : Heap} {ls : Array Slot} (hdg : decode code pc = .ok (.ireturn, 1)) : W p l e room_1 s m #[Value.ref b] below meth c H [] 21 531 (lw_Z below #[Value.ref b] s) (F0 m pc ls [.int 1]) := by
  intro T hT X
  obtain ⟨fs, hret, hrun, hended, hW, hframe⟩ := X.leave (v := some (.int 1)) (hlocks := hlocks) (fun h => by rw [hr] at h; cases h)
  have hmeth' : T.vm.method? m = some meth := X.method'
  refine ⟨T.setFrames fs, ?_, .returned (some (.int 1)), hrun, hended, rfl, ⟨_, rfl⟩, hW, hframe⟩
  jvm_step X.here [X.here.top, hx, hb, hdg, hmeth', hr, ret, narrow_b1]
  (try refine ⟨rfl, ?_⟩); (try refine ⟨rfl, ?_⟩)
  first | (intro acts; rw [hret _ acts rfl rfl rfl]) | rw [hret _ _ rfl rfl rfl]
  exact Steps.refl _
/-- what holds at the law's entry: the machine, the code, the tables' words (any of lw_tbl by 'hts w (by decide +kernel)'), the script of L ints xs at the cell b, what the Statement gives of the start (any of its parts by flat_of_before) -/
def lw_At (p : Program) (s : State) (m : MethodId) (meth : Method) (c : Code) (b L : Nat) (xs : Nat → Int32) : Prop :=
  p.tables.exec = Jvm.exec ∧ c.code = code ∧ meth.sig.returnType = ret ∧ c.maxLocals = 4 ∧ s.vm.findClass R_law = some m.cls ∧ (∀ w ∈ lw_tbl, w.before #[Value.ref b] s = true) ∧ va_X b L xs s s.heap ∧ b < s.heap.size ∧ meth.locks = false ∧ (Jvm.Cond.and given_1 narrow_1).before #[Value.ref b] s = true
theorem et_fsX : ∀ j, j < 16 → defaultValue (tyX0 j) = vp_V [.int 0, .int 0, .long 0, .null, .null, .null, .null, .int 0, .int 0, .int 0, .null, .null, .null, .null, .null, .null] j := by
  intro j hj
  rcases (show j = 0 ∨ j = 1 ∨ j = 2 ∨ j = 3 ∨ j = 4 ∨ j = 5 ∨ j = 6 ∨ j = 7 ∨ j = 8 ∨ j = 9 ∨ j = 10 ∨ j = 11 ∨ j = 12 ∨ j = 13 ∨ j = 14 ∨ j = 15 by omega) with rfl | rfl | rfl | rfl | rfl | rfl | rfl | rfl | rfl | rfl | rfl | rfl | rfl | rfl | rfl | rfl <;> rfl
theorem et_fsM : ∀ j, j < 14 → defaultValue (tyX1 j) = vp_V [.int 0, .int 0, .null, .null, .null, .null, .null, .null, .null, .null, .null, .int 0, .int 0, .int 0] j := by
  intro j hj
  rcases (show j = 0 ∨ j = 1 ∨ j = 2 ∨ j = 3 ∨ j = 4 ∨ j = 5 ∨ j = 6 ∨ j = 7 ∨ j = 8 ∨ j = 9 ∨ j = 10 ∨ j = 11 ∨ j = 12 ∨ j = 13 by omega) with rfl | rfl | rfl | rfl | rfl | rfl | rfl | rfl | rfl | rfl | rfl | rfl | rfl | rfl <;> rfl
end
section
set_option maxHeartbeats 2000000 in
set_option maxRecDepth 100000 in
theorem whole_start {p : Program} {e : Env} {s : State} {m : MethodId} {below : List Frame} {meth : Method} {c : Code} (l : Launch) {b L : Nat} {xs : Nat → Int32} (hL : L ≤ 3587) (C0 : lw_At p s m meth c b L xs) : W p l e room_1 s m #[Value.ref b] below meth c s.heap [] 0 0 (lw_Z below #[Value.ref b] s) (entryFrame m ([Value.ref b] : List Value).toArray 4) := by
  obtain ⟨hx, hb, hr, hml, hown0, hts, hXs, hbl, hlk, -⟩ := C0
  have hown : s.vm.findClass RL = some m.cls := hown0
  have htsL : ∀ w ∈ wsL_law, w.before #[Value.ref b] s = true := fun w h => hts w (wsL_law_in w h)
  have hL31 : L < 2 ^ 31 := by omega
  obtain ⟨d0, i0, hk0⟩ := u_known (T := TX0) (N := 16) hts inX0 (hts (.instantiable RX0 16) (by decide +kernel))
  obtain ⟨d1, i1, hk1⟩ := u_known (T := TX1) (N := 14) hts inX1 (hts (.instantiable RX1 14) (by decide +kernel))
  obtain ⟨D, hK⟩ : ∃ D : va_G, va_K D vwCl [] s := ⟨_, et_K0 hk0 hk1⟩
  obtain ⟨A, hA, hA2⟩ : ∃ A : Nat → Prop, (∀ q, s.heap.size ≤ q → A q) ∧ (∀ q, A q → s.heap.size ≤ q) := ⟨fun q => s.heap.size ≤ q, fun _ h => h, fun _ h => h⟩
  have hbA : ¬ A b := fun h => by have := hA2 b h; omega
  have hP : va_P D vwCl [] s.heap := fun k q hk => by simp at hk
  have hD : va_D A [] := ⟨fun i j p q hi => by simp at hi, fun k q hk => by simp at hk⟩
  have hS : va_S A s.heap s.heap [] := va_S.rf
  obtain ⟨a1, ha1⟩ : ∃ a, a = if 0 < L then xs 0 else 0 := ⟨_, rfl⟩
  obtain ⟨a2, ha2⟩ : ∃ a, a = if 1 < L then xs 1 else 0 := ⟨_, rfl⟩
  obtain ⟨a3, ha3⟩ : ∃ a, a = if 2 < L then xs 2 else 0 := ⟨_, rfl⟩
  have hl := lv_entry ([.ref b]) (n := 4) (Nat.le_of_ble_eq_true rfl)
  rw [lg_entry_eq]
  generalize (lg_sl ([.ref b]) ++ List.replicate (4 - (lg_sl ([.ref b])).length) Slot.unset).toArray = ls at hl ⊢
  have hl : lv_has ls 4 [(0, .ref b)] := hl
  refine va_new (ci := 0) (fs := [.int 0, .int 0, .long 0, .null, .null, .null, .null, .int 0, .int 0, .int 0, .null, .null, .null, .null, .null, .null]) (C := RX0) (T := TX0) (N := 16) hx hb hts inX0 tyX0 tyX0_ok hown (hts (.classLink RL 7 RX0) (by decide +kernel)) (hts (.instantiable RX0 16) (by decide +kernel)) (hts (.initialized RX0) (by decide +kernel)) hK hP hD hS hA rfl et_fsX (Nat.le_of_ble_eq_true rfl) (Nat.le_of_ble_eq_true rfl) dL_law_0 (fun h0 H hP hD hS => ?_)
  refine lv_dup hx hb dL_law_3 rfl ?_
  refine lv_aload_n hx hb dL_law_4 rfl (lv_at hl 0 rfl) ?_
  refine lv_iconst (v := 0) hx hb dL_law_5 (by decide) ?_
  refine e3_cell (rest := [.ref h0, .ref h0]) ⟨hx, hb, hml, hown, htsL⟩ hL31 0 (by decide) a1 ha1 (va_cwS 2 htsL gL_law_L_cell rfl rfl rfl (by decide +kernel) ⟨Nat.le_of_ble_eq_true rfl, Nat.le_of_ble_eq_true rfl⟩) hXs hbl hbA hP hS hl.1 rfl (Nat.le_of_ble_eq_true rfl) dL_law_6 ⟨Nat.le_of_ble_eq_true rfl, Nat.le_of_ble_eq_true rfl⟩ (fun H locs hP hS => ?_)
  refine lv_aload_n hx hb dL_law_9 rfl (lv_at hl 0 rfl) ?_
  refine lv_iconst (v := 1) hx hb dL_law_10 (by decide) ?_
  refine e3_cell (rest := [.int a1, .ref h0, .ref h0]) ⟨hx, hb, hml, hown, htsL⟩ hL31 1 (by decide) a2 ha2 (va_cwS 2 htsL gL_law_L_cell rfl rfl rfl (by decide +kernel) ⟨Nat.le_of_ble_eq_true rfl, Nat.le_of_ble_eq_true rfl⟩) hXs hbl hbA hP hS hl.1 rfl (Nat.le_of_ble_eq_true rfl) dL_law_11 ⟨Nat.le_of_ble_eq_true rfl, Nat.le_of_ble_eq_true rfl⟩ (fun H locs hP hS => ?_)
  refine lv_aload_n hx hb dL_law_14 rfl (lv_at hl 0 rfl) ?_
  refine lv_iconst (v := 2) hx hb dL_law_15 (by decide) ?_
  refine e3_cell (rest := [.int a2, .int a1, .ref h0, .ref h0]) ⟨hx, hb, hml, hown, htsL⟩ hL31 2 (by decide) a3 ha3 (va_cwS 2 htsL gL_law_L_cell rfl rfl rfl (by decide +kernel) ⟨Nat.le_of_ble_eq_true rfl, Nat.le_of_ble_eq_true rfl⟩) hXs hbl hbA hP hS hl.1 rfl (Nat.le_of_ble_eq_true rfl) dL_law_16 ⟨Nat.le_of_ble_eq_true rfl, Nat.le_of_ble_eq_true rfl⟩ (fun H locs hP hS => ?_)
  refine e3_ctor (As := [.int a1, .int a2, .int a3]) (rest := [.ref h0]) (wx := []) (t1 := []) ⟨hx, hb, hml, hown, htsL⟩ (tX_init l D h0 a1 a2 a3) (cwI 3 htsL gL_law_X0_init rfl rfl rfl (htsL (.initialized RX0) (by decide +kernel)) (htsL (.methodLink RL 15 yX0_init) (by decide +kernel)) (htsL (.instanceMethod yX0_init) (by decide +kernel)) rfl (by decide +kernel) ⟨Nat.le_of_ble_eq_true rfl, Nat.le_of_ble_eq_true rfl⟩) hK hP hD hS hA rfl hl.1 rfl (Nat.le_of_ble_eq_true rfl) dL_law_19 ⟨Nat.le_of_ble_eq_true rfl, Nat.le_of_ble_eq_true rfl⟩ (fun u H locs hu hK hP hD hS => ?_)
  obtain ⟨q, cs, ord⟩ := u
  obtain ⟨hq0, hord⟩ := hu
  have hq0 : q 0 = h0 := hq0
  have hsx := et_SX_new (q := q) (cs := cs) (K := et_cl 3 a1) (w := et_cl 48 a3) (kd := et_kf (et_d0 a2) 3) hord
  have hP1 : va_P D vwCl (XW q cs (nI (et_cl 3 a1)) (nI (et_cl 48 a3)) (et_ab (et_cl 48 a3)) (et_kf (et_d0 a2) 3) (fun _ => 0) (fun _ => 0) ord 0 0 0 (fun _ => 0) (fun _ => 0) (fun _ => 0) (fun _ => 0) (fun _ => 0) (fun _ => 0)) H := hP
  have hD1 : va_D A (XW q cs (nI (et_cl 3 a1)) (nI (et_cl 48 a3)) (et_ab (et_cl 48 a3)) (et_kf (et_d0 a2) 3) (fun _ => 0) (fun _ => 0) ord 0 0 0 (fun _ => 0) (fun _ => 0) (fun _ => 0) (fun _ => 0) (fun _ => 0) (fun _ => 0)) := hD
  have hK1 : va_K D vwCl (XTy cs) s := hK
  subst hq0
  have hP := hP1
  have hD := hD1
  have hK := hK1
  clear hP1 hD1 hK1
  generalize hwx : (XW q cs (nI (et_cl 3 a1)) (nI (et_cl 48 a3)) (et_ab (et_cl 48 a3)) (et_kf (et_d0 a2) 3) (fun _ => 0) (fun _ => 0) ord 0 0 0 (fun _ => 0) (fun _ => 0) (fun _ => 0) (fun _ => 0) (fun _ => 0) (fun _ => 0)) = wx at hP hD hsx
  refine lv_astore_n hx hb dL_law_22 rfl hl (by decide) rfl (fun ls hl => ?_)
  have hl : lv_has ls 4 [(1, .ref (q 0)), (0, .ref b)] := hl
  refine va_new (ci := 1) (fs := [.int 0, .int 0, .null, .null, .null, .null, .null, .null, .null, .null, .null, .int 0, .int 0, .int 0]) (C := RX1) (T := TX1) (N := 14) hx hb hts inX1 tyX1 tyX1_ok hown (hts (.classLink RL 18 RX1) (by decide +kernel)) (hts (.instantiable RX1 14) (by decide +kernel)) (hts (.initialized RX1) (by decide +kernel)) hK hP hD hS hA rfl et_fsM (Nat.le_of_ble_eq_true rfl) (Nat.le_of_ble_eq_true rfl) dL_law_23 (fun g0 H hP hD hS => ?_)
  refine lv_dup hx hb dL_law_26 rfl ?_
  refine lv_aload_n hx hb dL_law_27 rfl (lv_at hl 1 rfl) ?_
  refine lv_iconst (v := 0) hx hb dL_law_28 (by decide) ?_
  refine e3_cell (rest := [.ref g0, .ref g0]) ⟨hx, hb, hml, hown, htsL⟩ hL31 0 (by decide) a1 ha1 (va_cwS 2 htsL gL_law_L_cell rfl rfl rfl (by decide +kernel) ⟨Nat.le_of_ble_eq_true rfl, Nat.le_of_ble_eq_true rfl⟩) hXs hbl hbA hP hS hl.1 rfl (Nat.le_of_ble_eq_true rfl) dL_law_29 ⟨Nat.le_of_ble_eq_true rfl, Nat.le_of_ble_eq_true rfl⟩ (fun H locs hP hS => ?_)
  refine lv_aload_n hx hb dL_law_32 rfl (lv_at hl 1 rfl) ?_
  refine lv_iconst (v := 1) hx hb dL_law_33 (by decide) ?_
  refine e3_cell (rest := [.int a1, .ref g0, .ref g0]) ⟨hx, hb, hml, hown, htsL⟩ hL31 1 (by decide) a2 ha2 (va_cwS 2 htsL gL_law_L_cell rfl rfl rfl (by decide +kernel) ⟨Nat.le_of_ble_eq_true rfl, Nat.le_of_ble_eq_true rfl⟩) hXs hbl hbA hP hS hl.1 rfl (Nat.le_of_ble_eq_true rfl) dL_law_34 ⟨Nat.le_of_ble_eq_true rfl, Nat.le_of_ble_eq_true rfl⟩ (fun H locs hP hS => ?_)
  refine lv_aload_n hx hb dL_law_37 rfl (lv_at hl 1 rfl) ?_
  refine lv_iconst (v := 2) hx hb dL_law_38 (by decide) ?_
  refine e3_cell (rest := [.int a2, .int a1, .ref g0, .ref g0]) ⟨hx, hb, hml, hown, htsL⟩ hL31 2 (by decide) a3 ha3 (va_cwS 2 htsL gL_law_L_cell rfl rfl rfl (by decide +kernel) ⟨Nat.le_of_ble_eq_true rfl, Nat.le_of_ble_eq_true rfl⟩) hXs hbl hbA hP hS hl.1 rfl (Nat.le_of_ble_eq_true rfl) dL_law_39 ⟨Nat.le_of_ble_eq_true rfl, Nat.le_of_ble_eq_true rfl⟩ (fun H locs hP hS => ?_)
  refine e3_ctor (As := [.int a1, .int a2, .int a3]) (rest := [.ref g0]) (wx := wx) (t1 := XTy cs) ⟨hx, hb, hml, hown, htsL⟩ (tM_init l D g0 a1 a2 a3) (cwI 3 htsL gL_law_X1_init rfl rfl rfl (htsL (.initialized RX1) (by decide +kernel)) (htsL (.methodLink RL 20 yX1_init) (by decide +kernel)) (htsL (.instanceMethod yX1_init) (by decide +kernel)) rfl (by decide +kernel) ⟨Nat.le_of_ble_eq_true rfl, Nat.le_of_ble_eq_true rfl⟩) hK hP hD hS hA rfl hl.1 rfl (Nat.le_of_ble_eq_true rfl) dL_law_42 ⟨Nat.le_of_ble_eq_true rfl, Nat.le_of_ble_eq_true rfl⟩ (fun u H locs hu hK hP hD hS => ?_)
  obtain ⟨q2, cs2⟩ := u
  have hu : q2 0 = g0 := hu
  have hsm := et_SM_new (q := q2) (cs := cs2) (K := et_cl 3 a1) (w := et_cl 48 a3) (kd := et_kf (et_d0 a2) 3)
  have hP1 : va_P D vwCl (wx ++ MW q2 cs2 (nI (et_cl 3 a1)) (nI (et_cl 48 a3)) (et_kf (et_d0 a2) 3) (fun _ => 0) (fun _ => 0) (fun _ => 0) (fun _ => 0) (fun _ => 0) (fun _ => 0) (fun _ => 0) (fun _ => 0) 0 0 0) H := hP
  have hD1 : va_D A (wx ++ MW q2 cs2 (nI (et_cl 3 a1)) (nI (et_cl 48 a3)) (et_kf (et_d0 a2) 3) (fun _ => 0) (fun _ => 0) (fun _ => 0) (fun _ => 0) (fun _ => 0) (fun _ => 0) (fun _ => 0) (fun _ => 0) 0 0 0) := hD
  have hK1 : va_K D vwCl (XTy cs ++ MTy cs2) s := hK
  subst hu
  have hP := hP1
  have hD := hD1
  have hK := hK1
  clear hP1 hD1 hK1
  generalize hwm : (MW q2 cs2 (nI (et_cl 3 a1)) (nI (et_cl 48 a3)) (et_kf (et_d0 a2) 3) (fun _ => 0) (fun _ => 0) (fun _ => 0) (fun _ => 0) (fun _ => 0) (fun _ => 0) (fun _ => 0) (fun _ => 0) 0 0 0) = wm at hP hD hsm
  have hK3 := (et_cl_in (h := 3) (by decide) a1).2
  have hw : et_cl 48 a3 < 49 := by have := (et_cl_in (h := 48) (by decide) a3).2; omega
  have hkd : ∀ k, k < 3 → et_kk (et_kf (et_d0 a2) 3 k) := fun k _ => et_kf_kk _ k
  clear hwx hwm ha1 ha2 ha3
  generalize et_cl 3 a1 = K at hsx hsm hK3
  generalize et_cl 48 a3 = w at hsx hsm hw
  generalize et_kf (et_d0 a2) 3 = kd at hsx hsm hkd
  refine lv_astore_n hx hb dL_law_45 rfl hl (by decide) rfl (fun ls hl => ?_)
  have hl : lv_has ls 4 [(2, .ref (q2 0)), (1, .ref (q 0)), (0, .ref b)] := hl
  refine lv_iconst (v := 3) hx hb dL_law_46 (by decide) ?_
  refine lv_istore_n hx hb dL_law_47 rfl hl (by decide) rfl (fun ls hl => ?_)
  have hl : lv_has ls 4 [(3, .int 3), (2, .ref (q2 0)), (1, .ref (q 0)), (0, .ref b)] := hl
  refine eb_for (fun (t : Nat) (ls : Array Slot) (H : Heap) (locs : List Loc) => ∃ (dv dm : et_F) (N : Nat) (ms : Int32) (B L0 : List et_E) (wx wm : va_W), lv_has ls 4 [(0, .ref b), (1, .ref (q 0)), (2, .ref (q2 0)), (3, .int (nI (3 + 7 * t)))] ∧ va_P D vwCl (wx ++ wm) H ∧ va_D A (wx ++ wm) ∧ va_S A s.heap H locs ∧ et_SX q cs K w kd dv dm N ms L0 wx ∧ et_SM q2 cs2 K w kd dv dm N ms B wm ∧ et_IV K w kd N B L0 ∧ N ≤ t) 48 512 ?_ 512 0 ls H locs (by omega) ⟨fun _ => 0, fun _ => 0, 0, 0, [], [], wx, wm, lv_sub hl [3, 2, 1, 0] rfl, hP, hD, hS, hsx, hsm, et_IV_new, Nat.le_refl 0⟩
  clear hP hD hS hl hsx hsm
  intro t ls H locs ht hI hrec
  obtain ⟨dv, dm, N, ms, B, L0, wx, wm, hl, hP, hD, hS, hsx, hsm, hIV, hNt⟩ := hI
  refine lv_iload_n hx hb dL_law_48 rfl (lv_at hl 3 rfl) ?_
  refine lv_aload_n hx hb dL_law_49 rfl (lv_at hl 0 rfl) ?_
  refine va_slen hx hb hXs hbl hbA hS dL_law_50 ?_
  refine lv_bipush (v := 7) hx hb dL_law_51 (by decide) ?_
  refine lv_isub hx hb dL_law_53 ?_
  refine lv_icmp_gt (tgt := 463) hx hb dL_law_54 (by decide) (fun c54 => ?_) (fun c54 => ?_)
  · refine lv_iconst (v := 1) hx hb dL_law_463 (by decide) ?_
    refine va_forget (fun q hq => hA2 _ (hS.2.2 q hq)) ?_
    refine W.widen (k := 21) (n := 531) (Nat.le_of_ble_eq_true rfl) (Nat.le_of_ble_eq_true rfl) ?_
    exact lw_ret hx hb hr hlk dL_law_464
  · have c54 : ¬ nI L - nI 7 < nI (3 + 7 * t) := c54
    rw [et_lc (by omega) (by omega)] at c54
    refine lv_aload_n hx hb dL_law_57 rfl (lv_at hl 0 rfl) ?_
    refine lv_iload_n hx hb dL_law_58 rfl (lv_at hl 3 rfl) ?_
    refine e3_sld hx hb hXs hbl hbA hS hL31 (3 + 7 * t) (by omega) dL_law_59 ?_
    refine lv_bipush (v := 7) hx hb dL_law_60 (by decide) ?_
    refine lv_iand hx hb dL_law_62 ?_
    obtain ⟨j, hj, hjx⟩ := pk_andE (xs (3 + 7 * t)) (m := 7) 3 (by decide)
    have hj : j < 8 := hj
    have hn : ∀ x ∈ B, et_n x < 2 ^ 31 := fun x hx => by have := (hIV.2.2.2 x hx).1; omega
    rcases (show j = 0 ∨ j = 1 ∨ j = 2 ∨ j = 3 ∨ j = 4 ∨ j = 5 ∨ j = 6 ∨ j = 7 by omega) with rfl | rfl | rfl | rfl | rfl | rfl | rfl | rfl
    · refine eb_ti (nI 0) hjx ?_
      refine lv_tableIn (tgt := 104) hx hb dL_law_63 (by decide) (by decide) rfl (by decide) ?_
      refine lv_aload_n hx hb dL_law_104 rfl (lv_at hl 1 rfl) ?_
      refine lv_aload_n hx hb dL_law_105 rfl (lv_at hl 0 rfl) ?_
      refine lv_iload_n hx hb dL_law_106 rfl (lv_at hl 3 rfl) ?_
      refine lv_iconst (v := 1) hx hb dL_law_107 (by decide) ?_
      refine lv_iadd hx hb dL_law_108 ?_
      refine eb_ti (nI ((3 + 7 * t) + 1)) (nI_add (3 + 7 * t) 1) ?_
      refine e3_sld hx hb hXs hbl hbA hS hL31 ((3 + 7 * t) + 1) (by omega) dL_law_109 ?_
      refine lv_aload_n hx hb dL_law_110 rfl (lv_at hl 0 rfl) ?_
      refine lv_iload_n hx hb dL_law_111 rfl (lv_at hl 3 rfl) ?_
      refine lv_iconst (v := 2) hx hb dL_law_112 (by decide) ?_
      refine lv_iadd hx hb dL_law_113 ?_
      refine eb_ti (nI ((3 + 7 * t) + 2)) (nI_add (3 + 7 * t) 2) ?_
      refine e3_sld hx hb hXs hbl hbA hS hL31 ((3 + 7 * t) + 2) (by omega) dL_law_114 ?_
      refine lv_i2l hx hb dL_law_115 rfl ?_
      refine lv_bipush (v := 32) hx hb dL_law_116 (by decide) ?_
      refine lv_lshl hx hb dL_law_118 rfl ?_
      refine lv_aload_n hx hb dL_law_119 rfl (lv_at hl 0 rfl) ?_
      refine lv_iload_n hx hb dL_law_120 rfl (lv_at hl 3 rfl) ?_
      refine lv_iconst (v := 3) hx hb dL_law_121 (by decide) ?_
      refine lv_iadd hx hb dL_law_122 ?_
      refine eb_ti (nI ((3 + 7 * t) + 3)) (nI_add (3 + 7 * t) 3) ?_
      refine e3_sld hx hb hXs hbl hbA hS hL31 ((3 + 7 * t) + 3) (by omega) dL_law_123 ?_
      refine lv_i2l hx hb dL_law_124 rfl ?_
      refine lv_ldc2 (v := 4294967295) hx hb hown (hts (.constantLong RL 21 4294967295) (by decide +kernel)) dL_law_125 ?_
      refine lv_land hx hb dL_law_128 ?_
      refine lv_lor hx hb dL_law_129 ?_
      refine lv_aload_n hx hb dL_law_130 rfl (lv_at hl 0 rfl) ?_
      refine lv_iload_n hx hb dL_law_131 rfl (lv_at hl 3 rfl) ?_
      refine lv_iconst (v := 4) hx hb dL_law_132 (by decide) ?_
      refine lv_iadd hx hb dL_law_133 ?_
      refine eb_ti (nI ((3 + 7 * t) + 4)) (nI_add (3 + 7 * t) 4) ?_
      refine e3_sld hx hb hXs hbl hbA hS hL31 ((3 + 7 * t) + 4) (by omega) dL_law_134 ?_
      refine lv_i2l hx hb dL_law_135 rfl ?_
      refine lv_bipush (v := 32) hx hb dL_law_136 (by decide) ?_
      refine lv_lshl hx hb dL_law_138 rfl ?_
      refine lv_aload_n hx hb dL_law_139 rfl (lv_at hl 0 rfl) ?_
      refine lv_iload_n hx hb dL_law_140 rfl (lv_at hl 3 rfl) ?_
      refine lv_iconst (v := 5) hx hb dL_law_141 (by decide) ?_
      refine lv_iadd hx hb dL_law_142 ?_
      refine eb_ti (nI ((3 + 7 * t) + 5)) (nI_add (3 + 7 * t) 5) ?_
      refine e3_sld hx hb hXs hbl hbA hS hL31 ((3 + 7 * t) + 5) (by omega) dL_law_143 ?_
      refine lv_i2l hx hb dL_law_144 rfl ?_
      refine lv_ldc2 (v := 4294967295) hx hb hown (hts (.constantLong RL 21 4294967295) (by decide +kernel)) dL_law_145 ?_
      refine lv_land hx hb dL_law_148 ?_
      refine lv_lor hx hb dL_law_149 ?_
      obtain ⟨o, ord, nums, pris, pres, fins, vals, msks, hC, rfl⟩ := hsx
      refine e3_calll (As := [.int (xs ((3 + 7 * t) + 1)), .long ((((xs ((3 + 7 * t) + 2)).toInt64) <<< ((32 : Int32).toInt64 &&& 63)) ||| (((xs ((3 + 7 * t) + 3)).toInt64) &&& 4294967295)), .long ((((xs ((3 + 7 * t) + 4)).toInt64) <<< ((32 : Int32).toInt64 &&& 63)) ||| (((xs ((3 + 7 * t) + 5)).toInt64) &&& 4294967295))]) (rest := []) ⟨hx, hb, hml, hown, htsL⟩ (tX_match l D q cs hK3 o hC (xs ((3 + 7 * t) + 1)) ((((xs ((3 + 7 * t) + 2)).toInt64) <<< ((32 : Int32).toInt64 &&& 63)) ||| (((xs ((3 + 7 * t) + 3)).toInt64) &&& 4294967295)) ((((xs ((3 + 7 * t) + 4)).toInt64) <<< ((32 : Int32).toInt64 &&& 63)) ||| (((xs ((3 + 7 * t) + 5)).toInt64) &&& 4294967295))) (cwV 3 htsL gL_law_X0_match rfl rfl rfl (by decide +kernel) ⟨Nat.le_of_ble_eq_true rfl, Nat.le_of_ble_eq_true rfl⟩) hK hP hD hS hA rfl rfl rfl rfl hl.1 rfl (Nat.le_of_ble_eq_true rfl) dL_law_150 ⟨Nat.le_of_ble_eq_true rfl, Nat.le_of_ble_eq_true rfl⟩ (fun r1 w1 H locs hq1 hP hD hS => ?_)
      refine lv_aload_n hx hb dL_law_153 rfl (lv_at hl 2 rfl) ?_
      refine lv_aload_n hx hb dL_law_154 rfl (lv_at hl 0 rfl) ?_
      refine lv_iload_n hx hb dL_law_155 rfl (lv_at hl 3 rfl) ?_
      refine lv_iconst (v := 1) hx hb dL_law_156 (by decide) ?_
      refine lv_iadd hx hb dL_law_157 ?_
      refine eb_ti (nI ((3 + 7 * t) + 1)) (nI_add (3 + 7 * t) 1) ?_
      refine e3_sld hx hb hXs hbl hbA hS hL31 ((3 + 7 * t) + 1) (by omega) dL_law_158 ?_
      refine lv_aload_n hx hb dL_law_159 rfl (lv_at hl 0 rfl) ?_
      refine lv_iload_n hx hb dL_law_160 rfl (lv_at hl 3 rfl) ?_
      refine lv_iconst (v := 2) hx hb dL_law_161 (by decide) ?_
      refine lv_iadd hx hb dL_law_162 ?_
      refine eb_ti (nI ((3 + 7 * t) + 2)) (nI_add (3 + 7 * t) 2) ?_
      refine e3_sld hx hb hXs hbl hbA hS hL31 ((3 + 7 * t) + 2) (by omega) dL_law_163 ?_
      refine lv_i2l hx hb dL_law_164 rfl ?_
      refine lv_bipush (v := 32) hx hb dL_law_165 (by decide) ?_
      refine lv_lshl hx hb dL_law_167 rfl ?_
      refine lv_aload_n hx hb dL_law_168 rfl (lv_at hl 0 rfl) ?_
      refine lv_iload_n hx hb dL_law_169 rfl (lv_at hl 3 rfl) ?_
      refine lv_iconst (v := 3) hx hb dL_law_170 (by decide) ?_
      refine lv_iadd hx hb dL_law_171 ?_
      refine eb_ti (nI ((3 + 7 * t) + 3)) (nI_add (3 + 7 * t) 3) ?_
      refine e3_sld hx hb hXs hbl hbA hS hL31 ((3 + 7 * t) + 3) (by omega) dL_law_172 ?_
      refine lv_i2l hx hb dL_law_173 rfl ?_
      refine lv_ldc2 (v := 4294967295) hx hb hown (hts (.constantLong RL 21 4294967295) (by decide +kernel)) dL_law_174 ?_
      refine lv_land hx hb dL_law_177 ?_
      refine lv_lor hx hb dL_law_178 ?_
      refine lv_aload_n hx hb dL_law_179 rfl (lv_at hl 0 rfl) ?_
      refine lv_iload_n hx hb dL_law_180 rfl (lv_at hl 3 rfl) ?_
      refine lv_iconst (v := 4) hx hb dL_law_181 (by decide) ?_
      refine lv_iadd hx hb dL_law_182 ?_
      refine eb_ti (nI ((3 + 7 * t) + 4)) (nI_add (3 + 7 * t) 4) ?_
      refine e3_sld hx hb hXs hbl hbA hS hL31 ((3 + 7 * t) + 4) (by omega) dL_law_183 ?_
      refine lv_i2l hx hb dL_law_184 rfl ?_
      refine lv_bipush (v := 32) hx hb dL_law_185 (by decide) ?_
      refine lv_lshl hx hb dL_law_187 rfl ?_
      refine lv_aload_n hx hb dL_law_188 rfl (lv_at hl 0 rfl) ?_
      refine lv_iload_n hx hb dL_law_189 rfl (lv_at hl 3 rfl) ?_
      refine lv_iconst (v := 5) hx hb dL_law_190 (by decide) ?_
      refine lv_iadd hx hb dL_law_191 ?_
      refine eb_ti (nI ((3 + 7 * t) + 5)) (nI_add (3 + 7 * t) 5) ?_
      refine e3_sld hx hb hXs hbl hbA hS hL31 ((3 + 7 * t) + 5) (by omega) dL_law_192 ?_
      refine lv_i2l hx hb dL_law_193 rfl ?_
      refine lv_ldc2 (v := 4294967295) hx hb hown (hts (.constantLong RL 21 4294967295) (by decide +kernel)) dL_law_194 ?_
      refine lv_land hx hb dL_law_197 ?_
      refine lv_lor hx hb dL_law_198 ?_
      obtain ⟨num, pri, hit, val, msk, ask, hR, rfl⟩ := hsm
      refine e3_callr (As := [.int (xs ((3 + 7 * t) + 1)), .long ((((xs ((3 + 7 * t) + 2)).toInt64) <<< ((32 : Int32).toInt64 &&& 63)) ||| (((xs ((3 + 7 * t) + 3)).toInt64) &&& 4294967295)), .long ((((xs ((3 + 7 * t) + 4)).toInt64) <<< ((32 : Int32).toInt64 &&& 63)) ||| (((xs ((3 + 7 * t) + 5)).toInt64) &&& 4294967295))]) (rest := [.int r1]) ⟨hx, hb, hml, hown, hts⟩ (tM_match l D q2 cs2 hK3 hR (xs ((3 + 7 * t) + 1)) ((((xs ((3 + 7 * t) + 2)).toInt64) <<< ((32 : Int32).toInt64 &&& 63)) ||| (((xs ((3 + 7 * t) + 3)).toInt64) &&& 4294967295)) ((((xs ((3 + 7 * t) + 4)).toInt64) <<< ((32 : Int32).toInt64 &&& 63)) ||| (((xs ((3 + 7 * t) + 5)).toInt64) &&& 4294967295))) (cwV 3 hts gLM_match rfl rfl rfl (by decide +kernel) ⟨Nat.le_of_ble_eq_true rfl, Nat.le_of_ble_eq_true rfl⟩) hK hP hD hS hA rfl rfl rfl rfl hl.1 rfl (Nat.le_of_ble_eq_true rfl) dL_law_199 ⟨Nat.le_of_ble_eq_true rfl, Nat.le_of_ble_eq_true rfl⟩ (fun r2 w2 H locs hq2 hP hD hS => ?_)
      obtain ⟨he, hgo⟩ := et_agm hIV hq1 hq2
      refine lv_icmp_eq (tgt := 457) hx hb dL_law_202 (by decide) (fun _ => ?_) (fun c9 => absurd he c9)
      refine lv_iinc (k := 3) (v := nI (3 + 7 * (t + 1))) hx hb dL_law_457 hl rfl ((nI_add (3 + 7 * t) 7).trans (congrArg nI (by omega))) (by decide) rfl (fun ls hl => ?_)
      have hl : lv_has ls 4 [(3, .int (nI (3 + 7 * (t + 1)))), (0, .ref b), (1, .ref (q 0)), (2, .ref (q2 0))] := hl
      refine lv_goto (tgt := 48) hx hb dL_law_460 (by decide) ?_
      obtain ⟨dv1, dm1, N1, ms1, B1, L1, hN1, hIV1, hsx1, hsm1⟩ := hgo
      exact hrec ls H locs (by omega) ⟨dv1, dm1, N1, ms1, B1, L1, w1, w2, lv_sub hl [1, 2, 3, 0] rfl, hP, hD, hS, hsx1, hsm1, hIV1, by omega⟩
    · refine eb_ti (nI 1) hjx ?_
      refine lv_tableIn (tgt := 207) hx hb dL_law_63 (by decide) (by decide) rfl (by decide) ?_
      refine lv_aload_n hx hb dL_law_207 rfl (lv_at hl 1 rfl) ?_
      refine lv_aload_n hx hb dL_law_208 rfl (lv_at hl 0 rfl) ?_
      refine lv_iload_n hx hb dL_law_209 rfl (lv_at hl 3 rfl) ?_
      refine lv_iconst (v := 1) hx hb dL_law_210 (by decide) ?_
      refine lv_iadd hx hb dL_law_211 ?_
      refine eb_ti (nI ((3 + 7 * t) + 1)) (nI_add (3 + 7 * t) 1) ?_
      refine e3_sld hx hb hXs hbl hbA hS hL31 ((3 + 7 * t) + 1) (by omega) dL_law_212 ?_
      obtain ⟨o, ord, nums, pris, pres, fins, vals, msks, hC, rfl⟩ := hsx
      refine e3_calll (As := [.int (xs ((3 + 7 * t) + 1))]) (rest := []) ⟨hx, hb, hml, hown, htsL⟩ (tX_insert l D q cs hK3 o hC (xs ((3 + 7 * t) + 1))) (cwV 1 htsL gL_law_X0_insert rfl rfl rfl (by decide +kernel) ⟨Nat.le_of_ble_eq_true rfl, Nat.le_of_ble_eq_true rfl⟩) hK hP hD hS hA rfl rfl rfl rfl hl.1 rfl (Nat.le_of_ble_eq_true rfl) dL_law_213 ⟨Nat.le_of_ble_eq_true rfl, Nat.le_of_ble_eq_true rfl⟩ (fun r1 w1 H locs hq1 hP hD hS => ?_)
      refine lv_aload_n hx hb dL_law_216 rfl (lv_at hl 2 rfl) ?_
      refine lv_aload_n hx hb dL_law_217 rfl (lv_at hl 0 rfl) ?_
      refine lv_iload_n hx hb dL_law_218 rfl (lv_at hl 3 rfl) ?_
      refine lv_iconst (v := 1) hx hb dL_law_219 (by decide) ?_
      refine lv_iadd hx hb dL_law_220 ?_
      refine eb_ti (nI ((3 + 7 * t) + 1)) (nI_add (3 + 7 * t) 1) ?_
      refine e3_sld hx hb hXs hbl hbA hS hL31 ((3 + 7 * t) + 1) (by omega) dL_law_221 ?_
      obtain ⟨num, pri, hit, val, msk, ask, hR, rfl⟩ := hsm
      refine e3_callr (As := [.int (xs ((3 + 7 * t) + 1))]) (rest := [.int r1]) ⟨hx, hb, hml, hown, hts⟩ (tM_insert l D q2 cs2 hK3 hR (xs ((3 + 7 * t) + 1))) (cwV 1 hts gLM_insert rfl rfl rfl (by decide +kernel) ⟨Nat.le_of_ble_eq_true rfl, Nat.le_of_ble_eq_true rfl⟩) hK hP hD hS hA rfl rfl rfl rfl hl.1 rfl (Nat.le_of_ble_eq_true rfl) dL_law_222 ⟨Nat.le_of_ble_eq_true rfl, Nat.le_of_ble_eq_true rfl⟩ (fun r2 w2 H locs hq2 hP hD hS => ?_)
      obtain ⟨he, hgo⟩ := et_agi hK3 hw hkd hIV hq1 hq2
      refine lv_icmp_eq (tgt := 457) hx hb dL_law_225 (by decide) (fun _ => ?_) (fun c9 => absurd he c9)
      refine lv_iinc (k := 3) (v := nI (3 + 7 * (t + 1))) hx hb dL_law_457 hl rfl ((nI_add (3 + 7 * t) 7).trans (congrArg nI (by omega))) (by decide) rfl (fun ls hl => ?_)
      have hl : lv_has ls 4 [(3, .int (nI (3 + 7 * (t + 1)))), (0, .ref b), (1, .ref (q 0)), (2, .ref (q2 0))] := hl
      refine lv_goto (tgt := 48) hx hb dL_law_460 (by decide) ?_
      obtain ⟨dv1, dm1, N1, ms1, B1, L1, hN1, hIV1, hsx1, hsm1⟩ := hgo
      exact hrec ls H locs (by omega) ⟨dv1, dm1, N1, ms1, B1, L1, w1, w2, lv_sub hl [1, 2, 3, 0] rfl, hP, hD, hS, hsx1, hsm1, hIV1, by omega⟩
    · refine eb_ti (nI 2) hjx ?_
      refine lv_tableIn (tgt := 230) hx hb dL_law_63 (by decide) (by decide) rfl (by decide) ?_
      refine lv_aload_n hx hb dL_law_230 rfl (lv_at hl 1 rfl) ?_
      refine lv_aload_n hx hb dL_law_231 rfl (lv_at hl 0 rfl) ?_
      refine lv_iload_n hx hb dL_law_232 rfl (lv_at hl 3 rfl) ?_
      refine lv_iconst (v := 1) hx hb dL_law_233 (by decide) ?_
      refine lv_iadd hx hb dL_law_234 ?_
      refine eb_ti (nI ((3 + 7 * t) + 1)) (nI_add (3 + 7 * t) 1) ?_
      refine e3_sld hx hb hXs hbl hbA hS hL31 ((3 + 7 * t) + 1) (by omega) dL_law_235 ?_
      obtain ⟨o, ord, nums, pris, pres, fins, vals, msks, hC, rfl⟩ := hsx
      refine e3_calll (As := [.int (xs ((3 + 7 * t) + 1))]) (rest := []) ⟨hx, hb, hml, hown, htsL⟩ (tX_remove l D q cs hK3 o hC (xs ((3 + 7 * t) + 1))) (cwV 1 htsL gL_law_X0_remove rfl rfl rfl (by decide +kernel) ⟨Nat.le_of_ble_eq_true rfl, Nat.le_of_ble_eq_true rfl⟩) hK hP hD hS hA rfl rfl rfl rfl hl.1 rfl (Nat.le_of_ble_eq_true rfl) dL_law_236 ⟨Nat.le_of_ble_eq_true rfl, Nat.le_of_ble_eq_true rfl⟩ (fun r1 w1 H locs hq1 hP hD hS => ?_)
      refine lv_aload_n hx hb dL_law_239 rfl (lv_at hl 2 rfl) ?_
      refine lv_aload_n hx hb dL_law_240 rfl (lv_at hl 0 rfl) ?_
      refine lv_iload_n hx hb dL_law_241 rfl (lv_at hl 3 rfl) ?_
      refine lv_iconst (v := 1) hx hb dL_law_242 (by decide) ?_
      refine lv_iadd hx hb dL_law_243 ?_
      refine eb_ti (nI ((3 + 7 * t) + 1)) (nI_add (3 + 7 * t) 1) ?_
      refine e3_sld hx hb hXs hbl hbA hS hL31 ((3 + 7 * t) + 1) (by omega) dL_law_244 ?_
      obtain ⟨num, pri, hit, val, msk, ask, hR, rfl⟩ := hsm
      refine e3_callr (As := [.int (xs ((3 + 7 * t) + 1))]) (rest := [.int r1]) ⟨hx, hb, hml, hown, hts⟩ (tM_remove l D q2 cs2 hK3 hR (xs ((3 + 7 * t) + 1))) (cwV 1 hts gLM_remove rfl rfl rfl (by decide +kernel) ⟨Nat.le_of_ble_eq_true rfl, Nat.le_of_ble_eq_true rfl⟩) hK hP hD hS hA rfl rfl rfl rfl hl.1 rfl (Nat.le_of_ble_eq_true rfl) dL_law_245 ⟨Nat.le_of_ble_eq_true rfl, Nat.le_of_ble_eq_true rfl⟩ (fun r2 w2 H locs hq2 hP hD hS => ?_)
      obtain ⟨he, hgo⟩ := et_agr (by omega) hIV hq1 hq2
      refine lv_icmp_eq (tgt := 457) hx hb dL_law_248 (by decide) (fun _ => ?_) (fun c9 => absurd he c9)
      refine lv_iinc (k := 3) (v := nI (3 + 7 * (t + 1))) hx hb dL_law_457 hl rfl ((nI_add (3 + 7 * t) 7).trans (congrArg nI (by omega))) (by decide) rfl (fun ls hl => ?_)
      have hl : lv_has ls 4 [(3, .int (nI (3 + 7 * (t + 1)))), (0, .ref b), (1, .ref (q 0)), (2, .ref (q2 0))] := hl
      refine lv_goto (tgt := 48) hx hb dL_law_460 (by decide) ?_
      obtain ⟨dv1, dm1, N1, ms1, B1, L1, hN1, hIV1, hsx1, hsm1⟩ := hgo
      exact hrec ls H locs (by omega) ⟨dv1, dm1, N1, ms1, B1, L1, w1, w2, lv_sub hl [1, 2, 3, 0] rfl, hP, hD, hS, hsx1, hsm1, hIV1, by omega⟩
    · refine eb_ti (nI 3) hjx ?_
      refine lv_tableIn (tgt := 253) hx hb dL_law_63 (by decide) (by decide) rfl (by decide) ?_
      refine lv_aload_n hx hb dL_law_253 rfl (lv_at hl 1 rfl) ?_
      refine lv_aload_n hx hb dL_law_254 rfl (lv_at hl 0 rfl) ?_
      refine lv_iload_n hx hb dL_law_255 rfl (lv_at hl 3 rfl) ?_
      refine lv_iconst (v := 1) hx hb dL_law_256 (by decide) ?_
      refine lv_iadd hx hb dL_law_257 ?_
      refine eb_ti (nI ((3 + 7 * t) + 1)) (nI_add (3 + 7 * t) 1) ?_
      refine e3_sld hx hb hXs hbl hbA hS hL31 ((3 + 7 * t) + 1) (by omega) dL_law_258 ?_
      refine lv_i2l hx hb dL_law_259 rfl ?_
      refine lv_bipush (v := 32) hx hb dL_law_260 (by decide) ?_
      refine lv_lshl hx hb dL_law_262 rfl ?_
      refine lv_aload_n hx hb dL_law_263 rfl (lv_at hl 0 rfl) ?_
      refine lv_iload_n hx hb dL_law_264 rfl (lv_at hl 3 rfl) ?_
      refine lv_iconst (v := 2) hx hb dL_law_265 (by decide) ?_
      refine lv_iadd hx hb dL_law_266 ?_
      refine eb_ti (nI ((3 + 7 * t) + 2)) (nI_add (3 + 7 * t) 2) ?_
      refine e3_sld hx hb hXs hbl hbA hS hL31 ((3 + 7 * t) + 2) (by omega) dL_law_267 ?_
      refine lv_i2l hx hb dL_law_268 rfl ?_
      refine lv_ldc2 (v := 4294967295) hx hb hown (hts (.constantLong RL 21 4294967295) (by decide +kernel)) dL_law_269 ?_
      refine lv_land hx hb dL_law_272 ?_
      refine lv_lor hx hb dL_law_273 ?_
      refine lv_aload_n hx hb dL_law_274 rfl (lv_at hl 0 rfl) ?_
      refine lv_iload_n hx hb dL_law_275 rfl (lv_at hl 3 rfl) ?_
      refine lv_iconst (v := 3) hx hb dL_law_276 (by decide) ?_
      refine lv_iadd hx hb dL_law_277 ?_
      refine eb_ti (nI ((3 + 7 * t) + 3)) (nI_add (3 + 7 * t) 3) ?_
      refine e3_sld hx hb hXs hbl hbA hS hL31 ((3 + 7 * t) + 3) (by omega) dL_law_278 ?_
      refine lv_i2l hx hb dL_law_279 rfl ?_
      refine lv_bipush (v := 32) hx hb dL_law_280 (by decide) ?_
      refine lv_lshl hx hb dL_law_282 rfl ?_
      refine lv_aload_n hx hb dL_law_283 rfl (lv_at hl 0 rfl) ?_
      refine lv_iload_n hx hb dL_law_284 rfl (lv_at hl 3 rfl) ?_
      refine lv_iconst (v := 4) hx hb dL_law_285 (by decide) ?_
      refine lv_iadd hx hb dL_law_286 ?_
      refine eb_ti (nI ((3 + 7 * t) + 4)) (nI_add (3 + 7 * t) 4) ?_
      refine e3_sld hx hb hXs hbl hbA hS hL31 ((3 + 7 * t) + 4) (by omega) dL_law_287 ?_
      refine lv_i2l hx hb dL_law_288 rfl ?_
      refine lv_ldc2 (v := 4294967295) hx hb hown (hts (.constantLong RL 21 4294967295) (by decide +kernel)) dL_law_289 ?_
      refine lv_land hx hb dL_law_292 ?_
      refine lv_lor hx hb dL_law_293 ?_
      refine lv_aload_n hx hb dL_law_294 rfl (lv_at hl 0 rfl) ?_
      refine lv_iload_n hx hb dL_law_295 rfl (lv_at hl 3 rfl) ?_
      refine lv_iconst (v := 5) hx hb dL_law_296 (by decide) ?_
      refine lv_iadd hx hb dL_law_297 ?_
      refine eb_ti (nI ((3 + 7 * t) + 5)) (nI_add (3 + 7 * t) 5) ?_
      refine e3_sld hx hb hXs hbl hbA hS hL31 ((3 + 7 * t) + 5) (by omega) dL_law_298 ?_
      refine lv_i2l hx hb dL_law_299 rfl ?_
      refine lv_bipush (v := 32) hx hb dL_law_300 (by decide) ?_
      refine lv_lshl hx hb dL_law_302 rfl ?_
      refine lv_aload_n hx hb dL_law_303 rfl (lv_at hl 0 rfl) ?_
      refine lv_iload_n hx hb dL_law_304 rfl (lv_at hl 3 rfl) ?_
      refine lv_bipush (v := 6) hx hb dL_law_305 (by decide) ?_
      refine lv_iadd hx hb dL_law_307 ?_
      refine eb_ti (nI ((3 + 7 * t) + 6)) (nI_add (3 + 7 * t) 6) ?_
      refine e3_sld hx hb hXs hbl hbA hS hL31 ((3 + 7 * t) + 6) (by omega) dL_law_308 ?_
      refine lv_i2l hx hb dL_law_309 rfl ?_
      refine lv_ldc2 (v := 4294967295) hx hb hown (hts (.constantLong RL 21 4294967295) (by decide +kernel)) dL_law_310 ?_
      refine lv_land hx hb dL_law_313 ?_
      refine lv_lor hx hb dL_law_314 ?_
      obtain ⟨o, ord, nums, pris, pres, fins, vals, msks, hC, rfl⟩ := hsx
      refine e3_calll (As := [.long ((((xs ((3 + 7 * t) + 1)).toInt64) <<< ((32 : Int32).toInt64 &&& 63)) ||| (((xs ((3 + 7 * t) + 2)).toInt64) &&& 4294967295)), .long ((((xs ((3 + 7 * t) + 3)).toInt64) <<< ((32 : Int32).toInt64 &&& 63)) ||| (((xs ((3 + 7 * t) + 4)).toInt64) &&& 4294967295)), .long ((((xs ((3 + 7 * t) + 5)).toInt64) <<< ((32 : Int32).toInt64 &&& 63)) ||| (((xs ((3 + 7 * t) + 6)).toInt64) &&& 4294967295))]) (rest := []) ⟨hx, hb, hml, hown, htsL⟩ (tX_find l D q cs hK3 o hC ((((xs ((3 + 7 * t) + 1)).toInt64) <<< ((32 : Int32).toInt64 &&& 63)) ||| (((xs ((3 + 7 * t) + 2)).toInt64) &&& 4294967295)) ((((xs ((3 + 7 * t) + 3)).toInt64) <<< ((32 : Int32).toInt64 &&& 63)) ||| (((xs ((3 + 7 * t) + 4)).toInt64) &&& 4294967295)) ((((xs ((3 + 7 * t) + 5)).toInt64) <<< ((32 : Int32).toInt64 &&& 63)) ||| (((xs ((3 + 7 * t) + 6)).toInt64) &&& 4294967295))) (cwV 3 htsL gL_law_X0_find rfl rfl rfl (by decide +kernel) ⟨Nat.le_of_ble_eq_true rfl, Nat.le_of_ble_eq_true rfl⟩) hK hP hD hS hA rfl rfl rfl rfl hl.1 rfl (Nat.le_of_ble_eq_true rfl) dL_law_315 ⟨Nat.le_of_ble_eq_true rfl, Nat.le_of_ble_eq_true rfl⟩ (fun r1 w1 H locs hq1 hP hD hS => ?_)
      refine lv_aload_n hx hb dL_law_318 rfl (lv_at hl 2 rfl) ?_
      refine lv_aload_n hx hb dL_law_319 rfl (lv_at hl 0 rfl) ?_
      refine lv_iload_n hx hb dL_law_320 rfl (lv_at hl 3 rfl) ?_
      refine lv_iconst (v := 1) hx hb dL_law_321 (by decide) ?_
      refine lv_iadd hx hb dL_law_322 ?_
      refine eb_ti (nI ((3 + 7 * t) + 1)) (nI_add (3 + 7 * t) 1) ?_
      refine e3_sld hx hb hXs hbl hbA hS hL31 ((3 + 7 * t) + 1) (by omega) dL_law_323 ?_
      refine lv_i2l hx hb dL_law_324 rfl ?_
      refine lv_bipush (v := 32) hx hb dL_law_325 (by decide) ?_
      refine lv_lshl hx hb dL_law_327 rfl ?_
      refine lv_aload_n hx hb dL_law_328 rfl (lv_at hl 0 rfl) ?_
      refine lv_iload_n hx hb dL_law_329 rfl (lv_at hl 3 rfl) ?_
      refine lv_iconst (v := 2) hx hb dL_law_330 (by decide) ?_
      refine lv_iadd hx hb dL_law_331 ?_
      refine eb_ti (nI ((3 + 7 * t) + 2)) (nI_add (3 + 7 * t) 2) ?_
      refine e3_sld hx hb hXs hbl hbA hS hL31 ((3 + 7 * t) + 2) (by omega) dL_law_332 ?_
      refine lv_i2l hx hb dL_law_333 rfl ?_
      refine lv_ldc2 (v := 4294967295) hx hb hown (hts (.constantLong RL 21 4294967295) (by decide +kernel)) dL_law_334 ?_
      refine lv_land hx hb dL_law_337 ?_
      refine lv_lor hx hb dL_law_338 ?_
      refine lv_aload_n hx hb dL_law_339 rfl (lv_at hl 0 rfl) ?_
      refine lv_iload_n hx hb dL_law_340 rfl (lv_at hl 3 rfl) ?_
      refine lv_iconst (v := 3) hx hb dL_law_341 (by decide) ?_
      refine lv_iadd hx hb dL_law_342 ?_
      refine eb_ti (nI ((3 + 7 * t) + 3)) (nI_add (3 + 7 * t) 3) ?_
      refine e3_sld hx hb hXs hbl hbA hS hL31 ((3 + 7 * t) + 3) (by omega) dL_law_343 ?_
      refine lv_i2l hx hb dL_law_344 rfl ?_
      refine lv_bipush (v := 32) hx hb dL_law_345 (by decide) ?_
      refine lv_lshl hx hb dL_law_347 rfl ?_
      refine lv_aload_n hx hb dL_law_348 rfl (lv_at hl 0 rfl) ?_
      refine lv_iload_n hx hb dL_law_349 rfl (lv_at hl 3 rfl) ?_
      refine lv_iconst (v := 4) hx hb dL_law_350 (by decide) ?_
      refine lv_iadd hx hb dL_law_351 ?_
      refine eb_ti (nI ((3 + 7 * t) + 4)) (nI_add (3 + 7 * t) 4) ?_
      refine e3_sld hx hb hXs hbl hbA hS hL31 ((3 + 7 * t) + 4) (by omega) dL_law_352 ?_
      refine lv_i2l hx hb dL_law_353 rfl ?_
      refine lv_ldc2 (v := 4294967295) hx hb hown (hts (.constantLong RL 21 4294967295) (by decide +kernel)) dL_law_354 ?_
      refine lv_land hx hb dL_law_357 ?_
      refine lv_lor hx hb dL_law_358 ?_
      refine lv_aload_n hx hb dL_law_359 rfl (lv_at hl 0 rfl) ?_
      refine lv_iload_n hx hb dL_law_360 rfl (lv_at hl 3 rfl) ?_
      refine lv_iconst (v := 5) hx hb dL_law_361 (by decide) ?_
      refine lv_iadd hx hb dL_law_362 ?_
      refine eb_ti (nI ((3 + 7 * t) + 5)) (nI_add (3 + 7 * t) 5) ?_
      refine e3_sld hx hb hXs hbl hbA hS hL31 ((3 + 7 * t) + 5) (by omega) dL_law_363 ?_
      refine lv_i2l hx hb dL_law_364 rfl ?_
      refine lv_bipush (v := 32) hx hb dL_law_365 (by decide) ?_
      refine lv_lshl hx hb dL_law_367 rfl ?_
      refine lv_aload_n hx hb dL_law_368 rfl (lv_at hl 0 rfl) ?_
      refine lv_iload_n hx hb dL_law_369 rfl (lv_at hl 3 rfl) ?_
      refine lv_bipush (v := 6) hx hb dL_law_370 (by decide) ?_
      refine lv_iadd hx hb dL_law_372 ?_
      refine eb_ti (nI ((3 + 7 * t) + 6)) (nI_add (3 + 7 * t) 6) ?_
      refine e3_sld hx hb hXs hbl hbA hS hL31 ((3 + 7 * t) + 6) (by omega) dL_law_373 ?_
      refine lv_i2l hx hb dL_law_374 rfl ?_
      refine lv_ldc2 (v := 4294967295) hx hb hown (hts (.constantLong RL 21 4294967295) (by decide +kernel)) dL_law_375 ?_
      refine lv_land hx hb dL_law_378 ?_
      refine lv_lor hx hb dL_law_379 ?_
      obtain ⟨num, pri, hit, val, msk, ask, hR, rfl⟩ := hsm
      refine e3_callr (As := [.long ((((xs ((3 + 7 * t) + 1)).toInt64) <<< ((32 : Int32).toInt64 &&& 63)) ||| (((xs ((3 + 7 * t) + 2)).toInt64) &&& 4294967295)), .long ((((xs ((3 + 7 * t) + 3)).toInt64) <<< ((32 : Int32).toInt64 &&& 63)) ||| (((xs ((3 + 7 * t) + 4)).toInt64) &&& 4294967295)), .long ((((xs ((3 + 7 * t) + 5)).toInt64) <<< ((32 : Int32).toInt64 &&& 63)) ||| (((xs ((3 + 7 * t) + 6)).toInt64) &&& 4294967295))]) (rest := [.int r1]) ⟨hx, hb, hml, hown, hts⟩ (tM_find l D q2 cs2 hK3 hR hw hn ((((xs ((3 + 7 * t) + 1)).toInt64) <<< ((32 : Int32).toInt64 &&& 63)) ||| (((xs ((3 + 7 * t) + 2)).toInt64) &&& 4294967295)) ((((xs ((3 + 7 * t) + 3)).toInt64) <<< ((32 : Int32).toInt64 &&& 63)) ||| (((xs ((3 + 7 * t) + 4)).toInt64) &&& 4294967295)) ((((xs ((3 + 7 * t) + 5)).toInt64) <<< ((32 : Int32).toInt64 &&& 63)) ||| (((xs ((3 + 7 * t) + 6)).toInt64) &&& 4294967295))) (cwV 3 hts gLM_find rfl rfl rfl (by decide +kernel) ⟨Nat.le_of_ble_eq_true rfl, Nat.le_of_ble_eq_true rfl⟩) hK hP hD hS hA rfl rfl rfl rfl hl.1 rfl (Nat.le_of_ble_eq_true rfl) dL_law_380 ⟨Nat.le_of_ble_eq_true rfl, Nat.le_of_ble_eq_true rfl⟩ (fun r2 w2 H locs hq2 hP hD hS => ?_)
      obtain ⟨he, hgo⟩ := et_agf hK3 hw hkd hIV hq1 hq2
      refine lv_icmp_eq (tgt := 457) hx hb dL_law_383 (by decide) (fun _ => ?_) (fun c9 => absurd he c9)
      refine lv_iinc (k := 3) (v := nI (3 + 7 * (t + 1))) hx hb dL_law_457 hl rfl ((nI_add (3 + 7 * t) 7).trans (congrArg nI (by omega))) (by decide) rfl (fun ls hl => ?_)
      have hl : lv_has ls 4 [(3, .int (nI (3 + 7 * (t + 1)))), (0, .ref b), (1, .ref (q 0)), (2, .ref (q2 0))] := hl
      refine lv_goto (tgt := 48) hx hb dL_law_460 (by decide) ?_
      obtain ⟨dv1, dm1, N1, ms1, B1, L1, hN1, hIV1, hsx1, hsm1⟩ := hgo
      exact hrec ls H locs (by omega) ⟨dv1, dm1, N1, ms1, B1, L1, w1, w2, lv_sub hl [1, 2, 3, 0] rfl, hP, hD, hS, hsx1, hsm1, hIV1, by omega⟩
    · refine eb_ti (nI 4) hjx ?_
      refine lv_tableIn (tgt := 388) hx hb dL_law_63 (by decide) (by decide) rfl (by decide) ?_
      refine lv_aload_n hx hb dL_law_388 rfl (lv_at hl 1 rfl) ?_
      refine lv_aload_n hx hb dL_law_389 rfl (lv_at hl 0 rfl) ?_
      refine lv_iload_n hx hb dL_law_390 rfl (lv_at hl 3 rfl) ?_
      refine lv_iconst (v := 1) hx hb dL_law_391 (by decide) ?_
      refine lv_iadd hx hb dL_law_392 ?_
      refine eb_ti (nI ((3 + 7 * t) + 1)) (nI_add (3 + 7 * t) 1) ?_
      refine e3_sld hx hb hXs hbl hbA hS hL31 ((3 + 7 * t) + 1) (by omega) dL_law_393 ?_
      obtain ⟨o, ord, nums, pris, pres, fins, vals, msks, hC, rfl⟩ := hsx
      refine e3_calll (As := [.int (xs ((3 + 7 * t) + 1))]) (rest := []) ⟨hx, hb, hml, hown, htsL⟩ (tX_nth l D q cs hK3 o hC (xs ((3 + 7 * t) + 1))) (cwV 1 htsL gL_law_X0_nth rfl rfl rfl (by decide +kernel) ⟨Nat.le_of_ble_eq_true rfl, Nat.le_of_ble_eq_true rfl⟩) hK hP hD hS hA rfl rfl rfl rfl hl.1 rfl (Nat.le_of_ble_eq_true rfl) dL_law_394 ⟨Nat.le_of_ble_eq_true rfl, Nat.le_of_ble_eq_true rfl⟩ (fun r1 w1 H locs hq1 hP hD hS => ?_)
      refine lv_aload_n hx hb dL_law_397 rfl (lv_at hl 2 rfl) ?_
      refine lv_aload_n hx hb dL_law_398 rfl (lv_at hl 0 rfl) ?_
      refine lv_iload_n hx hb dL_law_399 rfl (lv_at hl 3 rfl) ?_
      refine lv_iconst (v := 1) hx hb dL_law_400 (by decide) ?_
      refine lv_iadd hx hb dL_law_401 ?_
      refine eb_ti (nI ((3 + 7 * t) + 1)) (nI_add (3 + 7 * t) 1) ?_
      refine e3_sld hx hb hXs hbl hbA hS hL31 ((3 + 7 * t) + 1) (by omega) dL_law_402 ?_
      obtain ⟨num, pri, hit, val, msk, ask, hR, rfl⟩ := hsm
      refine e3_callr (As := [.int (xs ((3 + 7 * t) + 1))]) (rest := [.int r1]) ⟨hx, hb, hml, hown, hts⟩ (tM_nth l D q2 cs2 hK3 hR hn (xs ((3 + 7 * t) + 1))) (cwV 1 hts gLM_nth rfl rfl rfl (by decide +kernel) ⟨Nat.le_of_ble_eq_true rfl, Nat.le_of_ble_eq_true rfl⟩) hK hP hD hS hA rfl rfl rfl rfl hl.1 rfl (Nat.le_of_ble_eq_true rfl) dL_law_403 ⟨Nat.le_of_ble_eq_true rfl, Nat.le_of_ble_eq_true rfl⟩ (fun r2 w2 H locs hq2 hP hD hS => ?_)
      obtain ⟨he, hgo⟩ := et_agn hR.1 hIV hq1 hq2
      refine lv_icmp_eq (tgt := 457) hx hb dL_law_406 (by decide) (fun _ => ?_) (fun c9 => absurd he c9)
      refine lv_iinc (k := 3) (v := nI (3 + 7 * (t + 1))) hx hb dL_law_457 hl rfl ((nI_add (3 + 7 * t) 7).trans (congrArg nI (by omega))) (by decide) rfl (fun ls hl => ?_)
      have hl : lv_has ls 4 [(3, .int (nI (3 + 7 * (t + 1)))), (0, .ref b), (1, .ref (q 0)), (2, .ref (q2 0))] := hl
      refine lv_goto (tgt := 48) hx hb dL_law_460 (by decide) ?_
      obtain ⟨dv1, dm1, N1, ms1, B1, L1, hN1, hIV1, hsx1, hsm1⟩ := hgo
      exact hrec ls H locs (by omega) ⟨dv1, dm1, N1, ms1, B1, L1, w1, w2, lv_sub hl [1, 2, 3, 0] rfl, hP, hD, hS, hsx1, hsm1, hIV1, by omega⟩
    · refine eb_ti (nI 5) hjx ?_
      refine lv_tableIn (tgt := 411) hx hb dL_law_63 (by decide) (by decide) rfl (by decide) ?_
      refine lv_aload_n hx hb dL_law_411 rfl (lv_at hl 1 rfl) ?_
      refine lv_aload_n hx hb dL_law_412 rfl (lv_at hl 0 rfl) ?_
      refine lv_iload_n hx hb dL_law_413 rfl (lv_at hl 3 rfl) ?_
      refine lv_iconst (v := 1) hx hb dL_law_414 (by decide) ?_
      refine lv_iadd hx hb dL_law_415 ?_
      refine eb_ti (nI ((3 + 7 * t) + 1)) (nI_add (3 + 7 * t) 1) ?_
      refine e3_sld hx hb hXs hbl hbA hS hL31 ((3 + 7 * t) + 1) (by omega) dL_law_416 ?_
      obtain ⟨o, ord, nums, pris, pres, fins, vals, msks, hC, rfl⟩ := hsx
      refine e3_calll (As := [.int (xs ((3 + 7 * t) + 1))]) (rest := []) ⟨hx, hb, hml, hown, htsL⟩ (tX_hits l D q cs hK3 o hC (xs ((3 + 7 * t) + 1))) (cwV 1 htsL gL_law_X0_hits rfl rfl rfl (by decide +kernel) ⟨Nat.le_of_ble_eq_true rfl, Nat.le_of_ble_eq_true rfl⟩) hK hP hD hS hA rfl rfl rfl rfl hl.1 rfl (Nat.le_of_ble_eq_true rfl) dL_law_417 ⟨Nat.le_of_ble_eq_true rfl, Nat.le_of_ble_eq_true rfl⟩ (fun r1 w1 H locs hq1 hP hD hS => ?_)
      refine lv_aload_n hx hb dL_law_420 rfl (lv_at hl 2 rfl) ?_
      refine lv_aload_n hx hb dL_law_421 rfl (lv_at hl 0 rfl) ?_
      refine lv_iload_n hx hb dL_law_422 rfl (lv_at hl 3 rfl) ?_
      refine lv_iconst (v := 1) hx hb dL_law_423 (by decide) ?_
      refine lv_iadd hx hb dL_law_424 ?_
      refine eb_ti (nI ((3 + 7 * t) + 1)) (nI_add (3 + 7 * t) 1) ?_
      refine e3_sld hx hb hXs hbl hbA hS hL31 ((3 + 7 * t) + 1) (by omega) dL_law_425 ?_
      obtain ⟨num, pri, hit, val, msk, ask, hR, rfl⟩ := hsm
      refine e3_callr (As := [.int (xs ((3 + 7 * t) + 1))]) (rest := [.int r1]) ⟨hx, hb, hml, hown, hts⟩ (tM_hits l D q2 cs2 hK3 hR (xs ((3 + 7 * t) + 1))) (cwV 1 hts gLM_hits rfl rfl rfl (by decide +kernel) ⟨Nat.le_of_ble_eq_true rfl, Nat.le_of_ble_eq_true rfl⟩) hK hP hD hS hA rfl rfl rfl rfl hl.1 rfl (Nat.le_of_ble_eq_true rfl) dL_law_426 ⟨Nat.le_of_ble_eq_true rfl, Nat.le_of_ble_eq_true rfl⟩ (fun r2 w2 H locs hq2 hP hD hS => ?_)
      obtain ⟨he, hgo⟩ := et_agh (by omega) hIV hq1 hq2
      refine lv_icmp_eq (tgt := 457) hx hb dL_law_429 (by decide) (fun _ => ?_) (fun c9 => absurd he c9)
      refine lv_iinc (k := 3) (v := nI (3 + 7 * (t + 1))) hx hb dL_law_457 hl rfl ((nI_add (3 + 7 * t) 7).trans (congrArg nI (by omega))) (by decide) rfl (fun ls hl => ?_)
      have hl : lv_has ls 4 [(3, .int (nI (3 + 7 * (t + 1)))), (0, .ref b), (1, .ref (q 0)), (2, .ref (q2 0))] := hl
      refine lv_goto (tgt := 48) hx hb dL_law_460 (by decide) ?_
      obtain ⟨dv1, dm1, N1, ms1, B1, L1, hN1, hIV1, hsx1, hsm1⟩ := hgo
      exact hrec ls H locs (by omega) ⟨dv1, dm1, N1, ms1, B1, L1, w1, w2, lv_sub hl [1, 2, 3, 0] rfl, hP, hD, hS, hsx1, hsm1, hIV1, by omega⟩
    · refine eb_ti (nI 6) hjx ?_
      refine lv_tableIn (tgt := 434) hx hb dL_law_63 (by decide) (by decide) rfl (by decide) ?_
      refine lv_aload_n hx hb dL_law_434 rfl (lv_at hl 1 rfl) ?_
      refine lv_aload_n hx hb dL_law_435 rfl (lv_at hl 0 rfl) ?_
      refine lv_iload_n hx hb dL_law_436 rfl (lv_at hl 3 rfl) ?_
      refine lv_iconst (v := 1) hx hb dL_law_437 (by decide) ?_
      refine lv_iadd hx hb dL_law_438 ?_
      refine eb_ti (nI ((3 + 7 * t) + 1)) (nI_add (3 + 7 * t) 1) ?_
      refine e3_sld hx hb hXs hbl hbA hS hL31 ((3 + 7 * t) + 1) (by omega) dL_law_439 ?_
      obtain ⟨o, ord, nums, pris, pres, fins, vals, msks, hC, rfl⟩ := hsx
      refine e3_calll (As := [.int (xs ((3 + 7 * t) + 1))]) (rest := []) ⟨hx, hb, hml, hown, htsL⟩ (tX_count l D q cs hK3 o hC (xs ((3 + 7 * t) + 1))) (cwV 1 htsL gL_law_X0_count rfl rfl rfl (by decide +kernel) ⟨Nat.le_of_ble_eq_true rfl, Nat.le_of_ble_eq_true rfl⟩) hK hP hD hS hA rfl rfl rfl rfl hl.1 rfl (Nat.le_of_ble_eq_true rfl) dL_law_440 ⟨Nat.le_of_ble_eq_true rfl, Nat.le_of_ble_eq_true rfl⟩ (fun r1 w1 H locs hq1 hP hD hS => ?_)
      refine lv_aload_n hx hb dL_law_443 rfl (lv_at hl 2 rfl) ?_
      refine lv_aload_n hx hb dL_law_444 rfl (lv_at hl 0 rfl) ?_
      refine lv_iload_n hx hb dL_law_445 rfl (lv_at hl 3 rfl) ?_
      refine lv_iconst (v := 1) hx hb dL_law_446 (by decide) ?_
      refine lv_iadd hx hb dL_law_447 ?_
      refine eb_ti (nI ((3 + 7 * t) + 1)) (nI_add (3 + 7 * t) 1) ?_
      refine e3_sld hx hb hXs hbl hbA hS hL31 ((3 + 7 * t) + 1) (by omega) dL_law_448 ?_
      obtain ⟨num, pri, hit, val, msk, ask, hR, rfl⟩ := hsm
      refine e3_callr (As := [.int (xs ((3 + 7 * t) + 1))]) (rest := [.int r1]) ⟨hx, hb, hml, hown, hts⟩ (tM_count l D q2 cs2 hK3 hR (xs ((3 + 7 * t) + 1))) (cwV 1 hts gLM_count rfl rfl rfl (by decide +kernel) ⟨Nat.le_of_ble_eq_true rfl, Nat.le_of_ble_eq_true rfl⟩) hK hP hD hS hA rfl rfl rfl rfl hl.1 rfl (Nat.le_of_ble_eq_true rfl) dL_law_449 ⟨Nat.le_of_ble_eq_true rfl, Nat.le_of_ble_eq_true rfl⟩ (fun r2 w2 H locs hq2 hP hD hS => ?_)
      obtain ⟨he, hgo⟩ := et_agc hIV hq1 hq2
      refine lv_icmp_eq (tgt := 457) hx hb dL_law_452 (by decide) (fun _ => ?_) (fun c9 => absurd he c9)
      refine lv_iinc (k := 3) (v := nI (3 + 7 * (t + 1))) hx hb dL_law_457 hl rfl ((nI_add (3 + 7 * t) 7).trans (congrArg nI (by omega))) (by decide) rfl (fun ls hl => ?_)
      have hl : lv_has ls 4 [(3, .int (nI (3 + 7 * (t + 1)))), (0, .ref b), (1, .ref (q 0)), (2, .ref (q2 0))] := hl
      refine lv_goto (tgt := 48) hx hb dL_law_460 (by decide) ?_
      obtain ⟨dv1, dm1, N1, ms1, B1, L1, hN1, hIV1, hsx1, hsm1⟩ := hgo
      exact hrec ls H locs (by omega) ⟨dv1, dm1, N1, ms1, B1, L1, w1, w2, lv_sub hl [1, 2, 3, 0] rfl, hP, hD, hS, hsx1, hsm1, hIV1, by omega⟩
    · refine eb_ti (nI 7) hjx ?_
      refine lv_tableOut (tgt := 457) hx hb dL_law_63 (Or.inr (by decide)) (by decide) ?_
      have hgo : et_Go (et_SX q cs K w kd) (et_SM q2 cs2 K w kd) K w kd N wx wm := et_same hIV hsx hsm
      refine lv_iinc (k := 3) (v := nI (3 + 7 * (t + 1))) hx hb dL_law_457 hl rfl ((nI_add (3 + 7 * t) 7).trans (congrArg nI (by omega))) (by decide) rfl (fun ls hl => ?_)
      have hl : lv_has ls 4 [(3, .int (nI (3 + 7 * (t + 1)))), (0, .ref b), (1, .ref (q 0)), (2, .ref (q2 0))] := hl
      refine lv_goto (tgt := 48) hx hb dL_law_460 (by decide) ?_
      obtain ⟨dv1, dm1, N1, ms1, B1, L1, hN1, hIV1, hsx1, hsm1⟩ := hgo
      exact hrec ls H locs (by omega) ⟨dv1, dm1, N1, ms1, B1, L1, wx, wm, lv_sub hl [1, 2, 3, 0] rfl, hP, hD, hS, hsx1, hsm1, hIV1, by omega⟩
end
section
set_option maxHeartbeats 4000000 in
theorem lw_walk (l : Launch) (b : Addr) (xs : List Int32) : MetFree l x (headSpec (Jvm.Cond.code x code maxLocals ret :: tables_1) room_1) (lw_P b xs) (fun _ _ _ _ _ => True) lw_Q := by
  refine MetFree.of_bodyS (code := code) (maxLocals := maxLocals) (ret := ret) (by decide) ?_ ?_
  · intro args s m h hn
    obtain ⟨meth, c, h1, h2, h3, h4, h5, h6, -, -⟩ := Cond.code_spec hn (atoms_spec (ws := Jvm.Cond.code x code maxLocals ret :: tables_1) h _ List.mem_cons_self)
    exact ⟨meth, c, h1, h2, h3, h4, h5, h6⟩
  · intro p e s m args below meth c s₁ B hml0 hP _
    obtain ⟨rfl, hx, hbd, hgv⟩ := hP
    obtain ⟨scr, harrAt, hlist, hof, hsmall⟩ := hx
    obtain ⟨hcb, hkn, -, -⟩ := State.arrayAt?_spec harrAt
    have hown : s.vm.findClass R_law = some m.cls := findClass_of_methodNamed B.named
    have hts0 : ∀ c ∈ (Jvm.Cond.code x code maxLocals ret :: tables_1), c.before #[Value.ref b] s = true := atoms_spec (ws := Jvm.Cond.code x code maxLocals ret :: tables_1) B.pre
    have hts : ∀ w ∈ lw_tbl, w.before #[Value.ref b] s = true := k2_hts_sels lw_privs (fun w hw => hts0 w (List.mem_cons_of_mem _ hw)) lw_privs_ok
    have hml : c.maxLocals = 4 := B.maxLocals_eq (hts0 _ List.mem_cons_self)
    have X₀ : Stand p l e room_1 s m #[Value.ref b] below meth c s₁ [] 0 0 := Stand.of_body B
    have hh0 : s₁.heap = s.heap := by rw [B.state]; rfl
    have hsz : scr.slots.size = xs.length := by rw [← Array.length_toList, hlist, List.length_map]
    have hval : ∀ j : Nat, j < xs.length → scr.slots[j]? = some (.int (xs.getD j 0)) := fun j hj => by
      rw [← Array.getElem?_toList, hlist]
      simp [hj]
    have hbl : b < s.heap.size := (Array.getElem?_eq_some_iff.mp hcb).1
    have hX : va_X b xs.length (fun j => xs.getD j 0) s s.heap := ⟨scr, hcb, hof, hkn, hsz, hval⟩
    have K : W p l e room_1 s m #[Value.ref b] below meth c s₁.heap [] 0 0 (lw_Z below #[Value.ref b] s) (entryFrame m ([Value.ref b] : List Value).toArray 4) := by
      rw [hh0]
      exact whole_start l hbd ⟨B.exec, B.bytes, B.returns, hml, hown, hts, hX, hbl, B.notSynchronized, hgv⟩
    obtain ⟨t, a1, o, b1, b2, b3⟩ := K s₁ rfl X₀
    exact ⟨t, o, a1, b1, b2, b3⟩
theorem lw_pre_spec {args : Array Value} {s : State} (h : (Jvm.Cond.and given_1 narrow_1).before args s = true) (hr : rest_1_c.before args s = true) : ∃ (b : Addr) (xs : List Int32), lw_P b xs args s := by
  have hs := flat_of_before _ h
  have hq := flat_of_before _ hr
  have hc : (Cond.count 1).before args s = true := hs _ (by decide +kernel)
  have harr : (Cond.arrayOf (.arg 0) .int).before args s = true := hs _ (by decide +kernel)
  have hle : (Cond.le (.length (.arg 0)) (.int 3587)).before args s = true := hs _ (by decide +kernel)
  have hlen : (Cond.isInt (.length (.arg 0))).before args s = true := hq _ (by decide +kernel)
  have hall : (Cond.all (.arg 0) (.isInt (.elem (.arg 0) (.index 0)))).before args s = true := hq _ (by decide +kernel)
  obtain ⟨b, xs, hb, hx⟩ := State.ints_of_pre rfl harr hlen hall
  have hsm : xs.length < 2 ^ 31 := hx.choose_spec.2.2.2
  have hev : (Term.length (.arg 0)).eval args s none [] s = some (.int xs.length.toInt32) := hx.length_eval hb
  have hv := Cond.le_ints hev (show (Term.int 3587).eval args s none [] s = some (.int 3587) from rfl)
  have hd : xs.length.toInt32 ≤ 3587 := by
    simpa [Cond.before, Cond.holds, hv] using hle
  have hN : xs.length ≤ 3587 := (Int32.ofNat_le_ofNat hsm (by decide)).mp (show Int32.ofNat xs.length ≤ Int32.ofNat 3587 from hd)
  exact ⟨b, xs, Cond.one_arg hc (show args[0]? = some (.ref b) from hb), hx, hN, h⟩
theorem lw_comes (l : Launch) : Comes l x (Jvm.Cond.code x code maxLocals ret :: tables_1) room_1 (fun tb e args s => Calls_1 tb e args s ∧ rest_1 tb e args s ∧ Pre_1 tb e args s)
    (fun _ _ args s o t => lw_Q args s o t) := by
  intro p e ha hc hk s m args below hf hfit hheap happ hpre
  obtain ⟨b, xs, hP⟩ := lw_pre_spec hpre.2.2 hpre.2.1
  obtain ⟨k, o, h1, h2, h3, hQ⟩ := lw_walk l b xs p e ha hc hk s m args below hf ((Spec.applies_iff_loose hf).mp happ).1 hP trivial
  exact ⟨k, o, h1, h2, h3, hQ⟩
theorem lw_frame {s t : State} {o : Outcome} {args : Array Value} (h : Framed s o t [] 21 531) :
    Framed s o t (fieldLocs frame_1_writes args s ++ arrayLocs frame_1_arrays args s ++ staticLocs frame_1_statics s) 21 531 := h
theorem lw_limb (L : Cond) (hL : ∀ (args : Array Value) (s t : State), L.after args s (.returned (some (.int 1))) t = true) :
    ArmFor flags0 classFile x code maxLocals ret World_1 tables_1 room_1 Calls_1 rest_1 Pre_1
      (fun tb e a s o t => postC L tb e a s o t ∧ Framed s o t (fieldLocs frame_1_writes a s ++ arrayLocs frame_1_arrays a s ++ staticLocs frame_1_statics s) 21 531) := by
  intro l _ _ _ p e ha hc hk s m args below hf hfit hheap happ hpre
  obtain ⟨k, o, h1, h2, h3, rfl, hF⟩ := lw_comes l p e ha hc hk s m args below hf hfit hheap happ hpre
  exact ⟨k, _, h1, h2, h3, hL args s _, lw_frame hF⟩
theorem i_vc : Claimed_1_1 ∧ Claimed_1_2 := ⟨lw_limb limb_1_1 (fun args s t => by simp [limb_1_1, Cond.after, Cond.holds, Cond.value]), lw_limb limb_1_2 (fun args s t => Cond.after_iff.mpr (by
  first | (rw [show limb_1_2 = Cond.eq .result (.int 1) from rfl, Cond.eq_ints (x := 1) (y := 1) rfl rfl]; simp; done) | (simp [limb_1_2, Cond.value, Term.eval]; done)))⟩
end
