set_option maxHeartbeats 1000000 in
set_option maxRecDepth 100000 in
theorem tX_init (l : Launch) (D : va_G) (h0 : Nat) (a1 a2 a3 : Int32) : ∀ sz : Nat, Met l yX0_init wsX0_init { frames := 1, cells := 10, slots := 273, locals := 40 } (va_Pc [.ref h0, .int a1, .int a2, .int a3] (eb_pre D vwCl [] [(h0, .inr (0, [.int 0, .int 0, .long 0, .null, .null, .null, .null, .int 0, .int 0, .int 0, .null, .null, .null, .null, .null, .null]))] sz)) (va_Qv (fun u : (Nat → Nat) × (Nat → ClassId) × (Nat → Int32) => u.1 0 = h0 ∧ ∀ r, r < 24 → u.2.2 r = nI r) (eb_endS D vwCl (fun u => XTy u.2.1) (fun u => XW u.1 u.2.1 (nI (et_cl 3 a1)) (nI (et_cl 48 a3)) (et_ab (et_cl 48 a3)) (et_kf (et_d0 a2) 3) (fun _ => 0) (fun _ => 0) u.2.2 0 0 0 (fun _ => 0) (fun _ => 0) (fun _ => 0) (fun _ => 0) (fun _ => 0) (fun _ => 0)) (va_A [(h0, .inr (0, [.int 0, .int 0, .long 0, .null, .null, .null, .null, .int 0, .int 0, .int 0, .null, .null, .null, .null, .null, .null]))] sz)) (va_A [(h0, .inr (0, [.int 0, .int 0, .long 0, .null, .null, .null, .null, .int 0, .int 0, .int 0, .null, .null, .null, .null, .null, .null]))] sz)) 10 273 (va_A [(h0, .inr (0, [.int 0, .int 0, .long 0, .null, .null, .null, .null, .int 0, .int 0, .int 0, .null, .null, .null, .null, .null, .null]))] sz) := by
  refine eb_openC (Qc := fun A => va_Qv (fun u : (Nat → Nat) × (Nat → ClassId) × (Nat → Int32) => u.1 0 = h0 ∧ ∀ r, r < 24 → u.2.2 r = nI r) (eb_endS D vwCl (fun u => XTy u.2.1) (fun u => XW u.1 u.2.1 (nI (et_cl 3 a1)) (nI (et_cl 48 a3)) (et_ab (et_cl 48 a3)) (et_kf (et_d0 a2) 3) (fun _ => 0) (fun _ => 0) u.2.2 0 0 0 (fun _ => 0) (fun _ => 0) (fun _ => 0) (fun _ => 0) (fun _ => 0) (fun _ => 0)) A) A) (cc := cX0_init) (maxL := 8) (ret := none) (by decide +kernel) rfl rfl (Nat.le_of_ble_eq_true rfl) ?_
  intro p e s m below meth c A ls H locs hx hb hr hts hown hlk hml hin hP hK hD hA hS hl
  have hU : ∀ w ∈ wsX00, w ∈ wsX0_init := fun w h => List.mem_cons_of_mem _ (List.mem_append_right _ h)
  have hf_kinds := hts (.fieldLink RX0 9 "EntryTable" "kinds" "[I") (by decide +kernel)
  have hf_draftValues := hts (.fieldLink RX0 13 "EntryTable" "draftValues" "[J") (by decide +kernel)
  have hf_draftMasks := hts (.fieldLink RX0 17 "EntryTable" "draftMasks" "[J") (by decide +kernel)
  have hf_order := hts (.fieldLink RX0 20 "EntryTable" "order" "[I") (by decide +kernel)
  have hf_entries := hts (.fieldLink RX0 23 "EntryTable" "entries" "I") (by decide +kernel)
  have hf_nextNumber := hts (.fieldLink RX0 27 "EntryTable" "nextNumber" "I") (by decide +kernel)
  have hf_misses := hts (.fieldLink RX0 30 "EntryTable" "misses" "I") (by decide +kernel)
  have hf_numbers := hts (.fieldLink RX0 33 "EntryTable" "numbers" "[I") (by decide +kernel)
  have hf_priorities := hts (.fieldLink RX0 36 "EntryTable" "priorities" "[I") (by decide +kernel)
  have hf_prefixes := hts (.fieldLink RX0 39 "EntryTable" "prefixes" "[I") (by decide +kernel)
  have hf_finds := hts (.fieldLink RX0 42 "EntryTable" "finds" "[I") (by decide +kernel)
  have hf_values := hts (.fieldLink RX0 45 "EntryTable" "values" "[J") (by decide +kernel)
  have hf_masks := hts (.fieldLink RX0 48 "EntryTable" "masks" "[J") (by decide +kernel)
  have hf_keys := hts (.fieldLink RX0 60 "EntryTable" "keys" "I") (by decide +kernel)
  have hf_width := hts (.fieldLink RX0 63 "EntryTable" "width" "I") (by decide +kernel)
  have hf_allBits := hts (.fieldLink RX0 66 "EntryTable" "allBits" "J") (by decide +kernel)
  have hl : lv_has ls 8 [(0, .ref h0), (1, .int a1), (2, .int a2), (3, .int a3)] := hl
  refine lv_aload_n hx hb dX0_init_0 rfl (lv_at hl 0 rfl) ?_
  refine W.objInit hx hb hown (hts (.methodLink RX0 1 objectInit) (by decide +kernel)) (hts (.instanceMethod objectInit) (by decide +kernel)) (hts _ (List.mem_cons_of_mem _ (List.mem_append_left _ (List.mem_append_left _ (List.mem_of_getElem? (i := 2) rfl))))) rfl (by rw [hml]; exact hl.1) rfl dX0_init_1 (Nat.le_of_ble_eq_true rfl) (Nat.le_of_ble_eq_true rfl) ?_
  refine W.eq (g2 := F0 m 4 ls []) rfl ?_
  refine lv_aload_n hx hb dX0_init_4 rfl (lv_at hl 0 rfl) ?_
  refine lv_iconst (v := 3) hx hb dX0_init_5 (by decide) ?_
  refine va_newa (atype := .int) (ty := .int) (N' := 3) (a0 := (3, .inl (fun _ => 0))) hx hb (hts (.arrayClass .int) (by decide +kernel)) rfl hK hP hD hS hA (fun _ => vp_cell_i ..) (by decide) (by decide) (by decide) (Nat.le_of_ble_eq_true rfl) (Nat.le_of_ble_eq_true rfl) dX0_init_6 (fun q1 c1 H hK hP hD hS => ?_)
  have hK : va_K D vwCl [(c1, .int)] s := hK
  have hP : va_P D vwCl ([(h0, .inr (0, [.int 0, .int 0, .long 0, .null, .null, .null, .null, .int 0, .int 0, .int 0, .null, .null, .null, .null, .null, .null])), (q1, .inl (c1, 3, .inl (fun _ => 0)))]) H := hP
  have hD : va_D A ([(h0, .inr (0, [.int 0, .int 0, .long 0, .null, .null, .null, .null, .int 0, .int 0, .int 0, .null, .null, .null, .null, .null, .null])), (q1, .inl (c1, 3, .inl (fun _ => 0)))]) := hD
  refine va_putF (D := D) (ci := 0) (ty := (.array .int)) (C := RX0) (T := TX0) (N := 16) hx hb hts hU tyX0 tyX0_ok nmX0 hown hK hP hD hS 0 rfl rfl 3 (by decide) hf_kinds (fun _ h9 => h9) rfl hin rfl (by decide +kernel) rfl rfl (Nat.le_of_ble_eq_true rfl) dX0_init_8 (fun H locs hP hD hS => ?_)
  have hP : va_P D vwCl ([(h0, .inr (0, [.int 0, .int 0, .long 0, .ref q1, .null, .null, .null, .int 0, .int 0, .int 0, .null, .null, .null, .null, .null, .null])), (q1, .inl (c1, 3, .inl (fun _ => 0)))]) H := hP
  have hD : va_D A ([(h0, .inr (0, [.int 0, .int 0, .long 0, .ref q1, .null, .null, .null, .int 0, .int 0, .int 0, .null, .null, .null, .null, .null, .null])), (q1, .inl (c1, 3, .inl (fun _ => 0)))]) := hD
  refine lv_aload_n hx hb dX0_init_11 rfl (lv_at hl 0 rfl) ?_
  refine lv_iconst (v := 3) hx hb dX0_init_12 (by decide) ?_
  refine va_newa (atype := .long) (ty := .long) (N' := 3) (a0 := (3, .inr (.inl (fun _ => 0)))) hx hb (hts (.arrayClass .long) (by decide +kernel)) rfl hK hP hD hS hA (fun _ => vp_cell_l ..) (by decide) (by decide) (by decide) (Nat.le_of_ble_eq_true rfl) (Nat.le_of_ble_eq_true rfl) dX0_init_13 (fun q2 c2 H hK hP hD hS => ?_)
  have hK : va_K D vwCl [(c1, .int), (c2, .long)] s := hK
  have hP : va_P D vwCl ([(h0, .inr (0, [.int 0, .int 0, .long 0, .ref q1, .null, .null, .null, .int 0, .int 0, .int 0, .null, .null, .null, .null, .null, .null])), (q1, .inl (c1, 3, .inl (fun _ => 0))), (q2, .inl (c2, 3, .inr (.inl (fun _ => 0))))]) H := hP
  have hD : va_D A ([(h0, .inr (0, [.int 0, .int 0, .long 0, .ref q1, .null, .null, .null, .int 0, .int 0, .int 0, .null, .null, .null, .null, .null, .null])), (q1, .inl (c1, 3, .inl (fun _ => 0))), (q2, .inl (c2, 3, .inr (.inl (fun _ => 0))))]) := hD
  refine va_putF (D := D) (ci := 0) (ty := (.array .long)) (C := RX0) (T := TX0) (N := 16) hx hb hts hU tyX0 tyX0_ok nmX0 hown hK hP hD hS 0 rfl rfl 4 (by decide) hf_draftValues (fun _ h9 => h9) rfl hin rfl (by decide +kernel) rfl rfl (Nat.le_of_ble_eq_true rfl) dX0_init_15 (fun H locs hP hD hS => ?_)
  have hP : va_P D vwCl ([(h0, .inr (0, [.int 0, .int 0, .long 0, .ref q1, .ref q2, .null, .null, .int 0, .int 0, .int 0, .null, .null, .null, .null, .null, .null])), (q1, .inl (c1, 3, .inl (fun _ => 0))), (q2, .inl (c2, 3, .inr (.inl (fun _ => 0))))]) H := hP
  have hD : va_D A ([(h0, .inr (0, [.int 0, .int 0, .long 0, .ref q1, .ref q2, .null, .null, .int 0, .int 0, .int 0, .null, .null, .null, .null, .null, .null])), (q1, .inl (c1, 3, .inl (fun _ => 0))), (q2, .inl (c2, 3, .inr (.inl (fun _ => 0))))]) := hD
  refine lv_aload_n hx hb dX0_init_18 rfl (lv_at hl 0 rfl) ?_
  refine lv_iconst (v := 3) hx hb dX0_init_19 (by decide) ?_
  refine va_newa (atype := .long) (ty := .long) (N' := 3) (a0 := (3, .inr (.inl (fun _ => 0)))) hx hb (hts (.arrayClass .long) (by decide +kernel)) rfl hK hP hD hS hA (fun _ => vp_cell_l ..) (by decide) (by decide) (by decide) (Nat.le_of_ble_eq_true rfl) (Nat.le_of_ble_eq_true rfl) dX0_init_20 (fun q3 c3 H hK hP hD hS => ?_)
  have hK : va_K D vwCl [(c1, .int), (c2, .long), (c3, .long)] s := hK
  have hP : va_P D vwCl ([(h0, .inr (0, [.int 0, .int 0, .long 0, .ref q1, .ref q2, .null, .null, .int 0, .int 0, .int 0, .null, .null, .null, .null, .null, .null])), (q1, .inl (c1, 3, .inl (fun _ => 0))), (q2, .inl (c2, 3, .inr (.inl (fun _ => 0)))), (q3, .inl (c3, 3, .inr (.inl (fun _ => 0))))]) H := hP
  have hD : va_D A ([(h0, .inr (0, [.int 0, .int 0, .long 0, .ref q1, .ref q2, .null, .null, .int 0, .int 0, .int 0, .null, .null, .null, .null, .null, .null])), (q1, .inl (c1, 3, .inl (fun _ => 0))), (q2, .inl (c2, 3, .inr (.inl (fun _ => 0)))), (q3, .inl (c3, 3, .inr (.inl (fun _ => 0))))]) := hD
  refine va_putF (D := D) (ci := 0) (ty := (.array .long)) (C := RX0) (T := TX0) (N := 16) hx hb hts hU tyX0 tyX0_ok nmX0 hown hK hP hD hS 0 rfl rfl 5 (by decide) hf_draftMasks (fun _ h9 => h9) rfl hin rfl (by decide +kernel) rfl rfl (Nat.le_of_ble_eq_true rfl) dX0_init_22 (fun H locs hP hD hS => ?_)
  have hP : va_P D vwCl ([(h0, .inr (0, [.int 0, .int 0, .long 0, .ref q1, .ref q2, .ref q3, .null, .int 0, .int 0, .int 0, .null, .null, .null, .null, .null, .null])), (q1, .inl (c1, 3, .inl (fun _ => 0))), (q2, .inl (c2, 3, .inr (.inl (fun _ => 0)))), (q3, .inl (c3, 3, .inr (.inl (fun _ => 0))))]) H := hP
  have hD : va_D A ([(h0, .inr (0, [.int 0, .int 0, .long 0, .ref q1, .ref q2, .ref q3, .null, .int 0, .int 0, .int 0, .null, .null, .null, .null, .null, .null])), (q1, .inl (c1, 3, .inl (fun _ => 0))), (q2, .inl (c2, 3, .inr (.inl (fun _ => 0)))), (q3, .inl (c3, 3, .inr (.inl (fun _ => 0))))]) := hD
  refine lv_aload_n hx hb dX0_init_25 rfl (lv_at hl 0 rfl) ?_
  refine lv_bipush (v := 24) hx hb dX0_init_26 (by decide) ?_
  refine va_newa (atype := .int) (ty := .int) (N' := 24) (a0 := (24, .inl (fun _ => 0))) hx hb (hts (.arrayClass .int) (by decide +kernel)) rfl hK hP hD hS hA (fun _ => vp_cell_i ..) (by decide) (by decide) (by decide) (Nat.le_of_ble_eq_true rfl) (Nat.le_of_ble_eq_true rfl) dX0_init_28 (fun q4 c4 H hK hP hD hS => ?_)
  have hK : va_K D vwCl [(c1, .int), (c2, .long), (c3, .long), (c4, .int)] s := hK
  have hP : va_P D vwCl ([(h0, .inr (0, [.int 0, .int 0, .long 0, .ref q1, .ref q2, .ref q3, .null, .int 0, .int 0, .int 0, .null, .null, .null, .null, .null, .null])), (q1, .inl (c1, 3, .inl (fun _ => 0))), (q2, .inl (c2, 3, .inr (.inl (fun _ => 0)))), (q3, .inl (c3, 3, .inr (.inl (fun _ => 0)))), (q4, .inl (c4, 24, .inl (fun _ => 0)))]) H := hP
  have hD : va_D A ([(h0, .inr (0, [.int 0, .int 0, .long 0, .ref q1, .ref q2, .ref q3, .null, .int 0, .int 0, .int 0, .null, .null, .null, .null, .null, .null])), (q1, .inl (c1, 3, .inl (fun _ => 0))), (q2, .inl (c2, 3, .inr (.inl (fun _ => 0)))), (q3, .inl (c3, 3, .inr (.inl (fun _ => 0)))), (q4, .inl (c4, 24, .inl (fun _ => 0)))]) := hD
  refine va_putF (D := D) (ci := 0) (ty := (.array .int)) (C := RX0) (T := TX0) (N := 16) hx hb hts hU tyX0 tyX0_ok nmX0 hown hK hP hD hS 0 rfl rfl 6 (by decide) hf_order (fun _ h9 => h9) rfl hin rfl (by decide +kernel) rfl rfl (Nat.le_of_ble_eq_true rfl) dX0_init_30 (fun H locs hP hD hS => ?_)
  have hP : va_P D vwCl ([(h0, .inr (0, [.int 0, .int 0, .long 0, .ref q1, .ref q2, .ref q3, .ref q4, .int 0, .int 0, .int 0, .null, .null, .null, .null, .null, .null])), (q1, .inl (c1, 3, .inl (fun _ => 0))), (q2, .inl (c2, 3, .inr (.inl (fun _ => 0)))), (q3, .inl (c3, 3, .inr (.inl (fun _ => 0)))), (q4, .inl (c4, 24, .inl (fun _ => 0)))]) H := hP
  have hD : va_D A ([(h0, .inr (0, [.int 0, .int 0, .long 0, .ref q1, .ref q2, .ref q3, .ref q4, .int 0, .int 0, .int 0, .null, .null, .null, .null, .null, .null])), (q1, .inl (c1, 3, .inl (fun _ => 0))), (q2, .inl (c2, 3, .inr (.inl (fun _ => 0)))), (q3, .inl (c3, 3, .inr (.inl (fun _ => 0)))), (q4, .inl (c4, 24, .inl (fun _ => 0)))]) := hD
  refine lv_aload_n hx hb dX0_init_33 rfl (lv_at hl 0 rfl) ?_
  refine lv_iconst (v := 0) hx hb dX0_init_34 (by decide) ?_
  refine va_put (D := D) (ci := 0) (ty := .int) (C := RX0) (T := TX0) (N := 16) hx hb hts hU tyX0 tyX0_ok nmX0 hown hK hP hD hS 0 rfl rfl 7 (by decide) hf_entries (fun _ h9 => h9) rfl (by decide +kernel) rfl rfl (Nat.le_of_ble_eq_true rfl) dX0_init_35 (fun H locs hP hD hS => ?_)
  have hP : va_P D vwCl ([(h0, .inr (0, [.int 0, .int 0, .long 0, .ref q1, .ref q2, .ref q3, .ref q4, .int 0, .int 0, .int 0, .null, .null, .null, .null, .null, .null])), (q1, .inl (c1, 3, .inl (fun _ => 0))), (q2, .inl (c2, 3, .inr (.inl (fun _ => 0)))), (q3, .inl (c3, 3, .inr (.inl (fun _ => 0)))), (q4, .inl (c4, 24, .inl (fun _ => 0)))]) H := hP
  have hD : va_D A ([(h0, .inr (0, [.int 0, .int 0, .long 0, .ref q1, .ref q2, .ref q3, .ref q4, .int 0, .int 0, .int 0, .null, .null, .null, .null, .null, .null])), (q1, .inl (c1, 3, .inl (fun _ => 0))), (q2, .inl (c2, 3, .inr (.inl (fun _ => 0)))), (q3, .inl (c3, 3, .inr (.inl (fun _ => 0)))), (q4, .inl (c4, 24, .inl (fun _ => 0)))]) := hD
  refine lv_aload_n hx hb dX0_init_38 rfl (lv_at hl 0 rfl) ?_
  refine lv_iconst (v := 0) hx hb dX0_init_39 (by decide) ?_
  refine va_put (D := D) (ci := 0) (ty := .int) (C := RX0) (T := TX0) (N := 16) hx hb hts hU tyX0 tyX0_ok nmX0 hown hK hP hD hS 0 rfl rfl 8 (by decide) hf_nextNumber (fun _ h9 => h9) rfl (by decide +kernel) rfl rfl (Nat.le_of_ble_eq_true rfl) dX0_init_40 (fun H locs hP hD hS => ?_)
  have hP : va_P D vwCl ([(h0, .inr (0, [.int 0, .int 0, .long 0, .ref q1, .ref q2, .ref q3, .ref q4, .int 0, .int 0, .int 0, .null, .null, .null, .null, .null, .null])), (q1, .inl (c1, 3, .inl (fun _ => 0))), (q2, .inl (c2, 3, .inr (.inl (fun _ => 0)))), (q3, .inl (c3, 3, .inr (.inl (fun _ => 0)))), (q4, .inl (c4, 24, .inl (fun _ => 0)))]) H := hP
  have hD : va_D A ([(h0, .inr (0, [.int 0, .int 0, .long 0, .ref q1, .ref q2, .ref q3, .ref q4, .int 0, .int 0, .int 0, .null, .null, .null, .null, .null, .null])), (q1, .inl (c1, 3, .inl (fun _ => 0))), (q2, .inl (c2, 3, .inr (.inl (fun _ => 0)))), (q3, .inl (c3, 3, .inr (.inl (fun _ => 0)))), (q4, .inl (c4, 24, .inl (fun _ => 0)))]) := hD
  refine lv_aload_n hx hb dX0_init_43 rfl (lv_at hl 0 rfl) ?_
  refine lv_iconst (v := 0) hx hb dX0_init_44 (by decide) ?_
  refine va_put (D := D) (ci := 0) (ty := .int) (C := RX0) (T := TX0) (N := 16) hx hb hts hU tyX0 tyX0_ok nmX0 hown hK hP hD hS 0 rfl rfl 9 (by decide) hf_misses (fun _ h9 => h9) rfl (by decide +kernel) rfl rfl (Nat.le_of_ble_eq_true rfl) dX0_init_45 (fun H locs hP hD hS => ?_)
  have hP : va_P D vwCl ([(h0, .inr (0, [.int 0, .int 0, .long 0, .ref q1, .ref q2, .ref q3, .ref q4, .int 0, .int 0, .int 0, .null, .null, .null, .null, .null, .null])), (q1, .inl (c1, 3, .inl (fun _ => 0))), (q2, .inl (c2, 3, .inr (.inl (fun _ => 0)))), (q3, .inl (c3, 3, .inr (.inl (fun _ => 0)))), (q4, .inl (c4, 24, .inl (fun _ => 0)))]) H := hP
  have hD : va_D A ([(h0, .inr (0, [.int 0, .int 0, .long 0, .ref q1, .ref q2, .ref q3, .ref q4, .int 0, .int 0, .int 0, .null, .null, .null, .null, .null, .null])), (q1, .inl (c1, 3, .inl (fun _ => 0))), (q2, .inl (c2, 3, .inr (.inl (fun _ => 0)))), (q3, .inl (c3, 3, .inr (.inl (fun _ => 0)))), (q4, .inl (c4, 24, .inl (fun _ => 0)))]) := hD
  refine lv_aload_n hx hb dX0_init_48 rfl (lv_at hl 0 rfl) ?_
  refine lv_bipush (v := 24) hx hb dX0_init_49 (by decide) ?_
  refine va_newa (atype := .int) (ty := .int) (N' := 24) (a0 := (24, .inl (fun _ => 0))) hx hb (hts (.arrayClass .int) (by decide +kernel)) rfl hK hP hD hS hA (fun _ => vp_cell_i ..) (by decide) (by decide) (by decide) (Nat.le_of_ble_eq_true rfl) (Nat.le_of_ble_eq_true rfl) dX0_init_51 (fun q5 c5 H hK hP hD hS => ?_)
  have hK : va_K D vwCl [(c1, .int), (c2, .long), (c3, .long), (c4, .int), (c5, .int)] s := hK
  have hP : va_P D vwCl ([(h0, .inr (0, [.int 0, .int 0, .long 0, .ref q1, .ref q2, .ref q3, .ref q4, .int 0, .int 0, .int 0, .null, .null, .null, .null, .null, .null])), (q1, .inl (c1, 3, .inl (fun _ => 0))), (q2, .inl (c2, 3, .inr (.inl (fun _ => 0)))), (q3, .inl (c3, 3, .inr (.inl (fun _ => 0)))), (q4, .inl (c4, 24, .inl (fun _ => 0))), (q5, .inl (c5, 24, .inl (fun _ => 0)))]) H := hP
  have hD : va_D A ([(h0, .inr (0, [.int 0, .int 0, .long 0, .ref q1, .ref q2, .ref q3, .ref q4, .int 0, .int 0, .int 0, .null, .null, .null, .null, .null, .null])), (q1, .inl (c1, 3, .inl (fun _ => 0))), (q2, .inl (c2, 3, .inr (.inl (fun _ => 0)))), (q3, .inl (c3, 3, .inr (.inl (fun _ => 0)))), (q4, .inl (c4, 24, .inl (fun _ => 0))), (q5, .inl (c5, 24, .inl (fun _ => 0)))]) := hD
  refine va_putF (D := D) (ci := 0) (ty := (.array .int)) (C := RX0) (T := TX0) (N := 16) hx hb hts hU tyX0 tyX0_ok nmX0 hown hK hP hD hS 0 rfl rfl 10 (by decide) hf_numbers (fun _ h9 => h9) rfl hin rfl (by decide +kernel) rfl rfl (Nat.le_of_ble_eq_true rfl) dX0_init_53 (fun H locs hP hD hS => ?_)
  have hP : va_P D vwCl ([(h0, .inr (0, [.int 0, .int 0, .long 0, .ref q1, .ref q2, .ref q3, .ref q4, .int 0, .int 0, .int 0, .ref q5, .null, .null, .null, .null, .null])), (q1, .inl (c1, 3, .inl (fun _ => 0))), (q2, .inl (c2, 3, .inr (.inl (fun _ => 0)))), (q3, .inl (c3, 3, .inr (.inl (fun _ => 0)))), (q4, .inl (c4, 24, .inl (fun _ => 0))), (q5, .inl (c5, 24, .inl (fun _ => 0)))]) H := hP
  have hD : va_D A ([(h0, .inr (0, [.int 0, .int 0, .long 0, .ref q1, .ref q2, .ref q3, .ref q4, .int 0, .int 0, .int 0, .ref q5, .null, .null, .null, .null, .null])), (q1, .inl (c1, 3, .inl (fun _ => 0))), (q2, .inl (c2, 3, .inr (.inl (fun _ => 0)))), (q3, .inl (c3, 3, .inr (.inl (fun _ => 0)))), (q4, .inl (c4, 24, .inl (fun _ => 0))), (q5, .inl (c5, 24, .inl (fun _ => 0)))]) := hD
  refine lv_aload_n hx hb dX0_init_56 rfl (lv_at hl 0 rfl) ?_
  refine lv_bipush (v := 24) hx hb dX0_init_57 (by decide) ?_
  refine va_newa (atype := .int) (ty := .int) (N' := 24) (a0 := (24, .inl (fun _ => 0))) hx hb (hts (.arrayClass .int) (by decide +kernel)) rfl hK hP hD hS hA (fun _ => vp_cell_i ..) (by decide) (by decide) (by decide) (Nat.le_of_ble_eq_true rfl) (Nat.le_of_ble_eq_true rfl) dX0_init_59 (fun q6 c6 H hK hP hD hS => ?_)
  have hK : va_K D vwCl [(c1, .int), (c2, .long), (c3, .long), (c4, .int), (c5, .int), (c6, .int)] s := hK
  have hP : va_P D vwCl ([(h0, .inr (0, [.int 0, .int 0, .long 0, .ref q1, .ref q2, .ref q3, .ref q4, .int 0, .int 0, .int 0, .ref q5, .null, .null, .null, .null, .null])), (q1, .inl (c1, 3, .inl (fun _ => 0))), (q2, .inl (c2, 3, .inr (.inl (fun _ => 0)))), (q3, .inl (c3, 3, .inr (.inl (fun _ => 0)))), (q4, .inl (c4, 24, .inl (fun _ => 0))), (q5, .inl (c5, 24, .inl (fun _ => 0))), (q6, .inl (c6, 24, .inl (fun _ => 0)))]) H := hP
  have hD : va_D A ([(h0, .inr (0, [.int 0, .int 0, .long 0, .ref q1, .ref q2, .ref q3, .ref q4, .int 0, .int 0, .int 0, .ref q5, .null, .null, .null, .null, .null])), (q1, .inl (c1, 3, .inl (fun _ => 0))), (q2, .inl (c2, 3, .inr (.inl (fun _ => 0)))), (q3, .inl (c3, 3, .inr (.inl (fun _ => 0)))), (q4, .inl (c4, 24, .inl (fun _ => 0))), (q5, .inl (c5, 24, .inl (fun _ => 0))), (q6, .inl (c6, 24, .inl (fun _ => 0)))]) := hD
  refine va_putF (D := D) (ci := 0) (ty := (.array .int)) (C := RX0) (T := TX0) (N := 16) hx hb hts hU tyX0 tyX0_ok nmX0 hown hK hP hD hS 0 rfl rfl 11 (by decide) hf_priorities (fun _ h9 => h9) rfl hin rfl (by decide +kernel) rfl rfl (Nat.le_of_ble_eq_true rfl) dX0_init_61 (fun H locs hP hD hS => ?_)
  have hP : va_P D vwCl ([(h0, .inr (0, [.int 0, .int 0, .long 0, .ref q1, .ref q2, .ref q3, .ref q4, .int 0, .int 0, .int 0, .ref q5, .ref q6, .null, .null, .null, .null])), (q1, .inl (c1, 3, .inl (fun _ => 0))), (q2, .inl (c2, 3, .inr (.inl (fun _ => 0)))), (q3, .inl (c3, 3, .inr (.inl (fun _ => 0)))), (q4, .inl (c4, 24, .inl (fun _ => 0))), (q5, .inl (c5, 24, .inl (fun _ => 0))), (q6, .inl (c6, 24, .inl (fun _ => 0)))]) H := hP
  have hD : va_D A ([(h0, .inr (0, [.int 0, .int 0, .long 0, .ref q1, .ref q2, .ref q3, .ref q4, .int 0, .int 0, .int 0, .ref q5, .ref q6, .null, .null, .null, .null])), (q1, .inl (c1, 3, .inl (fun _ => 0))), (q2, .inl (c2, 3, .inr (.inl (fun _ => 0)))), (q3, .inl (c3, 3, .inr (.inl (fun _ => 0)))), (q4, .inl (c4, 24, .inl (fun _ => 0))), (q5, .inl (c5, 24, .inl (fun _ => 0))), (q6, .inl (c6, 24, .inl (fun _ => 0)))]) := hD
  refine lv_aload_n hx hb dX0_init_64 rfl (lv_at hl 0 rfl) ?_
  refine lv_bipush (v := 24) hx hb dX0_init_65 (by decide) ?_
  refine va_newa (atype := .int) (ty := .int) (N' := 24) (a0 := (24, .inl (fun _ => 0))) hx hb (hts (.arrayClass .int) (by decide +kernel)) rfl hK hP hD hS hA (fun _ => vp_cell_i ..) (by decide) (by decide) (by decide) (Nat.le_of_ble_eq_true rfl) (Nat.le_of_ble_eq_true rfl) dX0_init_67 (fun q7 c7 H hK hP hD hS => ?_)
  have hK : va_K D vwCl [(c1, .int), (c2, .long), (c3, .long), (c4, .int), (c5, .int), (c6, .int), (c7, .int)] s := hK
  have hP : va_P D vwCl ([(h0, .inr (0, [.int 0, .int 0, .long 0, .ref q1, .ref q2, .ref q3, .ref q4, .int 0, .int 0, .int 0, .ref q5, .ref q6, .null, .null, .null, .null])), (q1, .inl (c1, 3, .inl (fun _ => 0))), (q2, .inl (c2, 3, .inr (.inl (fun _ => 0)))), (q3, .inl (c3, 3, .inr (.inl (fun _ => 0)))), (q4, .inl (c4, 24, .inl (fun _ => 0))), (q5, .inl (c5, 24, .inl (fun _ => 0))), (q6, .inl (c6, 24, .inl (fun _ => 0))), (q7, .inl (c7, 24, .inl (fun _ => 0)))]) H := hP
  have hD : va_D A ([(h0, .inr (0, [.int 0, .int 0, .long 0, .ref q1, .ref q2, .ref q3, .ref q4, .int 0, .int 0, .int 0, .ref q5, .ref q6, .null, .null, .null, .null])), (q1, .inl (c1, 3, .inl (fun _ => 0))), (q2, .inl (c2, 3, .inr (.inl (fun _ => 0)))), (q3, .inl (c3, 3, .inr (.inl (fun _ => 0)))), (q4, .inl (c4, 24, .inl (fun _ => 0))), (q5, .inl (c5, 24, .inl (fun _ => 0))), (q6, .inl (c6, 24, .inl (fun _ => 0))), (q7, .inl (c7, 24, .inl (fun _ => 0)))]) := hD
  refine va_putF (D := D) (ci := 0) (ty := (.array .int)) (C := RX0) (T := TX0) (N := 16) hx hb hts hU tyX0 tyX0_ok nmX0 hown hK hP hD hS 0 rfl rfl 12 (by decide) hf_prefixes (fun _ h9 => h9) rfl hin rfl (by decide +kernel) rfl rfl (Nat.le_of_ble_eq_true rfl) dX0_init_69 (fun H locs hP hD hS => ?_)
  have hP : va_P D vwCl ([(h0, .inr (0, [.int 0, .int 0, .long 0, .ref q1, .ref q2, .ref q3, .ref q4, .int 0, .int 0, .int 0, .ref q5, .ref q6, .ref q7, .null, .null, .null])), (q1, .inl (c1, 3, .inl (fun _ => 0))), (q2, .inl (c2, 3, .inr (.inl (fun _ => 0)))), (q3, .inl (c3, 3, .inr (.inl (fun _ => 0)))), (q4, .inl (c4, 24, .inl (fun _ => 0))), (q5, .inl (c5, 24, .inl (fun _ => 0))), (q6, .inl (c6, 24, .inl (fun _ => 0))), (q7, .inl (c7, 24, .inl (fun _ => 0)))]) H := hP
  have hD : va_D A ([(h0, .inr (0, [.int 0, .int 0, .long 0, .ref q1, .ref q2, .ref q3, .ref q4, .int 0, .int 0, .int 0, .ref q5, .ref q6, .ref q7, .null, .null, .null])), (q1, .inl (c1, 3, .inl (fun _ => 0))), (q2, .inl (c2, 3, .inr (.inl (fun _ => 0)))), (q3, .inl (c3, 3, .inr (.inl (fun _ => 0)))), (q4, .inl (c4, 24, .inl (fun _ => 0))), (q5, .inl (c5, 24, .inl (fun _ => 0))), (q6, .inl (c6, 24, .inl (fun _ => 0))), (q7, .inl (c7, 24, .inl (fun _ => 0)))]) := hD
  refine lv_aload_n hx hb dX0_init_72 rfl (lv_at hl 0 rfl) ?_
  refine lv_bipush (v := 24) hx hb dX0_init_73 (by decide) ?_
  refine va_newa (atype := .int) (ty := .int) (N' := 24) (a0 := (24, .inl (fun _ => 0))) hx hb (hts (.arrayClass .int) (by decide +kernel)) rfl hK hP hD hS hA (fun _ => vp_cell_i ..) (by decide) (by decide) (by decide) (Nat.le_of_ble_eq_true rfl) (Nat.le_of_ble_eq_true rfl) dX0_init_75 (fun q8 c8 H hK hP hD hS => ?_)
  have hK : va_K D vwCl [(c1, .int), (c2, .long), (c3, .long), (c4, .int), (c5, .int), (c6, .int), (c7, .int), (c8, .int)] s := hK
  have hP : va_P D vwCl ([(h0, .inr (0, [.int 0, .int 0, .long 0, .ref q1, .ref q2, .ref q3, .ref q4, .int 0, .int 0, .int 0, .ref q5, .ref q6, .ref q7, .null, .null, .null])), (q1, .inl (c1, 3, .inl (fun _ => 0))), (q2, .inl (c2, 3, .inr (.inl (fun _ => 0)))), (q3, .inl (c3, 3, .inr (.inl (fun _ => 0)))), (q4, .inl (c4, 24, .inl (fun _ => 0))), (q5, .inl (c5, 24, .inl (fun _ => 0))), (q6, .inl (c6, 24, .inl (fun _ => 0))), (q7, .inl (c7, 24, .inl (fun _ => 0))), (q8, .inl (c8, 24, .inl (fun _ => 0)))]) H := hP
  have hD : va_D A ([(h0, .inr (0, [.int 0, .int 0, .long 0, .ref q1, .ref q2, .ref q3, .ref q4, .int 0, .int 0, .int 0, .ref q5, .ref q6, .ref q7, .null, .null, .null])), (q1, .inl (c1, 3, .inl (fun _ => 0))), (q2, .inl (c2, 3, .inr (.inl (fun _ => 0)))), (q3, .inl (c3, 3, .inr (.inl (fun _ => 0)))), (q4, .inl (c4, 24, .inl (fun _ => 0))), (q5, .inl (c5, 24, .inl (fun _ => 0))), (q6, .inl (c6, 24, .inl (fun _ => 0))), (q7, .inl (c7, 24, .inl (fun _ => 0))), (q8, .inl (c8, 24, .inl (fun _ => 0)))]) := hD
  refine va_putF (D := D) (ci := 0) (ty := (.array .int)) (C := RX0) (T := TX0) (N := 16) hx hb hts hU tyX0 tyX0_ok nmX0 hown hK hP hD hS 0 rfl rfl 13 (by decide) hf_finds (fun _ h9 => h9) rfl hin rfl (by decide +kernel) rfl rfl (Nat.le_of_ble_eq_true rfl) dX0_init_77 (fun H locs hP hD hS => ?_)
  have hP : va_P D vwCl ([(h0, .inr (0, [.int 0, .int 0, .long 0, .ref q1, .ref q2, .ref q3, .ref q4, .int 0, .int 0, .int 0, .ref q5, .ref q6, .ref q7, .ref q8, .null, .null])), (q1, .inl (c1, 3, .inl (fun _ => 0))), (q2, .inl (c2, 3, .inr (.inl (fun _ => 0)))), (q3, .inl (c3, 3, .inr (.inl (fun _ => 0)))), (q4, .inl (c4, 24, .inl (fun _ => 0))), (q5, .inl (c5, 24, .inl (fun _ => 0))), (q6, .inl (c6, 24, .inl (fun _ => 0))), (q7, .inl (c7, 24, .inl (fun _ => 0))), (q8, .inl (c8, 24, .inl (fun _ => 0)))]) H := hP
  have hD : va_D A ([(h0, .inr (0, [.int 0, .int 0, .long 0, .ref q1, .ref q2, .ref q3, .ref q4, .int 0, .int 0, .int 0, .ref q5, .ref q6, .ref q7, .ref q8, .null, .null])), (q1, .inl (c1, 3, .inl (fun _ => 0))), (q2, .inl (c2, 3, .inr (.inl (fun _ => 0)))), (q3, .inl (c3, 3, .inr (.inl (fun _ => 0)))), (q4, .inl (c4, 24, .inl (fun _ => 0))), (q5, .inl (c5, 24, .inl (fun _ => 0))), (q6, .inl (c6, 24, .inl (fun _ => 0))), (q7, .inl (c7, 24, .inl (fun _ => 0))), (q8, .inl (c8, 24, .inl (fun _ => 0)))]) := hD
  refine lv_aload_n hx hb dX0_init_80 rfl (lv_at hl 0 rfl) ?_
  refine lv_bipush (v := 72) hx hb dX0_init_81 (by decide) ?_
  refine va_newa (atype := .long) (ty := .long) (N' := 72) (a0 := (72, .inr (.inl (fun _ => 0)))) hx hb (hts (.arrayClass .long) (by decide +kernel)) rfl hK hP hD hS hA (fun _ => vp_cell_l ..) (by decide) (by decide) (by decide) (Nat.le_of_ble_eq_true rfl) (Nat.le_of_ble_eq_true rfl) dX0_init_83 (fun q9 c9 H hK hP hD hS => ?_)
  have hK : va_K D vwCl [(c1, .int), (c2, .long), (c3, .long), (c4, .int), (c5, .int), (c6, .int), (c7, .int), (c8, .int), (c9, .long)] s := hK
  have hP : va_P D vwCl ([(h0, .inr (0, [.int 0, .int 0, .long 0, .ref q1, .ref q2, .ref q3, .ref q4, .int 0, .int 0, .int 0, .ref q5, .ref q6, .ref q7, .ref q8, .null, .null])), (q1, .inl (c1, 3, .inl (fun _ => 0))), (q2, .inl (c2, 3, .inr (.inl (fun _ => 0)))), (q3, .inl (c3, 3, .inr (.inl (fun _ => 0)))), (q4, .inl (c4, 24, .inl (fun _ => 0))), (q5, .inl (c5, 24, .inl (fun _ => 0))), (q6, .inl (c6, 24, .inl (fun _ => 0))), (q7, .inl (c7, 24, .inl (fun _ => 0))), (q8, .inl (c8, 24, .inl (fun _ => 0))), (q9, .inl (c9, 72, .inr (.inl (fun _ => 0))))]) H := hP
  have hD : va_D A ([(h0, .inr (0, [.int 0, .int 0, .long 0, .ref q1, .ref q2, .ref q3, .ref q4, .int 0, .int 0, .int 0, .ref q5, .ref q6, .ref q7, .ref q8, .null, .null])), (q1, .inl (c1, 3, .inl (fun _ => 0))), (q2, .inl (c2, 3, .inr (.inl (fun _ => 0)))), (q3, .inl (c3, 3, .inr (.inl (fun _ => 0)))), (q4, .inl (c4, 24, .inl (fun _ => 0))), (q5, .inl (c5, 24, .inl (fun _ => 0))), (q6, .inl (c6, 24, .inl (fun _ => 0))), (q7, .inl (c7, 24, .inl (fun _ => 0))), (q8, .inl (c8, 24, .inl (fun _ => 0))), (q9, .inl (c9, 72, .inr (.inl (fun _ => 0))))]) := hD
  refine va_putF (D := D) (ci := 0) (ty := (.array .long)) (C := RX0) (T := TX0) (N := 16) hx hb hts hU tyX0 tyX0_ok nmX0 hown hK hP hD hS 0 rfl rfl 14 (by decide) hf_values (fun _ h9 => h9) rfl hin rfl (by decide +kernel) rfl rfl (Nat.le_of_ble_eq_true rfl) dX0_init_85 (fun H locs hP hD hS => ?_)
  have hP : va_P D vwCl ([(h0, .inr (0, [.int 0, .int 0, .long 0, .ref q1, .ref q2, .ref q3, .ref q4, .int 0, .int 0, .int 0, .ref q5, .ref q6, .ref q7, .ref q8, .ref q9, .null])), (q1, .inl (c1, 3, .inl (fun _ => 0))), (q2, .inl (c2, 3, .inr (.inl (fun _ => 0)))), (q3, .inl (c3, 3, .inr (.inl (fun _ => 0)))), (q4, .inl (c4, 24, .inl (fun _ => 0))), (q5, .inl (c5, 24, .inl (fun _ => 0))), (q6, .inl (c6, 24, .inl (fun _ => 0))), (q7, .inl (c7, 24, .inl (fun _ => 0))), (q8, .inl (c8, 24, .inl (fun _ => 0))), (q9, .inl (c9, 72, .inr (.inl (fun _ => 0))))]) H := hP
  have hD : va_D A ([(h0, .inr (0, [.int 0, .int 0, .long 0, .ref q1, .ref q2, .ref q3, .ref q4, .int 0, .int 0, .int 0, .ref q5, .ref q6, .ref q7, .ref q8, .ref q9, .null])), (q1, .inl (c1, 3, .inl (fun _ => 0))), (q2, .inl (c2, 3, .inr (.inl (fun _ => 0)))), (q3, .inl (c3, 3, .inr (.inl (fun _ => 0)))), (q4, .inl (c4, 24, .inl (fun _ => 0))), (q5, .inl (c5, 24, .inl (fun _ => 0))), (q6, .inl (c6, 24, .inl (fun _ => 0))), (q7, .inl (c7, 24, .inl (fun _ => 0))), (q8, .inl (c8, 24, .inl (fun _ => 0))), (q9, .inl (c9, 72, .inr (.inl (fun _ => 0))))]) := hD
  refine lv_aload_n hx hb dX0_init_88 rfl (lv_at hl 0 rfl) ?_
  refine lv_bipush (v := 72) hx hb dX0_init_89 (by decide) ?_
  refine va_newa (atype := .long) (ty := .long) (N' := 72) (a0 := (72, .inr (.inl (fun _ => 0)))) hx hb (hts (.arrayClass .long) (by decide +kernel)) rfl hK hP hD hS hA (fun _ => vp_cell_l ..) (by decide) (by decide) (by decide) (Nat.le_of_ble_eq_true rfl) (Nat.le_of_ble_eq_true rfl) dX0_init_91 (fun q10 c10 H hK hP hD hS => ?_)
  have hK : va_K D vwCl [(c1, .int), (c2, .long), (c3, .long), (c4, .int), (c5, .int), (c6, .int), (c7, .int), (c8, .int), (c9, .long), (c10, .long)] s := hK
  have hP : va_P D vwCl ([(h0, .inr (0, [.int 0, .int 0, .long 0, .ref q1, .ref q2, .ref q3, .ref q4, .int 0, .int 0, .int 0, .ref q5, .ref q6, .ref q7, .ref q8, .ref q9, .null])), (q1, .inl (c1, 3, .inl (fun _ => 0))), (q2, .inl (c2, 3, .inr (.inl (fun _ => 0)))), (q3, .inl (c3, 3, .inr (.inl (fun _ => 0)))), (q4, .inl (c4, 24, .inl (fun _ => 0))), (q5, .inl (c5, 24, .inl (fun _ => 0))), (q6, .inl (c6, 24, .inl (fun _ => 0))), (q7, .inl (c7, 24, .inl (fun _ => 0))), (q8, .inl (c8, 24, .inl (fun _ => 0))), (q9, .inl (c9, 72, .inr (.inl (fun _ => 0)))), (q10, .inl (c10, 72, .inr (.inl (fun _ => 0))))]) H := hP
  have hD : va_D A ([(h0, .inr (0, [.int 0, .int 0, .long 0, .ref q1, .ref q2, .ref q3, .ref q4, .int 0, .int 0, .int 0, .ref q5, .ref q6, .ref q7, .ref q8, .ref q9, .null])), (q1, .inl (c1, 3, .inl (fun _ => 0))), (q2, .inl (c2, 3, .inr (.inl (fun _ => 0)))), (q3, .inl (c3, 3, .inr (.inl (fun _ => 0)))), (q4, .inl (c4, 24, .inl (fun _ => 0))), (q5, .inl (c5, 24, .inl (fun _ => 0))), (q6, .inl (c6, 24, .inl (fun _ => 0))), (q7, .inl (c7, 24, .inl (fun _ => 0))), (q8, .inl (c8, 24, .inl (fun _ => 0))), (q9, .inl (c9, 72, .inr (.inl (fun _ => 0)))), (q10, .inl (c10, 72, .inr (.inl (fun _ => 0))))]) := hD
  refine va_putF (D := D) (ci := 0) (ty := (.array .long)) (C := RX0) (T := TX0) (N := 16) hx hb hts hU tyX0 tyX0_ok nmX0 hown hK hP hD hS 0 rfl rfl 15 (by decide) hf_masks (fun _ h9 => h9) rfl hin rfl (by decide +kernel) rfl rfl (Nat.le_of_ble_eq_true rfl) dX0_init_93 (fun H locs hP hD hS => ?_)
  have hP : va_P D vwCl ([(h0, .inr (0, [.int 0, .int 0, .long 0, .ref q1, .ref q2, .ref q3, .ref q4, .int 0, .int 0, .int 0, .ref q5, .ref q6, .ref q7, .ref q8, .ref q9, .ref q10])), (q1, .inl (c1, 3, .inl (fun _ => 0))), (q2, .inl (c2, 3, .inr (.inl (fun _ => 0)))), (q3, .inl (c3, 3, .inr (.inl (fun _ => 0)))), (q4, .inl (c4, 24, .inl (fun _ => 0))), (q5, .inl (c5, 24, .inl (fun _ => 0))), (q6, .inl (c6, 24, .inl (fun _ => 0))), (q7, .inl (c7, 24, .inl (fun _ => 0))), (q8, .inl (c8, 24, .inl (fun _ => 0))), (q9, .inl (c9, 72, .inr (.inl (fun _ => 0)))), (q10, .inl (c10, 72, .inr (.inl (fun _ => 0))))]) H := hP
  have hD : va_D A ([(h0, .inr (0, [.int 0, .int 0, .long 0, .ref q1, .ref q2, .ref q3, .ref q4, .int 0, .int 0, .int 0, .ref q5, .ref q6, .ref q7, .ref q8, .ref q9, .ref q10])), (q1, .inl (c1, 3, .inl (fun _ => 0))), (q2, .inl (c2, 3, .inr (.inl (fun _ => 0)))), (q3, .inl (c3, 3, .inr (.inl (fun _ => 0)))), (q4, .inl (c4, 24, .inl (fun _ => 0))), (q5, .inl (c5, 24, .inl (fun _ => 0))), (q6, .inl (c6, 24, .inl (fun _ => 0))), (q7, .inl (c7, 24, .inl (fun _ => 0))), (q8, .inl (c8, 24, .inl (fun _ => 0))), (q9, .inl (c9, 72, .inr (.inl (fun _ => 0)))), (q10, .inl (c10, 72, .inr (.inl (fun _ => 0))))]) := hD
  refine lv_aload_n hx hb dX0_init_96 rfl (lv_at hl 0 rfl) ?_
  refine lv_iconst (v := 1) hx hb dX0_init_97 (by decide) ?_
  refine lv_iconst (v := 3) hx hb dX0_init_98 (by decide) ?_
  refine lv_iload_n hx hb dX0_init_99 rfl (lv_at hl 1 rfl) ?_
  refine va_mmin hx hb (hml.trans hl.1.symm) hown (hts (.methodLink RX0 51 Lib.Math.min.name) (by decide +kernel)) (hts (.static Lib.Math.min.name) (by decide +kernel)) (hts (.initialized "java/lang/Math") (by decide +kernel)) (hts (.code Lib.Math.min.name Lib.Math.min.code 2 (some .int)) (by decide +kernel)) (Nat.le_of_ble_eq_true rfl) (Nat.le_of_ble_eq_true rfl) (Nat.le_of_ble_eq_true rfl) (Nat.le_of_ble_eq_true rfl) dX0_init_100 ?_
  refine va_mmax hx hb (hml.trans hl.1.symm) hown (hts (.methodLink RX0 57 Lib.Math.max.name) (by decide +kernel)) (hts (.static Lib.Math.max.name) (by decide +kernel)) (hts (.initialized "java/lang/Math") (by decide +kernel)) (hts (.code Lib.Math.max.name Lib.Math.max.code 2 (some .int)) (by decide +kernel)) (Nat.le_of_ble_eq_true rfl) (Nat.le_of_ble_eq_true rfl) (Nat.le_of_ble_eq_true rfl) (Nat.le_of_ble_eq_true rfl) dX0_init_103 ?_
  refine eb_ti (nI (et_cl 3 a1)) (et_cl_X (h := 3) (by decide) (by decide) a1) ?_
  refine va_putF (D := D) (ci := 0) (ty := .int) (C := RX0) (T := TX0) (N := 16) hx hb hts hU tyX0 tyX0_ok nmX0 hown hK hP hD hS 0 rfl rfl 0 (by decide) hf_keys (fun _ h9 => h9) rfl hin rfl (by decide +kernel) rfl rfl (Nat.le_of_ble_eq_true rfl) dX0_init_106 (fun H locs hP hD hS => ?_)
  have hP : va_P D vwCl ([(h0, .inr (0, [.int (nI (et_cl 3 a1)), .int 0, .long 0, .ref q1, .ref q2, .ref q3, .ref q4, .int 0, .int 0, .int 0, .ref q5, .ref q6, .ref q7, .ref q8, .ref q9, .ref q10])), (q1, .inl (c1, 3, .inl (fun _ => 0))), (q2, .inl (c2, 3, .inr (.inl (fun _ => 0)))), (q3, .inl (c3, 3, .inr (.inl (fun _ => 0)))), (q4, .inl (c4, 24, .inl (fun _ => 0))), (q5, .inl (c5, 24, .inl (fun _ => 0))), (q6, .inl (c6, 24, .inl (fun _ => 0))), (q7, .inl (c7, 24, .inl (fun _ => 0))), (q8, .inl (c8, 24, .inl (fun _ => 0))), (q9, .inl (c9, 72, .inr (.inl (fun _ => 0)))), (q10, .inl (c10, 72, .inr (.inl (fun _ => 0))))]) H := hP
  have hD : va_D A ([(h0, .inr (0, [.int (nI (et_cl 3 a1)), .int 0, .long 0, .ref q1, .ref q2, .ref q3, .ref q4, .int 0, .int 0, .int 0, .ref q5, .ref q6, .ref q7, .ref q8, .ref q9, .ref q10])), (q1, .inl (c1, 3, .inl (fun _ => 0))), (q2, .inl (c2, 3, .inr (.inl (fun _ => 0)))), (q3, .inl (c3, 3, .inr (.inl (fun _ => 0)))), (q4, .inl (c4, 24, .inl (fun _ => 0))), (q5, .inl (c5, 24, .inl (fun _ => 0))), (q6, .inl (c6, 24, .inl (fun _ => 0))), (q7, .inl (c7, 24, .inl (fun _ => 0))), (q8, .inl (c8, 24, .inl (fun _ => 0))), (q9, .inl (c9, 72, .inr (.inl (fun _ => 0)))), (q10, .inl (c10, 72, .inr (.inl (fun _ => 0))))]) := hD
  refine lv_aload_n hx hb dX0_init_109 rfl (lv_at hl 0 rfl) ?_
  refine lv_iconst (v := 1) hx hb dX0_init_110 (by decide) ?_
  refine lv_bipush (v := 48) hx hb dX0_init_111 (by decide) ?_
  refine lv_iload_n hx hb dX0_init_113 rfl (lv_at hl 3 rfl) ?_
  refine va_mmin hx hb (hml.trans hl.1.symm) hown (hts (.methodLink RX0 51 Lib.Math.min.name) (by decide +kernel)) (hts (.static Lib.Math.min.name) (by decide +kernel)) (hts (.initialized "java/lang/Math") (by decide +kernel)) (hts (.code Lib.Math.min.name Lib.Math.min.code 2 (some .int)) (by decide +kernel)) (Nat.le_of_ble_eq_true rfl) (Nat.le_of_ble_eq_true rfl) (Nat.le_of_ble_eq_true rfl) (Nat.le_of_ble_eq_true rfl) dX0_init_114 ?_
  refine va_mmax hx hb (hml.trans hl.1.symm) hown (hts (.methodLink RX0 57 Lib.Math.max.name) (by decide +kernel)) (hts (.static Lib.Math.max.name) (by decide +kernel)) (hts (.initialized "java/lang/Math") (by decide +kernel)) (hts (.code Lib.Math.max.name Lib.Math.max.code 2 (some .int)) (by decide +kernel)) (Nat.le_of_ble_eq_true rfl) (Nat.le_of_ble_eq_true rfl) (Nat.le_of_ble_eq_true rfl) (Nat.le_of_ble_eq_true rfl) dX0_init_117 ?_
  refine eb_ti (nI (et_cl 48 a3)) (et_cl_X (h := 48) (by decide) (by decide) a3) ?_
  refine va_putF (D := D) (ci := 0) (ty := .int) (C := RX0) (T := TX0) (N := 16) hx hb hts hU tyX0 tyX0_ok nmX0 hown hK hP hD hS 0 rfl rfl 1 (by decide) hf_width (fun _ h9 => h9) rfl hin rfl (by decide +kernel) rfl rfl (Nat.le_of_ble_eq_true rfl) dX0_init_120 (fun H locs hP hD hS => ?_)
  have hP : va_P D vwCl ([(h0, .inr (0, [.int (nI (et_cl 3 a1)), .int (nI (et_cl 48 a3)), .long 0, .ref q1, .ref q2, .ref q3, .ref q4, .int 0, .int 0, .int 0, .ref q5, .ref q6, .ref q7, .ref q8, .ref q9, .ref q10])), (q1, .inl (c1, 3, .inl (fun _ => 0))), (q2, .inl (c2, 3, .inr (.inl (fun _ => 0)))), (q3, .inl (c3, 3, .inr (.inl (fun _ => 0)))), (q4, .inl (c4, 24, .inl (fun _ => 0))), (q5, .inl (c5, 24, .inl (fun _ => 0))), (q6, .inl (c6, 24, .inl (fun _ => 0))), (q7, .inl (c7, 24, .inl (fun _ => 0))), (q8, .inl (c8, 24, .inl (fun _ => 0))), (q9, .inl (c9, 72, .inr (.inl (fun _ => 0)))), (q10, .inl (c10, 72, .inr (.inl (fun _ => 0))))]) H := hP
  have hD : va_D A ([(h0, .inr (0, [.int (nI (et_cl 3 a1)), .int (nI (et_cl 48 a3)), .long 0, .ref q1, .ref q2, .ref q3, .ref q4, .int 0, .int 0, .int 0, .ref q5, .ref q6, .ref q7, .ref q8, .ref q9, .ref q10])), (q1, .inl (c1, 3, .inl (fun _ => 0))), (q2, .inl (c2, 3, .inr (.inl (fun _ => 0)))), (q3, .inl (c3, 3, .inr (.inl (fun _ => 0)))), (q4, .inl (c4, 24, .inl (fun _ => 0))), (q5, .inl (c5, 24, .inl (fun _ => 0))), (q6, .inl (c6, 24, .inl (fun _ => 0))), (q7, .inl (c7, 24, .inl (fun _ => 0))), (q8, .inl (c8, 24, .inl (fun _ => 0))), (q9, .inl (c9, 72, .inr (.inl (fun _ => 0)))), (q10, .inl (c10, 72, .inr (.inl (fun _ => 0))))]) := hD
  refine lv_aload_n hx hb dX0_init_123 rfl (lv_at hl 0 rfl) ?_
  refine lv_lconst (v := 1) hx hb dX0_init_124 (by decide) ?_
  refine lv_aload_n hx hb dX0_init_125 rfl (lv_at hl 0 rfl) ?_
  refine va_get (D := D) (ci := 0) (C := RX0) (T := TX0) (N := 16) hx hb hts hU hown hK hP 0 rfl rfl 1 (by decide) hf_width (fun _ h9 => h9) rfl dX0_init_126 ?_
  refine lv_lshl hx hb dX0_init_129 rfl ?_
  refine lv_lconst (v := 1) hx hb dX0_init_130 (by decide) ?_
  refine lv_lsub hx hb dX0_init_131 ?_
  refine eb_tl (et_ab (et_cl 48 a3)) (et_abW _ (by have := (et_cl_in (h := 48) (by decide) a3).2; omega)) ?_
  refine va_putF (D := D) (ci := 0) (ty := .long) (C := RX0) (T := TX0) (N := 16) hx hb hts hU tyX0 tyX0_ok nmX0 hown hK hP hD hS 0 rfl rfl 2 (by decide) hf_allBits (fun _ h9 => h9) rfl hin rfl (by decide +kernel) rfl rfl (Nat.le_of_ble_eq_true rfl) dX0_init_132 (fun H locs hP hD hS => ?_)
  have hP : va_P D vwCl ([(h0, .inr (0, [.int (nI (et_cl 3 a1)), .int (nI (et_cl 48 a3)), .long (et_ab (et_cl 48 a3)), .ref q1, .ref q2, .ref q3, .ref q4, .int 0, .int 0, .int 0, .ref q5, .ref q6, .ref q7, .ref q8, .ref q9, .ref q10])), (q1, .inl (c1, 3, .inl (fun _ => 0))), (q2, .inl (c2, 3, .inr (.inl (fun _ => 0)))), (q3, .inl (c3, 3, .inr (.inl (fun _ => 0)))), (q4, .inl (c4, 24, .inl (fun _ => 0))), (q5, .inl (c5, 24, .inl (fun _ => 0))), (q6, .inl (c6, 24, .inl (fun _ => 0))), (q7, .inl (c7, 24, .inl (fun _ => 0))), (q8, .inl (c8, 24, .inl (fun _ => 0))), (q9, .inl (c9, 72, .inr (.inl (fun _ => 0)))), (q10, .inl (c10, 72, .inr (.inl (fun _ => 0))))]) H := hP
  have hD : va_D A ([(h0, .inr (0, [.int (nI (et_cl 3 a1)), .int (nI (et_cl 48 a3)), .long (et_ab (et_cl 48 a3)), .ref q1, .ref q2, .ref q3, .ref q4, .int 0, .int 0, .int 0, .ref q5, .ref q6, .ref q7, .ref q8, .ref q9, .ref q10])), (q1, .inl (c1, 3, .inl (fun _ => 0))), (q2, .inl (c2, 3, .inr (.inl (fun _ => 0)))), (q3, .inl (c3, 3, .inr (.inl (fun _ => 0)))), (q4, .inl (c4, 24, .inl (fun _ => 0))), (q5, .inl (c5, 24, .inl (fun _ => 0))), (q6, .inl (c6, 24, .inl (fun _ => 0))), (q7, .inl (c7, 24, .inl (fun _ => 0))), (q8, .inl (c8, 24, .inl (fun _ => 0))), (q9, .inl (c9, 72, .inr (.inl (fun _ => 0)))), (q10, .inl (c10, 72, .inr (.inl (fun _ => 0))))]) := hD
  refine lv_iconst (v := 0) hx hb dX0_init_135 (by decide) ?_
  refine lv_iload_n hx hb dX0_init_136 rfl (lv_at hl 2 rfl) ?_
  refine va_mmax hx hb (hml.trans hl.1.symm) hown (hts (.methodLink RX0 57 Lib.Math.max.name) (by decide +kernel)) (hts (.static Lib.Math.max.name) (by decide +kernel)) (hts (.initialized "java/lang/Math") (by decide +kernel)) (hts (.code Lib.Math.max.name Lib.Math.max.code 2 (some .int)) (by decide +kernel)) (Nat.le_of_ble_eq_true rfl) (Nat.le_of_ble_eq_true rfl) (Nat.le_of_ble_eq_true rfl) (Nat.le_of_ble_eq_true rfl) dX0_init_137 ?_
  refine eb_ti (nI (et_d0 a2)) (et_d0_X a2) ?_
  refine lv_istore hx hb dX0_init_140 hl (by decide) rfl (fun ls hl => ?_)
  have hl : lv_has ls 8 [(4, .int (nI (et_d0 a2))), (0, .ref h0), (1, .int a1), (2, .int a2), (3, .int a3)] := hl
  refine lv_iconst (v := 0) hx hb dX0_init_142 (by decide) ?_
  refine lv_istore hx hb dX0_init_143 hl (by decide) rfl (fun ls hl => ?_)
  have hl : lv_has ls 8 [(5, .int 0), (4, .int (nI (et_d0 a2))), (0, .ref h0), (1, .int a1), (2, .int a2), (3, .int a3)] := hl
  refine lv_iconst (v := 0) hx hb dX0_init_145 (by decide) ?_
  refine lv_istore hx hb dX0_init_146 hl (by decide) rfl (fun ls hl => ?_)
  have hl : lv_has ls 8 [(6, .int 0), (5, .int 0), (4, .int (nI (et_d0 a2))), (0, .ref h0), (1, .int a1), (2, .int a2), (3, .int a3)] := hl
  refine eb_for (fun (k : Nat) (ls : Array Slot) (H : Heap) (locs : List Loc) => ∃ kd1 : Nat → Int32, ∃ d : Nat, ∃ hb0 : Int32, lv_has ls 8 [(0, .ref h0), (1, .int a1), (2, .int a2), (3, .int a3), (4, .int (nI d)), (5, .int hb0), (6, .int (nI k))] ∧ va_P D vwCl ([(h0, .inr (0, [.int (nI (et_cl 3 a1)), .int (nI (et_cl 48 a3)), .long (et_ab (et_cl 48 a3)), .ref q1, .ref q2, .ref q3, .ref q4, .int 0, .int 0, .int 0, .ref q5, .ref q6, .ref q7, .ref q8, .ref q9, .ref q10])), (q1, .inl (c1, 3, .inl kd1)), (q2, .inl (c2, 3, .inr (.inl (fun _ => 0)))), (q3, .inl (c3, 3, .inr (.inl (fun _ => 0)))), (q4, .inl (c4, 24, .inl (fun _ => 0))), (q5, .inl (c5, 24, .inl (fun _ => 0))), (q6, .inl (c6, 24, .inl (fun _ => 0))), (q7, .inl (c7, 24, .inl (fun _ => 0))), (q8, .inl (c8, 24, .inl (fun _ => 0))), (q9, .inl (c9, 72, .inr (.inl (fun _ => 0)))), (q10, .inl (c10, 72, .inr (.inl (fun _ => 0))))]) H ∧ va_D A ([(h0, .inr (0, [.int (nI (et_cl 3 a1)), .int (nI (et_cl 48 a3)), .long (et_ab (et_cl 48 a3)), .ref q1, .ref q2, .ref q3, .ref q4, .int 0, .int 0, .int 0, .ref q5, .ref q6, .ref q7, .ref q8, .ref q9, .ref q10])), (q1, .inl (c1, 3, .inl kd1)), (q2, .inl (c2, 3, .inr (.inl (fun _ => 0)))), (q3, .inl (c3, 3, .inr (.inl (fun _ => 0)))), (q4, .inl (c4, 24, .inl (fun _ => 0))), (q5, .inl (c5, 24, .inl (fun _ => 0))), (q6, .inl (c6, 24, .inl (fun _ => 0))), (q7, .inl (c7, 24, .inl (fun _ => 0))), (q8, .inl (c8, 24, .inl (fun _ => 0))), (q9, .inl (c9, 72, .inr (.inl (fun _ => 0)))), (q10, .inl (c10, 72, .inr (.inl (fun _ => 0))))]) ∧ va_S A s.heap H locs ∧ (kd1 = et_kf (et_d0 a2) k ∧ d = et_d0 a2 / 3 ^ k ∧ d < 2 ^ 31 ∧ ((et_hp (et_d0 a2) k ∧ hb0 = 1) ∨ (¬ et_hp (et_d0 a2) k ∧ hb0 = 0)))) 148 (3) ?_ (3) (0) ls H locs (by omega) ⟨(fun _ => 0), (et_d0 a2), 0, lv_sub hl [3, 4, 5, 6, 2, 1, 0] rfl, hP, hD, hS, ⟨et_kf_0, (Nat.div_one _).symm, et_d0_lt a2, Or.inr ⟨et_hp_0, rfl⟩⟩⟩
  intro k ls H locs hk hI hrec148
  obtain ⟨kd1, d, hb0, hl, hP, hD, hS, hi148⟩ := hI
  refine lv_iload hx hb dX0_init_148 (lv_at hl 6 rfl) ?_
  refine lv_iconst (v := 3) hx hb dX0_init_150 (by decide) ?_
  refine lv_icmp_ge (tgt := 214) hx hb dX0_init_151 (by decide) (fun c151 => ?_) (fun c151 => ?_)
  · have c151 : nI 3 ≤ nI k := c151
    rw [nI_leI (by omega) (by omega)] at c151
    have hk3 : k = 3 := by omega
    subst hk3
    obtain rfl := hi148.1
    refine lv_iconst (v := 0) hx hb dX0_init_214 (by decide) ?_
    refine lv_istore hx hb dX0_init_215 hl (by decide) rfl (fun ls hl => ?_)
    have hl : lv_has ls 8 [(6, .int 0), (0, .ref h0), (1, .int a1), (2, .int a2), (3, .int a3), (4, .int (nI d)), (5, .int hb0)] := hl
    refine eb_for (fun (t : Nat) (ls : Array Slot) (H : Heap) (locs : List Loc) => ∃ ord1 : Nat → Int32, lv_has ls 8 [(0, .ref h0), (6, .int (nI t))] ∧ va_P D vwCl ([(h0, .inr (0, [.int (nI (et_cl 3 a1)), .int (nI (et_cl 48 a3)), .long (et_ab (et_cl 48 a3)), .ref q1, .ref q2, .ref q3, .ref q4, .int 0, .int 0, .int 0, .ref q5, .ref q6, .ref q7, .ref q8, .ref q9, .ref q10])), (q1, .inl (c1, 3, .inl (et_kf (et_d0 a2) 3))), (q2, .inl (c2, 3, .inr (.inl (fun _ => 0)))), (q3, .inl (c3, 3, .inr (.inl (fun _ => 0)))), (q4, .inl (c4, 24, .inl ord1)), (q5, .inl (c5, 24, .inl (fun _ => 0))), (q6, .inl (c6, 24, .inl (fun _ => 0))), (q7, .inl (c7, 24, .inl (fun _ => 0))), (q8, .inl (c8, 24, .inl (fun _ => 0))), (q9, .inl (c9, 72, .inr (.inl (fun _ => 0)))), (q10, .inl (c10, 72, .inr (.inl (fun _ => 0))))]) H ∧ va_D A ([(h0, .inr (0, [.int (nI (et_cl 3 a1)), .int (nI (et_cl 48 a3)), .long (et_ab (et_cl 48 a3)), .ref q1, .ref q2, .ref q3, .ref q4, .int 0, .int 0, .int 0, .ref q5, .ref q6, .ref q7, .ref q8, .ref q9, .ref q10])), (q1, .inl (c1, 3, .inl (et_kf (et_d0 a2) 3))), (q2, .inl (c2, 3, .inr (.inl (fun _ => 0)))), (q3, .inl (c3, 3, .inr (.inl (fun _ => 0)))), (q4, .inl (c4, 24, .inl ord1)), (q5, .inl (c5, 24, .inl (fun _ => 0))), (q6, .inl (c6, 24, .inl (fun _ => 0))), (q7, .inl (c7, 24, .inl (fun _ => 0))), (q8, .inl (c8, 24, .inl (fun _ => 0))), (q9, .inl (c9, 72, .inr (.inl (fun _ => 0)))), (q10, .inl (c10, 72, .inr (.inl (fun _ => 0))))]) ∧ va_S A s.heap H locs ∧ (∀ r, r < t → ord1 r = nI r)) 217 (24) ?_ (24) (0) ls H locs (by omega) ⟨(fun _ => 0), lv_sub hl [1, 0] rfl, hP, hD, hS, fun r hr => absurd hr (Nat.not_lt_zero r)⟩
    intro t ls H locs ht hI hrec217
    obtain ⟨ord1, hl, hP, hD, hS, hi217⟩ := hI
    refine lv_iload hx hb dX0_init_217 (lv_at hl 1 rfl) ?_
    refine lv_bipush (v := 24) hx hb dX0_init_219 (by decide) ?_
    refine lv_icmp_ge (tgt := 239) hx hb dX0_init_221 (by decide) (fun c221 => ?_) (fun c221 => ?_)
    · have c221 : nI 24 ≤ nI t := c221
      rw [nI_leI (by omega) (by omega)] at c221
      have ht24 : t = 24 := by omega
      subst ht24
      exact eb_vretC ((fun k => [h0, q1, q2, q3, q4, q5, q6, q7, q8, q9, q10].getD k 0), (fun k => [c1, c1, c2, c3, c4, c5, c6, c7, c8, c9, c10].getD k c1), ord1) hx hb hr hlk hK hP hD hS dX0_init_239 ⟨rfl, hi217⟩
    · have c221 : ¬ nI 24 ≤ nI t := c221
      rw [nI_leI (by omega) (by omega)] at c221
      refine lv_aload_n hx hb dX0_init_224 rfl (lv_at hl 0 rfl) ?_
      refine va_get (D := D) (ci := 0) (C := RX0) (T := TX0) (N := 16) hx hb hts hU hown hK hP 0 rfl rfl 6 (by decide) hf_order (fun _ h9 => h9) rfl dX0_init_225 ?_
      refine lv_iload hx hb dX0_init_228 (lv_at hl 1 rfl) ?_
      refine lv_iload hx hb dX0_init_230 (lv_at hl 1 rfl) ?_
      refine eb_iast hx hb hK hP hD hS 4 3 rfl rfl (t) (by omega) (by decide) dX0_init_232 (fun H locs hP hD hS => ?_)
      have hP : va_P D vwCl ([(h0, .inr (0, [.int (nI (et_cl 3 a1)), .int (nI (et_cl 48 a3)), .long (et_ab (et_cl 48 a3)), .ref q1, .ref q2, .ref q3, .ref q4, .int 0, .int 0, .int 0, .ref q5, .ref q6, .ref q7, .ref q8, .ref q9, .ref q10])), (q1, .inl (c1, 3, .inl (et_kf (et_d0 a2) 3))), (q2, .inl (c2, 3, .inr (.inl (fun _ => 0)))), (q3, .inl (c3, 3, .inr (.inl (fun _ => 0)))), (q4, .inl (c4, 24, .inl (upd ord1 t (nI t)))), (q5, .inl (c5, 24, .inl (fun _ => 0))), (q6, .inl (c6, 24, .inl (fun _ => 0))), (q7, .inl (c7, 24, .inl (fun _ => 0))), (q8, .inl (c8, 24, .inl (fun _ => 0))), (q9, .inl (c9, 72, .inr (.inl (fun _ => 0)))), (q10, .inl (c10, 72, .inr (.inl (fun _ => 0))))]) H := hP
      have hD : va_D A ([(h0, .inr (0, [.int (nI (et_cl 3 a1)), .int (nI (et_cl 48 a3)), .long (et_ab (et_cl 48 a3)), .ref q1, .ref q2, .ref q3, .ref q4, .int 0, .int 0, .int 0, .ref q5, .ref q6, .ref q7, .ref q8, .ref q9, .ref q10])), (q1, .inl (c1, 3, .inl (et_kf (et_d0 a2) 3))), (q2, .inl (c2, 3, .inr (.inl (fun _ => 0)))), (q3, .inl (c3, 3, .inr (.inl (fun _ => 0)))), (q4, .inl (c4, 24, .inl (upd ord1 t (nI t)))), (q5, .inl (c5, 24, .inl (fun _ => 0))), (q6, .inl (c6, 24, .inl (fun _ => 0))), (q7, .inl (c7, 24, .inl (fun _ => 0))), (q8, .inl (c8, 24, .inl (fun _ => 0))), (q9, .inl (c9, 72, .inr (.inl (fun _ => 0)))), (q10, .inl (c10, 72, .inr (.inl (fun _ => 0))))]) := hD
      refine lv_iinc (k := 1) (v := nI (t + 1)) hx hb dX0_init_233 hl rfl (nI_add t 1) (by decide) rfl (fun ls hl => ?_)
      have hl : lv_has ls 8 [(6, .int (nI (t + 1))), (0, .ref h0)] := hl
      refine lv_goto (tgt := 217) hx hb dX0_init_236 (by decide) ?_
      exact hrec217 ls H locs (by omega) ⟨(upd ord1 t (nI t)), lv_sub hl [1, 0] rfl, hP, hD, hS, fun r hr => by
          by_cases e9 : r = t
          · subst e9; exact pk_us
          · rw [pk_un e9]; exact hi217 r (by omega)⟩
  · have c151 : ¬ nI 3 ≤ nI k := c151
    rw [nI_leI (by omega) (by omega)] at c151
    have hd := hi148.2.2.1
    refine lv_iload hx hb dX0_init_154 (lv_at hl 4 rfl) ?_
    refine lv_iconst (v := 3) hx hb dX0_init_156 (by decide) ?_
    refine lv_irem hx hb dX0_init_157 (by decide) ?_
    refine eb_ti (nI (d % 3)) (pk_rem (a := d) (d := 3) hd (by decide) (by decide)) ?_
    refine lv_istore hx hb dX0_init_158 hl (by decide) rfl (fun ls hl => ?_)
    have hl : lv_has ls 8 [(7, .int (nI (d % 3))), (0, .ref h0), (1, .int a1), (2, .int a2), (3, .int a3), (4, .int (nI d)), (5, .int hb0), (6, .int (nI k))] := hl
    refine lv_iload hx hb dX0_init_160 (lv_at hl 5 rfl) ?_
    refine lv_iconst (v := 3) hx hb dX0_init_162 (by decide) ?_
    refine lv_idiv hx hb dX0_init_163 (by decide) ?_
    refine eb_ti (nI (d / 3)) (pk_div (a := d) (d := 3) hd (by decide) (by decide)) ?_
    refine lv_istore hx hb dX0_init_164 hl (by decide) rfl (fun ls hl => ?_)
    have hl : lv_has ls 8 [(4, .int (nI (d / 3))), (7, .int (nI (d % 3))), (0, .ref h0), (1, .int a1), (2, .int a2), (3, .int a3), (5, .int hb0), (6, .int (nI k))] := hl
    refine lv_aload_n hx hb dX0_init_166 rfl (lv_at hl 2 rfl) ?_
    refine va_get (D := D) (ci := 0) (C := RX0) (T := TX0) (N := 16) hx hb hts hU hown hK hP 0 rfl rfl 3 (by decide) hf_kinds (fun _ h9 => h9) rfl dX0_init_167 ?_
    refine lv_iload hx hb dX0_init_170 (lv_at hl 7 rfl) ?_
    refine lv_iload hx hb dX0_init_172 (lv_at hl 1 rfl) ?_
    refine lv_iconst (v := 1) hx hb dX0_init_174 (by decide) ?_
    refine lv_icmp_ne (tgt := 187) hx hb dX0_init_175 (by decide) (fun c175 => ?_) (fun c175 => ?_)
    · have c175 : ¬ nI (d % 3) = nI 1 := c175
      rw [nI_eq (by omega) (by omega)] at c175
      refine lv_iload hx hb dX0_init_187 (lv_at hl 1 rfl) ?_
      refine eb_iast hx hb hK hP hD hS 1 0 rfl rfl (k) (by omega) (by decide) dX0_init_189 (fun H locs hP hD hS => ?_)
      have hP : va_P D vwCl ([(h0, .inr (0, [.int (nI (et_cl 3 a1)), .int (nI (et_cl 48 a3)), .long (et_ab (et_cl 48 a3)), .ref q1, .ref q2, .ref q3, .ref q4, .int 0, .int 0, .int 0, .ref q5, .ref q6, .ref q7, .ref q8, .ref q9, .ref q10])), (q1, .inl (c1, 3, .inl (upd kd1 k (nI (d % 3))))), (q2, .inl (c2, 3, .inr (.inl (fun _ => 0)))), (q3, .inl (c3, 3, .inr (.inl (fun _ => 0)))), (q4, .inl (c4, 24, .inl (fun _ => 0))), (q5, .inl (c5, 24, .inl (fun _ => 0))), (q6, .inl (c6, 24, .inl (fun _ => 0))), (q7, .inl (c7, 24, .inl (fun _ => 0))), (q8, .inl (c8, 24, .inl (fun _ => 0))), (q9, .inl (c9, 72, .inr (.inl (fun _ => 0)))), (q10, .inl (c10, 72, .inr (.inl (fun _ => 0))))]) H := hP
      have hD : va_D A ([(h0, .inr (0, [.int (nI (et_cl 3 a1)), .int (nI (et_cl 48 a3)), .long (et_ab (et_cl 48 a3)), .ref q1, .ref q2, .ref q3, .ref q4, .int 0, .int 0, .int 0, .ref q5, .ref q6, .ref q7, .ref q8, .ref q9, .ref q10])), (q1, .inl (c1, 3, .inl (upd kd1 k (nI (d % 3))))), (q2, .inl (c2, 3, .inr (.inl (fun _ => 0)))), (q3, .inl (c3, 3, .inr (.inl (fun _ => 0)))), (q4, .inl (c4, 24, .inl (fun _ => 0))), (q5, .inl (c5, 24, .inl (fun _ => 0))), (q6, .inl (c6, 24, .inl (fun _ => 0))), (q7, .inl (c7, 24, .inl (fun _ => 0))), (q8, .inl (c8, 24, .inl (fun _ => 0))), (q9, .inl (c9, 72, .inr (.inl (fun _ => 0)))), (q10, .inl (c10, 72, .inr (.inl (fun _ => 0))))]) := hD
      refine lv_iload hx hb dX0_init_190 (lv_at hl 6 rfl) ?_
      refine lv_if_ne (tgt := 201) hx hb dX0_init_192 (by decide) (fun c192 => ?_) (fun c192 => ?_)
      · have c192 := et_b1 hi148.2.2.2 c192
        refine lv_iconst (v := 1) hx hb dX0_init_201 (by decide) ?_
        refine lv_goto (tgt := 206) hx hb dX0_init_202 (by decide) ?_
        refine lv_istore hx hb dX0_init_206 hl (by decide) rfl (fun ls hl => ?_)
        have hl : lv_has ls 8 [(5, .int 1), (4, .int (nI (d / 3))), (7, .int (nI (d % 3))), (0, .ref h0), (1, .int a1), (2, .int a2), (3, .int a3), (6, .int (nI k))] := hl
        refine lv_iinc (k := 7) (v := nI (k + 1)) hx hb dX0_init_208 hl rfl (nI_add k 1) (by decide) rfl (fun ls hl => ?_)
        have hl : lv_has ls 8 [(6, .int (nI (k + 1))), (5, .int 1), (4, .int (nI (d / 3))), (7, .int (nI (d % 3))), (0, .ref h0), (1, .int a1), (2, .int a2), (3, .int a3)] := hl
        refine lv_goto (tgt := 148) hx hb dX0_init_211 (by decide) ?_
        obtain ⟨g1, g2, g3, g4⟩ := hi148
        subst g2
        exact hrec148 ls H locs (by omega) ⟨(upd kd1 k (nI (et_d0 a2 / 3 ^ k % 3))), (et_d0 a2 / 3 ^ k / 3), 1, lv_sub hl [4, 5, 6, 7, 2, 1, 0] rfl, hP, hD, hS, ⟨by rw [g1]; exact et_kf_s (by first | contradiction | (exfalso; omega) | exact et_kv_1 c175 c192 | exact et_kv_1 c192 c175 | exact et_kv_2 c175 | exact et_kv_2 c192 | exact et_kv_3 c175 | exact et_kv_3 c192), et_dg_s, Nat.lt_of_le_of_lt (Nat.div_le_self _ _) g3, by first | contradiction | (exfalso; omega) | exact Or.inl ⟨by first | exact et_hp_k c175 | exact et_hp_k c192 | exact et_hp_1 c175 | exact et_hp_1 c192, rfl⟩⟩⟩
      · have c192 := et_b0 hi148.2.2.2 c192
        refine lv_iload hx hb dX0_init_195 (lv_at hl 1 rfl) ?_
        refine lv_iconst (v := 1) hx hb dX0_init_197 (by decide) ?_
        refine lv_icmp_ne (tgt := 205) hx hb dX0_init_198 (by decide) (fun c198 => ?_) (fun c198 => ?_)
        · have c198 : ¬ nI (d % 3) = nI 1 := c198
          rw [nI_eq (by omega) (by omega)] at c198
          refine lv_iconst (v := 0) hx hb dX0_init_205 (by decide) ?_
          refine lv_istore hx hb dX0_init_206 hl (by decide) rfl (fun ls hl => ?_)
          have hl : lv_has ls 8 [(5, .int 0), (4, .int (nI (d / 3))), (7, .int (nI (d % 3))), (0, .ref h0), (1, .int a1), (2, .int a2), (3, .int a3), (6, .int (nI k))] := hl
          refine lv_iinc (k := 7) (v := nI (k + 1)) hx hb dX0_init_208 hl rfl (nI_add k 1) (by decide) rfl (fun ls hl => ?_)
          have hl : lv_has ls 8 [(6, .int (nI (k + 1))), (5, .int 0), (4, .int (nI (d / 3))), (7, .int (nI (d % 3))), (0, .ref h0), (1, .int a1), (2, .int a2), (3, .int a3)] := hl
          refine lv_goto (tgt := 148) hx hb dX0_init_211 (by decide) ?_
          obtain ⟨g1, g2, g3, g4⟩ := hi148
          subst g2
          exact hrec148 ls H locs (by omega) ⟨(upd kd1 k (nI (et_d0 a2 / 3 ^ k % 3))), (et_d0 a2 / 3 ^ k / 3), 0, lv_sub hl [4, 5, 6, 7, 2, 1, 0] rfl, hP, hD, hS, ⟨by rw [g1]; exact et_kf_s (by first | contradiction | (exfalso; omega) | exact et_kv_1 c175 c192 | exact et_kv_1 c175 c198 | exact et_kv_1 c192 c175 | exact et_kv_1 c192 c198 | exact et_kv_1 c198 c175 | exact et_kv_1 c198 c192 | exact et_kv_2 c175 | exact et_kv_2 c192 | exact et_kv_2 c198 | exact et_kv_3 c175 | exact et_kv_3 c192 | exact et_kv_3 c198), et_dg_s, Nat.lt_of_le_of_lt (Nat.div_le_self _ _) g3, by first | contradiction | (exfalso; omega) | exact Or.inr ⟨by first | exact et_hp_n c175 c192 | exact et_hp_n c175 c198 | exact et_hp_n c192 c175 | exact et_hp_n c192 c198 | exact et_hp_n c198 c175 | exact et_hp_n c198 c192, rfl⟩⟩⟩
        · have c198 : nI (d % 3) = nI 1 := c198
          rw [nI_eq (by omega) (by omega)] at c198
          refine lv_iconst (v := 1) hx hb dX0_init_201 (by decide) ?_
          refine lv_goto (tgt := 206) hx hb dX0_init_202 (by decide) ?_
          refine lv_istore hx hb dX0_init_206 hl (by decide) rfl (fun ls hl => ?_)
          have hl : lv_has ls 8 [(5, .int 1), (4, .int (nI (d / 3))), (7, .int (nI (d % 3))), (0, .ref h0), (1, .int a1), (2, .int a2), (3, .int a3), (6, .int (nI k))] := hl
          refine lv_iinc (k := 7) (v := nI (k + 1)) hx hb dX0_init_208 hl rfl (nI_add k 1) (by decide) rfl (fun ls hl => ?_)
          have hl : lv_has ls 8 [(6, .int (nI (k + 1))), (5, .int 1), (4, .int (nI (d / 3))), (7, .int (nI (d % 3))), (0, .ref h0), (1, .int a1), (2, .int a2), (3, .int a3)] := hl
          refine lv_goto (tgt := 148) hx hb dX0_init_211 (by decide) ?_
          obtain ⟨g1, g2, g3, g4⟩ := hi148
          subst g2
          exact hrec148 ls H locs (by omega) ⟨(upd kd1 k (nI (et_d0 a2 / 3 ^ k % 3))), (et_d0 a2 / 3 ^ k / 3), 1, lv_sub hl [4, 5, 6, 7, 2, 1, 0] rfl, hP, hD, hS, ⟨by rw [g1]; exact et_kf_s (by first | contradiction | (exfalso; omega) | exact et_kv_1 c175 c192 | exact et_kv_1 c175 c198 | exact et_kv_1 c192 c175 | exact et_kv_1 c192 c198 | exact et_kv_1 c198 c175 | exact et_kv_1 c198 c192 | exact et_kv_2 c175 | exact et_kv_2 c192 | exact et_kv_2 c198 | exact et_kv_3 c175 | exact et_kv_3 c192 | exact et_kv_3 c198), et_dg_s, Nat.lt_of_le_of_lt (Nat.div_le_self _ _) g3, by first | contradiction | (exfalso; omega) | exact Or.inl ⟨by first | exact et_hp_k c175 | exact et_hp_k c192 | exact et_hp_k c198 | exact et_hp_1 c175 | exact et_hp_1 c192 | exact et_hp_1 c198, rfl⟩⟩⟩
    · have c175 : nI (d % 3) = nI 1 := c175
      rw [nI_eq (by omega) (by omega)] at c175
      refine lv_iload hx hb dX0_init_178 (lv_at hl 6 rfl) ?_
      refine lv_if_eq (tgt := 187) hx hb dX0_init_180 (by decide) (fun c180 => ?_) (fun c180 => ?_)
      · have c180 := et_b0 hi148.2.2.2 c180
        refine lv_iload hx hb dX0_init_187 (lv_at hl 1 rfl) ?_
        refine eb_iast hx hb hK hP hD hS 1 0 rfl rfl (k) (by omega) (by decide) dX0_init_189 (fun H locs hP hD hS => ?_)
        have hP : va_P D vwCl ([(h0, .inr (0, [.int (nI (et_cl 3 a1)), .int (nI (et_cl 48 a3)), .long (et_ab (et_cl 48 a3)), .ref q1, .ref q2, .ref q3, .ref q4, .int 0, .int 0, .int 0, .ref q5, .ref q6, .ref q7, .ref q8, .ref q9, .ref q10])), (q1, .inl (c1, 3, .inl (upd kd1 k (nI (d % 3))))), (q2, .inl (c2, 3, .inr (.inl (fun _ => 0)))), (q3, .inl (c3, 3, .inr (.inl (fun _ => 0)))), (q4, .inl (c4, 24, .inl (fun _ => 0))), (q5, .inl (c5, 24, .inl (fun _ => 0))), (q6, .inl (c6, 24, .inl (fun _ => 0))), (q7, .inl (c7, 24, .inl (fun _ => 0))), (q8, .inl (c8, 24, .inl (fun _ => 0))), (q9, .inl (c9, 72, .inr (.inl (fun _ => 0)))), (q10, .inl (c10, 72, .inr (.inl (fun _ => 0))))]) H := hP
        have hD : va_D A ([(h0, .inr (0, [.int (nI (et_cl 3 a1)), .int (nI (et_cl 48 a3)), .long (et_ab (et_cl 48 a3)), .ref q1, .ref q2, .ref q3, .ref q4, .int 0, .int 0, .int 0, .ref q5, .ref q6, .ref q7, .ref q8, .ref q9, .ref q10])), (q1, .inl (c1, 3, .inl (upd kd1 k (nI (d % 3))))), (q2, .inl (c2, 3, .inr (.inl (fun _ => 0)))), (q3, .inl (c3, 3, .inr (.inl (fun _ => 0)))), (q4, .inl (c4, 24, .inl (fun _ => 0))), (q5, .inl (c5, 24, .inl (fun _ => 0))), (q6, .inl (c6, 24, .inl (fun _ => 0))), (q7, .inl (c7, 24, .inl (fun _ => 0))), (q8, .inl (c8, 24, .inl (fun _ => 0))), (q9, .inl (c9, 72, .inr (.inl (fun _ => 0)))), (q10, .inl (c10, 72, .inr (.inl (fun _ => 0))))]) := hD
        refine lv_iload hx hb dX0_init_190 (lv_at hl 6 rfl) ?_
        refine lv_if_ne (tgt := 201) hx hb dX0_init_192 (by decide) (fun c192 => ?_) (fun c192 => ?_)
        · have c192 := et_b1 hi148.2.2.2 c192
          refine lv_iconst (v := 1) hx hb dX0_init_201 (by decide) ?_
          refine lv_goto (tgt := 206) hx hb dX0_init_202 (by decide) ?_
          refine lv_istore hx hb dX0_init_206 hl (by decide) rfl (fun ls hl => ?_)
          have hl : lv_has ls 8 [(5, .int 1), (4, .int (nI (d / 3))), (7, .int (nI (d % 3))), (0, .ref h0), (1, .int a1), (2, .int a2), (3, .int a3), (6, .int (nI k))] := hl
          refine lv_iinc (k := 7) (v := nI (k + 1)) hx hb dX0_init_208 hl rfl (nI_add k 1) (by decide) rfl (fun ls hl => ?_)
          have hl : lv_has ls 8 [(6, .int (nI (k + 1))), (5, .int 1), (4, .int (nI (d / 3))), (7, .int (nI (d % 3))), (0, .ref h0), (1, .int a1), (2, .int a2), (3, .int a3)] := hl
          refine lv_goto (tgt := 148) hx hb dX0_init_211 (by decide) ?_
          obtain ⟨g1, g2, g3, g4⟩ := hi148
          subst g2
          exact hrec148 ls H locs (by omega) ⟨(upd kd1 k (nI (et_d0 a2 / 3 ^ k % 3))), (et_d0 a2 / 3 ^ k / 3), 1, lv_sub hl [4, 5, 6, 7, 2, 1, 0] rfl, hP, hD, hS, ⟨by rw [g1]; exact et_kf_s (by first | contradiction | (exfalso; omega) | exact et_kv_1 c175 c180 | exact et_kv_1 c175 c192 | exact et_kv_1 c180 c175 | exact et_kv_1 c180 c192 | exact et_kv_1 c192 c175 | exact et_kv_1 c192 c180 | exact et_kv_2 c175 | exact et_kv_2 c180 | exact et_kv_2 c192 | exact et_kv_3 c175 | exact et_kv_3 c180 | exact et_kv_3 c192), et_dg_s, Nat.lt_of_le_of_lt (Nat.div_le_self _ _) g3, by first | contradiction | (exfalso; omega) | exact Or.inl ⟨by first | exact et_hp_k c175 | exact et_hp_k c180 | exact et_hp_k c192 | exact et_hp_1 c175 | exact et_hp_1 c180 | exact et_hp_1 c192, rfl⟩⟩⟩
        · have c192 := et_b0 hi148.2.2.2 c192
          refine lv_iload hx hb dX0_init_195 (lv_at hl 1 rfl) ?_
          refine lv_iconst (v := 1) hx hb dX0_init_197 (by decide) ?_
          refine lv_icmp_ne (tgt := 205) hx hb dX0_init_198 (by decide) (fun c198 => ?_) (fun c198 => ?_)
          · have c198 : ¬ nI (d % 3) = nI 1 := c198
            rw [nI_eq (by omega) (by omega)] at c198
            refine lv_iconst (v := 0) hx hb dX0_init_205 (by decide) ?_
            refine lv_istore hx hb dX0_init_206 hl (by decide) rfl (fun ls hl => ?_)
            have hl : lv_has ls 8 [(5, .int 0), (4, .int (nI (d / 3))), (7, .int (nI (d % 3))), (0, .ref h0), (1, .int a1), (2, .int a2), (3, .int a3), (6, .int (nI k))] := hl
            refine lv_iinc (k := 7) (v := nI (k + 1)) hx hb dX0_init_208 hl rfl (nI_add k 1) (by decide) rfl (fun ls hl => ?_)
            have hl : lv_has ls 8 [(6, .int (nI (k + 1))), (5, .int 0), (4, .int (nI (d / 3))), (7, .int (nI (d % 3))), (0, .ref h0), (1, .int a1), (2, .int a2), (3, .int a3)] := hl
            refine lv_goto (tgt := 148) hx hb dX0_init_211 (by decide) ?_
            obtain ⟨g1, g2, g3, g4⟩ := hi148
            subst g2
            exact hrec148 ls H locs (by omega) ⟨(upd kd1 k (nI (et_d0 a2 / 3 ^ k % 3))), (et_d0 a2 / 3 ^ k / 3), 0, lv_sub hl [4, 5, 6, 7, 2, 1, 0] rfl, hP, hD, hS, ⟨by rw [g1]; exact et_kf_s (by first | contradiction | (exfalso; omega) | exact et_kv_1 c175 c180 | exact et_kv_1 c175 c192 | exact et_kv_1 c175 c198 | exact et_kv_1 c180 c175 | exact et_kv_1 c180 c192 | exact et_kv_1 c180 c198 | exact et_kv_1 c192 c175 | exact et_kv_1 c192 c180 | exact et_kv_1 c192 c198 | exact et_kv_1 c198 c175 | exact et_kv_1 c198 c180 | exact et_kv_1 c198 c192 | exact et_kv_2 c175 | exact et_kv_2 c180 | exact et_kv_2 c192 | exact et_kv_2 c198 | exact et_kv_3 c175 | exact et_kv_3 c180 | exact et_kv_3 c192 | exact et_kv_3 c198), et_dg_s, Nat.lt_of_le_of_lt (Nat.div_le_self _ _) g3, by first | contradiction | (exfalso; omega) | exact Or.inr ⟨by first | exact et_hp_n c175 c180 | exact et_hp_n c175 c192 | exact et_hp_n c175 c198 | exact et_hp_n c180 c175 | exact et_hp_n c180 c192 | exact et_hp_n c180 c198 | exact et_hp_n c192 c175 | exact et_hp_n c192 c180 | exact et_hp_n c192 c198 | exact et_hp_n c198 c175 | exact et_hp_n c198 c180 | exact et_hp_n c198 c192, rfl⟩⟩⟩
          · have c198 : nI (d % 3) = nI 1 := c198
            rw [nI_eq (by omega) (by omega)] at c198
            refine lv_iconst (v := 1) hx hb dX0_init_201 (by decide) ?_
            refine lv_goto (tgt := 206) hx hb dX0_init_202 (by decide) ?_
            refine lv_istore hx hb dX0_init_206 hl (by decide) rfl (fun ls hl => ?_)
            have hl : lv_has ls 8 [(5, .int 1), (4, .int (nI (d / 3))), (7, .int (nI (d % 3))), (0, .ref h0), (1, .int a1), (2, .int a2), (3, .int a3), (6, .int (nI k))] := hl
            refine lv_iinc (k := 7) (v := nI (k + 1)) hx hb dX0_init_208 hl rfl (nI_add k 1) (by decide) rfl (fun ls hl => ?_)
            have hl : lv_has ls 8 [(6, .int (nI (k + 1))), (5, .int 1), (4, .int (nI (d / 3))), (7, .int (nI (d % 3))), (0, .ref h0), (1, .int a1), (2, .int a2), (3, .int a3)] := hl
            refine lv_goto (tgt := 148) hx hb dX0_init_211 (by decide) ?_
            obtain ⟨g1, g2, g3, g4⟩ := hi148
            subst g2
            exact hrec148 ls H locs (by omega) ⟨(upd kd1 k (nI (et_d0 a2 / 3 ^ k % 3))), (et_d0 a2 / 3 ^ k / 3), 1, lv_sub hl [4, 5, 6, 7, 2, 1, 0] rfl, hP, hD, hS, ⟨by rw [g1]; exact et_kf_s (by first | contradiction | (exfalso; omega) | exact et_kv_1 c175 c180 | exact et_kv_1 c175 c192 | exact et_kv_1 c175 c198 | exact et_kv_1 c180 c175 | exact et_kv_1 c180 c192 | exact et_kv_1 c180 c198 | exact et_kv_1 c192 c175 | exact et_kv_1 c192 c180 | exact et_kv_1 c192 c198 | exact et_kv_1 c198 c175 | exact et_kv_1 c198 c180 | exact et_kv_1 c198 c192 | exact et_kv_2 c175 | exact et_kv_2 c180 | exact et_kv_2 c192 | exact et_kv_2 c198 | exact et_kv_3 c175 | exact et_kv_3 c180 | exact et_kv_3 c192 | exact et_kv_3 c198), et_dg_s, Nat.lt_of_le_of_lt (Nat.div_le_self _ _) g3, by first | contradiction | (exfalso; omega) | exact Or.inl ⟨by first | exact et_hp_k c175 | exact et_hp_k c180 | exact et_hp_k c192 | exact et_hp_k c198 | exact et_hp_1 c175 | exact et_hp_1 c180 | exact et_hp_1 c192 | exact et_hp_1 c198, rfl⟩⟩⟩
      · have c180 := et_b1 hi148.2.2.2 c180
        refine lv_iconst (v := 0) hx hb dX0_init_183 (by decide) ?_
        refine lv_goto (tgt := 189) hx hb dX0_init_184 (by decide) ?_
        refine eb_iast hx hb hK hP hD hS 1 0 rfl rfl (k) (by omega) (by decide) dX0_init_189 (fun H locs hP hD hS => ?_)
        have hP : va_P D vwCl ([(h0, .inr (0, [.int (nI (et_cl 3 a1)), .int (nI (et_cl 48 a3)), .long (et_ab (et_cl 48 a3)), .ref q1, .ref q2, .ref q3, .ref q4, .int 0, .int 0, .int 0, .ref q5, .ref q6, .ref q7, .ref q8, .ref q9, .ref q10])), (q1, .inl (c1, 3, .inl (upd kd1 k 0))), (q2, .inl (c2, 3, .inr (.inl (fun _ => 0)))), (q3, .inl (c3, 3, .inr (.inl (fun _ => 0)))), (q4, .inl (c4, 24, .inl (fun _ => 0))), (q5, .inl (c5, 24, .inl (fun _ => 0))), (q6, .inl (c6, 24, .inl (fun _ => 0))), (q7, .inl (c7, 24, .inl (fun _ => 0))), (q8, .inl (c8, 24, .inl (fun _ => 0))), (q9, .inl (c9, 72, .inr (.inl (fun _ => 0)))), (q10, .inl (c10, 72, .inr (.inl (fun _ => 0))))]) H := hP
        have hD : va_D A ([(h0, .inr (0, [.int (nI (et_cl 3 a1)), .int (nI (et_cl 48 a3)), .long (et_ab (et_cl 48 a3)), .ref q1, .ref q2, .ref q3, .ref q4, .int 0, .int 0, .int 0, .ref q5, .ref q6, .ref q7, .ref q8, .ref q9, .ref q10])), (q1, .inl (c1, 3, .inl (upd kd1 k 0))), (q2, .inl (c2, 3, .inr (.inl (fun _ => 0)))), (q3, .inl (c3, 3, .inr (.inl (fun _ => 0)))), (q4, .inl (c4, 24, .inl (fun _ => 0))), (q5, .inl (c5, 24, .inl (fun _ => 0))), (q6, .inl (c6, 24, .inl (fun _ => 0))), (q7, .inl (c7, 24, .inl (fun _ => 0))), (q8, .inl (c8, 24, .inl (fun _ => 0))), (q9, .inl (c9, 72, .inr (.inl (fun _ => 0)))), (q10, .inl (c10, 72, .inr (.inl (fun _ => 0))))]) := hD
        refine lv_iload hx hb dX0_init_190 (lv_at hl 6 rfl) ?_
        refine lv_if_ne (tgt := 201) hx hb dX0_init_192 (by decide) (fun c192 => ?_) (fun c192 => ?_)
        · have c192 := et_b1 hi148.2.2.2 c192
          refine lv_iconst (v := 1) hx hb dX0_init_201 (by decide) ?_
          refine lv_goto (tgt := 206) hx hb dX0_init_202 (by decide) ?_
          refine lv_istore hx hb dX0_init_206 hl (by decide) rfl (fun ls hl => ?_)
          have hl : lv_has ls 8 [(5, .int 1), (4, .int (nI (d / 3))), (7, .int (nI (d % 3))), (0, .ref h0), (1, .int a1), (2, .int a2), (3, .int a3), (6, .int (nI k))] := hl
          refine lv_iinc (k := 7) (v := nI (k + 1)) hx hb dX0_init_208 hl rfl (nI_add k 1) (by decide) rfl (fun ls hl => ?_)
          have hl : lv_has ls 8 [(6, .int (nI (k + 1))), (5, .int 1), (4, .int (nI (d / 3))), (7, .int (nI (d % 3))), (0, .ref h0), (1, .int a1), (2, .int a2), (3, .int a3)] := hl
          refine lv_goto (tgt := 148) hx hb dX0_init_211 (by decide) ?_
          obtain ⟨g1, g2, g3, g4⟩ := hi148
          subst g2
          exact hrec148 ls H locs (by omega) ⟨(upd kd1 k 0), (et_d0 a2 / 3 ^ k / 3), 1, lv_sub hl [4, 5, 6, 7, 2, 1, 0] rfl, hP, hD, hS, ⟨by rw [g1]; exact et_kf_s (by first | contradiction | (exfalso; omega) | exact et_kv_1 c175 c180 | exact et_kv_1 c175 c192 | exact et_kv_1 c180 c175 | exact et_kv_1 c180 c192 | exact et_kv_1 c192 c175 | exact et_kv_1 c192 c180 | exact et_kv_2 c175 | exact et_kv_2 c180 | exact et_kv_2 c192 | exact et_kv_3 c175 | exact et_kv_3 c180 | exact et_kv_3 c192), et_dg_s, Nat.lt_of_le_of_lt (Nat.div_le_self _ _) g3, by first | contradiction | (exfalso; omega) | exact Or.inl ⟨by first | exact et_hp_k c175 | exact et_hp_k c180 | exact et_hp_k c192 | exact et_hp_1 c175 | exact et_hp_1 c180 | exact et_hp_1 c192, rfl⟩⟩⟩
        · have c192 := et_b0 hi148.2.2.2 c192
          refine lv_iload hx hb dX0_init_195 (lv_at hl 1 rfl) ?_
          refine lv_iconst (v := 1) hx hb dX0_init_197 (by decide) ?_
          refine lv_icmp_ne (tgt := 205) hx hb dX0_init_198 (by decide) (fun c198 => ?_) (fun c198 => ?_)
          · have c198 : ¬ nI (d % 3) = nI 1 := c198
            rw [nI_eq (by omega) (by omega)] at c198
            refine lv_iconst (v := 0) hx hb dX0_init_205 (by decide) ?_
            refine lv_istore hx hb dX0_init_206 hl (by decide) rfl (fun ls hl => ?_)
            have hl : lv_has ls 8 [(5, .int 0), (4, .int (nI (d / 3))), (7, .int (nI (d % 3))), (0, .ref h0), (1, .int a1), (2, .int a2), (3, .int a3), (6, .int (nI k))] := hl
            refine lv_iinc (k := 7) (v := nI (k + 1)) hx hb dX0_init_208 hl rfl (nI_add k 1) (by decide) rfl (fun ls hl => ?_)
            have hl : lv_has ls 8 [(6, .int (nI (k + 1))), (5, .int 0), (4, .int (nI (d / 3))), (7, .int (nI (d % 3))), (0, .ref h0), (1, .int a1), (2, .int a2), (3, .int a3)] := hl
            refine lv_goto (tgt := 148) hx hb dX0_init_211 (by decide) ?_
            obtain ⟨g1, g2, g3, g4⟩ := hi148
            subst g2
            exact hrec148 ls H locs (by omega) ⟨(upd kd1 k 0), (et_d0 a2 / 3 ^ k / 3), 0, lv_sub hl [4, 5, 6, 7, 2, 1, 0] rfl, hP, hD, hS, ⟨by rw [g1]; exact et_kf_s (by first | contradiction | (exfalso; omega) | exact et_kv_1 c175 c180 | exact et_kv_1 c175 c192 | exact et_kv_1 c175 c198 | exact et_kv_1 c180 c175 | exact et_kv_1 c180 c192 | exact et_kv_1 c180 c198 | exact et_kv_1 c192 c175 | exact et_kv_1 c192 c180 | exact et_kv_1 c192 c198 | exact et_kv_1 c198 c175 | exact et_kv_1 c198 c180 | exact et_kv_1 c198 c192 | exact et_kv_2 c175 | exact et_kv_2 c180 | exact et_kv_2 c192 | exact et_kv_2 c198 | exact et_kv_3 c175 | exact et_kv_3 c180 | exact et_kv_3 c192 | exact et_kv_3 c198), et_dg_s, Nat.lt_of_le_of_lt (Nat.div_le_self _ _) g3, by first | contradiction | (exfalso; omega) | exact Or.inr ⟨by first | exact et_hp_n c175 c180 | exact et_hp_n c175 c192 | exact et_hp_n c175 c198 | exact et_hp_n c180 c175 | exact et_hp_n c180 c192 | exact et_hp_n c180 c198 | exact et_hp_n c192 c175 | exact et_hp_n c192 c180 | exact et_hp_n c192 c198 | exact et_hp_n c198 c175 | exact et_hp_n c198 c180 | exact et_hp_n c198 c192, rfl⟩⟩⟩
          · have c198 : nI (d % 3) = nI 1 := c198
            rw [nI_eq (by omega) (by omega)] at c198
            refine lv_iconst (v := 1) hx hb dX0_init_201 (by decide) ?_
            refine lv_goto (tgt := 206) hx hb dX0_init_202 (by decide) ?_
            refine lv_istore hx hb dX0_init_206 hl (by decide) rfl (fun ls hl => ?_)
            have hl : lv_has ls 8 [(5, .int 1), (4, .int (nI (d / 3))), (7, .int (nI (d % 3))), (0, .ref h0), (1, .int a1), (2, .int a2), (3, .int a3), (6, .int (nI k))] := hl
            refine lv_iinc (k := 7) (v := nI (k + 1)) hx hb dX0_init_208 hl rfl (nI_add k 1) (by decide) rfl (fun ls hl => ?_)
            have hl : lv_has ls 8 [(6, .int (nI (k + 1))), (5, .int 1), (4, .int (nI (d / 3))), (7, .int (nI (d % 3))), (0, .ref h0), (1, .int a1), (2, .int a2), (3, .int a3)] := hl
            refine lv_goto (tgt := 148) hx hb dX0_init_211 (by decide) ?_
            obtain ⟨g1, g2, g3, g4⟩ := hi148
            subst g2
            exact hrec148 ls H locs (by omega) ⟨(upd kd1 k 0), (et_d0 a2 / 3 ^ k / 3), 1, lv_sub hl [4, 5, 6, 7, 2, 1, 0] rfl, hP, hD, hS, ⟨by rw [g1]; exact et_kf_s (by first | contradiction | (exfalso; omega) | exact et_kv_1 c175 c180 | exact et_kv_1 c175 c192 | exact et_kv_1 c175 c198 | exact et_kv_1 c180 c175 | exact et_kv_1 c180 c192 | exact et_kv_1 c180 c198 | exact et_kv_1 c192 c175 | exact et_kv_1 c192 c180 | exact et_kv_1 c192 c198 | exact et_kv_1 c198 c175 | exact et_kv_1 c198 c180 | exact et_kv_1 c198 c192 | exact et_kv_2 c175 | exact et_kv_2 c180 | exact et_kv_2 c192 | exact et_kv_2 c198 | exact et_kv_3 c175 | exact et_kv_3 c180 | exact et_kv_3 c192 | exact et_kv_3 c198), et_dg_s, Nat.lt_of_le_of_lt (Nat.div_le_self _ _) g3, by first | contradiction | (exfalso; omega) | exact Or.inl ⟨by first | exact et_hp_k c175 | exact et_hp_k c180 | exact et_hp_k c192 | exact et_hp_k c198 | exact et_hp_1 c175 | exact et_hp_1 c180 | exact et_hp_1 c192 | exact et_hp_1 c198, rfl⟩⟩⟩

