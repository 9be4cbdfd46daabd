set_option maxHeartbeats 1000000 in
set_option maxRecDepth 100000 in
theorem tM_init (l : Launch) (D : va_G) (h0 : Nat) (a1 a2 a3 : Int32) : ∀ sz : Nat, Met l yX1_init wsX1_init { frames := 1, cells := 9, slots := 228, locals := 40 } (va_Pc [.ref h0, .int a1, .int a2, .int a3] (eb_pre D vwCl [] [(h0, .inr (1, [.int 0, .int 0, .null, .null, .null, .null, .null, .null, .null, .null, .null, .int 0, .int 0, .int 0]))] sz)) (va_Qv (fun u : (Nat → Nat) × (Nat → ClassId) => u.1 0 = h0) (eb_endS D vwCl (fun u => MTy u.2) (fun u => MW u.1 u.2 (nI (et_cl 3 a1)) (nI (et_cl 48 a3)) (et_kf (et_d0 a2) 3) (fun _ => 0) (fun _ => 0) (fun _ => 0) (fun _ => 0) (fun _ => 0) (fun _ => 0) (fun _ => 0) (fun _ => 0) 0 0 0) (va_A [(h0, .inr (1, [.int 0, .int 0, .null, .null, .null, .null, .null, .null, .null, .null, .null, .int 0, .int 0, .int 0]))] sz)) (va_A [(h0, .inr (1, [.int 0, .int 0, .null, .null, .null, .null, .null, .null, .null, .null, .null, .int 0, .int 0, .int 0]))] sz)) 9 228 (va_A [(h0, .inr (1, [.int 0, .int 0, .null, .null, .null, .null, .null, .null, .null, .null, .null, .int 0, .int 0, .int 0]))] sz) := by
  refine eb_openC (Qc := fun A => va_Qv (fun u : (Nat → Nat) × (Nat → ClassId) => u.1 0 = h0) (eb_endS D vwCl (fun u => MTy u.2) (fun u => MW u.1 u.2 (nI (et_cl 3 a1)) (nI (et_cl 48 a3)) (et_kf (et_d0 a2) 3) (fun _ => 0) (fun _ => 0) (fun _ => 0) (fun _ => 0) (fun _ => 0) (fun _ => 0) (fun _ => 0) (fun _ => 0) 0 0 0) A) A) (cc := cX1_init) (maxL := 7) (ret := none) (by decide +kernel) rfl rfl (Nat.le_of_ble_eq_true rfl) ?_
  intro p e s m below meth c A ls H locs hx hb hr hts hown hlk hml hin hP hK hD hA hS hl
  have hU : ∀ w ∈ wsX10, w ∈ wsX1_init := fun w h => List.mem_cons_of_mem _ (List.mem_append_right _ h)
  have hf_kind := hts (.fieldLink RX1 7 "EntryTableModel" "kind" "[I") (by decide +kernel)
  have hf_number := hts (.fieldLink RX1 13 "EntryTableModel" "number" "[I") (by decide +kernel)
  have hf_priority := hts (.fieldLink RX1 16 "EntryTableModel" "priority" "[I") (by decide +kernel)
  have hf_hits := hts (.fieldLink RX1 19 "EntryTableModel" "hits" "[I") (by decide +kernel)
  have hf_value := hts (.fieldLink RX1 22 "EntryTableModel" "value" "[J") (by decide +kernel)
  have hf_mask := hts (.fieldLink RX1 26 "EntryTableModel" "mask" "[J") (by decide +kernel)
  have hf_madeValue := hts (.fieldLink RX1 29 "EntryTableModel" "madeValue" "[J") (by decide +kernel)
  have hf_madeMask := hts (.fieldLink RX1 32 "EntryTableModel" "madeMask" "[J") (by decide +kernel)
  have hf_asked := hts (.fieldLink RX1 35 "EntryTableModel" "asked" "[J") (by decide +kernel)
  have hf_keys := hts (.fieldLink RX1 38 "EntryTableModel" "keys" "I") (by decide +kernel)
  have hf_width := hts (.fieldLink RX1 42 "EntryTableModel" "width" "I") (by decide +kernel)
  have hl : lv_has ls 7 [(0, .ref h0), (1, .int a1), (2, .int a2), (3, .int a3)] := hl
  refine lv_aload_n hx hb dX1_init_0 rfl (lv_at hl 0 rfl) ?_
  refine W.objInit hx hb hown (hts (.methodLink RX1 1 objectInit) (by decide +kernel)) (hts (.instanceMethod objectInit) (by decide +kernel)) (hts _ (List.mem_cons_of_mem _ (List.mem_append_left _ (List.mem_of_getElem? (i := 2) rfl)))) rfl (by rw [hml]; exact hl.1) rfl dX1_init_1 (Nat.le_of_ble_eq_true rfl) (Nat.le_of_ble_eq_true rfl) ?_
  refine W.eq (g2 := F0 m 4 ls []) rfl ?_
  refine lv_aload_n hx hb dX1_init_4 rfl (lv_at hl 0 rfl) ?_
  refine lv_iconst (v := 3) hx hb dX1_init_5 (by decide) ?_
  refine va_newa (atype := .int) (ty := .int) (N' := 3) (a0 := (3, .inl (fun _ => 0))) hx hb (hts (.arrayClass .int) (by decide +kernel)) rfl hK hP hD hS hA (fun _ => vp_cell_i ..) (by decide) (by decide) (by decide) (Nat.le_of_ble_eq_true rfl) (Nat.le_of_ble_eq_true rfl) dX1_init_6 (fun q1 c1 H hK hP hD hS => ?_)
  have hK : va_K D vwCl [(c1, .int)] s := hK
  have hP : va_P D vwCl ([(h0, .inr (1, [.int 0, .int 0, .null, .null, .null, .null, .null, .null, .null, .null, .null, .int 0, .int 0, .int 0])), (q1, .inl (c1, 3, .inl (fun _ => 0)))]) H := hP
  have hD : va_D A ([(h0, .inr (1, [.int 0, .int 0, .null, .null, .null, .null, .null, .null, .null, .null, .null, .int 0, .int 0, .int 0])), (q1, .inl (c1, 3, .inl (fun _ => 0)))]) := hD
  refine va_putF (D := D) (ci := 1) (ty := (.array .int)) (C := RX1) (T := TX1) (N := 14) hx hb hts hU tyX1 tyX1_ok nmX1 hown hK hP hD hS 0 rfl rfl 2 (by decide) hf_kind (fun _ h9 => h9) rfl hin rfl (by decide +kernel) rfl rfl (Nat.le_of_ble_eq_true rfl) dX1_init_8 (fun H locs hP hD hS => ?_)
  have hP : va_P D vwCl ([(h0, .inr (1, [.int 0, .int 0, .ref q1, .null, .null, .null, .null, .null, .null, .null, .null, .int 0, .int 0, .int 0])), (q1, .inl (c1, 3, .inl (fun _ => 0)))]) H := hP
  have hD : va_D A ([(h0, .inr (1, [.int 0, .int 0, .ref q1, .null, .null, .null, .null, .null, .null, .null, .null, .int 0, .int 0, .int 0])), (q1, .inl (c1, 3, .inl (fun _ => 0)))]) := hD
  refine lv_aload_n hx hb dX1_init_11 rfl (lv_at hl 0 rfl) ?_
  refine lv_bipush (v := 24) hx hb dX1_init_12 (by decide) ?_
  refine va_newa (atype := .int) (ty := .int) (N' := 24) (a0 := (24, .inl (fun _ => 0))) hx hb (hts (.arrayClass .int) (by decide +kernel)) rfl hK hP hD hS hA (fun _ => vp_cell_i ..) (by decide) (by decide) (by decide) (Nat.le_of_ble_eq_true rfl) (Nat.le_of_ble_eq_true rfl) dX1_init_14 (fun q2 c2 H hK hP hD hS => ?_)
  have hK : va_K D vwCl [(c1, .int), (c2, .int)] s := hK
  have hP : va_P D vwCl ([(h0, .inr (1, [.int 0, .int 0, .ref q1, .null, .null, .null, .null, .null, .null, .null, .null, .int 0, .int 0, .int 0])), (q1, .inl (c1, 3, .inl (fun _ => 0))), (q2, .inl (c2, 24, .inl (fun _ => 0)))]) H := hP
  have hD : va_D A ([(h0, .inr (1, [.int 0, .int 0, .ref q1, .null, .null, .null, .null, .null, .null, .null, .null, .int 0, .int 0, .int 0])), (q1, .inl (c1, 3, .inl (fun _ => 0))), (q2, .inl (c2, 24, .inl (fun _ => 0)))]) := hD
  refine va_putF (D := D) (ci := 1) (ty := (.array .int)) (C := RX1) (T := TX1) (N := 14) hx hb hts hU tyX1 tyX1_ok nmX1 hown hK hP hD hS 0 rfl rfl 3 (by decide) hf_number (fun _ h9 => h9) rfl hin rfl (by decide +kernel) rfl rfl (Nat.le_of_ble_eq_true rfl) dX1_init_16 (fun H locs hP hD hS => ?_)
  have hP : va_P D vwCl ([(h0, .inr (1, [.int 0, .int 0, .ref q1, .ref q2, .null, .null, .null, .null, .null, .null, .null, .int 0, .int 0, .int 0])), (q1, .inl (c1, 3, .inl (fun _ => 0))), (q2, .inl (c2, 24, .inl (fun _ => 0)))]) H := hP
  have hD : va_D A ([(h0, .inr (1, [.int 0, .int 0, .ref q1, .ref q2, .null, .null, .null, .null, .null, .null, .null, .int 0, .int 0, .int 0])), (q1, .inl (c1, 3, .inl (fun _ => 0))), (q2, .inl (c2, 24, .inl (fun _ => 0)))]) := hD
  refine lv_aload_n hx hb dX1_init_19 rfl (lv_at hl 0 rfl) ?_
  refine lv_bipush (v := 24) hx hb dX1_init_20 (by decide) ?_
  refine va_newa (atype := .int) (ty := .int) (N' := 24) (a0 := (24, .inl (fun _ => 0))) hx hb (hts (.arrayClass .int) (by decide +kernel)) rfl hK hP hD hS hA (fun _ => vp_cell_i ..) (by decide) (by decide) (by decide) (Nat.le_of_ble_eq_true rfl) (Nat.le_of_ble_eq_true rfl) dX1_init_22 (fun q3 c3 H hK hP hD hS => ?_)
  have hK : va_K D vwCl [(c1, .int), (c2, .int), (c3, .int)] s := hK
  have hP : va_P D vwCl ([(h0, .inr (1, [.int 0, .int 0, .ref q1, .ref q2, .null, .null, .null, .null, .null, .null, .null, .int 0, .int 0, .int 0])), (q1, .inl (c1, 3, .inl (fun _ => 0))), (q2, .inl (c2, 24, .inl (fun _ => 0))), (q3, .inl (c3, 24, .inl (fun _ => 0)))]) H := hP
  have hD : va_D A ([(h0, .inr (1, [.int 0, .int 0, .ref q1, .ref q2, .null, .null, .null, .null, .null, .null, .null, .int 0, .int 0, .int 0])), (q1, .inl (c1, 3, .inl (fun _ => 0))), (q2, .inl (c2, 24, .inl (fun _ => 0))), (q3, .inl (c3, 24, .inl (fun _ => 0)))]) := hD
  refine va_putF (D := D) (ci := 1) (ty := (.array .int)) (C := RX1) (T := TX1) (N := 14) hx hb hts hU tyX1 tyX1_ok nmX1 hown hK hP hD hS 0 rfl rfl 4 (by decide) hf_priority (fun _ h9 => h9) rfl hin rfl (by decide +kernel) rfl rfl (Nat.le_of_ble_eq_true rfl) dX1_init_24 (fun H locs hP hD hS => ?_)
  have hP : va_P D vwCl ([(h0, .inr (1, [.int 0, .int 0, .ref q1, .ref q2, .ref q3, .null, .null, .null, .null, .null, .null, .int 0, .int 0, .int 0])), (q1, .inl (c1, 3, .inl (fun _ => 0))), (q2, .inl (c2, 24, .inl (fun _ => 0))), (q3, .inl (c3, 24, .inl (fun _ => 0)))]) H := hP
  have hD : va_D A ([(h0, .inr (1, [.int 0, .int 0, .ref q1, .ref q2, .ref q3, .null, .null, .null, .null, .null, .null, .int 0, .int 0, .int 0])), (q1, .inl (c1, 3, .inl (fun _ => 0))), (q2, .inl (c2, 24, .inl (fun _ => 0))), (q3, .inl (c3, 24, .inl (fun _ => 0)))]) := hD
  refine lv_aload_n hx hb dX1_init_27 rfl (lv_at hl 0 rfl) ?_
  refine lv_bipush (v := 24) hx hb dX1_init_28 (by decide) ?_
  refine va_newa (atype := .int) (ty := .int) (N' := 24) (a0 := (24, .inl (fun _ => 0))) hx hb (hts (.arrayClass .int) (by decide +kernel)) rfl hK hP hD hS hA (fun _ => vp_cell_i ..) (by decide) (by decide) (by decide) (Nat.le_of_ble_eq_true rfl) (Nat.le_of_ble_eq_true rfl) dX1_init_30 (fun q4 c4 H hK hP hD hS => ?_)
  have hK : va_K D vwCl [(c1, .int), (c2, .int), (c3, .int), (c4, .int)] s := hK
  have hP : va_P D vwCl ([(h0, .inr (1, [.int 0, .int 0, .ref q1, .ref q2, .ref q3, .null, .null, .null, .null, .null, .null, .int 0, .int 0, .int 0])), (q1, .inl (c1, 3, .inl (fun _ => 0))), (q2, .inl (c2, 24, .inl (fun _ => 0))), (q3, .inl (c3, 24, .inl (fun _ => 0))), (q4, .inl (c4, 24, .inl (fun _ => 0)))]) H := hP
  have hD : va_D A ([(h0, .inr (1, [.int 0, .int 0, .ref q1, .ref q2, .ref q3, .null, .null, .null, .null, .null, .null, .int 0, .int 0, .int 0])), (q1, .inl (c1, 3, .inl (fun _ => 0))), (q2, .inl (c2, 24, .inl (fun _ => 0))), (q3, .inl (c3, 24, .inl (fun _ => 0))), (q4, .inl (c4, 24, .inl (fun _ => 0)))]) := hD
  refine va_putF (D := D) (ci := 1) (ty := (.array .int)) (C := RX1) (T := TX1) (N := 14) hx hb hts hU tyX1 tyX1_ok nmX1 hown hK hP hD hS 0 rfl rfl 5 (by decide) hf_hits (fun _ h9 => h9) rfl hin rfl (by decide +kernel) rfl rfl (Nat.le_of_ble_eq_true rfl) dX1_init_32 (fun H locs hP hD hS => ?_)
  have hP : va_P D vwCl ([(h0, .inr (1, [.int 0, .int 0, .ref q1, .ref q2, .ref q3, .ref q4, .null, .null, .null, .null, .null, .int 0, .int 0, .int 0])), (q1, .inl (c1, 3, .inl (fun _ => 0))), (q2, .inl (c2, 24, .inl (fun _ => 0))), (q3, .inl (c3, 24, .inl (fun _ => 0))), (q4, .inl (c4, 24, .inl (fun _ => 0)))]) H := hP
  have hD : va_D A ([(h0, .inr (1, [.int 0, .int 0, .ref q1, .ref q2, .ref q3, .ref q4, .null, .null, .null, .null, .null, .int 0, .int 0, .int 0])), (q1, .inl (c1, 3, .inl (fun _ => 0))), (q2, .inl (c2, 24, .inl (fun _ => 0))), (q3, .inl (c3, 24, .inl (fun _ => 0))), (q4, .inl (c4, 24, .inl (fun _ => 0)))]) := hD
  refine lv_aload_n hx hb dX1_init_35 rfl (lv_at hl 0 rfl) ?_
  refine lv_bipush (v := 72) hx hb dX1_init_36 (by decide) ?_
  refine va_newa (atype := .long) (ty := .long) (N' := 72) (a0 := (72, .inr (.inl (fun _ => 0)))) hx hb (hts (.arrayClass .long) (by decide +kernel)) rfl hK hP hD hS hA (fun _ => vp_cell_l ..) (by decide) (by decide) (by decide) (Nat.le_of_ble_eq_true rfl) (Nat.le_of_ble_eq_true rfl) dX1_init_38 (fun q5 c5 H hK hP hD hS => ?_)
  have hK : va_K D vwCl [(c1, .int), (c2, .int), (c3, .int), (c4, .int), (c5, .long)] s := hK
  have hP : va_P D vwCl ([(h0, .inr (1, [.int 0, .int 0, .ref q1, .ref q2, .ref q3, .ref q4, .null, .null, .null, .null, .null, .int 0, .int 0, .int 0])), (q1, .inl (c1, 3, .inl (fun _ => 0))), (q2, .inl (c2, 24, .inl (fun _ => 0))), (q3, .inl (c3, 24, .inl (fun _ => 0))), (q4, .inl (c4, 24, .inl (fun _ => 0))), (q5, .inl (c5, 72, .inr (.inl (fun _ => 0))))]) H := hP
  have hD : va_D A ([(h0, .inr (1, [.int 0, .int 0, .ref q1, .ref q2, .ref q3, .ref q4, .null, .null, .null, .null, .null, .int 0, .int 0, .int 0])), (q1, .inl (c1, 3, .inl (fun _ => 0))), (q2, .inl (c2, 24, .inl (fun _ => 0))), (q3, .inl (c3, 24, .inl (fun _ => 0))), (q4, .inl (c4, 24, .inl (fun _ => 0))), (q5, .inl (c5, 72, .inr (.inl (fun _ => 0))))]) := hD
  refine va_putF (D := D) (ci := 1) (ty := (.array .long)) (C := RX1) (T := TX1) (N := 14) hx hb hts hU tyX1 tyX1_ok nmX1 hown hK hP hD hS 0 rfl rfl 6 (by decide) hf_value (fun _ h9 => h9) rfl hin rfl (by decide +kernel) rfl rfl (Nat.le_of_ble_eq_true rfl) dX1_init_40 (fun H locs hP hD hS => ?_)
  have hP : va_P D vwCl ([(h0, .inr (1, [.int 0, .int 0, .ref q1, .ref q2, .ref q3, .ref q4, .ref q5, .null, .null, .null, .null, .int 0, .int 0, .int 0])), (q1, .inl (c1, 3, .inl (fun _ => 0))), (q2, .inl (c2, 24, .inl (fun _ => 0))), (q3, .inl (c3, 24, .inl (fun _ => 0))), (q4, .inl (c4, 24, .inl (fun _ => 0))), (q5, .inl (c5, 72, .inr (.inl (fun _ => 0))))]) H := hP
  have hD : va_D A ([(h0, .inr (1, [.int 0, .int 0, .ref q1, .ref q2, .ref q3, .ref q4, .ref q5, .null, .null, .null, .null, .int 0, .int 0, .int 0])), (q1, .inl (c1, 3, .inl (fun _ => 0))), (q2, .inl (c2, 24, .inl (fun _ => 0))), (q3, .inl (c3, 24, .inl (fun _ => 0))), (q4, .inl (c4, 24, .inl (fun _ => 0))), (q5, .inl (c5, 72, .inr (.inl (fun _ => 0))))]) := hD
  refine lv_aload_n hx hb dX1_init_43 rfl (lv_at hl 0 rfl) ?_
  refine lv_bipush (v := 72) hx hb dX1_init_44 (by decide) ?_
  refine va_newa (atype := .long) (ty := .long) (N' := 72) (a0 := (72, .inr (.inl (fun _ => 0)))) hx hb (hts (.arrayClass .long) (by decide +kernel)) rfl hK hP hD hS hA (fun _ => vp_cell_l ..) (by decide) (by decide) (by decide) (Nat.le_of_ble_eq_true rfl) (Nat.le_of_ble_eq_true rfl) dX1_init_46 (fun q6 c6 H hK hP hD hS => ?_)
  have hK : va_K D vwCl [(c1, .int), (c2, .int), (c3, .int), (c4, .int), (c5, .long), (c6, .long)] s := hK
  have hP : va_P D vwCl ([(h0, .inr (1, [.int 0, .int 0, .ref q1, .ref q2, .ref q3, .ref q4, .ref q5, .null, .null, .null, .null, .int 0, .int 0, .int 0])), (q1, .inl (c1, 3, .inl (fun _ => 0))), (q2, .inl (c2, 24, .inl (fun _ => 0))), (q3, .inl (c3, 24, .inl (fun _ => 0))), (q4, .inl (c4, 24, .inl (fun _ => 0))), (q5, .inl (c5, 72, .inr (.inl (fun _ => 0)))), (q6, .inl (c6, 72, .inr (.inl (fun _ => 0))))]) H := hP
  have hD : va_D A ([(h0, .inr (1, [.int 0, .int 0, .ref q1, .ref q2, .ref q3, .ref q4, .ref q5, .null, .null, .null, .null, .int 0, .int 0, .int 0])), (q1, .inl (c1, 3, .inl (fun _ => 0))), (q2, .inl (c2, 24, .inl (fun _ => 0))), (q3, .inl (c3, 24, .inl (fun _ => 0))), (q4, .inl (c4, 24, .inl (fun _ => 0))), (q5, .inl (c5, 72, .inr (.inl (fun _ => 0)))), (q6, .inl (c6, 72, .inr (.inl (fun _ => 0))))]) := hD
  refine va_putF (D := D) (ci := 1) (ty := (.array .long)) (C := RX1) (T := TX1) (N := 14) hx hb hts hU tyX1 tyX1_ok nmX1 hown hK hP hD hS 0 rfl rfl 7 (by decide) hf_mask (fun _ h9 => h9) rfl hin rfl (by decide +kernel) rfl rfl (Nat.le_of_ble_eq_true rfl) dX1_init_48 (fun H locs hP hD hS => ?_)
  have hP : va_P D vwCl ([(h0, .inr (1, [.int 0, .int 0, .ref q1, .ref q2, .ref q3, .ref q4, .ref q5, .ref q6, .null, .null, .null, .int 0, .int 0, .int 0])), (q1, .inl (c1, 3, .inl (fun _ => 0))), (q2, .inl (c2, 24, .inl (fun _ => 0))), (q3, .inl (c3, 24, .inl (fun _ => 0))), (q4, .inl (c4, 24, .inl (fun _ => 0))), (q5, .inl (c5, 72, .inr (.inl (fun _ => 0)))), (q6, .inl (c6, 72, .inr (.inl (fun _ => 0))))]) H := hP
  have hD : va_D A ([(h0, .inr (1, [.int 0, .int 0, .ref q1, .ref q2, .ref q3, .ref q4, .ref q5, .ref q6, .null, .null, .null, .int 0, .int 0, .int 0])), (q1, .inl (c1, 3, .inl (fun _ => 0))), (q2, .inl (c2, 24, .inl (fun _ => 0))), (q3, .inl (c3, 24, .inl (fun _ => 0))), (q4, .inl (c4, 24, .inl (fun _ => 0))), (q5, .inl (c5, 72, .inr (.inl (fun _ => 0)))), (q6, .inl (c6, 72, .inr (.inl (fun _ => 0))))]) := hD
  refine lv_aload_n hx hb dX1_init_51 rfl (lv_at hl 0 rfl) ?_
  refine lv_iconst (v := 3) hx hb dX1_init_52 (by decide) ?_
  refine va_newa (atype := .long) (ty := .long) (N' := 3) (a0 := (3, .inr (.inl (fun _ => 0)))) hx hb (hts (.arrayClass .long) (by decide +kernel)) rfl hK hP hD hS hA (fun _ => vp_cell_l ..) (by decide) (by decide) (by decide) (Nat.le_of_ble_eq_true rfl) (Nat.le_of_ble_eq_true rfl) dX1_init_53 (fun q7 c7 H hK hP hD hS => ?_)
  have hK : va_K D vwCl [(c1, .int), (c2, .int), (c3, .int), (c4, .int), (c5, .long), (c6, .long), (c7, .long)] s := hK
  have hP : va_P D vwCl ([(h0, .inr (1, [.int 0, .int 0, .ref q1, .ref q2, .ref q3, .ref q4, .ref q5, .ref q6, .null, .null, .null, .int 0, .int 0, .int 0])), (q1, .inl (c1, 3, .inl (fun _ => 0))), (q2, .inl (c2, 24, .inl (fun _ => 0))), (q3, .inl (c3, 24, .inl (fun _ => 0))), (q4, .inl (c4, 24, .inl (fun _ => 0))), (q5, .inl (c5, 72, .inr (.inl (fun _ => 0)))), (q6, .inl (c6, 72, .inr (.inl (fun _ => 0)))), (q7, .inl (c7, 3, .inr (.inl (fun _ => 0))))]) H := hP
  have hD : va_D A ([(h0, .inr (1, [.int 0, .int 0, .ref q1, .ref q2, .ref q3, .ref q4, .ref q5, .ref q6, .null, .null, .null, .int 0, .int 0, .int 0])), (q1, .inl (c1, 3, .inl (fun _ => 0))), (q2, .inl (c2, 24, .inl (fun _ => 0))), (q3, .inl (c3, 24, .inl (fun _ => 0))), (q4, .inl (c4, 24, .inl (fun _ => 0))), (q5, .inl (c5, 72, .inr (.inl (fun _ => 0)))), (q6, .inl (c6, 72, .inr (.inl (fun _ => 0)))), (q7, .inl (c7, 3, .inr (.inl (fun _ => 0))))]) := hD
  refine va_putF (D := D) (ci := 1) (ty := (.array .long)) (C := RX1) (T := TX1) (N := 14) hx hb hts hU tyX1 tyX1_ok nmX1 hown hK hP hD hS 0 rfl rfl 8 (by decide) hf_madeValue (fun _ h9 => h9) rfl hin rfl (by decide +kernel) rfl rfl (Nat.le_of_ble_eq_true rfl) dX1_init_55 (fun H locs hP hD hS => ?_)
  have hP : va_P D vwCl ([(h0, .inr (1, [.int 0, .int 0, .ref q1, .ref q2, .ref q3, .ref q4, .ref q5, .ref q6, .ref q7, .null, .null, .int 0, .int 0, .int 0])), (q1, .inl (c1, 3, .inl (fun _ => 0))), (q2, .inl (c2, 24, .inl (fun _ => 0))), (q3, .inl (c3, 24, .inl (fun _ => 0))), (q4, .inl (c4, 24, .inl (fun _ => 0))), (q5, .inl (c5, 72, .inr (.inl (fun _ => 0)))), (q6, .inl (c6, 72, .inr (.inl (fun _ => 0)))), (q7, .inl (c7, 3, .inr (.inl (fun _ => 0))))]) H := hP
  have hD : va_D A ([(h0, .inr (1, [.int 0, .int 0, .ref q1, .ref q2, .ref q3, .ref q4, .ref q5, .ref q6, .ref q7, .null, .null, .int 0, .int 0, .int 0])), (q1, .inl (c1, 3, .inl (fun _ => 0))), (q2, .inl (c2, 24, .inl (fun _ => 0))), (q3, .inl (c3, 24, .inl (fun _ => 0))), (q4, .inl (c4, 24, .inl (fun _ => 0))), (q5, .inl (c5, 72, .inr (.inl (fun _ => 0)))), (q6, .inl (c6, 72, .inr (.inl (fun _ => 0)))), (q7, .inl (c7, 3, .inr (.inl (fun _ => 0))))]) := hD
  refine lv_aload_n hx hb dX1_init_58 rfl (lv_at hl 0 rfl) ?_
  refine lv_iconst (v := 3) hx hb dX1_init_59 (by decide) ?_
  refine va_newa (atype := .long) (ty := .long) (N' := 3) (a0 := (3, .inr (.inl (fun _ => 0)))) hx hb (hts (.arrayClass .long) (by decide +kernel)) rfl hK hP hD hS hA (fun _ => vp_cell_l ..) (by decide) (by decide) (by decide) (Nat.le_of_ble_eq_true rfl) (Nat.le_of_ble_eq_true rfl) dX1_init_60 (fun q8 c8 H hK hP hD hS => ?_)
  have hK : va_K D vwCl [(c1, .int), (c2, .int), (c3, .int), (c4, .int), (c5, .long), (c6, .long), (c7, .long), (c8, .long)] s := hK
  have hP : va_P D vwCl ([(h0, .inr (1, [.int 0, .int 0, .ref q1, .ref q2, .ref q3, .ref q4, .ref q5, .ref q6, .ref q7, .null, .null, .int 0, .int 0, .int 0])), (q1, .inl (c1, 3, .inl (fun _ => 0))), (q2, .inl (c2, 24, .inl (fun _ => 0))), (q3, .inl (c3, 24, .inl (fun _ => 0))), (q4, .inl (c4, 24, .inl (fun _ => 0))), (q5, .inl (c5, 72, .inr (.inl (fun _ => 0)))), (q6, .inl (c6, 72, .inr (.inl (fun _ => 0)))), (q7, .inl (c7, 3, .inr (.inl (fun _ => 0)))), (q8, .inl (c8, 3, .inr (.inl (fun _ => 0))))]) H := hP
  have hD : va_D A ([(h0, .inr (1, [.int 0, .int 0, .ref q1, .ref q2, .ref q3, .ref q4, .ref q5, .ref q6, .ref q7, .null, .null, .int 0, .int 0, .int 0])), (q1, .inl (c1, 3, .inl (fun _ => 0))), (q2, .inl (c2, 24, .inl (fun _ => 0))), (q3, .inl (c3, 24, .inl (fun _ => 0))), (q4, .inl (c4, 24, .inl (fun _ => 0))), (q5, .inl (c5, 72, .inr (.inl (fun _ => 0)))), (q6, .inl (c6, 72, .inr (.inl (fun _ => 0)))), (q7, .inl (c7, 3, .inr (.inl (fun _ => 0)))), (q8, .inl (c8, 3, .inr (.inl (fun _ => 0))))]) := hD
  refine va_putF (D := D) (ci := 1) (ty := (.array .long)) (C := RX1) (T := TX1) (N := 14) hx hb hts hU tyX1 tyX1_ok nmX1 hown hK hP hD hS 0 rfl rfl 9 (by decide) hf_madeMask (fun _ h9 => h9) rfl hin rfl (by decide +kernel) rfl rfl (Nat.le_of_ble_eq_true rfl) dX1_init_62 (fun H locs hP hD hS => ?_)
  have hP : va_P D vwCl ([(h0, .inr (1, [.int 0, .int 0, .ref q1, .ref q2, .ref q3, .ref q4, .ref q5, .ref q6, .ref q7, .ref q8, .null, .int 0, .int 0, .int 0])), (q1, .inl (c1, 3, .inl (fun _ => 0))), (q2, .inl (c2, 24, .inl (fun _ => 0))), (q3, .inl (c3, 24, .inl (fun _ => 0))), (q4, .inl (c4, 24, .inl (fun _ => 0))), (q5, .inl (c5, 72, .inr (.inl (fun _ => 0)))), (q6, .inl (c6, 72, .inr (.inl (fun _ => 0)))), (q7, .inl (c7, 3, .inr (.inl (fun _ => 0)))), (q8, .inl (c8, 3, .inr (.inl (fun _ => 0))))]) H := hP
  have hD : va_D A ([(h0, .inr (1, [.int 0, .int 0, .ref q1, .ref q2, .ref q3, .ref q4, .ref q5, .ref q6, .ref q7, .ref q8, .null, .int 0, .int 0, .int 0])), (q1, .inl (c1, 3, .inl (fun _ => 0))), (q2, .inl (c2, 24, .inl (fun _ => 0))), (q3, .inl (c3, 24, .inl (fun _ => 0))), (q4, .inl (c4, 24, .inl (fun _ => 0))), (q5, .inl (c5, 72, .inr (.inl (fun _ => 0)))), (q6, .inl (c6, 72, .inr (.inl (fun _ => 0)))), (q7, .inl (c7, 3, .inr (.inl (fun _ => 0)))), (q8, .inl (c8, 3, .inr (.inl (fun _ => 0))))]) := hD
  refine lv_aload_n hx hb dX1_init_65 rfl (lv_at hl 0 rfl) ?_
  refine lv_iconst (v := 3) hx hb dX1_init_66 (by decide) ?_
  refine va_newa (atype := .long) (ty := .long) (N' := 3) (a0 := (3, .inr (.inl (fun _ => 0)))) hx hb (hts (.arrayClass .long) (by decide +kernel)) rfl hK hP hD hS hA (fun _ => vp_cell_l ..) (by decide) (by decide) (by decide) (Nat.le_of_ble_eq_true rfl) (Nat.le_of_ble_eq_true rfl) dX1_init_67 (fun q9 c9 H hK hP hD hS => ?_)
  have hK : va_K D vwCl [(c1, .int), (c2, .int), (c3, .int), (c4, .int), (c5, .long), (c6, .long), (c7, .long), (c8, .long), (c9, .long)] s := hK
  have hP : va_P D vwCl ([(h0, .inr (1, [.int 0, .int 0, .ref q1, .ref q2, .ref q3, .ref q4, .ref q5, .ref q6, .ref q7, .ref q8, .null, .int 0, .int 0, .int 0])), (q1, .inl (c1, 3, .inl (fun _ => 0))), (q2, .inl (c2, 24, .inl (fun _ => 0))), (q3, .inl (c3, 24, .inl (fun _ => 0))), (q4, .inl (c4, 24, .inl (fun _ => 0))), (q5, .inl (c5, 72, .inr (.inl (fun _ => 0)))), (q6, .inl (c6, 72, .inr (.inl (fun _ => 0)))), (q7, .inl (c7, 3, .inr (.inl (fun _ => 0)))), (q8, .inl (c8, 3, .inr (.inl (fun _ => 0)))), (q9, .inl (c9, 3, .inr (.inl (fun _ => 0))))]) H := hP
  have hD : va_D A ([(h0, .inr (1, [.int 0, .int 0, .ref q1, .ref q2, .ref q3, .ref q4, .ref q5, .ref q6, .ref q7, .ref q8, .null, .int 0, .int 0, .int 0])), (q1, .inl (c1, 3, .inl (fun _ => 0))), (q2, .inl (c2, 24, .inl (fun _ => 0))), (q3, .inl (c3, 24, .inl (fun _ => 0))), (q4, .inl (c4, 24, .inl (fun _ => 0))), (q5, .inl (c5, 72, .inr (.inl (fun _ => 0)))), (q6, .inl (c6, 72, .inr (.inl (fun _ => 0)))), (q7, .inl (c7, 3, .inr (.inl (fun _ => 0)))), (q8, .inl (c8, 3, .inr (.inl (fun _ => 0)))), (q9, .inl (c9, 3, .inr (.inl (fun _ => 0))))]) := hD
  refine va_putF (D := D) (ci := 1) (ty := (.array .long)) (C := RX1) (T := TX1) (N := 14) hx hb hts hU tyX1 tyX1_ok nmX1 hown hK hP hD hS 0 rfl rfl 10 (by decide) hf_asked (fun _ h9 => h9) rfl hin rfl (by decide +kernel) rfl rfl (Nat.le_of_ble_eq_true rfl) dX1_init_69 (fun H locs hP hD hS => ?_)
  have hP : va_P D vwCl ([(h0, .inr (1, [.int 0, .int 0, .ref q1, .ref q2, .ref q3, .ref q4, .ref q5, .ref q6, .ref q7, .ref q8, .ref q9, .int 0, .int 0, .int 0])), (q1, .inl (c1, 3, .inl (fun _ => 0))), (q2, .inl (c2, 24, .inl (fun _ => 0))), (q3, .inl (c3, 24, .inl (fun _ => 0))), (q4, .inl (c4, 24, .inl (fun _ => 0))), (q5, .inl (c5, 72, .inr (.inl (fun _ => 0)))), (q6, .inl (c6, 72, .inr (.inl (fun _ => 0)))), (q7, .inl (c7, 3, .inr (.inl (fun _ => 0)))), (q8, .inl (c8, 3, .inr (.inl (fun _ => 0)))), (q9, .inl (c9, 3, .inr (.inl (fun _ => 0))))]) H := hP
  have hD : va_D A ([(h0, .inr (1, [.int 0, .int 0, .ref q1, .ref q2, .ref q3, .ref q4, .ref q5, .ref q6, .ref q7, .ref q8, .ref q9, .int 0, .int 0, .int 0])), (q1, .inl (c1, 3, .inl (fun _ => 0))), (q2, .inl (c2, 24, .inl (fun _ => 0))), (q3, .inl (c3, 24, .inl (fun _ => 0))), (q4, .inl (c4, 24, .inl (fun _ => 0))), (q5, .inl (c5, 72, .inr (.inl (fun _ => 0)))), (q6, .inl (c6, 72, .inr (.inl (fun _ => 0)))), (q7, .inl (c7, 3, .inr (.inl (fun _ => 0)))), (q8, .inl (c8, 3, .inr (.inl (fun _ => 0)))), (q9, .inl (c9, 3, .inr (.inl (fun _ => 0))))]) := hD
  refine lv_aload_n hx hb dX1_init_72 rfl (lv_at hl 0 rfl) ?_
  refine eb_ji ([(h0, .inr (1, [.int 0, .int 0, .ref q1, .ref q2, .ref q3, .ref q4, .ref q5, .ref q6, .ref q7, .ref q8, .ref q9, .int 0, .int 0, .int 0])), (q1, .inl (c1, 3, .inl (fun _ => 0))), (q2, .inl (c2, 24, .inl (fun _ => 0))), (q3, .inl (c3, 24, .inl (fun _ => 0))), (q4, .inl (c4, 24, .inl (fun _ => 0))), (q5, .inl (c5, 72, .inr (.inl (fun _ => 0)))), (q6, .inl (c6, 72, .inr (.inl (fun _ => 0)))), (q7, .inl (c7, 3, .inr (.inl (fun _ => 0)))), (q8, .inl (c8, 3, .inr (.inl (fun _ => 0)))), (q9, .inl (c9, 3, .inr (.inl (fun _ => 0))))]) hP hS 92 (nI (et_cl 3 a1)) (fun hj73 => ?_) (fun H locs hP hS => ?_)
  · refine lv_iload_n hx hb dX1_init_73 rfl (lv_at hl 1 rfl) ?_
    refine lv_iconst (v := 1) hx hb dX1_init_74 (by decide) ?_
    refine lv_icmp_ge (tgt := 82) hx hb dX1_init_75 (by decide) (fun c75 => ?_) (fun c75 => ?_)
    · rw [← Int32.not_lt] at c75
      refine lv_iload_n hx hb dX1_init_82 rfl (lv_at hl 1 rfl) ?_
      refine lv_iconst (v := 3) hx hb dX1_init_83 (by decide) ?_
      refine lv_icmp_le (tgt := 91) hx hb dX1_init_84 (by decide) (fun c84 => ?_) (fun c84 => ?_)
      · rw [← Int32.not_lt] at c84
        refine lv_iload_n hx hb dX1_init_91 rfl (lv_at hl 1 rfl) ?_
        exact hj73 _ H locs (et_cl_mid (h := 3) (by decide) c75 c84) hP hS
      · rw [Int32.not_le] at c84
        refine lv_iconst (v := 3) hx hb dX1_init_87 (by decide) ?_
        refine lv_goto (tgt := 92) hx hb dX1_init_88 (by decide) ?_
        exact hj73 _ H locs (et_cl_hi (h := 3) (by decide) c75 c84) hP hS
    · rw [Int32.not_le] at c75
      refine lv_iconst (v := 1) hx hb dX1_init_78 (by decide) ?_
      refine lv_goto (tgt := 92) hx hb dX1_init_79 (by decide) ?_
      exact hj73 _ H locs (et_cl_lo c75) hP hS
  · refine va_putF (D := D) (ci := 1) (ty := .int) (C := RX1) (T := TX1) (N := 14) hx hb hts hU tyX1 tyX1_ok nmX1 hown hK hP hD hS 0 rfl rfl 0 (by decide) hf_keys (fun _ h9 => h9) rfl hin rfl (by decide +kernel) rfl rfl (Nat.le_of_ble_eq_true rfl) dX1_init_92 (fun H locs hP hD hS => ?_)
    have hP : va_P D vwCl ([(h0, .inr (1, [.int (nI (et_cl 3 a1)), .int 0, .ref q1, .ref q2, .ref q3, .ref q4, .ref q5, .ref q6, .ref q7, .ref q8, .ref q9, .int 0, .int 0, .int 0])), (q1, .inl (c1, 3, .inl (fun _ => 0))), (q2, .inl (c2, 24, .inl (fun _ => 0))), (q3, .inl (c3, 24, .inl (fun _ => 0))), (q4, .inl (c4, 24, .inl (fun _ => 0))), (q5, .inl (c5, 72, .inr (.inl (fun _ => 0)))), (q6, .inl (c6, 72, .inr (.inl (fun _ => 0)))), (q7, .inl (c7, 3, .inr (.inl (fun _ => 0)))), (q8, .inl (c8, 3, .inr (.inl (fun _ => 0)))), (q9, .inl (c9, 3, .inr (.inl (fun _ => 0))))]) H := hP
    have hD : va_D A ([(h0, .inr (1, [.int (nI (et_cl 3 a1)), .int 0, .ref q1, .ref q2, .ref q3, .ref q4, .ref q5, .ref q6, .ref q7, .ref q8, .ref q9, .int 0, .int 0, .int 0])), (q1, .inl (c1, 3, .inl (fun _ => 0))), (q2, .inl (c2, 24, .inl (fun _ => 0))), (q3, .inl (c3, 24, .inl (fun _ => 0))), (q4, .inl (c4, 24, .inl (fun _ => 0))), (q5, .inl (c5, 72, .inr (.inl (fun _ => 0)))), (q6, .inl (c6, 72, .inr (.inl (fun _ => 0)))), (q7, .inl (c7, 3, .inr (.inl (fun _ => 0)))), (q8, .inl (c8, 3, .inr (.inl (fun _ => 0)))), (q9, .inl (c9, 3, .inr (.inl (fun _ => 0))))]) := hD
    refine lv_aload_n hx hb dX1_init_95 rfl (lv_at hl 0 rfl) ?_
    refine eb_ji ([(h0, .inr (1, [.int (nI (et_cl 3 a1)), .int 0, .ref q1, .ref q2, .ref q3, .ref q4, .ref q5, .ref q6, .ref q7, .ref q8, .ref q9, .int 0, .int 0, .int 0])), (q1, .inl (c1, 3, .inl (fun _ => 0))), (q2, .inl (c2, 24, .inl (fun _ => 0))), (q3, .inl (c3, 24, .inl (fun _ => 0))), (q4, .inl (c4, 24, .inl (fun _ => 0))), (q5, .inl (c5, 72, .inr (.inl (fun _ => 0)))), (q6, .inl (c6, 72, .inr (.inl (fun _ => 0)))), (q7, .inl (c7, 3, .inr (.inl (fun _ => 0)))), (q8, .inl (c8, 3, .inr (.inl (fun _ => 0)))), (q9, .inl (c9, 3, .inr (.inl (fun _ => 0))))]) hP hS 117 (nI (et_cl 48 a3)) (fun hj96 => ?_) (fun H locs hP hS => ?_)
    · refine lv_iload_n hx hb dX1_init_96 rfl (lv_at hl 3 rfl) ?_
      refine lv_iconst (v := 1) hx hb dX1_init_97 (by decide) ?_
      refine lv_icmp_ge (tgt := 105) hx hb dX1_init_98 (by decide) (fun c98 => ?_) (fun c98 => ?_)
      · rw [← Int32.not_lt] at c98
        refine lv_iload_n hx hb dX1_init_105 rfl (lv_at hl 3 rfl) ?_
        refine lv_bipush (v := 48) hx hb dX1_init_106 (by decide) ?_
        refine lv_icmp_le (tgt := 116) hx hb dX1_init_108 (by decide) (fun c108 => ?_) (fun c108 => ?_)
        · rw [← Int32.not_lt] at c108
          refine lv_iload_n hx hb dX1_init_116 rfl (lv_at hl 3 rfl) ?_
          exact hj96 _ H locs (et_cl_mid (h := 48) (by decide) c98 c108) hP hS
        · rw [Int32.not_le] at c108
          refine lv_bipush (v := 48) hx hb dX1_init_111 (by decide) ?_
          refine lv_goto (tgt := 117) hx hb dX1_init_113 (by decide) ?_
          exact hj96 _ H locs (et_cl_hi (h := 48) (by decide) c98 c108) hP hS
      · rw [Int32.not_le] at c98
        refine lv_iconst (v := 1) hx hb dX1_init_101 (by decide) ?_
        refine lv_goto (tgt := 117) hx hb dX1_init_102 (by decide) ?_
        exact hj96 _ H locs (et_cl_lo c98) hP hS
    · refine va_putF (D := D) (ci := 1) (ty := .int) (C := RX1) (T := TX1) (N := 14) hx hb hts hU tyX1 tyX1_ok nmX1 hown hK hP hD hS 0 rfl rfl 1 (by decide) hf_width (fun _ h9 => h9) rfl hin rfl (by decide +kernel) rfl rfl (Nat.le_of_ble_eq_true rfl) dX1_init_117 (fun H locs hP hD hS => ?_)
      have hP : va_P D vwCl ([(h0, .inr (1, [.int (nI (et_cl 3 a1)), .int (nI (et_cl 48 a3)), .ref q1, .ref q2, .ref q3, .ref q4, .ref q5, .ref q6, .ref q7, .ref q8, .ref q9, .int 0, .int 0, .int 0])), (q1, .inl (c1, 3, .inl (fun _ => 0))), (q2, .inl (c2, 24, .inl (fun _ => 0))), (q3, .inl (c3, 24, .inl (fun _ => 0))), (q4, .inl (c4, 24, .inl (fun _ => 0))), (q5, .inl (c5, 72, .inr (.inl (fun _ => 0)))), (q6, .inl (c6, 72, .inr (.inl (fun _ => 0)))), (q7, .inl (c7, 3, .inr (.inl (fun _ => 0)))), (q8, .inl (c8, 3, .inr (.inl (fun _ => 0)))), (q9, .inl (c9, 3, .inr (.inl (fun _ => 0))))]) H := hP
      have hD : va_D A ([(h0, .inr (1, [.int (nI (et_cl 3 a1)), .int (nI (et_cl 48 a3)), .ref q1, .ref q2, .ref q3, .ref q4, .ref q5, .ref q6, .ref q7, .ref q8, .ref q9, .int 0, .int 0, .int 0])), (q1, .inl (c1, 3, .inl (fun _ => 0))), (q2, .inl (c2, 24, .inl (fun _ => 0))), (q3, .inl (c3, 24, .inl (fun _ => 0))), (q4, .inl (c4, 24, .inl (fun _ => 0))), (q5, .inl (c5, 72, .inr (.inl (fun _ => 0)))), (q6, .inl (c6, 72, .inr (.inl (fun _ => 0)))), (q7, .inl (c7, 3, .inr (.inl (fun _ => 0)))), (q8, .inl (c8, 3, .inr (.inl (fun _ => 0)))), (q9, .inl (c9, 3, .inr (.inl (fun _ => 0))))]) := hD
      refine eb_ji ([(h0, .inr (1, [.int (nI (et_cl 3 a1)), .int (nI (et_cl 48 a3)), .ref q1, .ref q2, .ref q3, .ref q4, .ref q5, .ref q6, .ref q7, .ref q8, .ref q9, .int 0, .int 0, .int 0])), (q1, .inl (c1, 3, .inl (fun _ => 0))), (q2, .inl (c2, 24, .inl (fun _ => 0))), (q3, .inl (c3, 24, .inl (fun _ => 0))), (q4, .inl (c4, 24, .inl (fun _ => 0))), (q5, .inl (c5, 72, .inr (.inl (fun _ => 0)))), (q6, .inl (c6, 72, .inr (.inl (fun _ => 0)))), (q7, .inl (c7, 3, .inr (.inl (fun _ => 0)))), (q8, .inl (c8, 3, .inr (.inl (fun _ => 0)))), (q9, .inl (c9, 3, .inr (.inl (fun _ => 0))))]) hP hS 129 (nI (et_d0 a2)) (fun hj120 => ?_) (fun H locs hP hS => ?_)
      · refine lv_iload_n hx hb dX1_init_120 rfl (lv_at hl 2 rfl) ?_
        refine lv_if_ge (tgt := 128) hx hb dX1_init_121 (by decide) (fun c121 => ?_) (fun c121 => ?_)
        · rw [← Int32.not_lt] at c121
          refine lv_iload_n hx hb dX1_init_128 rfl (lv_at hl 2 rfl) ?_
          exact hj120 _ H locs (et_d0_pos c121) hP hS
        · rw [Int32.not_le] at c121
          refine lv_iconst (v := 0) hx hb dX1_init_124 (by decide) ?_
          refine lv_goto (tgt := 129) hx hb dX1_init_125 (by decide) ?_
          exact hj120 _ H locs (et_d0_neg' c121) hP hS
      · refine lv_istore hx hb dX1_init_129 hl (by decide) rfl (fun ls hl => ?_)
        have hl : lv_has ls 7 [(4, .int (nI (et_d0 a2))), (0, .ref h0), (1, .int a1), (2, .int a2), (3, .int a3)] := hl
        refine lv_iconst (v := 0) hx hb dX1_init_131 (by decide) ?_
        refine lv_istore hx hb dX1_init_132 hl (by decide) rfl (fun ls hl => ?_)
        have hl : lv_has ls 7 [(5, .int 0), (4, .int (nI (et_d0 a2))), (0, .ref h0), (1, .int a1), (2, .int a2), (3, .int a3)] := hl
        refine lv_iconst (v := 0) hx hb dX1_init_134 (by decide) ?_
        refine lv_istore hx hb dX1_init_135 hl (by decide) rfl (fun ls hl => ?_)
        have hl : lv_has ls 7 [(6, .int 0), (5, .int 0), (4, .int (nI (et_d0 a2))), (0, .ref h0), (1, .int a1), (2, .int a2), (3, .int a3)] := hl
        refine eb_for (fun (k : Nat) (ls : Array Slot) (H : Heap) (locs : List Loc) => ∃ kd1 : Nat → Int32, ∃ d : Nat, ∃ hb0 : Int32, lv_has ls 7 [(0, .ref h0), (1, .int a1), (2, .int a2), (3, .int a3), (4, .int (nI d)), (5, .int hb0), (6, .int (nI k))] ∧ va_P D vwCl ([(h0, .inr (1, [.int (nI (et_cl 3 a1)), .int (nI (et_cl 48 a3)), .ref q1, .ref q2, .ref q3, .ref q4, .ref q5, .ref q6, .ref q7, .ref q8, .ref q9, .int 0, .int 0, .int 0])), (q1, .inl (c1, 3, .inl kd1)), (q2, .inl (c2, 24, .inl (fun _ => 0))), (q3, .inl (c3, 24, .inl (fun _ => 0))), (q4, .inl (c4, 24, .inl (fun _ => 0))), (q5, .inl (c5, 72, .inr (.inl (fun _ => 0)))), (q6, .inl (c6, 72, .inr (.inl (fun _ => 0)))), (q7, .inl (c7, 3, .inr (.inl (fun _ => 0)))), (q8, .inl (c8, 3, .inr (.inl (fun _ => 0)))), (q9, .inl (c9, 3, .inr (.inl (fun _ => 0))))]) H ∧ va_D A ([(h0, .inr (1, [.int (nI (et_cl 3 a1)), .int (nI (et_cl 48 a3)), .ref q1, .ref q2, .ref q3, .ref q4, .ref q5, .ref q6, .ref q7, .ref q8, .ref q9, .int 0, .int 0, .int 0])), (q1, .inl (c1, 3, .inl kd1)), (q2, .inl (c2, 24, .inl (fun _ => 0))), (q3, .inl (c3, 24, .inl (fun _ => 0))), (q4, .inl (c4, 24, .inl (fun _ => 0))), (q5, .inl (c5, 72, .inr (.inl (fun _ => 0)))), (q6, .inl (c6, 72, .inr (.inl (fun _ => 0)))), (q7, .inl (c7, 3, .inr (.inl (fun _ => 0)))), (q8, .inl (c8, 3, .inr (.inl (fun _ => 0)))), (q9, .inl (c9, 3, .inr (.inl (fun _ => 0))))]) ∧ va_S A s.heap H locs ∧ (kd1 = et_kf (et_d0 a2) k ∧ d = et_d0 a2 / 3 ^ k ∧ d < 2 ^ 31 ∧ ((et_hp (et_d0 a2) k ∧ hb0 = 1) ∨ (¬ et_hp (et_d0 a2) k ∧ hb0 = 0)))) 137 (3) ?_ (3) (0) ls H locs (by omega) ⟨(fun _ => 0), (et_d0 a2), 0, lv_sub hl [3, 4, 5, 6, 2, 1, 0] rfl, hP, hD, hS, ⟨et_kf_0, (Nat.div_one _).symm, et_d0_lt a2, Or.inr ⟨et_hp_0, rfl⟩⟩⟩
        intro k ls H locs hk hI hrec137
        obtain ⟨kd1, d, hb0, hl, hP, hD, hS, hi137⟩ := hI
        refine lv_iload hx hb dX1_init_137 (lv_at hl 6 rfl) ?_
        refine lv_iconst (v := 3) hx hb dX1_init_139 (by decide) ?_
        refine lv_icmp_ge (tgt := 213) hx hb dX1_init_140 (by decide) (fun c140 => ?_) (fun c140 => ?_)
        · have c140 : nI 3 ≤ nI k := c140
          rw [nI_leI (by omega) (by omega)] at c140
          have hk3 : k = 3 := by omega
          subst hk3
          obtain rfl := hi137.1
          exact eb_vretC ((fun k => [h0, q1, q2, q3, q4, q5, q6, q7, q8, q9].getD k 0), (fun k => [c1, c1, c2, c3, c4, c5, c6, c7, c8, c9].getD k c1)) hx hb hr hlk hK hP hD hS dX1_init_213 rfl
        · have c140 : ¬ nI 3 ≤ nI k := c140
          rw [nI_leI (by omega) (by omega)] at c140
          have hd := hi137.2.2.1
          refine lv_aload_n hx hb dX1_init_143 rfl (lv_at hl 0 rfl) ?_
          refine va_get (D := D) (ci := 1) (C := RX1) (T := TX1) (N := 14) hx hb hts hU hown hK hP 0 rfl rfl 2 (by decide) hf_kind (fun _ h9 => h9) rfl dX1_init_144 ?_
          refine lv_iload hx hb dX1_init_147 (lv_at hl 6 rfl) ?_
          refine lv_iload hx hb dX1_init_149 (lv_at hl 4 rfl) ?_
          refine lv_iconst (v := 3) hx hb dX1_init_151 (by decide) ?_
          refine lv_irem hx hb dX1_init_152 (by decide) ?_
          refine eb_ti (nI (d % 3)) (pk_rem (a := d) (d := 3) hd (by decide) (by decide)) ?_
          refine eb_iast hx hb hK hP hD hS 1 0 rfl rfl (k) (by omega) (by decide) dX1_init_153 (fun H locs hP hD hS => ?_)
          have hP : va_P D vwCl ([(h0, .inr (1, [.int (nI (et_cl 3 a1)), .int (nI (et_cl 48 a3)), .ref q1, .ref q2, .ref q3, .ref q4, .ref q5, .ref q6, .ref q7, .ref q8, .ref q9, .int 0, .int 0, .int 0])), (q1, .inl (c1, 3, .inl (upd kd1 k (nI (d % 3))))), (q2, .inl (c2, 24, .inl (fun _ => 0))), (q3, .inl (c3, 24, .inl (fun _ => 0))), (q4, .inl (c4, 24, .inl (fun _ => 0))), (q5, .inl (c5, 72, .inr (.inl (fun _ => 0)))), (q6, .inl (c6, 72, .inr (.inl (fun _ => 0)))), (q7, .inl (c7, 3, .inr (.inl (fun _ => 0)))), (q8, .inl (c8, 3, .inr (.inl (fun _ => 0)))), (q9, .inl (c9, 3, .inr (.inl (fun _ => 0))))]) H := hP
          have hD : va_D A ([(h0, .inr (1, [.int (nI (et_cl 3 a1)), .int (nI (et_cl 48 a3)), .ref q1, .ref q2, .ref q3, .ref q4, .ref q5, .ref q6, .ref q7, .ref q8, .ref q9, .int 0, .int 0, .int 0])), (q1, .inl (c1, 3, .inl (upd kd1 k (nI (d % 3))))), (q2, .inl (c2, 24, .inl (fun _ => 0))), (q3, .inl (c3, 24, .inl (fun _ => 0))), (q4, .inl (c4, 24, .inl (fun _ => 0))), (q5, .inl (c5, 72, .inr (.inl (fun _ => 0)))), (q6, .inl (c6, 72, .inr (.inl (fun _ => 0)))), (q7, .inl (c7, 3, .inr (.inl (fun _ => 0)))), (q8, .inl (c8, 3, .inr (.inl (fun _ => 0)))), (q9, .inl (c9, 3, .inr (.inl (fun _ => 0))))]) := hD
          refine lv_iload hx hb dX1_init_154 (lv_at hl 4 rfl) ?_
          refine lv_iconst (v := 3) hx hb dX1_init_156 (by decide) ?_
          refine lv_idiv hx hb dX1_init_157 (by decide) ?_
          refine eb_ti (nI (d / 3)) (pk_div (a := d) (d := 3) hd (by decide) (by decide)) ?_
          refine lv_istore hx hb dX1_init_158 hl (by decide) rfl (fun ls hl => ?_)
          have hl : lv_has ls 7 [(4, .int (nI (d / 3))), (0, .ref h0), (1, .int a1), (2, .int a2), (3, .int a3), (5, .int hb0), (6, .int (nI k))] := hl
          refine lv_aload_n hx hb dX1_init_160 rfl (lv_at hl 1 rfl) ?_
          refine va_get (D := D) (ci := 1) (C := RX1) (T := TX1) (N := 14) hx hb hts hU hown hK hP 0 rfl rfl 2 (by decide) hf_kind (fun _ h9 => h9) rfl dX1_init_161 ?_
          refine lv_iload hx hb dX1_init_164 (lv_at hl 6 rfl) ?_
          refine eb_iald hx hb hK hP 1 0 rfl rfl (k) (by omega) (by decide) dX1_init_166 ?_
          refine eb_ti (nI (d % 3)) (pk_us) ?_
          refine lv_iconst (v := 1) hx hb dX1_init_167 (by decide) ?_
          refine lv_icmp_ne (tgt := 184) hx hb dX1_init_168 (by decide) (fun c168 => ?_) (fun c168 => ?_)
          · have c168 : ¬ nI (d % 3) = nI 1 := c168
            rw [nI_eq (by omega) (by omega)] at c168
            refine lv_iload hx hb dX1_init_184 (lv_at hl 5 rfl) ?_
            refine lv_if_ne (tgt := 200) hx hb dX1_init_186 (by decide) (fun c186 => ?_) (fun c186 => ?_)
            · have c186 := et_b1 hi137.2.2.2 c186
              refine lv_iconst (v := 1) hx hb dX1_init_200 (by decide) ?_
              refine lv_goto (tgt := 205) hx hb dX1_init_201 (by decide) ?_
              refine lv_istore hx hb dX1_init_205 hl (by decide) rfl (fun ls hl => ?_)
              have hl : lv_has ls 7 [(5, .int 1), (4, .int (nI (d / 3))), (0, .ref h0), (1, .int a1), (2, .int a2), (3, .int a3), (6, .int (nI k))] := hl
              refine lv_iinc (k := 6) (v := nI (k + 1)) hx hb dX1_init_207 hl rfl (nI_add k 1) (by decide) rfl (fun ls hl => ?_)
              have hl : lv_has ls 7 [(6, .int (nI (k + 1))), (5, .int 1), (4, .int (nI (d / 3))), (0, .ref h0), (1, .int a1), (2, .int a2), (3, .int a3)] := hl
              refine lv_goto (tgt := 137) hx hb dX1_init_210 (by decide) ?_
              obtain ⟨g1, g2, g3, g4⟩ := hi137
              subst g2
              exact hrec137 ls H locs (by omega) ⟨(upd kd1 k (nI (et_d0 a2 / 3 ^ k % 3))), (et_d0 a2 / 3 ^ k / 3), 1, lv_sub hl [3, 4, 5, 6, 2, 1, 0] rfl, hP, hD, hS, ⟨by rw [g1]; exact et_kf_s (by first | contradiction | (exfalso; omega) | exact et_kv_1 c168 c186 | exact et_kv_1 c186 c168 | exact et_kv_2 c168 | exact et_kv_2 c186 | exact et_kv_3 c168 | exact et_kv_3 c186), et_dg_s, Nat.lt_of_le_of_lt (Nat.div_le_self _ _) g3, by first | contradiction | (exfalso; omega) | exact Or.inl ⟨by first | exact et_hp_k c168 | exact et_hp_k c186 | exact et_hp_1 c168 | exact et_hp_1 c186, rfl⟩⟩⟩
            · have c186 := et_b0 hi137.2.2.2 c186
              refine lv_aload_n hx hb dX1_init_189 rfl (lv_at hl 1 rfl) ?_
              refine va_get (D := D) (ci := 1) (C := RX1) (T := TX1) (N := 14) hx hb hts hU hown hK hP 0 rfl rfl 2 (by decide) hf_kind (fun _ h9 => h9) rfl dX1_init_190 ?_
              refine lv_iload hx hb dX1_init_193 (lv_at hl 6 rfl) ?_
              refine eb_iald hx hb hK hP 1 0 rfl rfl (k) (by omega) (by decide) dX1_init_195 ?_
              refine eb_ti (nI (d % 3)) (pk_us) ?_
              refine lv_iconst (v := 1) hx hb dX1_init_196 (by decide) ?_
              refine lv_icmp_ne (tgt := 204) hx hb dX1_init_197 (by decide) (fun c197 => ?_) (fun c197 => ?_)
              · have c197 : ¬ nI (d % 3) = nI 1 := c197
                rw [nI_eq (by omega) (by omega)] at c197
                refine lv_iconst (v := 0) hx hb dX1_init_204 (by decide) ?_
                refine lv_istore hx hb dX1_init_205 hl (by decide) rfl (fun ls hl => ?_)
                have hl : lv_has ls 7 [(5, .int 0), (4, .int (nI (d / 3))), (0, .ref h0), (1, .int a1), (2, .int a2), (3, .int a3), (6, .int (nI k))] := hl
                refine lv_iinc (k := 6) (v := nI (k + 1)) hx hb dX1_init_207 hl rfl (nI_add k 1) (by decide) rfl (fun ls hl => ?_)
                have hl : lv_has ls 7 [(6, .int (nI (k + 1))), (5, .int 0), (4, .int (nI (d / 3))), (0, .ref h0), (1, .int a1), (2, .int a2), (3, .int a3)] := hl
                refine lv_goto (tgt := 137) hx hb dX1_init_210 (by decide) ?_
                obtain ⟨g1, g2, g3, g4⟩ := hi137
                subst g2
                exact hrec137 ls H locs (by omega) ⟨(upd kd1 k (nI (et_d0 a2 / 3 ^ k % 3))), (et_d0 a2 / 3 ^ k / 3), 0, lv_sub hl [3, 4, 5, 6, 2, 1, 0] rfl, hP, hD, hS, ⟨by rw [g1]; exact et_kf_s (by first | contradiction | (exfalso; omega) | exact et_kv_1 c168 c186 | exact et_kv_1 c168 c197 | exact et_kv_1 c186 c168 | exact et_kv_1 c186 c197 | exact et_kv_1 c197 c168 | exact et_kv_1 c197 c186 | exact et_kv_2 c168 | exact et_kv_2 c186 | exact et_kv_2 c197 | exact et_kv_3 c168 | exact et_kv_3 c186 | exact et_kv_3 c197), et_dg_s, Nat.lt_of_le_of_lt (Nat.div_le_self _ _) g3, by first | contradiction | (exfalso; omega) | exact Or.inr ⟨by first | exact et_hp_n c168 c186 | exact et_hp_n c168 c197 | exact et_hp_n c186 c168 | exact et_hp_n c186 c197 | exact et_hp_n c197 c168 | exact et_hp_n c197 c186, rfl⟩⟩⟩
              · have c197 : nI (d % 3) = nI 1 := c197
                rw [nI_eq (by omega) (by omega)] at c197
                refine lv_iconst (v := 1) hx hb dX1_init_200 (by decide) ?_
                refine lv_goto (tgt := 205) hx hb dX1_init_201 (by decide) ?_
                refine lv_istore hx hb dX1_init_205 hl (by decide) rfl (fun ls hl => ?_)
                have hl : lv_has ls 7 [(5, .int 1), (4, .int (nI (d / 3))), (0, .ref h0), (1, .int a1), (2, .int a2), (3, .int a3), (6, .int (nI k))] := hl
                refine lv_iinc (k := 6) (v := nI (k + 1)) hx hb dX1_init_207 hl rfl (nI_add k 1) (by decide) rfl (fun ls hl => ?_)
                have hl : lv_has ls 7 [(6, .int (nI (k + 1))), (5, .int 1), (4, .int (nI (d / 3))), (0, .ref h0), (1, .int a1), (2, .int a2), (3, .int a3)] := hl
                refine lv_goto (tgt := 137) hx hb dX1_init_210 (by decide) ?_
                obtain ⟨g1, g2, g3, g4⟩ := hi137
                subst g2
                exact hrec137 ls H locs (by omega) ⟨(upd kd1 k (nI (et_d0 a2 / 3 ^ k % 3))), (et_d0 a2 / 3 ^ k / 3), 1, lv_sub hl [3, 4, 5, 6, 2, 1, 0] rfl, hP, hD, hS, ⟨by rw [g1]; exact et_kf_s (by first | contradiction | (exfalso; omega) | exact et_kv_1 c168 c186 | exact et_kv_1 c168 c197 | exact et_kv_1 c186 c168 | exact et_kv_1 c186 c197 | exact et_kv_1 c197 c168 | exact et_kv_1 c197 c186 | exact et_kv_2 c168 | exact et_kv_2 c186 | exact et_kv_2 c197 | exact et_kv_3 c168 | exact et_kv_3 c186 | exact et_kv_3 c197), et_dg_s, Nat.lt_of_le_of_lt (Nat.div_le_self _ _) g3, by first | contradiction | (exfalso; omega) | exact Or.inl ⟨by first | exact et_hp_k c168 | exact et_hp_k c186 | exact et_hp_k c197 | exact et_hp_1 c168 | exact et_hp_1 c186 | exact et_hp_1 c197, rfl⟩⟩⟩
          · have c168 : nI (d % 3) = nI 1 := c168
            rw [nI_eq (by omega) (by omega)] at c168
            refine lv_iload hx hb dX1_init_171 (lv_at hl 5 rfl) ?_
            refine lv_if_eq (tgt := 184) hx hb dX1_init_173 (by decide) (fun c173 => ?_) (fun c173 => ?_)
            · have c173 := et_b0 hi137.2.2.2 c173
              refine lv_iload hx hb dX1_init_184 (lv_at hl 5 rfl) ?_
              refine lv_if_ne (tgt := 200) hx hb dX1_init_186 (by decide) (fun c186 => ?_) (fun c186 => ?_)
              · have c186 := et_b1 hi137.2.2.2 c186
                refine lv_iconst (v := 1) hx hb dX1_init_200 (by decide) ?_
                refine lv_goto (tgt := 205) hx hb dX1_init_201 (by decide) ?_
                refine lv_istore hx hb dX1_init_205 hl (by decide) rfl (fun ls hl => ?_)
                have hl : lv_has ls 7 [(5, .int 1), (4, .int (nI (d / 3))), (0, .ref h0), (1, .int a1), (2, .int a2), (3, .int a3), (6, .int (nI k))] := hl
                refine lv_iinc (k := 6) (v := nI (k + 1)) hx hb dX1_init_207 hl rfl (nI_add k 1) (by decide) rfl (fun ls hl => ?_)
                have hl : lv_has ls 7 [(6, .int (nI (k + 1))), (5, .int 1), (4, .int (nI (d / 3))), (0, .ref h0), (1, .int a1), (2, .int a2), (3, .int a3)] := hl
                refine lv_goto (tgt := 137) hx hb dX1_init_210 (by decide) ?_
                obtain ⟨g1, g2, g3, g4⟩ := hi137
                subst g2
                exact hrec137 ls H locs (by omega) ⟨(upd kd1 k (nI (et_d0 a2 / 3 ^ k % 3))), (et_d0 a2 / 3 ^ k / 3), 1, lv_sub hl [3, 4, 5, 6, 2, 1, 0] rfl, hP, hD, hS, ⟨by rw [g1]; exact et_kf_s (by first | contradiction | (exfalso; omega) | exact et_kv_1 c168 c173 | exact et_kv_1 c168 c186 | exact et_kv_1 c173 c168 | exact et_kv_1 c173 c186 | exact et_kv_1 c186 c168 | exact et_kv_1 c186 c173 | exact et_kv_2 c168 | exact et_kv_2 c173 | exact et_kv_2 c186 | exact et_kv_3 c168 | exact et_kv_3 c173 | exact et_kv_3 c186), et_dg_s, Nat.lt_of_le_of_lt (Nat.div_le_self _ _) g3, by first | contradiction | (exfalso; omega) | exact Or.inl ⟨by first | exact et_hp_k c168 | exact et_hp_k c173 | exact et_hp_k c186 | exact et_hp_1 c168 | exact et_hp_1 c173 | exact et_hp_1 c186, rfl⟩⟩⟩
              · have c186 := et_b0 hi137.2.2.2 c186
                refine lv_aload_n hx hb dX1_init_189 rfl (lv_at hl 1 rfl) ?_
                refine va_get (D := D) (ci := 1) (C := RX1) (T := TX1) (N := 14) hx hb hts hU hown hK hP 0 rfl rfl 2 (by decide) hf_kind (fun _ h9 => h9) rfl dX1_init_190 ?_
                refine lv_iload hx hb dX1_init_193 (lv_at hl 6 rfl) ?_
                refine eb_iald hx hb hK hP 1 0 rfl rfl (k) (by omega) (by decide) dX1_init_195 ?_
                refine eb_ti (nI (d % 3)) (pk_us) ?_
                refine lv_iconst (v := 1) hx hb dX1_init_196 (by decide) ?_
                refine lv_icmp_ne (tgt := 204) hx hb dX1_init_197 (by decide) (fun c197 => ?_) (fun c197 => ?_)
                · have c197 : ¬ nI (d % 3) = nI 1 := c197
                  rw [nI_eq (by omega) (by omega)] at c197
                  refine lv_iconst (v := 0) hx hb dX1_init_204 (by decide) ?_
                  refine lv_istore hx hb dX1_init_205 hl (by decide) rfl (fun ls hl => ?_)
                  have hl : lv_has ls 7 [(5, .int 0), (4, .int (nI (d / 3))), (0, .ref h0), (1, .int a1), (2, .int a2), (3, .int a3), (6, .int (nI k))] := hl
                  refine lv_iinc (k := 6) (v := nI (k + 1)) hx hb dX1_init_207 hl rfl (nI_add k 1) (by decide) rfl (fun ls hl => ?_)
                  have hl : lv_has ls 7 [(6, .int (nI (k + 1))), (5, .int 0), (4, .int (nI (d / 3))), (0, .ref h0), (1, .int a1), (2, .int a2), (3, .int a3)] := hl
                  refine lv_goto (tgt := 137) hx hb dX1_init_210 (by decide) ?_
                  obtain ⟨g1, g2, g3, g4⟩ := hi137
                  subst g2
                  exact hrec137 ls H locs (by omega) ⟨(upd kd1 k (nI (et_d0 a2 / 3 ^ k % 3))), (et_d0 a2 / 3 ^ k / 3), 0, lv_sub hl [3, 4, 5, 6, 2, 1, 0] rfl, hP, hD, hS, ⟨by rw [g1]; exact et_kf_s (by first | contradiction | (exfalso; omega) | exact et_kv_1 c168 c173 | exact et_kv_1 c168 c186 | exact et_kv_1 c168 c197 | exact et_kv_1 c173 c168 | exact et_kv_1 c173 c186 | exact et_kv_1 c173 c197 | exact et_kv_1 c186 c168 | exact et_kv_1 c186 c173 | exact et_kv_1 c186 c197 | exact et_kv_1 c197 c168 | exact et_kv_1 c197 c173 | exact et_kv_1 c197 c186 | exact et_kv_2 c168 | exact et_kv_2 c173 | exact et_kv_2 c186 | exact et_kv_2 c197 | exact et_kv_3 c168 | exact et_kv_3 c173 | exact et_kv_3 c186 | exact et_kv_3 c197), et_dg_s, Nat.lt_of_le_of_lt (Nat.div_le_self _ _) g3, by first | contradiction | (exfalso; omega) | exact Or.inr ⟨by first | exact et_hp_n c168 c173 | exact et_hp_n c168 c186 | exact et_hp_n c168 c197 | exact et_hp_n c173 c168 | exact et_hp_n c173 c186 | exact et_hp_n c173 c197 | exact et_hp_n c186 c168 | exact et_hp_n c186 c173 | exact et_hp_n c186 c197 | exact et_hp_n c197 c168 | exact et_hp_n c197 c173 | exact et_hp_n c197 c186, rfl⟩⟩⟩
                · have c197 : nI (d % 3) = nI 1 := c197
                  rw [nI_eq (by omega) (by omega)] at c197
                  refine lv_iconst (v := 1) hx hb dX1_init_200 (by decide) ?_
                  refine lv_goto (tgt := 205) hx hb dX1_init_201 (by decide) ?_
                  refine lv_istore hx hb dX1_init_205 hl (by decide) rfl (fun ls hl => ?_)
                  have hl : lv_has ls 7 [(5, .int 1), (4, .int (nI (d / 3))), (0, .ref h0), (1, .int a1), (2, .int a2), (3, .int a3), (6, .int (nI k))] := hl
                  refine lv_iinc (k := 6) (v := nI (k + 1)) hx hb dX1_init_207 hl rfl (nI_add k 1) (by decide) rfl (fun ls hl => ?_)
                  have hl : lv_has ls 7 [(6, .int (nI (k + 1))), (5, .int 1), (4, .int (nI (d / 3))), (0, .ref h0), (1, .int a1), (2, .int a2), (3, .int a3)] := hl
                  refine lv_goto (tgt := 137) hx hb dX1_init_210 (by decide) ?_
                  obtain ⟨g1, g2, g3, g4⟩ := hi137
                  subst g2
                  exact hrec137 ls H locs (by omega) ⟨(upd kd1 k (nI (et_d0 a2 / 3 ^ k % 3))), (et_d0 a2 / 3 ^ k / 3), 1, lv_sub hl [3, 4, 5, 6, 2, 1, 0] rfl, hP, hD, hS, ⟨by rw [g1]; exact et_kf_s (by first | contradiction | (exfalso; omega) | exact et_kv_1 c168 c173 | exact et_kv_1 c168 c186 | exact et_kv_1 c168 c197 | exact et_kv_1 c173 c168 | exact et_kv_1 c173 c186 | exact et_kv_1 c173 c197 | exact et_kv_1 c186 c168 | exact et_kv_1 c186 c173 | exact et_kv_1 c186 c197 | exact et_kv_1 c197 c168 | exact et_kv_1 c197 c173 | exact et_kv_1 c197 c186 | exact et_kv_2 c168 | exact et_kv_2 c173 | exact et_kv_2 c186 | exact et_kv_2 c197 | exact et_kv_3 c168 | exact et_kv_3 c173 | exact et_kv_3 c186 | exact et_kv_3 c197), et_dg_s, Nat.lt_of_le_of_lt (Nat.div_le_self _ _) g3, by first | contradiction | (exfalso; omega) | exact Or.inl ⟨by first | exact et_hp_k c168 | exact et_hp_k c173 | exact et_hp_k c186 | exact et_hp_k c197 | exact et_hp_1 c168 | exact et_hp_1 c173 | exact et_hp_1 c186 | exact et_hp_1 c197, rfl⟩⟩⟩
            · have c173 := et_b1 hi137.2.2.2 c173
              refine lv_aload_n hx hb dX1_init_176 rfl (lv_at hl 1 rfl) ?_
              refine va_get (D := D) (ci := 1) (C := RX1) (T := TX1) (N := 14) hx hb hts hU hown hK hP 0 rfl rfl 2 (by decide) hf_kind (fun _ h9 => h9) rfl dX1_init_177 ?_
              refine lv_iload hx hb dX1_init_180 (lv_at hl 6 rfl) ?_
              refine lv_iconst (v := 0) hx hb dX1_init_182 (by decide) ?_
              refine eb_iast hx hb hK hP hD hS 1 0 rfl rfl (k) (by omega) (by decide) dX1_init_183 (fun H locs hP hD hS => ?_)
              have hP : va_P D vwCl ([(h0, .inr (1, [.int (nI (et_cl 3 a1)), .int (nI (et_cl 48 a3)), .ref q1, .ref q2, .ref q3, .ref q4, .ref q5, .ref q6, .ref q7, .ref q8, .ref q9, .int 0, .int 0, .int 0])), (q1, .inl (c1, 3, .inl (upd (upd kd1 k (nI (d % 3))) k 0))), (q2, .inl (c2, 24, .inl (fun _ => 0))), (q3, .inl (c3, 24, .inl (fun _ => 0))), (q4, .inl (c4, 24, .inl (fun _ => 0))), (q5, .inl (c5, 72, .inr (.inl (fun _ => 0)))), (q6, .inl (c6, 72, .inr (.inl (fun _ => 0)))), (q7, .inl (c7, 3, .inr (.inl (fun _ => 0)))), (q8, .inl (c8, 3, .inr (.inl (fun _ => 0)))), (q9, .inl (c9, 3, .inr (.inl (fun _ => 0))))]) H := hP
              have hD : va_D A ([(h0, .inr (1, [.int (nI (et_cl 3 a1)), .int (nI (et_cl 48 a3)), .ref q1, .ref q2, .ref q3, .ref q4, .ref q5, .ref q6, .ref q7, .ref q8, .ref q9, .int 0, .int 0, .int 0])), (q1, .inl (c1, 3, .inl (upd (upd kd1 k (nI (d % 3))) k 0))), (q2, .inl (c2, 24, .inl (fun _ => 0))), (q3, .inl (c3, 24, .inl (fun _ => 0))), (q4, .inl (c4, 24, .inl (fun _ => 0))), (q5, .inl (c5, 72, .inr (.inl (fun _ => 0)))), (q6, .inl (c6, 72, .inr (.inl (fun _ => 0)))), (q7, .inl (c7, 3, .inr (.inl (fun _ => 0)))), (q8, .inl (c8, 3, .inr (.inl (fun _ => 0)))), (q9, .inl (c9, 3, .inr (.inl (fun _ => 0))))]) := hD
              refine lv_iload hx hb dX1_init_184 (lv_at hl 5 rfl) ?_
              refine lv_if_ne (tgt := 200) hx hb dX1_init_186 (by decide) (fun c186 => ?_) (fun c186 => ?_)
              · have c186 := et_b1 hi137.2.2.2 c186
                refine lv_iconst (v := 1) hx hb dX1_init_200 (by decide) ?_
                refine lv_goto (tgt := 205) hx hb dX1_init_201 (by decide) ?_
                refine lv_istore hx hb dX1_init_205 hl (by decide) rfl (fun ls hl => ?_)
                have hl : lv_has ls 7 [(5, .int 1), (4, .int (nI (d / 3))), (0, .ref h0), (1, .int a1), (2, .int a2), (3, .int a3), (6, .int (nI k))] := hl
                refine lv_iinc (k := 6) (v := nI (k + 1)) hx hb dX1_init_207 hl rfl (nI_add k 1) (by decide) rfl (fun ls hl => ?_)
                have hl : lv_has ls 7 [(6, .int (nI (k + 1))), (5, .int 1), (4, .int (nI (d / 3))), (0, .ref h0), (1, .int a1), (2, .int a2), (3, .int a3)] := hl
                refine lv_goto (tgt := 137) hx hb dX1_init_210 (by decide) ?_
                obtain ⟨g1, g2, g3, g4⟩ := hi137
                subst g2
                exact hrec137 ls H locs (by omega) ⟨(upd (upd kd1 k (nI (et_d0 a2 / 3 ^ k % 3))) k 0), (et_d0 a2 / 3 ^ k / 3), 1, lv_sub hl [3, 4, 5, 6, 2, 1, 0] rfl, hP, hD, hS, ⟨by rw [et_uu, g1]; exact et_kf_s (by first | contradiction | (exfalso; omega) | exact et_kv_1 c168 c173 | exact et_kv_1 c168 c186 | exact et_kv_1 c173 c168 | exact et_kv_1 c173 c186 | exact et_kv_1 c186 c168 | exact et_kv_1 c186 c173 | exact et_kv_2 c168 | exact et_kv_2 c173 | exact et_kv_2 c186 | exact et_kv_3 c168 | exact et_kv_3 c173 | exact et_kv_3 c186), et_dg_s, Nat.lt_of_le_of_lt (Nat.div_le_self _ _) g3, by first | contradiction | (exfalso; omega) | exact Or.inl ⟨by first | exact et_hp_k c168 | exact et_hp_k c173 | exact et_hp_k c186 | exact et_hp_1 c168 | exact et_hp_1 c173 | exact et_hp_1 c186, rfl⟩⟩⟩
              · have c186 := et_b0 hi137.2.2.2 c186
                refine lv_aload_n hx hb dX1_init_189 rfl (lv_at hl 1 rfl) ?_
                refine va_get (D := D) (ci := 1) (C := RX1) (T := TX1) (N := 14) hx hb hts hU hown hK hP 0 rfl rfl 2 (by decide) hf_kind (fun _ h9 => h9) rfl dX1_init_190 ?_
                refine lv_iload hx hb dX1_init_193 (lv_at hl 6 rfl) ?_
                refine eb_iald hx hb hK hP 1 0 rfl rfl (k) (by omega) (by decide) dX1_init_195 ?_
                refine eb_ti (0) (pk_us) ?_
                refine lv_iconst (v := 1) hx hb dX1_init_196 (by decide) ?_
                refine lv_icmp_ne (tgt := 204) hx hb dX1_init_197 (by decide) (fun c197 => ?_) (fun c197 => ?_)
                · have c197 : ¬ nI 0 = nI 1 := c197
                  rw [nI_eq (by omega) (by omega)] at c197
                  refine lv_iconst (v := 0) hx hb dX1_init_204 (by decide) ?_
                  refine lv_istore hx hb dX1_init_205 hl (by decide) rfl (fun ls hl => ?_)
                  have hl : lv_has ls 7 [(5, .int 0), (4, .int (nI (d / 3))), (0, .ref h0), (1, .int a1), (2, .int a2), (3, .int a3), (6, .int (nI k))] := hl
                  refine lv_iinc (k := 6) (v := nI (k + 1)) hx hb dX1_init_207 hl rfl (nI_add k 1) (by decide) rfl (fun ls hl => ?_)
                  have hl : lv_has ls 7 [(6, .int (nI (k + 1))), (5, .int 0), (4, .int (nI (d / 3))), (0, .ref h0), (1, .int a1), (2, .int a2), (3, .int a3)] := hl
                  refine lv_goto (tgt := 137) hx hb dX1_init_210 (by decide) ?_
                  obtain ⟨g1, g2, g3, g4⟩ := hi137
                  subst g2
                  exact hrec137 ls H locs (by omega) ⟨(upd (upd kd1 k (nI (et_d0 a2 / 3 ^ k % 3))) k 0), (et_d0 a2 / 3 ^ k / 3), 0, lv_sub hl [3, 4, 5, 6, 2, 1, 0] rfl, hP, hD, hS, ⟨by rw [et_uu, g1]; exact et_kf_s (by first | contradiction | (exfalso; omega) | exact et_kv_1 c168 c173 | exact et_kv_1 c168 c186 | exact et_kv_1 c168 c197 | exact et_kv_1 c173 c168 | exact et_kv_1 c173 c186 | exact et_kv_1 c173 c197 | exact et_kv_1 c186 c168 | exact et_kv_1 c186 c173 | exact et_kv_1 c186 c197 | exact et_kv_1 c197 c168 | exact et_kv_1 c197 c173 | exact et_kv_1 c197 c186 | exact et_kv_2 c168 | exact et_kv_2 c173 | exact et_kv_2 c186 | exact et_kv_2 c197 | exact et_kv_3 c168 | exact et_kv_3 c173 | exact et_kv_3 c186 | exact et_kv_3 c197), et_dg_s, Nat.lt_of_le_of_lt (Nat.div_le_self _ _) g3, by first | contradiction | (exfalso; omega) | exact Or.inr ⟨by first | exact et_hp_n c168 c173 | exact et_hp_n c168 c186 | exact et_hp_n c168 c197 | exact et_hp_n c173 c168 | exact et_hp_n c173 c186 | exact et_hp_n c173 c197 | exact et_hp_n c186 c168 | exact et_hp_n c186 c173 | exact et_hp_n c186 c197 | exact et_hp_n c197 c168 | exact et_hp_n c197 c173 | exact et_hp_n c197 c186, rfl⟩⟩⟩
                · have c197 : nI 0 = nI 1 := c197
                  rw [nI_eq (by omega) (by omega)] at c197
                  refine lv_iconst (v := 1) hx hb dX1_init_200 (by decide) ?_
                  refine lv_goto (tgt := 205) hx hb dX1_init_201 (by decide) ?_
                  refine lv_istore hx hb dX1_init_205 hl (by decide) rfl (fun ls hl => ?_)
                  have hl : lv_has ls 7 [(5, .int 1), (4, .int (nI (d / 3))), (0, .ref h0), (1, .int a1), (2, .int a2), (3, .int a3), (6, .int (nI k))] := hl
                  refine lv_iinc (k := 6) (v := nI (k + 1)) hx hb dX1_init_207 hl rfl (nI_add k 1) (by decide) rfl (fun ls hl => ?_)
                  have hl : lv_has ls 7 [(6, .int (nI (k + 1))), (5, .int 1), (4, .int (nI (d / 3))), (0, .ref h0), (1, .int a1), (2, .int a2), (3, .int a3)] := hl
                  refine lv_goto (tgt := 137) hx hb dX1_init_210 (by decide) ?_
                  obtain ⟨g1, g2, g3, g4⟩ := hi137
                  subst g2
                  exact hrec137 ls H locs (by omega) ⟨(upd (upd kd1 k (nI (et_d0 a2 / 3 ^ k % 3))) k 0), (et_d0 a2 / 3 ^ k / 3), 1, lv_sub hl [3, 4, 5, 6, 2, 1, 0] rfl, hP, hD, hS, ⟨by rw [et_uu, g1]; exact et_kf_s (by first | contradiction | (exfalso; omega) | exact et_kv_1 c168 c173 | exact et_kv_1 c168 c186 | exact et_kv_1 c168 c197 | exact et_kv_1 c173 c168 | exact et_kv_1 c173 c186 | exact et_kv_1 c173 c197 | exact et_kv_1 c186 c168 | exact et_kv_1 c186 c173 | exact et_kv_1 c186 c197 | exact et_kv_1 c197 c168 | exact et_kv_1 c197 c173 | exact et_kv_1 c197 c186 | exact et_kv_2 c168 | exact et_kv_2 c173 | exact et_kv_2 c186 | exact et_kv_2 c197 | exact et_kv_3 c168 | exact et_kv_3 c173 | exact et_kv_3 c186 | exact et_kv_3 c197), et_dg_s, Nat.lt_of_le_of_lt (Nat.div_le_self _ _) g3, by first | contradiction | (exfalso; omega) | exact Or.inl ⟨by first | exact et_hp_k c168 | exact et_hp_k c173 | exact et_hp_k c186 | exact et_hp_k c197 | exact et_hp_1 c168 | exact et_hp_1 c173 | exact et_hp_1 c186 | exact et_hp_1 c197, rfl⟩⟩⟩

