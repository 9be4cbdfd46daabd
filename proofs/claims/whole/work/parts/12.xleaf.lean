set_option maxHeartbeats 4000000 in
set_option maxRecDepth 100000 in
theorem tX_isNumber (l : Launch) (D : va_G) (q : Nat → Nat) (cs : Nat → ClassId) {K E : Nat} {wd : Int32} {ab : Int64} {kd : Nat → Int32} {dv dm : Nat → Int64} {ord : Nat → Int32} {nn ms : Int32} {nums pris pres fins : Nat → Int32} {vals msks : Nat → Int64} (x : Int64) : eb_MI l D vwCl (XTy cs) yX0_isNumber wsX0_isNumber { frames := 0, cells := 0, slots := 0, locals := 0 } [.ref (q 0), .long x] (XW q cs (nI K) wd ab kd dv dm ord (nI E) nn ms nums pris pres fins vals msks) (fun r w1 => w1 = XW q cs (nI K) wd ab kd dv dm ord (nI E) nn ms nums pris pres fins vals msks ∧ ((et_num ab x ∧ r = 1) ∨ (¬ (et_num ab x) ∧ r = 0))) := by
  refine eb_openI (cc := cX0_isNumber) (maxL := 3) (ret := (some .boolean)) (by decide +kernel) rfl (Nat.le_of_ble_eq_true rfl) ?_
  intro p e s m below meth c A ls H locs hx hb hr hts hown hlk hml hP hK hD hA hS hl
  have hU : ∀ w ∈ wsX00, w ∈ wsX0_isNumber := fun w h => List.mem_cons_of_mem _ (List.mem_append_right _ h)
  have hf_allBits := hts (.fieldLink RX0 66 "EntryTable" "allBits" "J") (by decide +kernel)
  have hl : lv_has ls 3 [(0, .ref (q 0)), (1, .long x)] := hl
  refine lv_lload_n hx hb dX0_isNumber_0 rfl (lv_at hl 1 rfl) ?_
  refine lv_lconst (v := 0) hx hb dX0_isNumber_1 (by decide) ?_
  refine W.lcmp hx hb dX0_isNumber_2 ?_
  refine lv_if_lt (tgt := 19) hx hb dX0_isNumber_3 (by decide) (fun c3 => ?_) (fun c3 => ?_)
  · rw [lg_cmp_lt, ← Int64.not_le] at c3
    refine lv_iconst (v := 0) hx hb dX0_isNumber_19 (by decide) ?_
    refine eb_zret hx hb hr hlk hK hP hD hS dX0_isNumber_20 (by decide) ?_
    exact ⟨rfl, Or.inr ⟨by simp only [et_num, c3, true_and, and_true, true_or, or_true, false_and, and_false, false_or, or_false, if_true, if_false, not_true_eq_false, not_false_eq_true, implies_true], rfl⟩⟩
  · rw [lg_cmp_lt, Int64.not_lt] at c3
    refine lv_lload_n hx hb dX0_isNumber_6 rfl (lv_at hl 1 rfl) ?_
    refine lv_aload_n hx hb dX0_isNumber_7 rfl (lv_at hl 0 rfl) ?_
    refine va_get (D := D) (ci := 0) (C := RX0) (T := TX0) (N := 16) hx hb hts hU hown hK hP 0 rfl rfl 2 (by decide) hf_allBits (fun _ h9 => h9) rfl dX0_isNumber_8 ?_
    refine W.lcmp hx hb dX0_isNumber_11 ?_
    refine lv_if_gt (tgt := 19) hx hb dX0_isNumber_12 (by decide) (fun c12 => ?_) (fun c12 => ?_)
    · rw [lg_cmp_gt, ← Int64.not_le] at c12
      refine lv_iconst (v := 0) hx hb dX0_isNumber_19 (by decide) ?_
      refine eb_zret hx hb hr hlk hK hP hD hS dX0_isNumber_20 (by decide) ?_
      exact ⟨rfl, Or.inr ⟨by simp only [et_num, c3, c12, true_and, and_true, true_or, or_true, false_and, and_false, false_or, or_false, if_true, if_false, not_true_eq_false, not_false_eq_true, implies_true], rfl⟩⟩
    · rw [lg_cmp_gt, Int64.not_lt] at c12
      refine lv_iconst (v := 1) hx hb dX0_isNumber_15 (by decide) ?_
      refine lv_goto (tgt := 20) hx hb dX0_isNumber_16 (by decide) ?_
      refine eb_zret hx hb hr hlk hK hP hD hS dX0_isNumber_20 (by decide) ?_
      exact ⟨rfl, Or.inl ⟨by simp only [et_num, c3, c12, true_and, and_true, true_or, or_true, false_and, and_false, false_or, or_false, if_true, if_false, not_true_eq_false, not_false_eq_true, implies_true], rfl⟩⟩

set_option maxHeartbeats 4000000 in
set_option maxRecDepth 100000 in
theorem tX_draftBits (l : Launch) (D : va_G) (q : Nat → Nat) (cs : Nat → ClassId) {K E : Nat} {wd : Int32} {ab : Int64} {kd : Nat → Int32} {dv dm : Nat → Int64} {ord : Nat → Int32} {nn ms : Int32} {nums pris pres fins : Nat → Int32} {vals msks : Nat → Int64} (k : Nat) (hk : k < 3) : eb_ML l D vwCl (XTy cs) yX0_draftBits wsX0_draftBits { frames := 0, cells := 0, slots := 0, locals := 0 } [.ref (q 0), .int (nI k)] (XW q cs (nI K) wd ab kd dv dm ord (nI E) nn ms nums pris pres fins vals msks) (fun r w1 => w1 = XW q cs (nI K) wd ab kd dv dm ord (nI E) nn ms nums pris pres fins vals msks ∧ r = et_db ab (kd k) (dm k)) := by
  refine eb_openL (cc := cX0_draftBits) (maxL := 2) (ret := (some .long)) (by decide +kernel) rfl (Nat.le_of_ble_eq_true rfl) ?_
  intro p e s m below meth c A ls H locs hx hb hr hts hown hlk hml hP hK hD hA hS hl
  have hU : ∀ w ∈ wsX00, w ∈ wsX0_draftBits := fun w h => List.mem_cons_of_mem _ (List.mem_append_right _ h)
  have hf_kinds := hts (.fieldLink RX0 9 "EntryTable" "kinds" "[I") (by decide +kernel)
  have hf_draftMasks := hts (.fieldLink RX0 17 "EntryTable" "draftMasks" "[J") (by decide +kernel)
  have hf_allBits := hts (.fieldLink RX0 66 "EntryTable" "allBits" "J") (by decide +kernel)
  have hl : lv_has ls 2 [(0, .ref (q 0)), (1, .int (nI k))] := hl
  refine lv_aload_n hx hb dX0_draftBits_0 rfl (lv_at hl 0 rfl) ?_
  refine va_get (D := D) (ci := 0) (C := RX0) (T := TX0) (N := 16) hx hb hts hU hown hK hP 0 rfl rfl 3 (by decide) hf_kinds (fun _ h9 => h9) rfl dX0_draftBits_1 ?_
  refine lv_iload_n hx hb dX0_draftBits_4 rfl (lv_at hl 1 rfl) ?_
  refine eb_iald hx hb hK hP 1 0 rfl rfl (k) (by omega) (by decide) dX0_draftBits_5 ?_
  refine lv_if_ne (tgt := 14) hx hb dX0_draftBits_6 (by decide) (fun c6 => ?_) (fun c6 => ?_)
  · refine lv_aload_n hx hb dX0_draftBits_14 rfl (lv_at hl 0 rfl) ?_
    refine va_get (D := D) (ci := 0) (C := RX0) (T := TX0) (N := 16) hx hb hts hU hown hK hP 0 rfl rfl 3 (by decide) hf_kinds (fun _ h9 => h9) rfl dX0_draftBits_15 ?_
    refine lv_iload_n hx hb dX0_draftBits_18 rfl (lv_at hl 1 rfl) ?_
    refine eb_iald hx hb hK hP 1 0 rfl rfl (k) (by omega) (by decide) dX0_draftBits_19 ?_
    refine lv_iconst (v := 1) hx hb dX0_draftBits_20 (by decide) ?_
    refine lv_icmp_ne (tgt := 42) hx hb dX0_draftBits_21 (by decide) (fun c21 => ?_) (fun c21 => ?_)
    · refine lv_aload_n hx hb dX0_draftBits_42 rfl (lv_at hl 0 rfl) ?_
      refine va_get (D := D) (ci := 0) (C := RX0) (T := TX0) (N := 16) hx hb hts hU hown hK hP 0 rfl rfl 5 (by decide) hf_draftMasks (fun _ h9 => h9) rfl dX0_draftBits_43 ?_
      refine lv_iload_n hx hb dX0_draftBits_46 rfl (lv_at hl 1 rfl) ?_
      refine eb_lald hx hb hK hP 3 2 rfl rfl (k) (by omega) (by decide) dX0_draftBits_47 ?_
      refine eb_lret hx hb hr hlk hK hP hD hS dX0_draftBits_48 ?_
      exact ⟨rfl, by unfold et_db; rw [if_neg c6, if_neg c21]⟩
    · refine lv_aload_n hx hb dX0_draftBits_24 rfl (lv_at hl 0 rfl) ?_
      refine va_get (D := D) (ci := 0) (C := RX0) (T := TX0) (N := 16) hx hb hts hU hown hK hP 0 rfl rfl 2 (by decide) hf_allBits (fun _ h9 => h9) rfl dX0_draftBits_25 ?_
      refine lv_aload_n hx hb dX0_draftBits_28 rfl (lv_at hl 0 rfl) ?_
      refine va_get (D := D) (ci := 0) (C := RX0) (T := TX0) (N := 16) hx hb hts hU hown hK hP 0 rfl rfl 2 (by decide) hf_allBits (fun _ h9 => h9) rfl dX0_draftBits_29 ?_
      refine lv_aload_n hx hb dX0_draftBits_32 rfl (lv_at hl 0 rfl) ?_
      refine va_get (D := D) (ci := 0) (C := RX0) (T := TX0) (N := 16) hx hb hts hU hown hK hP 0 rfl rfl 5 (by decide) hf_draftMasks (fun _ h9 => h9) rfl dX0_draftBits_33 ?_
      refine lv_iload_n hx hb dX0_draftBits_36 rfl (lv_at hl 1 rfl) ?_
      refine eb_lald hx hb hK hP 3 2 rfl rfl (k) (by omega) (by decide) dX0_draftBits_37 ?_
      refine lv_l2i hx hb dX0_draftBits_38 rfl ?_
      refine lv_lushr hx hb dX0_draftBits_39 rfl ?_
      refine lv_lxor hx hb dX0_draftBits_40 ?_
      refine eb_lret hx hb hr hlk hK hP hD hS dX0_draftBits_41 ?_
      exact ⟨rfl, by unfold et_db; rw [if_neg c6, if_pos c21]⟩
  · refine lv_aload_n hx hb dX0_draftBits_9 rfl (lv_at hl 0 rfl) ?_
    refine va_get (D := D) (ci := 0) (C := RX0) (T := TX0) (N := 16) hx hb hts hU hown hK hP 0 rfl rfl 2 (by decide) hf_allBits (fun _ h9 => h9) rfl dX0_draftBits_10 ?_
    refine eb_lret hx hb hr hlk hK hP hD hS dX0_draftBits_13 ?_
    exact ⟨rfl, by unfold et_db; rw [if_pos c6]⟩

set_option maxHeartbeats 4000000 in
set_option maxRecDepth 100000 in
theorem tX_fits (l : Launch) (D : va_G) (q : Nat → Nat) (cs : Nat → ClassId) {K E : Nat} {wd : Int32} {ab : Int64} {kd : Nat → Int32} {dv dm : Nat → Int64} {ord : Nat → Int32} {nn ms : Int32} {nums pris pres fins : Nat → Int32} {vals msks : Nat → Int64} (s0 k : Nat) (hs0 : s0 < 24) (hk : k < 3) (x : Int64) : eb_MI l D vwCl (XTy cs) yX0_fits wsX0_fits { frames := 0, cells := 0, slots := 0, locals := 0 } [.ref (q 0), .int (nI s0), .int (nI k), .long x] (XW q cs (nI K) wd ab kd dv dm ord (nI E) nn ms nums pris pres fins vals msks) (fun r w1 => w1 = XW q cs (nI K) wd ab kd dv dm ord (nI E) nn ms nums pris pres fins vals msks ∧ ((x &&& msks (s0 * 3 + k) = vals (s0 * 3 + k) ∧ r = 1) ∨ (¬ (x &&& msks (s0 * 3 + k) = vals (s0 * 3 + k)) ∧ r = 0))) := by
  refine eb_openI (cc := cX0_fits) (maxL := 6) (ret := (some .boolean)) (by decide +kernel) rfl (Nat.le_of_ble_eq_true rfl) ?_
  intro p e s m below meth c A ls H locs hx hb hr hts hown hlk hml hP hK hD hA hS hl
  have hU : ∀ w ∈ wsX00, w ∈ wsX0_fits := fun w h => List.mem_cons_of_mem _ (List.mem_append_right _ h)
  have hf_masks := hts (.fieldLink RX0 48 "EntryTable" "masks" "[J") (by decide +kernel)
  have hf_values := hts (.fieldLink RX0 45 "EntryTable" "values" "[J") (by decide +kernel)
  have hl : lv_has ls 6 [(0, .ref (q 0)), (1, .int (nI s0)), (2, .int (nI k)), (3, .long x)] := hl
  refine lv_iload_n hx hb dX0_fits_0 rfl (lv_at hl 1 rfl) ?_
  refine lv_iconst (v := 3) hx hb dX0_fits_1 (by decide) ?_
  refine lv_imul hx hb dX0_fits_2 ?_
  refine eb_ti (nI (s0 * 3)) (pk_mul s0 3) ?_
  refine lv_iload_n hx hb dX0_fits_3 rfl (lv_at hl 2 rfl) ?_
  refine lv_iadd hx hb dX0_fits_4 ?_
  refine eb_ti (nI ((s0 * 3) + k)) (nI_add (s0 * 3) k) ?_
  refine lv_istore hx hb dX0_fits_5 hl (by decide) rfl (fun ls hl => ?_)
  have hl : lv_has ls 6 [(5, .int (nI ((s0 * 3) + k))), (0, .ref (q 0)), (1, .int (nI s0)), (2, .int (nI k)), (3, .long x)] := hl
  refine lv_lload_n hx hb dX0_fits_7 rfl (lv_at hl 4 rfl) ?_
  refine lv_aload_n hx hb dX0_fits_8 rfl (lv_at hl 1 rfl) ?_
  refine va_get (D := D) (ci := 0) (C := RX0) (T := TX0) (N := 16) hx hb hts hU hown hK hP 0 rfl rfl 15 (by decide) hf_masks (fun _ h9 => h9) rfl dX0_fits_9 ?_
  refine lv_iload hx hb dX0_fits_12 (lv_at hl 0 rfl) ?_
  refine eb_lald hx hb hK hP 10 9 rfl rfl ((s0 * 3) + k) (by omega) (by decide) dX0_fits_14 ?_
  refine lv_land hx hb dX0_fits_15 ?_
  refine lv_aload_n hx hb dX0_fits_16 rfl (lv_at hl 1 rfl) ?_
  refine va_get (D := D) (ci := 0) (C := RX0) (T := TX0) (N := 16) hx hb hts hU hown hK hP 0 rfl rfl 14 (by decide) hf_values (fun _ h9 => h9) rfl dX0_fits_17 ?_
  refine lv_iload hx hb dX0_fits_20 (lv_at hl 0 rfl) ?_
  refine eb_lald hx hb hK hP 9 8 rfl rfl ((s0 * 3) + k) (by omega) (by decide) dX0_fits_22 ?_
  refine W.lcmp hx hb dX0_fits_23 ?_
  refine lv_if_ne (tgt := 31) hx hb dX0_fits_24 (by decide) (fun c24 => ?_) (fun c24 => ?_)
  · rw [lg_cmp_eq] at c24
    refine lv_iconst (v := 0) hx hb dX0_fits_31 (by decide) ?_
    refine eb_zret hx hb hr hlk hK hP hD hS dX0_fits_32 (by decide) ?_
    exact ⟨rfl, Or.inr ⟨by simp only [c24, true_and, and_true, true_or, or_true, false_and, and_false, false_or, or_false, if_true, if_false, not_true_eq_false, not_false_eq_true, implies_true], rfl⟩⟩
  · rw [lg_cmp_eq] at c24
    refine lv_iconst (v := 1) hx hb dX0_fits_27 (by decide) ?_
    refine lv_goto (tgt := 32) hx hb dX0_fits_28 (by decide) ?_
    refine eb_zret hx hb hr hlk hK hP hD hS dX0_fits_32 (by decide) ?_
    exact ⟨rfl, Or.inl ⟨by simp only [c24, true_and, and_true, true_or, or_true, false_and, and_false, false_or, or_false, if_true, if_false, not_true_eq_false, not_false_eq_true, implies_true], rfl⟩⟩

