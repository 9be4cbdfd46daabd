set_option maxHeartbeats 4000000 in
set_option maxRecDepth 100000 in
theorem tX_isNumber (l : Launch) (D : va_G) (q : Nat → Nat) (cs : Nat → ClassId) {K E : Nat} {wd : Int32} {ab : Int64} {kd : Nat → Int32} {dv dm : Nat → Int64} {ord : Nat → Int32} {nn ms : Int32} {nums pris pres fins : Nat → Int32} {vals msks : Nat → Int64} (x : Int64) : eb_MI l D vwCl (XTy cs) yX0_isNumber wsX0_isNumber { frames := 0, cells := 0, slots := 0, locals := 0 } [.ref (q 0), .long x] (XW q cs (nI K) wd ab kd dv dm ord (nI E) nn ms nums pris pres fins vals msks) (fun r w1 => w1 = XW q cs (nI K) wd ab kd dv dm ord (nI E) nn ms nums pris pres fins vals msks ∧ (((et_num ab x) ∧ r = 1) ∨ (¬ (et_num ab x) ∧ r = 0))) := by
  refine eb_openI (cc := cX0_isNumber) (maxL := 3) (ret := (some .boolean)) (by decide +kernel) rfl (Nat.le_of_ble_eq_true rfl) ?_
  intro p e s m below meth c A ls H locs hx hb hr hts hown hlk hml hP hK hD hA hS hl
  have hU : ∀ w ∈ wsX00, w ∈ wsX0_isNumber := fun w h => List.mem_cons_of_mem _ (List.mem_append_right _ h)
  have hf_allBits := hts (.fieldLink RX0 66 "EntryTable" "allBits" "J") (by decide +kernel)
  have hl : lv_has ls 3 [(0, .ref (q 0)), (1, .long x)] := hl
  refine lv_lload_n hx hb dX0_isNumber_0 rfl (lv_at hl 1 rfl) ?_
  refine lv_lconst (v := 0) hx hb dX0_isNumber_1 (by decide) ?_
  refine W.lcmp hx hb dX0_isNumber_2 ?_
  refine lv_if_lt (tgt := 19) hx hb dX0_isNumber_3 (by decide) (fun c3 => ?_) (fun c3 => ?_)
  · rw [lg_cmp_lt, ← Int64.not_le] at c3
    refine lv_iconst (v := 0) hx hb dX0_isNumber_19 (by decide) ?_
    refine eb_zret hx hb hr hlk hK hP hD hS dX0_isNumber_20 (by decide) ?_
    exact ⟨rfl, Or.inr ⟨by simp only [et_num, c3, true_and, and_true, true_or, or_true, false_and, and_false, false_or, or_false, if_true, if_false, not_true_eq_false, not_false_eq_true, implies_true], rfl⟩⟩
  · rw [lg_cmp_lt, Int64.not_lt] at c3
    refine lv_lload_n hx hb dX0_isNumber_6 rfl (lv_at hl 1 rfl) ?_
    refine lv_aload_n hx hb dX0_isNumber_7 rfl (lv_at hl 0 rfl) ?_
    refine va_get (D := D) (ci := 0) (C := RX0) (T := TX0) (N := 16) hx hb hts hU hown hK hP 0 rfl rfl 2 (by decide) hf_allBits (fun _ h9 => h9) rfl dX0_isNumber_8 ?_
    refine W.lcmp hx hb dX0_isNumber_11 ?_
    refine lv_if_gt (tgt := 19) hx hb dX0_isNumber_12 (by decide) (fun c12 => ?_) (fun c12 => ?_)
    · rw [lg_cmp_gt, ← Int64.not_le] at c12
      refine lv_iconst (v := 0) hx hb dX0_isNumber_19 (by decide) ?_
      refine eb_zret hx hb hr hlk hK hP hD hS dX0_isNumber_20 (by decide) ?_
      exact ⟨rfl, Or.inr ⟨by simp only [et_num, c3, c12, true_and, and_true, true_or, or_true, false_and, and_false, false_or, or_false, if_true, if_false, not_true_eq_false, not_false_eq_true, implies_true], rfl⟩⟩
    · rw [lg_cmp_gt, Int64.not_lt] at c12
      refine lv_iconst (v := 1) hx hb dX0_isNumber_15 (by decide) ?_
      refine lv_goto (tgt := 20) hx hb dX0_isNumber_16 (by decide) ?_
      refine eb_zret hx hb hr hlk hK hP hD hS dX0_isNumber_20 (by decide) ?_
      exact ⟨rfl, Or.inl ⟨by simp only [et_num, c3, c12, true_and, and_true, true_or, or_true, false_and, and_false, false_or, or_false, if_true, if_false, not_true_eq_false, not_false_eq_true, implies_true], rfl⟩⟩

set_option maxHeartbeats 4000000 in
set_option maxRecDepth 100000 in
theorem tX_draftBits (l : Launch) (D : va_G) (q : Nat → Nat) (cs : Nat → ClassId) {K E : Nat} {wd : Int32} {ab : Int64} {kd : Nat → Int32} {dv dm : Nat → Int64} {ord : Nat → Int32} {nn ms : Int32} {nums pris pres fins : Nat → Int32} {vals msks : Nat → Int64} (k : Nat) (hk : k < 3) : eb_ML l D vwCl (XTy cs) yX0_draftBits wsX0_draftBits { frames := 0, cells := 0, slots := 0, locals := 0 } [.ref (q 0), .int (nI k)] (XW q cs (nI K) wd ab kd dv dm ord (nI E) nn ms nums pris pres fins vals msks) (fun r w1 => w1 = XW q cs (nI K) wd ab kd dv dm ord (nI E) nn ms nums pris pres fins vals msks ∧ r = et_db ab (kd k) (dm k)) := by
  refine eb_openL (cc := cX0_draftBits) (maxL := 2) (ret := (some .long)) (by decide +kernel) rfl (Nat.le_of_ble_eq_true rfl) ?_
  intro p e s m below meth c A ls H locs hx hb hr hts hown hlk hml hP hK hD hA hS hl
  have hU : ∀ w ∈ wsX00, w ∈ wsX0_draftBits := fun w h => List.mem_cons_of_mem _ (List.mem_append_right _ h)
  have hf_kinds := hts (.fieldLink RX0 9 "EntryTable" "kinds" "[I") (by decide +kernel)
  have hf_draftMasks := hts (.fieldLink RX0 17 "EntryTable" "draftMasks" "[J") (by decide +kernel)
  have hf_allBits := hts (.fieldLink RX0 66 "EntryTable" "allBits" "J") (by decide +kernel)
  have hl : lv_has ls 2 [(0, .ref (q 0)), (1, .int (nI k))] := hl
  refine lv_aload_n hx hb dX0_draftBits_0 rfl (lv_at hl 0 rfl) ?_
  refine va_get (D := D) (ci := 0) (C := RX0) (T := TX0) (N := 16) hx hb hts hU hown hK hP 0 rfl rfl 3 (by decide) hf_kinds (fun _ h9 => h9) rfl dX0_draftBits_1 ?_
  refine lv_iload_n hx hb dX0_draftBits_4 rfl (lv_at hl 1 rfl) ?_
  refine eb_iald hx hb hK hP 1 0 rfl rfl (k) (by omega) (by decide) dX0_draftBits_5 ?_
  refine lv_if_ne (tgt := 14) hx hb dX0_draftBits_6 (by decide) (fun c6 => ?_) (fun c6 => ?_)
  · refine lv_aload_n hx hb dX0_draftBits_14 rfl (lv_at hl 0 rfl) ?_
    refine va_get (D := D) (ci := 0) (C := RX0) (T := TX0) (N := 16) hx hb hts hU hown hK hP 0 rfl rfl 3 (by decide) hf_kinds (fun _ h9 => h9) rfl dX0_draftBits_15 ?_
    refine lv_iload_n hx hb dX0_draftBits_18 rfl (lv_at hl 1 rfl) ?_
    refine eb_iald hx hb hK hP 1 0 rfl rfl (k) (by omega) (by decide) dX0_draftBits_19 ?_
    refine lv_iconst (v := 1) hx hb dX0_draftBits_20 (by decide) ?_
    refine lv_icmp_ne (tgt := 42) hx hb dX0_draftBits_21 (by decide) (fun c21 => ?_) (fun c21 => ?_)
    · refine lv_aload_n hx hb dX0_draftBits_42 rfl (lv_at hl 0 rfl) ?_
      refine va_get (D := D) (ci := 0) (C := RX0) (T := TX0) (N := 16) hx hb hts hU hown hK hP 0 rfl rfl 5 (by decide) hf_draftMasks (fun _ h9 => h9) rfl dX0_draftBits_43 ?_
      refine lv_iload_n hx hb dX0_draftBits_46 rfl (lv_at hl 1 rfl) ?_
      refine eb_lald hx hb hK hP 3 2 rfl rfl (k) (by omega) (by decide) dX0_draftBits_47 ?_
      refine eb_lret hx hb hr hlk hK hP hD hS dX0_draftBits_48 ?_
      exact ⟨rfl, by unfold et_db; rw [if_neg c6, if_neg c21]⟩
    · refine lv_aload_n hx hb dX0_draftBits_24 rfl (lv_at hl 0 rfl) ?_
      refine va_get (D := D) (ci := 0) (C := RX0) (T := TX0) (N := 16) hx hb hts hU hown hK hP 0 rfl rfl 2 (by decide) hf_allBits (fun _ h9 => h9) rfl dX0_draftBits_25 ?_
      refine lv_aload_n hx hb dX0_draftBits_28 rfl (lv_at hl 0 rfl) ?_
      refine va_get (D := D) (ci := 0) (C := RX0) (T := TX0) (N := 16) hx hb hts hU hown hK hP 0 rfl rfl 2 (by decide) hf_allBits (fun _ h9 => h9) rfl dX0_draftBits_29 ?_
      refine lv_aload_n hx hb dX0_draftBits_32 rfl (lv_at hl 0 rfl) ?_
      refine va_get (D := D) (ci := 0) (C := RX0) (T := TX0) (N := 16) hx hb hts hU hown hK hP 0 rfl rfl 5 (by decide) hf_draftMasks (fun _ h9 => h9) rfl dX0_draftBits_33 ?_
      refine lv_iload_n hx hb dX0_draftBits_36 rfl (lv_at hl 1 rfl) ?_
      refine eb_lald hx hb hK hP 3 2 rfl rfl (k) (by omega) (by decide) dX0_draftBits_37 ?_
      refine lv_l2i hx hb dX0_draftBits_38 rfl ?_
      refine lv_lushr hx hb dX0_draftBits_39 rfl ?_
      refine lv_lxor hx hb dX0_draftBits_40 ?_
      refine eb_lret hx hb hr hlk hK hP hD hS dX0_draftBits_41 ?_
      exact ⟨rfl, by unfold et_db; rw [if_neg c6, if_pos c21]⟩
  · refine lv_aload_n hx hb dX0_draftBits_9 rfl (lv_at hl 0 rfl) ?_
    refine va_get (D := D) (ci := 0) (C := RX0) (T := TX0) (N := 16) hx hb hts hU hown hK hP 0 rfl rfl 2 (by decide) hf_allBits (fun _ h9 => h9) rfl dX0_draftBits_10 ?_
    refine eb_lret hx hb hr hlk hK hP hD hS dX0_draftBits_13 ?_
    exact ⟨rfl, by unfold et_db; rw [if_pos c6]⟩

set_option maxHeartbeats 4000000 in
set_option maxRecDepth 100000 in
theorem tX_fits (l : Launch) (D : va_G) (q : Nat → Nat) (cs : Nat → ClassId) {K E : Nat} {wd : Int32} {ab : Int64} {kd : Nat → Int32} {dv dm : Nat → Int64} {ord : Nat → Int32} {nn ms : Int32} {nums pris pres fins : Nat → Int32} {vals msks : Nat → Int64} (s0 k : Nat) (hs0 : s0 < 24) (hk : k < 3) (x : Int64) : eb_MI l D vwCl (XTy cs) yX0_fits wsX0_fits { frames := 0, cells := 0, slots := 0, locals := 0 } [.ref (q 0), .int (nI s0), .int (nI k), .long x] (XW q cs (nI K) wd ab kd dv dm ord (nI E) nn ms nums pris pres fins vals msks) (fun r w1 => w1 = XW q cs (nI K) wd ab kd dv dm ord (nI E) nn ms nums pris pres fins vals msks ∧ (((x &&& msks (s0 * 3 + k) = vals (s0 * 3 + k)) ∧ r = 1) ∨ (¬ (x &&& msks (s0 * 3 + k) = vals (s0 * 3 + k)) ∧ r = 0))) := by
  refine eb_openI (cc := cX0_fits) (maxL := 6) (ret := (some .boolean)) (by decide +kernel) rfl (Nat.le_of_ble_eq_true rfl) ?_
  intro p e s m below meth c A ls H locs hx hb hr hts hown hlk hml hP hK hD hA hS hl
  have hU : ∀ w ∈ wsX00, w ∈ wsX0_fits := fun w h => List.mem_cons_of_mem _ (List.mem_append_right _ h)
  have hf_masks := hts (.fieldLink RX0 48 "EntryTable" "masks" "[J") (by decide +kernel)
  have hf_values := hts (.fieldLink RX0 45 "EntryTable" "values" "[J") (by decide +kernel)
  have hl : lv_has ls 6 [(0, .ref (q 0)), (1, .int (nI s0)), (2, .int (nI k)), (3, .long x)] := hl
  refine lv_iload_n hx hb dX0_fits_0 rfl (lv_at hl 1 rfl) ?_
  refine lv_iconst (v := 3) hx hb dX0_fits_1 (by decide) ?_
  refine lv_imul hx hb dX0_fits_2 ?_
  refine eb_ti (nI (s0 * 3)) (pk_mul s0 3) ?_
  refine lv_iload_n hx hb dX0_fits_3 rfl (lv_at hl 2 rfl) ?_
  refine lv_iadd hx hb dX0_fits_4 ?_
  refine eb_ti (nI ((s0 * 3) + k)) (nI_add (s0 * 3) k) ?_
  refine lv_istore hx hb dX0_fits_5 hl (by decide) rfl (fun ls hl => ?_)
  have hl : lv_has ls 6 [(5, .int (nI ((s0 * 3) + k))), (0, .ref (q 0)), (1, .int (nI s0)), (2, .int (nI k)), (3, .long x)] := hl
  refine lv_lload_n hx hb dX0_fits_7 rfl (lv_at hl 4 rfl) ?_
  refine lv_aload_n hx hb dX0_fits_8 rfl (lv_at hl 1 rfl) ?_
  refine va_get (D := D) (ci := 0) (C := RX0) (T := TX0) (N := 16) hx hb hts hU hown hK hP 0 rfl rfl 15 (by decide) hf_masks (fun _ h9 => h9) rfl dX0_fits_9 ?_
  refine lv_iload hx hb dX0_fits_12 (lv_at hl 0 rfl) ?_
  refine eb_lald hx hb hK hP 10 9 rfl rfl ((s0 * 3) + k) (by omega) (by decide) dX0_fits_14 ?_
  refine lv_land hx hb dX0_fits_15 ?_
  refine lv_aload_n hx hb dX0_fits_16 rfl (lv_at hl 1 rfl) ?_
  refine va_get (D := D) (ci := 0) (C := RX0) (T := TX0) (N := 16) hx hb hts hU hown hK hP 0 rfl rfl 14 (by decide) hf_values (fun _ h9 => h9) rfl dX0_fits_17 ?_
  refine lv_iload hx hb dX0_fits_20 (lv_at hl 0 rfl) ?_
  refine eb_lald hx hb hK hP 9 8 rfl rfl ((s0 * 3) + k) (by omega) (by decide) dX0_fits_22 ?_
  refine W.lcmp hx hb dX0_fits_23 ?_
  refine lv_if_ne (tgt := 31) hx hb dX0_fits_24 (by decide) (fun c24 => ?_) (fun c24 => ?_)
  · rw [lg_cmp_eq] at c24
    refine lv_iconst (v := 0) hx hb dX0_fits_31 (by decide) ?_
    refine eb_zret hx hb hr hlk hK hP hD hS dX0_fits_32 (by decide) ?_
    exact ⟨rfl, Or.inr ⟨by simp only [c24, true_and, and_true, true_or, or_true, false_and, and_false, false_or, or_false, if_true, if_false, not_true_eq_false, not_false_eq_true, implies_true], rfl⟩⟩
  · rw [lg_cmp_eq] at c24
    refine lv_iconst (v := 1) hx hb dX0_fits_27 (by decide) ?_
    refine lv_goto (tgt := 32) hx hb dX0_fits_28 (by decide) ?_
    refine eb_zret hx hb hr hlk hK hP hD hS dX0_fits_32 (by decide) ?_
    exact ⟨rfl, Or.inl ⟨by simp only [eq_true c24, true_and, and_true, true_or, or_true, false_and, and_false, false_or, or_false, if_true, if_false, not_true_eq_false, not_false_eq_true, implies_true], rfl⟩⟩

set_option maxHeartbeats 4000000 in
set_option maxRecDepth 100000 in
theorem tX_isDraftKeySound (l : Launch) (D : va_G) (q : Nat → Nat) (cs : Nat → ClassId) {K E : Nat} {wd : Int32} {ab : Int64} {kd : Nat → Int32} {dv dm : Nat → Int64} {ord : Nat → Int32} {nn ms : Int32} {nums pris pres fins : Nat → Int32} {vals msks : Nat → Int64} (k : Nat) (hk : k < 3) : eb_MI l D vwCl (XTy cs) yX0_isDraftKeySound wsX0_isDraftKeySound { frames := 1, cells := 0, slots := 0, locals := 40 } [.ref (q 0), .int (nI k)] (XW q cs (nI K) wd ab kd dv dm ord (nI E) nn ms nums pris pres fins vals msks) (fun r w1 => w1 = XW q cs (nI K) wd ab kd dv dm ord (nI E) nn ms nums pris pres fins vals msks ∧ (((et_ks ab wd (kd k) (dv k) (dm k)) ∧ r = 1) ∨ (¬ (et_ks ab wd (kd k) (dv k) (dm k)) ∧ r = 0))) := by
  refine eb_openI (cc := cX0_isDraftKeySound) (maxL := 3) (ret := (some .boolean)) (by decide +kernel) rfl (Nat.le_of_ble_eq_true rfl) ?_
  intro p e s m below meth c A ls H locs hx hb hr hts hown hlk hml hP hK hD hA hS hl
  have hU : ∀ w ∈ wsX00, w ∈ wsX0_isDraftKeySound := fun w h => List.mem_cons_of_mem _ (List.mem_append_right _ h)
  have hf_draftValues := hts (.fieldLink RX0 13 "EntryTable" "draftValues" "[J") (by decide +kernel)
  have hf_kinds := hts (.fieldLink RX0 9 "EntryTable" "kinds" "[I") (by decide +kernel)
  have hf_draftMasks := hts (.fieldLink RX0 17 "EntryTable" "draftMasks" "[J") (by decide +kernel)
  have hf_width := hts (.fieldLink RX0 63 "EntryTable" "width" "I") (by decide +kernel)
  have hl : lv_has ls 3 [(0, .ref (q 0)), (1, .int (nI k))] := hl
  refine lv_aload_n hx hb dX0_isDraftKeySound_0 rfl (lv_at hl 0 rfl) ?_
  refine lv_aload_n hx hb dX0_isDraftKeySound_1 rfl (lv_at hl 0 rfl) ?_
  refine va_get (D := D) (ci := 0) (C := RX0) (T := TX0) (N := 16) hx hb hts hU hown hK hP 0 rfl rfl 4 (by decide) hf_draftValues (fun _ h9 => h9) rfl dX0_isDraftKeySound_2 ?_
  refine lv_iload_n hx hb dX0_isDraftKeySound_5 rfl (lv_at hl 1 rfl) ?_
  refine eb_lald hx hb hK hP 2 1 rfl rfl (k) (by omega) (by decide) dX0_isDraftKeySound_6 ?_
  refine eb_calli (As := [.long (dv k)]) (rest := []) ⟨hx, hb, hml, hown, hts⟩ (tX_isNumber l D q cs (dv k)) (cwV 1 hts gX0_isDraftKeySound_X0_isNumber rfl rfl rfl (by decide +kernel) ⟨Nat.le_of_ble_eq_true rfl, Nat.le_of_ble_eq_true rfl⟩) hK hP hD hS hA rfl rfl rfl rfl hl.1 rfl (Nat.le_of_ble_eq_true rfl) dX0_isDraftKeySound_7 ⟨Nat.zero_le _, Nat.zero_le _⟩ (fun r1 w1 H locs hq hP hD hS => ?_)
  obtain ⟨rfl, hq1⟩ := hq
  refine lv_if_ne (tgt := 15) hx hb dX0_isDraftKeySound_10 (by decide) (fun c10 => ?_) (fun c10 => ?_)
  · have c10 := et_b1 hq1 c10
    refine lv_aload_n hx hb dX0_isDraftKeySound_15 rfl (lv_at hl 0 rfl) ?_
    refine va_get (D := D) (ci := 0) (C := RX0) (T := TX0) (N := 16) hx hb hts hU hown hK hP 0 rfl rfl 3 (by decide) hf_kinds (fun _ h9 => h9) rfl dX0_isDraftKeySound_16 ?_
    refine lv_iload_n hx hb dX0_isDraftKeySound_19 rfl (lv_at hl 1 rfl) ?_
    refine eb_iald hx hb hK hP 1 0 rfl rfl (k) (by omega) (by decide) dX0_isDraftKeySound_20 ?_
    refine lv_if_ne (tgt := 26) hx hb dX0_isDraftKeySound_21 (by decide) (fun c21 => ?_) (fun c21 => ?_)
    · refine lv_aload_n hx hb dX0_isDraftKeySound_26 rfl (lv_at hl 0 rfl) ?_
      refine va_get (D := D) (ci := 0) (C := RX0) (T := TX0) (N := 16) hx hb hts hU hown hK hP 0 rfl rfl 3 (by decide) hf_kinds (fun _ h9 => h9) rfl dX0_isDraftKeySound_27 ?_
      refine lv_iload_n hx hb dX0_isDraftKeySound_30 rfl (lv_at hl 1 rfl) ?_
      refine eb_iald hx hb hK hP 1 0 rfl rfl (k) (by omega) (by decide) dX0_isDraftKeySound_31 ?_
      refine lv_iconst (v := 1) hx hb dX0_isDraftKeySound_32 (by decide) ?_
      refine lv_icmp_ne (tgt := 70) hx hb dX0_isDraftKeySound_33 (by decide) (fun c33 => ?_) (fun c33 => ?_)
      · refine lv_aload_n hx hb dX0_isDraftKeySound_70 rfl (lv_at hl 0 rfl) ?_
        refine lv_aload_n hx hb dX0_isDraftKeySound_71 rfl (lv_at hl 0 rfl) ?_
        refine va_get (D := D) (ci := 0) (C := RX0) (T := TX0) (N := 16) hx hb hts hU hown hK hP 0 rfl rfl 5 (by decide) hf_draftMasks (fun _ h9 => h9) rfl dX0_isDraftKeySound_72 ?_
        refine lv_iload_n hx hb dX0_isDraftKeySound_75 rfl (lv_at hl 1 rfl) ?_
        refine eb_lald hx hb hK hP 3 2 rfl rfl (k) (by omega) (by decide) dX0_isDraftKeySound_76 ?_
        refine eb_calli (As := [.long (dm k)]) (rest := []) ⟨hx, hb, hml, hown, hts⟩ (tX_isNumber l D q cs (dm k)) (cwV 1 hts gX0_isDraftKeySound_X0_isNumber rfl rfl rfl (by decide +kernel) ⟨Nat.le_of_ble_eq_true rfl, Nat.le_of_ble_eq_true rfl⟩) hK hP hD hS hA rfl rfl rfl rfl hl.1 rfl (Nat.le_of_ble_eq_true rfl) dX0_isDraftKeySound_77 ⟨Nat.zero_le _, Nat.zero_le _⟩ (fun r2 w1 H locs hq hP hD hS => ?_)
        obtain ⟨rfl, hq2⟩ := hq
        refine lv_istore_n hx hb dX0_isDraftKeySound_80 rfl hl (by decide) rfl (fun ls hl => ?_)
        have hl : lv_has ls 3 [(2, .int r2), (0, .ref (q 0)), (1, .int (nI k))] := hl
        refine lv_iload_n hx hb dX0_isDraftKeySound_81 rfl (lv_at hl 0 rfl) ?_
        refine lv_if_eq (tgt := 110) hx hb dX0_isDraftKeySound_82 (by decide) (fun c82 => ?_) (fun c82 => ?_)
        · have c82 := et_b0 hq2 c82
          refine lv_iconst (v := 0) hx hb dX0_isDraftKeySound_110 (by decide) ?_
          refine eb_zret hx hb hr hlk hK hP hD hS dX0_isDraftKeySound_111 (by decide) ?_
          exact ⟨rfl, Or.inr ⟨by simp only [et_ks, c10, c21, c33, c82, true_and, and_true, true_or, or_true, false_and, and_false, false_or, or_false, if_true, if_false, not_true_eq_false, not_false_eq_true, implies_true], rfl⟩⟩
        · have c82 := et_b1 hq2 c82
          refine lv_aload_n hx hb dX0_isDraftKeySound_85 rfl (lv_at hl 1 rfl) ?_
          refine va_get (D := D) (ci := 0) (C := RX0) (T := TX0) (N := 16) hx hb hts hU hown hK hP 0 rfl rfl 4 (by decide) hf_draftValues (fun _ h9 => h9) rfl dX0_isDraftKeySound_86 ?_
          refine lv_iload_n hx hb dX0_isDraftKeySound_89 rfl (lv_at hl 2 rfl) ?_
          refine eb_lald hx hb hK hP 2 1 rfl rfl (k) (by omega) (by decide) dX0_isDraftKeySound_90 ?_
          refine lv_aload_n hx hb dX0_isDraftKeySound_91 rfl (lv_at hl 1 rfl) ?_
          refine lv_iload_n hx hb dX0_isDraftKeySound_92 rfl (lv_at hl 2 rfl) ?_
          refine eb_calll (As := [.int (nI k)]) (rest := [.long (dv k)]) ⟨hx, hb, hml, hown, hts⟩ (tX_draftBits l D q cs (k) (by omega)) (cwV 1 hts gX0_isDraftKeySound_X0_draftBits rfl rfl rfl (by decide +kernel) ⟨Nat.le_of_ble_eq_true rfl, Nat.le_of_ble_eq_true rfl⟩) hK hP hD hS hA rfl rfl rfl rfl hl.1 rfl (Nat.le_of_ble_eq_true rfl) dX0_isDraftKeySound_93 ⟨Nat.zero_le _, Nat.zero_le _⟩ (fun r3 w1 H locs hq hP hD hS => ?_)
          obtain ⟨rfl, rfl⟩ := hq
          refine lv_ldc2 (v := (-1)) hx hb hown (hts (.constantLong RX0 114 (-1)) (by decide +kernel)) dX0_isDraftKeySound_96 ?_
          refine lv_lxor hx hb dX0_isDraftKeySound_99 ?_
          refine lv_land hx hb dX0_isDraftKeySound_100 ?_
          refine lv_lconst (v := 0) hx hb dX0_isDraftKeySound_101 (by decide) ?_
          refine W.lcmp hx hb dX0_isDraftKeySound_102 ?_
          refine lv_if_ne (tgt := 110) hx hb dX0_isDraftKeySound_103 (by decide) (fun c103 => ?_) (fun c103 => ?_)
          · rw [lg_cmp_eq] at c103
            refine lv_iconst (v := 0) hx hb dX0_isDraftKeySound_110 (by decide) ?_
            refine eb_zret hx hb hr hlk hK hP hD hS dX0_isDraftKeySound_111 (by decide) ?_
            exact ⟨rfl, Or.inr ⟨by simp only [et_ks, c10, c21, c33, c82, c103, true_and, and_true, true_or, or_true, false_and, and_false, false_or, or_false, if_true, if_false, not_true_eq_false, not_false_eq_true, implies_true], rfl⟩⟩
          · rw [lg_cmp_eq] at c103
            refine lv_iconst (v := 1) hx hb dX0_isDraftKeySound_106 (by decide) ?_
            refine lv_goto (tgt := 111) hx hb dX0_isDraftKeySound_107 (by decide) ?_
            refine eb_zret hx hb hr hlk hK hP hD hS dX0_isDraftKeySound_111 (by decide) ?_
            exact ⟨rfl, Or.inl ⟨by simp only [et_ks, c10, c21, c33, c82, eq_true c103, true_and, and_true, true_or, or_true, false_and, and_false, false_or, or_false, if_true, if_false, not_true_eq_false, not_false_eq_true, implies_true], rfl⟩⟩
      · refine lv_aload_n hx hb dX0_isDraftKeySound_36 rfl (lv_at hl 0 rfl) ?_
        refine va_get (D := D) (ci := 0) (C := RX0) (T := TX0) (N := 16) hx hb hts hU hown hK hP 0 rfl rfl 5 (by decide) hf_draftMasks (fun _ h9 => h9) rfl dX0_isDraftKeySound_37 ?_
        refine lv_iload_n hx hb dX0_isDraftKeySound_40 rfl (lv_at hl 1 rfl) ?_
        refine eb_lald hx hb hK hP 3 2 rfl rfl (k) (by omega) (by decide) dX0_isDraftKeySound_41 ?_
        refine lv_lconst (v := 0) hx hb dX0_isDraftKeySound_42 (by decide) ?_
        refine W.lcmp hx hb dX0_isDraftKeySound_43 ?_
        refine lv_if_lt (tgt := 66) hx hb dX0_isDraftKeySound_44 (by decide) (fun c44 => ?_) (fun c44 => ?_)
        · rw [lg_cmp_lt, ← Int64.not_le] at c44
          refine lv_iconst (v := 0) hx hb dX0_isDraftKeySound_66 (by decide) ?_
          refine lv_goto (tgt := 80) hx hb dX0_isDraftKeySound_67 (by decide) ?_
          refine lv_istore_n hx hb dX0_isDraftKeySound_80 rfl hl (by decide) rfl (fun ls hl => ?_)
          have hl : lv_has ls 3 [(2, .int 0), (0, .ref (q 0)), (1, .int (nI k))] := hl
          refine lv_iload_n hx hb dX0_isDraftKeySound_81 rfl (lv_at hl 0 rfl) ?_
          refine lv_if_eq (tgt := 110) hx hb dX0_isDraftKeySound_82 (by decide) (fun _ => ?_) (fun c82 => absurd c82 (by decide))
          refine lv_iconst (v := 0) hx hb dX0_isDraftKeySound_110 (by decide) ?_
          refine eb_zret hx hb hr hlk hK hP hD hS dX0_isDraftKeySound_111 (by decide) ?_
          exact ⟨rfl, Or.inr ⟨by simp only [et_ks, c10, c21, eq_true c33, c44, true_and, and_true, true_or, or_true, false_and, and_false, false_or, or_false, if_true, if_false, not_true_eq_false, not_false_eq_true, implies_true], rfl⟩⟩
        · rw [lg_cmp_lt, Int64.not_lt] at c44
          refine lv_aload_n hx hb dX0_isDraftKeySound_47 rfl (lv_at hl 0 rfl) ?_
          refine va_get (D := D) (ci := 0) (C := RX0) (T := TX0) (N := 16) hx hb hts hU hown hK hP 0 rfl rfl 5 (by decide) hf_draftMasks (fun _ h9 => h9) rfl dX0_isDraftKeySound_48 ?_
          refine lv_iload_n hx hb dX0_isDraftKeySound_51 rfl (lv_at hl 1 rfl) ?_
          refine eb_lald hx hb hK hP 3 2 rfl rfl (k) (by omega) (by decide) dX0_isDraftKeySound_52 ?_
          refine lv_aload_n hx hb dX0_isDraftKeySound_53 rfl (lv_at hl 0 rfl) ?_
          refine va_get (D := D) (ci := 0) (C := RX0) (T := TX0) (N := 16) hx hb hts hU hown hK hP 0 rfl rfl 1 (by decide) hf_width (fun _ h9 => h9) rfl dX0_isDraftKeySound_54 ?_
          refine lv_i2l hx hb dX0_isDraftKeySound_57 rfl ?_
          refine W.lcmp hx hb dX0_isDraftKeySound_58 ?_
          refine lv_if_gt (tgt := 66) hx hb dX0_isDraftKeySound_59 (by decide) (fun c59 => ?_) (fun c59 => ?_)
          · rw [lg_cmp_gt, ← Int64.not_le] at c59
            refine lv_iconst (v := 0) hx hb dX0_isDraftKeySound_66 (by decide) ?_
            refine lv_goto (tgt := 80) hx hb dX0_isDraftKeySound_67 (by decide) ?_
            refine lv_istore_n hx hb dX0_isDraftKeySound_80 rfl hl (by decide) rfl (fun ls hl => ?_)
            have hl : lv_has ls 3 [(2, .int 0), (0, .ref (q 0)), (1, .int (nI k))] := hl
            refine lv_iload_n hx hb dX0_isDraftKeySound_81 rfl (lv_at hl 0 rfl) ?_
            refine lv_if_eq (tgt := 110) hx hb dX0_isDraftKeySound_82 (by decide) (fun _ => ?_) (fun c82 => absurd c82 (by decide))
            refine lv_iconst (v := 0) hx hb dX0_isDraftKeySound_110 (by decide) ?_
            refine eb_zret hx hb hr hlk hK hP hD hS dX0_isDraftKeySound_111 (by decide) ?_
            exact ⟨rfl, Or.inr ⟨by simp only [et_ks, c10, c21, eq_true c33, c44, c59, true_and, and_true, true_or, or_true, false_and, and_false, false_or, or_false, if_true, if_false, not_true_eq_false, not_false_eq_true, implies_true], rfl⟩⟩
          · rw [lg_cmp_gt, Int64.not_lt] at c59
            refine lv_iconst (v := 1) hx hb dX0_isDraftKeySound_62 (by decide) ?_
            refine lv_goto (tgt := 80) hx hb dX0_isDraftKeySound_63 (by decide) ?_
            refine lv_istore_n hx hb dX0_isDraftKeySound_80 rfl hl (by decide) rfl (fun ls hl => ?_)
            have hl : lv_has ls 3 [(2, .int 1), (0, .ref (q 0)), (1, .int (nI k))] := hl
            refine lv_iload_n hx hb dX0_isDraftKeySound_81 rfl (lv_at hl 0 rfl) ?_
            refine lv_if_eq (tgt := 110) hx hb dX0_isDraftKeySound_82 (by decide) (fun c82 => absurd c82 (by decide)) (fun _ => ?_)
            refine lv_aload_n hx hb dX0_isDraftKeySound_85 rfl (lv_at hl 1 rfl) ?_
            refine va_get (D := D) (ci := 0) (C := RX0) (T := TX0) (N := 16) hx hb hts hU hown hK hP 0 rfl rfl 4 (by decide) hf_draftValues (fun _ h9 => h9) rfl dX0_isDraftKeySound_86 ?_
            refine lv_iload_n hx hb dX0_isDraftKeySound_89 rfl (lv_at hl 2 rfl) ?_
            refine eb_lald hx hb hK hP 2 1 rfl rfl (k) (by omega) (by decide) dX0_isDraftKeySound_90 ?_
            refine lv_aload_n hx hb dX0_isDraftKeySound_91 rfl (lv_at hl 1 rfl) ?_
            refine lv_iload_n hx hb dX0_isDraftKeySound_92 rfl (lv_at hl 2 rfl) ?_
            refine eb_calll (As := [.int (nI k)]) (rest := [.long (dv k)]) ⟨hx, hb, hml, hown, hts⟩ (tX_draftBits l D q cs (k) (by omega)) (cwV 1 hts gX0_isDraftKeySound_X0_draftBits rfl rfl rfl (by decide +kernel) ⟨Nat.le_of_ble_eq_true rfl, Nat.le_of_ble_eq_true rfl⟩) hK hP hD hS hA rfl rfl rfl rfl hl.1 rfl (Nat.le_of_ble_eq_true rfl) dX0_isDraftKeySound_93 ⟨Nat.zero_le _, Nat.zero_le _⟩ (fun r2 w1 H locs hq hP hD hS => ?_)
            obtain ⟨rfl, rfl⟩ := hq
            refine lv_ldc2 (v := (-1)) hx hb hown (hts (.constantLong RX0 114 (-1)) (by decide +kernel)) dX0_isDraftKeySound_96 ?_
            refine lv_lxor hx hb dX0_isDraftKeySound_99 ?_
            refine lv_land hx hb dX0_isDraftKeySound_100 ?_
            refine lv_lconst (v := 0) hx hb dX0_isDraftKeySound_101 (by decide) ?_
            refine W.lcmp hx hb dX0_isDraftKeySound_102 ?_
            refine lv_if_ne (tgt := 110) hx hb dX0_isDraftKeySound_103 (by decide) (fun c103 => ?_) (fun c103 => ?_)
            · rw [lg_cmp_eq] at c103
              refine lv_iconst (v := 0) hx hb dX0_isDraftKeySound_110 (by decide) ?_
              refine eb_zret hx hb hr hlk hK hP hD hS dX0_isDraftKeySound_111 (by decide) ?_
              exact ⟨rfl, Or.inr ⟨by simp only [et_ks, c10, c21, eq_true c33, c44, c59, c103, true_and, and_true, true_or, or_true, false_and, and_false, false_or, or_false, if_true, if_false, not_true_eq_false, not_false_eq_true, implies_true], rfl⟩⟩
            · rw [lg_cmp_eq] at c103
              refine lv_iconst (v := 1) hx hb dX0_isDraftKeySound_106 (by decide) ?_
              refine lv_goto (tgt := 111) hx hb dX0_isDraftKeySound_107 (by decide) ?_
              refine eb_zret hx hb hr hlk hK hP hD hS dX0_isDraftKeySound_111 (by decide) ?_
              exact ⟨rfl, Or.inl ⟨by simp only [et_ks, c10, c21, eq_true c33, c44, c59, eq_true c103, true_and, and_true, true_or, or_true, false_and, and_false, false_or, or_false, if_true, if_false, not_true_eq_false, not_false_eq_true, implies_true], rfl⟩⟩
    · refine lv_iconst (v := 1) hx hb dX0_isDraftKeySound_24 (by decide) ?_
      refine eb_zret hx hb hr hlk hK hP hD hS dX0_isDraftKeySound_25 (by decide) ?_
      exact ⟨rfl, Or.inl ⟨by simp only [et_ks, c10, eq_true c21, true_and, and_true, true_or, or_true, false_and, and_false, false_or, or_false, if_true, if_false, not_true_eq_false, not_false_eq_true, implies_true], rfl⟩⟩
  · have c10 := et_b0 hq1 c10
    refine lv_iconst (v := 0) hx hb dX0_isDraftKeySound_13 (by decide) ?_
    refine eb_zret hx hb hr hlk hK hP hD hS dX0_isDraftKeySound_14 (by decide) ?_
    exact ⟨rfl, Or.inr ⟨by simp only [et_ks, c10, true_and, and_true, true_or, or_true, false_and, and_false, false_or, or_false, if_true, if_false, not_true_eq_false, not_false_eq_true, implies_true], rfl⟩⟩

set_option maxHeartbeats 4000000 in
set_option maxRecDepth 100000 in
theorem tX_isDraftSound (l : Launch) (D : va_G) (q : Nat → Nat) (cs : Nat → ClassId) {K E : Nat} {wd : Int32} {ab : Int64} {kd : Nat → Int32} {dv dm : Nat → Int64} {ord : Nat → Int32} {nn ms : Int32} {nums pris pres fins : Nat → Int32} {vals msks : Nat → Int64} (hK3 : K ≤ 3) : eb_MI l D vwCl (XTy cs) yX0_isDraftSound wsX0_isDraftSound { frames := 2, cells := 0, slots := 0, locals := 80 } [.ref (q 0)] (XW q cs (nI K) wd ab kd dv dm ord (nI E) nn ms nums pris pres fins vals msks) (fun r w1 => w1 = XW q cs (nI K) wd ab kd dv dm ord (nI E) nn ms nums pris pres fins vals msks ∧ (((et_snd K ab wd kd dv dm) ∧ r = 1) ∨ (¬ (et_snd K ab wd kd dv dm) ∧ r = 0))) := by
  refine eb_openI (cc := cX0_isDraftSound) (maxL := 2) (ret := (some .boolean)) (by decide +kernel) rfl (Nat.le_of_ble_eq_true rfl) ?_
  intro p e s m below meth c A ls H locs hx hb hr hts hown hlk hml hP hK hD hA hS hl
  have hU : ∀ w ∈ wsX00, w ∈ wsX0_isDraftSound := fun w h => List.mem_cons_of_mem _ (List.mem_append_right _ h)
  have hf_keys := hts (.fieldLink RX0 60 "EntryTable" "keys" "I") (by decide +kernel)
  have hl : lv_has ls 2 [(0, .ref (q 0))] := hl
  refine lv_iconst (v := 0) hx hb dX0_isDraftSound_0 (by decide) ?_
  refine lv_istore_n hx hb dX0_isDraftSound_1 rfl hl (by decide) rfl (fun ls hl => ?_)
  have hl : lv_has ls 2 [(1, .int 0), (0, .ref (q 0))] := hl
  refine eb_for (fun (k : Nat) (ls : Array Slot) (H : Heap) (locs : List Loc) => lv_has ls 2 [(0, .ref (q 0)), (1, .int (nI k))] ∧ va_P D vwCl (XW q cs (nI K) wd ab kd dv dm ord (nI E) nn ms nums pris pres fins vals msks) H ∧ va_D A (XW q cs (nI K) wd ab kd dv dm ord (nI E) nn ms nums pris pres fins vals msks) ∧ va_S A s.heap H locs ∧ (∀ j, j < k → et_ks ab wd (kd j) (dv j) (dm j))) 2 (K) ?_ (K) (0) ls H locs (by omega) ⟨lv_sub hl [1, 0] rfl, hP, hD, hS, fun j hj => absurd hj (Nat.not_lt_zero j)⟩
  intro k ls H locs hk hI hrec2
  obtain ⟨hl, hP, hD, hS, hi2⟩ := hI
  refine lv_iload_n hx hb dX0_isDraftSound_2 rfl (lv_at hl 1 rfl) ?_
  refine lv_aload_n hx hb dX0_isDraftSound_3 rfl (lv_at hl 0 rfl) ?_
  refine va_get (D := D) (ci := 0) (C := RX0) (T := TX0) (N := 16) hx hb hts hU hown hK hP 0 rfl rfl 0 (by decide) hf_keys (fun _ h9 => h9) rfl dX0_isDraftSound_4 ?_
  refine lv_icmp_ge (tgt := 26) hx hb dX0_isDraftSound_7 (by decide) (fun c7 => ?_) (fun c7 => ?_)
  · have c7 : nI K ≤ nI k := c7
    rw [nI_leI (by omega) (by omega)] at c7
    refine lv_iconst (v := 1) hx hb dX0_isDraftSound_26 (by decide) ?_
    refine eb_zret hx hb hr hlk hK hP hD hS dX0_isDraftSound_27 (by decide) ?_
    exact ⟨rfl, Or.inl ⟨fun j hj => hi2 j (by omega), rfl⟩⟩
  · have c7 : ¬ nI K ≤ nI k := c7
    rw [nI_leI (by omega) (by omega)] at c7
    refine lv_aload_n hx hb dX0_isDraftSound_10 rfl (lv_at hl 0 rfl) ?_
    refine lv_iload_n hx hb dX0_isDraftSound_11 rfl (lv_at hl 1 rfl) ?_
    refine eb_calli (As := [.int (nI k)]) (rest := []) ⟨hx, hb, hml, hown, hts⟩ (tX_isDraftKeySound l D q cs (k) (by omega)) (cwV 1 hts gX0_isDraftSound_X0_isDraftKeySound rfl rfl rfl (by decide +kernel) ⟨Nat.le_of_ble_eq_true rfl, Nat.le_of_ble_eq_true rfl⟩) hK hP hD hS hA rfl rfl rfl rfl hl.1 rfl (Nat.le_of_ble_eq_true rfl) dX0_isDraftSound_12 ⟨Nat.zero_le _, Nat.zero_le _⟩ (fun r1 w1 H locs hq hP hD hS => ?_)
    obtain ⟨rfl, hq1⟩ := hq
    refine lv_if_ne (tgt := 20) hx hb dX0_isDraftSound_15 (by decide) (fun c15 => ?_) (fun c15 => ?_)
    · have c15 := et_b1 hq1 c15
      refine lv_iinc (k := 1) (v := nI (k + 1)) hx hb dX0_isDraftSound_20 hl rfl (nI_add k 1) (by decide) rfl (fun ls hl => ?_)
      have hl : lv_has ls 2 [(1, .int (nI (k + 1))), (0, .ref (q 0))] := hl
      refine lv_goto (tgt := 2) hx hb dX0_isDraftSound_23 (by decide) ?_
      exact hrec2 ls H locs (by omega) ⟨lv_sub hl [1, 0] rfl, hP, hD, hS, lt_s hi2 c15⟩
    · have c15 := et_b0 hq1 c15
      refine lv_iconst (v := 0) hx hb dX0_isDraftSound_18 (by decide) ?_
      refine eb_zret hx hb hr hlk hK hP hD hS dX0_isDraftSound_19 (by decide) ?_
      exact ⟨rfl, Or.inr ⟨fun hh => absurd (hh k (by omega)) c15, rfl⟩⟩

set_option maxHeartbeats 4000000 in
set_option maxRecDepth 100000 in
theorem tX_draftPrefix (l : Launch) (D : va_G) (q : Nat → Nat) (cs : Nat → ClassId) {K E : Nat} {wd : Int32} {ab : Int64} {kd : Nat → Int32} {dv dm : Nat → Int64} {ord : Nat → Int32} {nn ms : Int32} {nums pris pres fins : Nat → Int32} {vals msks : Nat → Int64} (hK3 : K ≤ 3) : eb_MI l D vwCl (XTy cs) yX0_draftPrefix wsX0_draftPrefix { frames := 0, cells := 0, slots := 0, locals := 0 } [.ref (q 0)] (XW q cs (nI K) wd ab kd dv dm ord (nI E) nn ms nums pris pres fins vals msks) (fun r w1 => w1 = XW q cs (nI K) wd ab kd dv dm ord (nI E) nn ms nums pris pres fins vals msks ∧ r = (et_pf K kd dm).toInt32) := by
  refine eb_openI (cc := cX0_draftPrefix) (maxL := 2) (ret := (some .int)) (by decide +kernel) rfl (Nat.le_of_ble_eq_true rfl) ?_
  intro p e s m below meth c A ls H locs hx hb hr hts hown hlk hml hP hK hD hA hS hl
  have hU : ∀ w ∈ wsX00, w ∈ wsX0_draftPrefix := fun w h => List.mem_cons_of_mem _ (List.mem_append_right _ h)
  have hf_keys := hts (.fieldLink RX0 60 "EntryTable" "keys" "I") (by decide +kernel)
  have hf_kinds := hts (.fieldLink RX0 9 "EntryTable" "kinds" "[I") (by decide +kernel)
  have hf_draftMasks := hts (.fieldLink RX0 17 "EntryTable" "draftMasks" "[J") (by decide +kernel)
  have hl : lv_has ls 2 [(0, .ref (q 0))] := hl
  refine lv_iconst (v := 0) hx hb dX0_draftPrefix_0 (by decide) ?_
  refine lv_istore_n hx hb dX0_draftPrefix_1 rfl hl (by decide) rfl (fun ls hl => ?_)
  have hl : lv_has ls 2 [(1, .int 0), (0, .ref (q 0))] := hl
  refine eb_for (fun (k : Nat) (ls : Array Slot) (H : Heap) (locs : List Loc) => lv_has ls 2 [(0, .ref (q 0)), (1, .int (nI k))] ∧ va_P D vwCl (XW q cs (nI K) wd ab kd dv dm ord (nI E) nn ms nums pris pres fins vals msks) H ∧ va_D A (XW q cs (nI K) wd ab kd dv dm ord (nI E) nn ms nums pris pres fins vals msks) ∧ va_S A s.heap H locs ∧ (et_pg kd dm 0 K = et_pg kd dm k (K - k))) 2 (K) ?_ (K) (0) ls H locs (by omega) ⟨lv_sub hl [1, 0] rfl, hP, hD, hS, rfl⟩
  intro k ls H locs hk hI hrec2
  obtain ⟨hl, hP, hD, hS, hi2⟩ := hI
  refine lv_iload_n hx hb dX0_draftPrefix_2 rfl (lv_at hl 1 rfl) ?_
  refine lv_aload_n hx hb dX0_draftPrefix_3 rfl (lv_at hl 0 rfl) ?_
  refine va_get (D := D) (ci := 0) (C := RX0) (T := TX0) (N := 16) hx hb hts hU hown hK hP 0 rfl rfl 0 (by decide) hf_keys (fun _ h9 => h9) rfl dX0_draftPrefix_4 ?_
  refine lv_icmp_ge (tgt := 34) hx hb dX0_draftPrefix_7 (by decide) (fun c7 => ?_) (fun c7 => ?_)
  · have c7 : nI K ≤ nI k := c7
    rw [nI_leI (by omega) (by omega)] at c7
    refine lv_iconst (v := 0) hx hb dX0_draftPrefix_34 (by decide) ?_
    refine eb_iret hx hb hr hlk hK hP hD hS dX0_draftPrefix_35 ?_
    exact ⟨rfl, by show _ = (et_pg kd dm 0 K).toInt32; rw [hi2, show K - k = 0 by omega]; rfl⟩
  · have c7 : ¬ nI K ≤ nI k := c7
    rw [nI_leI (by omega) (by omega)] at c7
    refine lv_aload_n hx hb dX0_draftPrefix_10 rfl (lv_at hl 0 rfl) ?_
    refine va_get (D := D) (ci := 0) (C := RX0) (T := TX0) (N := 16) hx hb hts hU hown hK hP 0 rfl rfl 3 (by decide) hf_kinds (fun _ h9 => h9) rfl dX0_draftPrefix_11 ?_
    refine lv_iload_n hx hb dX0_draftPrefix_14 rfl (lv_at hl 1 rfl) ?_
    refine eb_iald hx hb hK hP 1 0 rfl rfl (k) (by omega) (by decide) dX0_draftPrefix_15 ?_
    refine lv_iconst (v := 1) hx hb dX0_draftPrefix_16 (by decide) ?_
    refine lv_icmp_ne (tgt := 28) hx hb dX0_draftPrefix_17 (by decide) (fun c17 => ?_) (fun c17 => ?_)
    · refine lv_iinc (k := 1) (v := nI (k + 1)) hx hb dX0_draftPrefix_28 hl rfl (nI_add k 1) (by decide) rfl (fun ls hl => ?_)
      have hl : lv_has ls 2 [(1, .int (nI (k + 1))), (0, .ref (q 0))] := hl
      refine lv_goto (tgt := 2) hx hb dX0_draftPrefix_31 (by decide) ?_
      exact hrec2 ls H locs (by omega) ⟨lv_sub hl [1, 0] rfl, hP, hD, hS, by rw [hi2, et_pg_at (by omega), if_neg c17]⟩
    · refine lv_aload_n hx hb dX0_draftPrefix_20 rfl (lv_at hl 0 rfl) ?_
      refine va_get (D := D) (ci := 0) (C := RX0) (T := TX0) (N := 16) hx hb hts hU hown hK hP 0 rfl rfl 5 (by decide) hf_draftMasks (fun _ h9 => h9) rfl dX0_draftPrefix_21 ?_
      refine lv_iload_n hx hb dX0_draftPrefix_24 rfl (lv_at hl 1 rfl) ?_
      refine eb_lald hx hb hK hP 3 2 rfl rfl (k) (by omega) (by decide) dX0_draftPrefix_25 ?_
      refine lv_l2i hx hb dX0_draftPrefix_26 rfl ?_
      refine eb_iret hx hb hr hlk hK hP hD hS dX0_draftPrefix_27 ?_
      exact ⟨rfl, by show _ = (et_pg kd dm 0 K).toInt32; rw [hi2, et_pg_at (by omega), if_pos c17]⟩

set_option maxHeartbeats 4000000 in
set_option maxRecDepth 100000 in
theorem tX_isDraftIn (l : Launch) (D : va_G) (q : Nat → Nat) (cs : Nat → ClassId) {K E : Nat} {wd : Int32} {ab : Int64} {kd : Nat → Int32} {dv dm : Nat → Int64} {ord : Nat → Int32} {nn ms : Int32} {nums pris pres fins : Nat → Int32} {vals msks : Nat → Int64} (hK3 : K ≤ 3) (s0 : Nat) (hs0 : s0 < 24) : eb_MI l D vwCl (XTy cs) yX0_isDraftIn wsX0_isDraftIn { frames := 1, cells := 0, slots := 0, locals := 40 } [.ref (q 0), .int (nI s0)] (XW q cs (nI K) wd ab kd dv dm ord (nI E) nn ms nums pris pres fins vals msks) (fun r w1 => w1 = XW q cs (nI K) wd ab kd dv dm ord (nI E) nn ms nums pris pres fins vals msks ∧ (((∀ k, k < K → vals (s0 * 3 + k) = dv k ∧ msks (s0 * 3 + k) = et_db ab (kd k) (dm k)) ∧ r = 1) ∨ (¬ (∀ k, k < K → vals (s0 * 3 + k) = dv k ∧ msks (s0 * 3 + k) = et_db ab (kd k) (dm k)) ∧ r = 0))) := by
  refine eb_openI (cc := cX0_isDraftIn) (maxL := 4) (ret := (some .boolean)) (by decide +kernel) rfl (Nat.le_of_ble_eq_true rfl) ?_
  intro p e s m below meth c A ls H locs hx hb hr hts hown hlk hml hP hK hD hA hS hl
  have hU : ∀ w ∈ wsX00, w ∈ wsX0_isDraftIn := fun w h => List.mem_cons_of_mem _ (List.mem_append_right _ h)
  have hf_keys := hts (.fieldLink RX0 60 "EntryTable" "keys" "I") (by decide +kernel)
  have hf_values := hts (.fieldLink RX0 45 "EntryTable" "values" "[J") (by decide +kernel)
  have hf_draftValues := hts (.fieldLink RX0 13 "EntryTable" "draftValues" "[J") (by decide +kernel)
  have hf_masks := hts (.fieldLink RX0 48 "EntryTable" "masks" "[J") (by decide +kernel)
  have hl : lv_has ls 4 [(0, .ref (q 0)), (1, .int (nI s0))] := hl
  refine lv_iconst (v := 0) hx hb dX0_isDraftIn_0 (by decide) ?_
  refine lv_istore_n hx hb dX0_isDraftIn_1 rfl hl (by decide) rfl (fun ls hl => ?_)
  have hl : lv_has ls 4 [(2, .int 0), (0, .ref (q 0)), (1, .int (nI s0))] := hl
  refine eb_for (fun (k : Nat) (ls : Array Slot) (H : Heap) (locs : List Loc) => lv_has ls 4 [(0, .ref (q 0)), (1, .int (nI s0)), (2, .int (nI k))] ∧ va_P D vwCl (XW q cs (nI K) wd ab kd dv dm ord (nI E) nn ms nums pris pres fins vals msks) H ∧ va_D A (XW q cs (nI K) wd ab kd dv dm ord (nI E) nn ms nums pris pres fins vals msks) ∧ va_S A s.heap H locs ∧ (∀ j, j < k → vals (s0 * 3 + j) = dv j ∧ msks (s0 * 3 + j) = et_db ab (kd j) (dm j))) 2 (K) ?_ (K) (0) ls H locs (by omega) ⟨lv_sub hl [1, 2, 0] rfl, hP, hD, hS, fun j hj => absurd hj (Nat.not_lt_zero j)⟩
  intro k ls H locs hk hI hrec2
  obtain ⟨hl, hP, hD, hS, hi2⟩ := hI
  refine lv_iload_n hx hb dX0_isDraftIn_2 rfl (lv_at hl 2 rfl) ?_
  refine lv_aload_n hx hb dX0_isDraftIn_3 rfl (lv_at hl 0 rfl) ?_
  refine va_get (D := D) (ci := 0) (C := RX0) (T := TX0) (N := 16) hx hb hts hU hown hK hP 0 rfl rfl 0 (by decide) hf_keys (fun _ h9 => h9) rfl dX0_isDraftIn_4 ?_
  refine lv_icmp_ge (tgt := 55) hx hb dX0_isDraftIn_7 (by decide) (fun c7 => ?_) (fun c7 => ?_)
  · have c7 : nI K ≤ nI k := c7
    rw [nI_leI (by omega) (by omega)] at c7
    refine lv_iconst (v := 1) hx hb dX0_isDraftIn_55 (by decide) ?_
    refine eb_zret hx hb hr hlk hK hP hD hS dX0_isDraftIn_56 (by decide) ?_
    exact ⟨rfl, Or.inl ⟨fun j hj => hi2 j (by omega), rfl⟩⟩
  · have c7 : ¬ nI K ≤ nI k := c7
    rw [nI_leI (by omega) (by omega)] at c7
    refine lv_iload_n hx hb dX0_isDraftIn_10 rfl (lv_at hl 1 rfl) ?_
    refine lv_iconst (v := 3) hx hb dX0_isDraftIn_11 (by decide) ?_
    refine lv_imul hx hb dX0_isDraftIn_12 ?_
    refine eb_ti (nI (s0 * 3)) (pk_mul s0 3) ?_
    refine lv_iload_n hx hb dX0_isDraftIn_13 rfl (lv_at hl 2 rfl) ?_
    refine lv_iadd hx hb dX0_isDraftIn_14 ?_
    refine eb_ti (nI ((s0 * 3) + k)) (nI_add (s0 * 3) k) ?_
    refine lv_istore_n hx hb dX0_isDraftIn_15 rfl hl (by decide) rfl (fun ls hl => ?_)
    have hl : lv_has ls 4 [(3, .int (nI ((s0 * 3) + k))), (0, .ref (q 0)), (1, .int (nI s0)), (2, .int (nI k))] := hl
    refine lv_aload_n hx hb dX0_isDraftIn_16 rfl (lv_at hl 1 rfl) ?_
    refine va_get (D := D) (ci := 0) (C := RX0) (T := TX0) (N := 16) hx hb hts hU hown hK hP 0 rfl rfl 14 (by decide) hf_values (fun _ h9 => h9) rfl dX0_isDraftIn_17 ?_
    refine lv_iload_n hx hb dX0_isDraftIn_20 rfl (lv_at hl 0 rfl) ?_
    refine eb_lald hx hb hK hP 9 8 rfl rfl ((s0 * 3) + k) (by omega) (by decide) dX0_isDraftIn_21 ?_
    refine lv_aload_n hx hb dX0_isDraftIn_22 rfl (lv_at hl 1 rfl) ?_
    refine va_get (D := D) (ci := 0) (C := RX0) (T := TX0) (N := 16) hx hb hts hU hown hK hP 0 rfl rfl 4 (by decide) hf_draftValues (fun _ h9 => h9) rfl dX0_isDraftIn_23 ?_
    refine lv_iload_n hx hb dX0_isDraftIn_26 rfl (lv_at hl 3 rfl) ?_
    refine eb_lald hx hb hK hP 2 1 rfl rfl (k) (by omega) (by decide) dX0_isDraftIn_27 ?_
    refine W.lcmp hx hb dX0_isDraftIn_28 ?_
    refine lv_if_ne (tgt := 47) hx hb dX0_isDraftIn_29 (by decide) (fun c29 => ?_) (fun c29 => ?_)
    · rw [lg_cmp_eq] at c29
      refine lv_iconst (v := 0) hx hb dX0_isDraftIn_47 (by decide) ?_
      refine eb_zret hx hb hr hlk hK hP hD hS dX0_isDraftIn_48 (by decide) ?_
      exact ⟨rfl, Or.inr ⟨fun hh => absurd (hh k (by omega)).1 c29, rfl⟩⟩
    · rw [lg_cmp_eq] at c29
      refine lv_aload_n hx hb dX0_isDraftIn_32 rfl (lv_at hl 1 rfl) ?_
      refine va_get (D := D) (ci := 0) (C := RX0) (T := TX0) (N := 16) hx hb hts hU hown hK hP 0 rfl rfl 15 (by decide) hf_masks (fun _ h9 => h9) rfl dX0_isDraftIn_33 ?_
      refine lv_iload_n hx hb dX0_isDraftIn_36 rfl (lv_at hl 0 rfl) ?_
      refine eb_lald hx hb hK hP 10 9 rfl rfl ((s0 * 3) + k) (by omega) (by decide) dX0_isDraftIn_37 ?_
      refine lv_aload_n hx hb dX0_isDraftIn_38 rfl (lv_at hl 1 rfl) ?_
      refine lv_iload_n hx hb dX0_isDraftIn_39 rfl (lv_at hl 3 rfl) ?_
      refine eb_calll (As := [.int (nI k)]) (rest := [.long (msks ((s0 * 3) + k))]) ⟨hx, hb, hml, hown, hts⟩ (tX_draftBits l D q cs (k) (by omega)) (cwV 1 hts gX0_isDraftIn_X0_draftBits rfl rfl rfl (by decide +kernel) ⟨Nat.le_of_ble_eq_true rfl, Nat.le_of_ble_eq_true rfl⟩) hK hP hD hS hA rfl rfl rfl rfl hl.1 rfl (Nat.le_of_ble_eq_true rfl) dX0_isDraftIn_40 ⟨Nat.zero_le _, Nat.zero_le _⟩ (fun r1 w1 H locs hq hP hD hS => ?_)
      obtain ⟨rfl, rfl⟩ := hq
      refine W.lcmp hx hb dX0_isDraftIn_43 ?_
      refine lv_if_eq (tgt := 49) hx hb dX0_isDraftIn_44 (by decide) (fun c44 => ?_) (fun c44 => ?_)
      · rw [lg_cmp_eq] at c44
        refine lv_iinc (k := 3) (v := nI (k + 1)) hx hb dX0_isDraftIn_49 hl rfl (nI_add k 1) (by decide) rfl (fun ls hl => ?_)
        have hl : lv_has ls 4 [(2, .int (nI (k + 1))), (3, .int (nI ((s0 * 3) + k))), (0, .ref (q 0)), (1, .int (nI s0))] := hl
        refine lv_goto (tgt := 2) hx hb dX0_isDraftIn_52 (by decide) ?_
        exact hrec2 ls H locs (by omega) ⟨lv_sub hl [2, 3, 0] rfl, hP, hD, hS, lt_s hi2 ⟨c29, c44⟩⟩
      · rw [lg_cmp_eq] at c44
        refine lv_iconst (v := 0) hx hb dX0_isDraftIn_47 (by decide) ?_
        refine eb_zret hx hb hr hlk hK hP hD hS dX0_isDraftIn_48 (by decide) ?_
        exact ⟨rfl, Or.inr ⟨fun hh => absurd (hh k (by omega)).2 c44, rfl⟩⟩

set_option maxHeartbeats 4000000 in
set_option maxRecDepth 100000 in
theorem tX_isDraftThere (l : Launch) (D : va_G) (q : Nat → Nat) (cs : Nat → ClassId) {K E : Nat} {wd : Int32} {ab : Int64} {kd : Nat → Int32} {dv dm : Nat → Int64} {ord : Nat → Int32} {nn ms : Int32} {nums pris pres fins : Nat → Int32} {vals msks : Nat → Int64} (hK3 : K ≤ 3) (hE : E ≤ 24) (o : Nat → Nat) (ho : ∀ r, r < 24 → ord r = nI (o r) ∧ o r < 24) (pp : Int32) : eb_MI l D vwCl (XTy cs) yX0_isDraftThere wsX0_isDraftThere { frames := 2, cells := 0, slots := 0, locals := 80 } [.ref (q 0), .int pp] (XW q cs (nI K) wd ab kd dv dm ord (nI E) nn ms nums pris pres fins vals msks) (fun r w1 => w1 = XW q cs (nI K) wd ab kd dv dm ord (nI E) nn ms nums pris pres fins vals msks ∧ (((∃ j, j < E ∧ pris (o j) = pp ∧ ∀ k, k < K → vals (o j * 3 + k) = dv k ∧ msks (o j * 3 + k) = et_db ab (kd k) (dm k)) ∧ r = 1) ∨ (¬ (∃ j, j < E ∧ pris (o j) = pp ∧ ∀ k, k < K → vals (o j * 3 + k) = dv k ∧ msks (o j * 3 + k) = et_db ab (kd k) (dm k)) ∧ r = 0))) := by
  refine eb_openI (cc := cX0_isDraftThere) (maxL := 4) (ret := (some .boolean)) (by decide +kernel) rfl (Nat.le_of_ble_eq_true rfl) ?_
  intro p e s m below meth c A ls H locs hx hb hr hts hown hlk hml hP hK hD hA hS hl
  have hU : ∀ w ∈ wsX00, w ∈ wsX0_isDraftThere := fun w h => List.mem_cons_of_mem _ (List.mem_append_right _ h)
  have hf_entries := hts (.fieldLink RX0 23 "EntryTable" "entries" "I") (by decide +kernel)
  have hf_order := hts (.fieldLink RX0 20 "EntryTable" "order" "[I") (by decide +kernel)
  have hf_priorities := hts (.fieldLink RX0 36 "EntryTable" "priorities" "[I") (by decide +kernel)
  have hl : lv_has ls 4 [(0, .ref (q 0)), (1, .int pp)] := hl
  refine lv_iconst (v := 0) hx hb dX0_isDraftThere_0 (by decide) ?_
  refine lv_istore_n hx hb dX0_isDraftThere_1 rfl hl (by decide) rfl (fun ls hl => ?_)
  have hl : lv_has ls 4 [(2, .int 0), (0, .ref (q 0)), (1, .int pp)] := hl
  refine eb_for (fun (i : Nat) (ls : Array Slot) (H : Heap) (locs : List Loc) => lv_has ls 4 [(0, .ref (q 0)), (1, .int pp), (2, .int (nI i))] ∧ va_P D vwCl (XW q cs (nI K) wd ab kd dv dm ord (nI E) nn ms nums pris pres fins vals msks) H ∧ va_D A (XW q cs (nI K) wd ab kd dv dm ord (nI E) nn ms nums pris pres fins vals msks) ∧ va_S A s.heap H locs ∧ (∀ j, j < i → ¬ (pris (o j) = pp ∧ ∀ k, k < K → vals (o j * 3 + k) = dv k ∧ msks (o j * 3 + k) = et_db ab (kd k) (dm k)))) 2 (E) ?_ (E) (0) ls H locs (by omega) ⟨lv_sub hl [1, 2, 0] rfl, hP, hD, hS, fun j hj => absurd hj (Nat.not_lt_zero j)⟩
  intro i ls H locs hi hI hrec2
  obtain ⟨hl, hP, hD, hS, hi2⟩ := hI
  refine lv_iload_n hx hb dX0_isDraftThere_2 rfl (lv_at hl 2 rfl) ?_
  refine lv_aload_n hx hb dX0_isDraftThere_3 rfl (lv_at hl 0 rfl) ?_
  refine va_get (D := D) (ci := 0) (C := RX0) (T := TX0) (N := 16) hx hb hts hU hown hK hP 0 rfl rfl 7 (by decide) hf_entries (fun _ h9 => h9) rfl dX0_isDraftThere_4 ?_
  refine lv_icmp_ge (tgt := 43) hx hb dX0_isDraftThere_7 (by decide) (fun c7 => ?_) (fun c7 => ?_)
  · have c7 : nI E ≤ nI i := c7
    rw [nI_leI (by omega) (by omega)] at c7
    refine lv_iconst (v := 0) hx hb dX0_isDraftThere_43 (by decide) ?_
    refine eb_zret hx hb hr hlk hK hP hD hS dX0_isDraftThere_44 (by decide) ?_
    exact ⟨rfl, Or.inr ⟨fun ⟨j, hj, hh⟩ => hi2 j (by omega) hh, rfl⟩⟩
  · have c7 : ¬ nI E ≤ nI i := c7
    rw [nI_leI (by omega) (by omega)] at c7
    refine lv_aload_n hx hb dX0_isDraftThere_10 rfl (lv_at hl 0 rfl) ?_
    refine va_get (D := D) (ci := 0) (C := RX0) (T := TX0) (N := 16) hx hb hts hU hown hK hP 0 rfl rfl 6 (by decide) hf_order (fun _ h9 => h9) rfl dX0_isDraftThere_11 ?_
    refine lv_iload_n hx hb dX0_isDraftThere_14 rfl (lv_at hl 2 rfl) ?_
    refine eb_iald hx hb hK hP 4 3 rfl rfl (i) (by omega) (by decide) dX0_isDraftThere_15 ?_
    have hs1 := (ho (i) (by omega)).2
    refine eb_ti (nI (o i)) ((ho (i) (by omega)).1) ?_
    refine lv_istore_n hx hb dX0_isDraftThere_16 rfl hl (by decide) rfl (fun ls hl => ?_)
    have hl : lv_has ls 4 [(3, .int (nI (o i))), (0, .ref (q 0)), (1, .int pp), (2, .int (nI i))] := hl
    refine lv_aload_n hx hb dX0_isDraftThere_17 rfl (lv_at hl 1 rfl) ?_
    refine va_get (D := D) (ci := 0) (C := RX0) (T := TX0) (N := 16) hx hb hts hU hown hK hP 0 rfl rfl 11 (by decide) hf_priorities (fun _ h9 => h9) rfl dX0_isDraftThere_18 ?_
    refine lv_iload_n hx hb dX0_isDraftThere_21 rfl (lv_at hl 0 rfl) ?_
    refine eb_iald hx hb hK hP 6 5 rfl rfl (o i) (by omega) (by decide) dX0_isDraftThere_22 ?_
    refine lv_iload_n hx hb dX0_isDraftThere_23 rfl (lv_at hl 2 rfl) ?_
    refine lv_icmp_ne (tgt := 37) hx hb dX0_isDraftThere_24 (by decide) (fun c24 => ?_) (fun c24 => ?_)
    · refine lv_iinc (k := 3) (v := nI (i + 1)) hx hb dX0_isDraftThere_37 hl rfl (nI_add i 1) (by decide) rfl (fun ls hl => ?_)
      have hl : lv_has ls 4 [(2, .int (nI (i + 1))), (3, .int (nI (o i))), (0, .ref (q 0)), (1, .int pp)] := hl
      refine lv_goto (tgt := 2) hx hb dX0_isDraftThere_40 (by decide) ?_
      exact hrec2 ls H locs (by omega) ⟨lv_sub hl [2, 3, 0] rfl, hP, hD, hS, lt_s hi2 (fun hh => absurd hh.1 c24)⟩
    · refine lv_aload_n hx hb dX0_isDraftThere_27 rfl (lv_at hl 1 rfl) ?_
      refine lv_iload_n hx hb dX0_isDraftThere_28 rfl (lv_at hl 0 rfl) ?_
      refine eb_calli (As := [.int (nI (o i))]) (rest := []) ⟨hx, hb, hml, hown, hts⟩ (tX_isDraftIn l D q cs hK3 (o i) (by omega)) (cwV 1 hts gX0_isDraftThere_X0_isDraftIn rfl rfl rfl (by decide +kernel) ⟨Nat.le_of_ble_eq_true rfl, Nat.le_of_ble_eq_true rfl⟩) hK hP hD hS hA rfl rfl rfl rfl hl.1 rfl (Nat.le_of_ble_eq_true rfl) dX0_isDraftThere_29 ⟨Nat.zero_le _, Nat.zero_le _⟩ (fun r2 w1 H locs hq hP hD hS => ?_)
      obtain ⟨rfl, hq2⟩ := hq
      refine lv_if_eq (tgt := 37) hx hb dX0_isDraftThere_32 (by decide) (fun c32 => ?_) (fun c32 => ?_)
      · have c32 := et_b0 hq2 c32
        refine lv_iinc (k := 3) (v := nI (i + 1)) hx hb dX0_isDraftThere_37 hl rfl (nI_add i 1) (by decide) rfl (fun ls hl => ?_)
        have hl : lv_has ls 4 [(2, .int (nI (i + 1))), (3, .int (nI (o i))), (0, .ref (q 0)), (1, .int pp)] := hl
        refine lv_goto (tgt := 2) hx hb dX0_isDraftThere_40 (by decide) ?_
        exact hrec2 ls H locs (by omega) ⟨lv_sub hl [2, 3, 0] rfl, hP, hD, hS, lt_s hi2 (fun hh => absurd hh.2 c32)⟩
      · have c32 := et_b1 hq2 c32
        refine lv_iconst (v := 1) hx hb dX0_isDraftThere_35 (by decide) ?_
        refine eb_zret hx hb hr hlk hK hP hD hS dX0_isDraftThere_36 (by decide) ?_
        exact ⟨rfl, Or.inl ⟨⟨i, by omega, c24, c32⟩, rfl⟩⟩

set_option maxHeartbeats 4000000 in
set_option maxRecDepth 100000 in
theorem tX_rankForDraft (l : Launch) (D : va_G) (q : Nat → Nat) (cs : Nat → ClassId) {K E : Nat} {wd : Int32} {ab : Int64} {kd : Nat → Int32} {dv dm : Nat → Int64} {ord : Nat → Int32} {nn ms : Int32} {nums pris pres fins : Nat → Int32} {vals msks : Nat → Int64} (hK3 : K ≤ 3) (hE : E ≤ 24) (o : Nat → Nat) (ho : ∀ r, r < 24 → ord r = nI (o r) ∧ o r < 24) (pp : Int32) : eb_MI l D vwCl (XTy cs) yX0_rankForDraft wsX0_rankForDraft { frames := 1, cells := 0, slots := 0, locals := 40 } [.ref (q 0), .int pp] (XW q cs (nI K) wd ab kd dv dm ord (nI E) nn ms nums pris pres fins vals msks) (fun r w1 => w1 = XW q cs (nI K) wd ab kd dv dm ord (nI E) nn ms nums pris pres fins vals msks ∧ ∃ j, r = nI j ∧ j ≤ E ∧ (∀ i, i < j → ¬ (pres (o i) < (et_pf K kd dm).toInt32 ∨ (pres (o i) = (et_pf K kd dm).toInt32 ∧ pris (o i) < pp))) ∧ (j < E → (pres (o j) < (et_pf K kd dm).toInt32 ∨ (pres (o j) = (et_pf K kd dm).toInt32 ∧ pris (o j) < pp)))) := by
  refine eb_openI (cc := cX0_rankForDraft) (maxL := 5) (ret := (some .int)) (by decide +kernel) rfl (Nat.le_of_ble_eq_true rfl) ?_
  intro p e s m below meth c A ls H locs hx hb hr hts hown hlk hml hP hK hD hA hS hl
  have hU : ∀ w ∈ wsX00, w ∈ wsX0_rankForDraft := fun w h => List.mem_cons_of_mem _ (List.mem_append_right _ h)
  have hf_entries := hts (.fieldLink RX0 23 "EntryTable" "entries" "I") (by decide +kernel)
  have hf_order := hts (.fieldLink RX0 20 "EntryTable" "order" "[I") (by decide +kernel)
  have hf_prefixes := hts (.fieldLink RX0 39 "EntryTable" "prefixes" "[I") (by decide +kernel)
  have hf_priorities := hts (.fieldLink RX0 36 "EntryTable" "priorities" "[I") (by decide +kernel)
  have hl : lv_has ls 5 [(0, .ref (q 0)), (1, .int pp)] := hl
  refine lv_aload_n hx hb dX0_rankForDraft_0 rfl (lv_at hl 0 rfl) ?_
  refine eb_calli (As := []) (rest := []) ⟨hx, hb, hml, hown, hts⟩ (tX_draftPrefix l D q cs hK3) (cwV 0 hts gX0_rankForDraft_X0_draftPrefix rfl rfl rfl (by decide +kernel) ⟨Nat.le_of_ble_eq_true rfl, Nat.le_of_ble_eq_true rfl⟩) hK hP hD hS hA rfl rfl rfl rfl hl.1 rfl (Nat.le_of_ble_eq_true rfl) dX0_rankForDraft_1 ⟨Nat.zero_le _, Nat.zero_le _⟩ (fun r1 w1 H locs hq hP hD hS => ?_)
  obtain ⟨rfl, rfl⟩ := hq
  refine lv_istore_n hx hb dX0_rankForDraft_4 rfl hl (by decide) rfl (fun ls hl => ?_)
  have hl : lv_has ls 5 [(2, .int ((et_pf K kd dm).toInt32)), (0, .ref (q 0)), (1, .int pp)] := hl
  refine lv_iconst (v := 0) hx hb dX0_rankForDraft_5 (by decide) ?_
  refine lv_istore_n hx hb dX0_rankForDraft_6 rfl hl (by decide) rfl (fun ls hl => ?_)
  have hl : lv_has ls 5 [(3, .int 0), (2, .int ((et_pf K kd dm).toInt32)), (0, .ref (q 0)), (1, .int pp)] := hl
  refine eb_for (fun (i : Nat) (ls : Array Slot) (H : Heap) (locs : List Loc) => lv_has ls 5 [(0, .ref (q 0)), (1, .int pp), (2, .int ((et_pf K kd dm).toInt32)), (3, .int (nI i))] ∧ va_P D vwCl (XW q cs (nI K) wd ab kd dv dm ord (nI E) nn ms nums pris pres fins vals msks) H ∧ va_D A (XW q cs (nI K) wd ab kd dv dm ord (nI E) nn ms nums pris pres fins vals msks) ∧ va_S A s.heap H locs ∧ (∀ j, j < i → ¬ (pres (o j) < (et_pf K kd dm).toInt32 ∨ (pres (o j) = (et_pf K kd dm).toInt32 ∧ pris (o j) < pp)))) 7 (E) ?_ (E) (0) ls H locs (by omega) ⟨lv_sub hl [2, 3, 1, 0] rfl, hP, hD, hS, fun j hj => absurd hj (Nat.not_lt_zero j)⟩
  intro i ls H locs hi hI hrec7
  obtain ⟨hl, hP, hD, hS, hi7⟩ := hI
  refine lv_iload_n hx hb dX0_rankForDraft_7 rfl (lv_at hl 3 rfl) ?_
  refine lv_aload_n hx hb dX0_rankForDraft_8 rfl (lv_at hl 0 rfl) ?_
  refine va_get (D := D) (ci := 0) (C := RX0) (T := TX0) (N := 16) hx hb hts hU hown hK hP 0 rfl rfl 7 (by decide) hf_entries (fun _ h9 => h9) rfl dX0_rankForDraft_9 ?_
  refine lv_icmp_ge (tgt := 64) hx hb dX0_rankForDraft_12 (by decide) (fun c12 => ?_) (fun c12 => ?_)
  · have c12 : nI E ≤ nI i := c12
    rw [nI_leI (by omega) (by omega)] at c12
    refine lv_aload_n hx hb dX0_rankForDraft_64 rfl (lv_at hl 0 rfl) ?_
    refine va_get (D := D) (ci := 0) (C := RX0) (T := TX0) (N := 16) hx hb hts hU hown hK hP 0 rfl rfl 7 (by decide) hf_entries (fun _ h9 => h9) rfl dX0_rankForDraft_65 ?_
    refine eb_iret hx hb hr hlk hK hP hD hS dX0_rankForDraft_68 ?_
    exact ⟨rfl, E, rfl, Nat.le_refl _, fun j hj => hi7 j (by omega), fun hh => absurd hh (Nat.lt_irrefl _)⟩
  · have c12 : ¬ nI E ≤ nI i := c12
    rw [nI_leI (by omega) (by omega)] at c12
    refine lv_aload_n hx hb dX0_rankForDraft_15 rfl (lv_at hl 0 rfl) ?_
    refine va_get (D := D) (ci := 0) (C := RX0) (T := TX0) (N := 16) hx hb hts hU hown hK hP 0 rfl rfl 6 (by decide) hf_order (fun _ h9 => h9) rfl dX0_rankForDraft_16 ?_
    refine lv_iload_n hx hb dX0_rankForDraft_19 rfl (lv_at hl 3 rfl) ?_
    refine eb_iald hx hb hK hP 4 3 rfl rfl (i) (by omega) (by decide) dX0_rankForDraft_20 ?_
    have hs2 := (ho (i) (by omega)).2
    refine eb_ti (nI (o i)) ((ho (i) (by omega)).1) ?_
    refine lv_istore hx hb dX0_rankForDraft_21 hl (by decide) rfl (fun ls hl => ?_)
    have hl : lv_has ls 5 [(4, .int (nI (o i))), (0, .ref (q 0)), (1, .int pp), (2, .int ((et_pf K kd dm).toInt32)), (3, .int (nI i))] := hl
    refine lv_aload_n hx hb dX0_rankForDraft_23 rfl (lv_at hl 1 rfl) ?_
    refine va_get (D := D) (ci := 0) (C := RX0) (T := TX0) (N := 16) hx hb hts hU hown hK hP 0 rfl rfl 12 (by decide) hf_prefixes (fun _ h9 => h9) rfl dX0_rankForDraft_24 ?_
    refine lv_iload hx hb dX0_rankForDraft_27 (lv_at hl 0 rfl) ?_
    refine eb_iald hx hb hK hP 7 6 rfl rfl (o i) (by omega) (by decide) dX0_rankForDraft_29 ?_
    refine lv_iload_n hx hb dX0_rankForDraft_30 rfl (lv_at hl 3 rfl) ?_
    refine lv_icmp_lt (tgt := 56) hx hb dX0_rankForDraft_31 (by decide) (fun c31 => ?_) (fun c31 => ?_)
    · refine lv_iload_n hx hb dX0_rankForDraft_56 rfl (lv_at hl 4 rfl) ?_
      refine eb_iret hx hb hr hlk hK hP hD hS dX0_rankForDraft_57 ?_
      exact ⟨rfl, i, rfl, by omega, hi7, fun _ => by simp only [c31, true_and, and_true, true_or, or_true, false_and, and_false, false_or, or_false, if_true, if_false, not_true_eq_false, not_false_eq_true, implies_true]⟩
    · refine lv_aload_n hx hb dX0_rankForDraft_34 rfl (lv_at hl 1 rfl) ?_
      refine va_get (D := D) (ci := 0) (C := RX0) (T := TX0) (N := 16) hx hb hts hU hown hK hP 0 rfl rfl 12 (by decide) hf_prefixes (fun _ h9 => h9) rfl dX0_rankForDraft_35 ?_
      refine lv_iload hx hb dX0_rankForDraft_38 (lv_at hl 0 rfl) ?_
      refine eb_iald hx hb hK hP 7 6 rfl rfl (o i) (by omega) (by decide) dX0_rankForDraft_40 ?_
      refine lv_iload_n hx hb dX0_rankForDraft_41 rfl (lv_at hl 3 rfl) ?_
      refine lv_icmp_ne (tgt := 58) hx hb dX0_rankForDraft_42 (by decide) (fun c42 => ?_) (fun c42 => ?_)
      · refine lv_iinc (k := 4) (v := nI (i + 1)) hx hb dX0_rankForDraft_58 hl rfl (nI_add i 1) (by decide) rfl (fun ls hl => ?_)
        have hl : lv_has ls 5 [(3, .int (nI (i + 1))), (4, .int (nI (o i))), (0, .ref (q 0)), (1, .int pp), (2, .int ((et_pf K kd dm).toInt32))] := hl
        refine lv_goto (tgt := 7) hx hb dX0_rankForDraft_61 (by decide) ?_
        exact hrec7 ls H locs (by omega) ⟨lv_sub hl [2, 3, 4, 0] rfl, hP, hD, hS, lt_s hi7 (by simp only [c31, c42, true_and, and_true, true_or, or_true, false_and, and_false, false_or, or_false, if_true, if_false, not_true_eq_false, not_false_eq_true, implies_true])⟩
      · refine lv_aload_n hx hb dX0_rankForDraft_45 rfl (lv_at hl 1 rfl) ?_
        refine va_get (D := D) (ci := 0) (C := RX0) (T := TX0) (N := 16) hx hb hts hU hown hK hP 0 rfl rfl 11 (by decide) hf_priorities (fun _ h9 => h9) rfl dX0_rankForDraft_46 ?_
        refine lv_iload hx hb dX0_rankForDraft_49 (lv_at hl 0 rfl) ?_
        refine eb_iald hx hb hK hP 6 5 rfl rfl (o i) (by omega) (by decide) dX0_rankForDraft_51 ?_
        refine lv_iload_n hx hb dX0_rankForDraft_52 rfl (lv_at hl 2 rfl) ?_
        refine lv_icmp_ge (tgt := 58) hx hb dX0_rankForDraft_53 (by decide) (fun c53 => ?_) (fun c53 => ?_)
        · rw [← Int32.not_lt] at c53
          refine lv_iinc (k := 4) (v := nI (i + 1)) hx hb dX0_rankForDraft_58 hl rfl (nI_add i 1) (by decide) rfl (fun ls hl => ?_)
          have hl : lv_has ls 5 [(3, .int (nI (i + 1))), (4, .int (nI (o i))), (0, .ref (q 0)), (1, .int pp), (2, .int ((et_pf K kd dm).toInt32))] := hl
          refine lv_goto (tgt := 7) hx hb dX0_rankForDraft_61 (by decide) ?_
          exact hrec7 ls H locs (by omega) ⟨lv_sub hl [2, 3, 4, 0] rfl, hP, hD, hS, lt_s hi7 (by simp only [c31, eq_true c42, c53, true_and, and_true, true_or, or_true, false_and, and_false, false_or, or_false, if_true, if_false, not_true_eq_false, not_false_eq_true, implies_true])⟩
        · rw [Int32.not_le] at c53
          refine lv_iload_n hx hb dX0_rankForDraft_56 rfl (lv_at hl 4 rfl) ?_
          refine eb_iret hx hb hr hlk hK hP hD hS dX0_rankForDraft_57 ?_
          exact ⟨rfl, i, rfl, by omega, hi7, fun _ => by simp only [c31, eq_true c42, c53, true_and, and_true, true_or, or_true, false_and, and_false, false_or, or_false, if_true, if_false, not_true_eq_false, not_false_eq_true, implies_true]⟩

set_option maxHeartbeats 4000000 in
set_option maxRecDepth 100000 in
theorem tX_rankOf (l : Launch) (D : va_G) (q : Nat → Nat) (cs : Nat → ClassId) {K E : Nat} {wd : Int32} {ab : Int64} {kd : Nat → Int32} {dv dm : Nat → Int64} {ord : Nat → Int32} {nn ms : Int32} {nums pris pres fins : Nat → Int32} {vals msks : Nat → Int64} (hE : E ≤ 24) (o : Nat → Nat) (ho : ∀ r, r < 24 → ord r = nI (o r) ∧ o r < 24) (en : Int32) : eb_MI l D vwCl (XTy cs) yX0_rankOf wsX0_rankOf { frames := 0, cells := 0, slots := 0, locals := 0 } [.ref (q 0), .int en] (XW q cs (nI K) wd ab kd dv dm ord (nI E) nn ms nums pris pres fins vals msks) (fun r w1 => w1 = XW q cs (nI K) wd ab kd dv dm ord (nI E) nn ms nums pris pres fins vals msks ∧ ((∃ j, j < E ∧ nums (o j) = en ∧ (∀ i, i < j → ¬ nums (o i) = en) ∧ r = nI j) ∨ ((∀ j, j < E → ¬ nums (o j) = en) ∧ r = -1))) := by
  refine eb_openI (cc := cX0_rankOf) (maxL := 3) (ret := (some .int)) (by decide +kernel) rfl (Nat.le_of_ble_eq_true rfl) ?_
  intro p e s m below meth c A ls H locs hx hb hr hts hown hlk hml hP hK hD hA hS hl
  have hU : ∀ w ∈ wsX00, w ∈ wsX0_rankOf := fun w h => List.mem_cons_of_mem _ (List.mem_append_right _ h)
  have hf_entries := hts (.fieldLink RX0 23 "EntryTable" "entries" "I") (by decide +kernel)
  have hf_numbers := hts (.fieldLink RX0 33 "EntryTable" "numbers" "[I") (by decide +kernel)
  have hf_order := hts (.fieldLink RX0 20 "EntryTable" "order" "[I") (by decide +kernel)
  have hl : lv_has ls 3 [(0, .ref (q 0)), (1, .int en)] := hl
  refine lv_iconst (v := 0) hx hb dX0_rankOf_0 (by decide) ?_
  refine lv_istore_n hx hb dX0_rankOf_1 rfl hl (by decide) rfl (fun ls hl => ?_)
  have hl : lv_has ls 3 [(2, .int 0), (0, .ref (q 0)), (1, .int en)] := hl
  refine eb_for (fun (i : Nat) (ls : Array Slot) (H : Heap) (locs : List Loc) => lv_has ls 3 [(0, .ref (q 0)), (1, .int en), (2, .int (nI i))] ∧ va_P D vwCl (XW q cs (nI K) wd ab kd dv dm ord (nI E) nn ms nums pris pres fins vals msks) H ∧ va_D A (XW q cs (nI K) wd ab kd dv dm ord (nI E) nn ms nums pris pres fins vals msks) ∧ va_S A s.heap H locs ∧ (∀ j, j < i → ¬ nums (o j) = en)) 2 (E) ?_ (E) (0) ls H locs (by omega) ⟨lv_sub hl [1, 2, 0] rfl, hP, hD, hS, fun j hj => absurd hj (Nat.not_lt_zero j)⟩
  intro i ls H locs hi hI hrec2
  obtain ⟨hl, hP, hD, hS, hi2⟩ := hI
  refine lv_iload_n hx hb dX0_rankOf_2 rfl (lv_at hl 2 rfl) ?_
  refine lv_aload_n hx hb dX0_rankOf_3 rfl (lv_at hl 0 rfl) ?_
  refine va_get (D := D) (ci := 0) (C := RX0) (T := TX0) (N := 16) hx hb hts hU hown hK hP 0 rfl rfl 7 (by decide) hf_entries (fun _ h9 => h9) rfl dX0_rankOf_4 ?_
  refine lv_icmp_ge (tgt := 33) hx hb dX0_rankOf_7 (by decide) (fun c7 => ?_) (fun c7 => ?_)
  · have c7 : nI E ≤ nI i := c7
    rw [nI_leI (by omega) (by omega)] at c7
    refine lv_iconst (v := (-1)) hx hb dX0_rankOf_33 (by decide) ?_
    refine eb_iret hx hb hr hlk hK hP hD hS dX0_rankOf_34 ?_
    exact ⟨rfl, Or.inr ⟨fun j hj => hi2 j (by omega), rfl⟩⟩
  · have c7 : ¬ nI E ≤ nI i := c7
    rw [nI_leI (by omega) (by omega)] at c7
    refine lv_aload_n hx hb dX0_rankOf_10 rfl (lv_at hl 0 rfl) ?_
    refine va_get (D := D) (ci := 0) (C := RX0) (T := TX0) (N := 16) hx hb hts hU hown hK hP 0 rfl rfl 10 (by decide) hf_numbers (fun _ h9 => h9) rfl dX0_rankOf_11 ?_
    refine lv_aload_n hx hb dX0_rankOf_14 rfl (lv_at hl 0 rfl) ?_
    refine va_get (D := D) (ci := 0) (C := RX0) (T := TX0) (N := 16) hx hb hts hU hown hK hP 0 rfl rfl 6 (by decide) hf_order (fun _ h9 => h9) rfl dX0_rankOf_15 ?_
    refine lv_iload_n hx hb dX0_rankOf_18 rfl (lv_at hl 2 rfl) ?_
    refine eb_iald hx hb hK hP 4 3 rfl rfl (i) (by omega) (by decide) dX0_rankOf_19 ?_
    have hs1 := (ho (i) (by omega)).2
    refine eb_ti (nI (o i)) ((ho (i) (by omega)).1) ?_
    refine eb_iald hx hb hK hP 5 4 rfl rfl (o i) (by omega) (by decide) dX0_rankOf_20 ?_
    refine lv_iload_n hx hb dX0_rankOf_21 rfl (lv_at hl 1 rfl) ?_
    refine lv_icmp_ne (tgt := 27) hx hb dX0_rankOf_22 (by decide) (fun c22 => ?_) (fun c22 => ?_)
    · refine lv_iinc (k := 2) (v := nI (i + 1)) hx hb dX0_rankOf_27 hl rfl (nI_add i 1) (by decide) rfl (fun ls hl => ?_)
      have hl : lv_has ls 3 [(2, .int (nI (i + 1))), (0, .ref (q 0)), (1, .int en)] := hl
      refine lv_goto (tgt := 2) hx hb dX0_rankOf_30 (by decide) ?_
      exact hrec2 ls H locs (by omega) ⟨lv_sub hl [1, 2, 0] rfl, hP, hD, hS, lt_s hi2 c22⟩
    · refine lv_iload_n hx hb dX0_rankOf_25 rfl (lv_at hl 2 rfl) ?_
      refine eb_iret hx hb hr hlk hK hP hD hS dX0_rankOf_26 ?_
      exact ⟨rfl, Or.inl ⟨i, by omega, c22, hi2, rfl⟩⟩

