set_option maxHeartbeats 4000000 in
set_option maxRecDepth 100000 in
theorem tM_fits (l : Launch) (D : va_G) (q : Nat → Nat) (cs : Nat → ClassId) {K C : Nat} {wd : Int32} {kd num pri hit : Nat → Int32} {val msk mv mm ask : Nat → Int64} {nn ms : Int32} (x : Int64) : eb_MI l D vwCl (MTy cs) yX1_fits wsM_fits { frames := 0, cells := 0, slots := 0, locals := 0 } [.ref (q 0), .long x] (MW q cs (nI K) wd kd num pri hit val msk mv mm ask (nI C) nn ms) (fun r w1 => w1 = MW q cs (nI K) wd kd num pri hit val msk mv mm ask (nI C) nn ms ∧ (((et_rn wd x) ∧ r = 1) ∨ (¬ (et_rn wd x) ∧ r = 0))) := by
  refine eb_openI (cc := cX1_fits) (maxL := 3) (ret := (some .boolean)) (by decide +kernel) rfl (Nat.le_of_ble_eq_true rfl) ?_
  intro p e s m below meth c A ls H locs hx hb hr hts hown hlk hml hP hK hD hA hS hl
  have hU : ∀ w ∈ wsX10, w ∈ wsM_fits := fun w h => List.mem_cons_of_mem _ (MALL_u w h)
  have hf_width := hts (.fieldLink RX1 42 "EntryTableModel" "width" "I") (by decide +kernel)
  have hl : lv_has ls 3 [(0, .ref (q 0)), (1, .long x)] := hl
  refine lv_lload_n hx hb dX1_fits_0 rfl (lv_at hl 1 rfl) ?_
  refine lv_lconst (v := 0) hx hb dX1_fits_1 (by decide) ?_
  refine W.lcmp hx hb dX1_fits_2 ?_
  refine lv_if_lt (tgt := 21) hx hb dX1_fits_3 (by decide) (fun c3 => ?_) (fun c3 => ?_)
  · rw [lg_cmp_lt, ← Int64.not_le] at c3
    refine lv_iconst (v := 0) hx hb dX1_fits_21 (by decide) ?_
    refine eb_zret hx hb hr hlk hK hP hD hS dX1_fits_22 (by decide) ?_
    exact ⟨rfl, Or.inr ⟨by simp only [et_rn, c3, true_and, and_true, true_or, or_true, false_and, and_false, false_or, or_false, if_true, if_false, not_true_eq_false, not_false_eq_true, implies_true], rfl⟩⟩
  · rw [lg_cmp_lt, Int64.not_lt] at c3
    refine lv_lload_n hx hb dX1_fits_6 rfl (lv_at hl 1 rfl) ?_
    refine lv_aload_n hx hb dX1_fits_7 rfl (lv_at hl 0 rfl) ?_
    refine va_get (D := D) (ci := 1) (C := RX1) (T := TX1) (N := 14) hx hb hts hU hown hK hP 0 rfl rfl 1 (by decide) hf_width (fun _ h9 => h9) rfl dX1_fits_8 ?_
    refine lv_lshr hx hb dX1_fits_11 rfl ?_
    refine lv_lconst (v := 0) hx hb dX1_fits_12 (by decide) ?_
    refine W.lcmp hx hb dX1_fits_13 ?_
    refine lv_if_ne (tgt := 21) hx hb dX1_fits_14 (by decide) (fun c14 => ?_) (fun c14 => ?_)
    · rw [lg_cmp_eq] at c14
      refine lv_iconst (v := 0) hx hb dX1_fits_21 (by decide) ?_
      refine eb_zret hx hb hr hlk hK hP hD hS dX1_fits_22 (by decide) ?_
      exact ⟨rfl, Or.inr ⟨by simp only [et_rn, c3, c14, true_and, and_true, true_or, or_true, false_and, and_false, false_or, or_false, if_true, if_false, not_true_eq_false, not_false_eq_true, implies_true], rfl⟩⟩
    · rw [lg_cmp_eq] at c14
      refine lv_iconst (v := 1) hx hb dX1_fits_17 (by decide) ?_
      refine lv_goto (tgt := 22) hx hb dX1_fits_18 (by decide) ?_
      refine eb_zret hx hb hr hlk hK hP hD hS dX1_fits_22 (by decide) ?_
      exact ⟨rfl, Or.inl ⟨by simp only [et_rn, c3, eq_true c14, true_and, and_true, true_or, or_true, false_and, and_false, false_or, or_false, if_true, if_false, not_true_eq_false, not_false_eq_true, implies_true], rfl⟩⟩

set_option maxHeartbeats 4000000 in
set_option maxRecDepth 100000 in
theorem tM_bits (l : Launch) (D : va_G) (q : Nat → Nat) (cs : Nat → ClassId) {K C : Nat} {wd : Int32} {kd num pri hit : Nat → Int32} {val msk mv mm ask : Nat → Int64} {nn ms : Int32} (x : Int64) : eb_ML l D vwCl (MTy cs) yX1_bits wsM_bits { frames := 0, cells := 0, slots := 0, locals := 0 } [.ref (q 0), .long x] (MW q cs (nI K) wd kd num pri hit val msk mv mm ask (nI C) nn ms) (fun r w1 => w1 = MW q cs (nI K) wd kd num pri hit val msk mv mm ask (nI C) nn ms ∧ r = et_rb wd x) := by
  refine eb_openL (cc := cX1_bits) (maxL := 3) (ret := (some .long)) (by decide +kernel) rfl (Nat.le_of_ble_eq_true rfl) ?_
  intro p e s m below meth c A ls H locs hx hb hr hts hown hlk hml hP hK hD hA hS hl
  have hU : ∀ w ∈ wsX10, w ∈ wsM_bits := fun w h => List.mem_cons_of_mem _ (MALL_u w h)
  have hf_width := hts (.fieldLink RX1 42 "EntryTableModel" "width" "I") (by decide +kernel)
  have hl : lv_has ls 3 [(0, .ref (q 0)), (1, .long x)] := hl
  refine lv_lload_n hx hb dX1_bits_0 rfl (lv_at hl 1 rfl) ?_
  refine lv_lconst (v := 0) hx hb dX1_bits_1 (by decide) ?_
  refine W.lcmp hx hb dX1_bits_2 ?_
  refine lv_if_ne (tgt := 10) hx hb dX1_bits_3 (by decide) (fun c3 => ?_) (fun c3 => ?_)
  · rw [lg_cmp_eq] at c3
    refine lv_lconst (v := 1) hx hb dX1_bits_10 (by decide) ?_
    refine lv_aload_n hx hb dX1_bits_11 rfl (lv_at hl 0 rfl) ?_
    refine va_get (D := D) (ci := 1) (C := RX1) (T := TX1) (N := 14) hx hb hts hU hown hK hP 0 rfl rfl 1 (by decide) hf_width (fun _ h9 => h9) rfl dX1_bits_12 ?_
    refine lv_lshl hx hb dX1_bits_15 rfl ?_
    refine lv_lconst (v := 1) hx hb dX1_bits_16 (by decide) ?_
    refine lv_lsub hx hb dX1_bits_17 ?_
    refine lv_aload_n hx hb dX1_bits_18 rfl (lv_at hl 0 rfl) ?_
    refine va_get (D := D) (ci := 1) (C := RX1) (T := TX1) (N := 14) hx hb hts hU hown hK hP 0 rfl rfl 1 (by decide) hf_width (fun _ h9 => h9) rfl dX1_bits_19 ?_
    refine lv_i2l hx hb dX1_bits_22 rfl ?_
    refine lv_lload_n hx hb dX1_bits_23 rfl (lv_at hl 1 rfl) ?_
    refine lv_lsub hx hb dX1_bits_24 ?_
    refine lv_l2i hx hb dX1_bits_25 rfl ?_
    refine lv_lshr hx hb dX1_bits_26 rfl ?_
    refine lv_aload_n hx hb dX1_bits_27 rfl (lv_at hl 0 rfl) ?_
    refine va_get (D := D) (ci := 1) (C := RX1) (T := TX1) (N := 14) hx hb hts hU hown hK hP 0 rfl rfl 1 (by decide) hf_width (fun _ h9 => h9) rfl dX1_bits_28 ?_
    refine lv_i2l hx hb dX1_bits_31 rfl ?_
    refine lv_lload_n hx hb dX1_bits_32 rfl (lv_at hl 1 rfl) ?_
    refine lv_lsub hx hb dX1_bits_33 ?_
    refine lv_l2i hx hb dX1_bits_34 rfl ?_
    refine lv_lshl hx hb dX1_bits_35 rfl ?_
    refine eb_lret hx hb hr hlk hK hP hD hS dX1_bits_36 ?_
    exact ⟨rfl, by unfold et_rb; rw [if_neg c3]⟩
  · rw [lg_cmp_eq] at c3
    refine lv_lconst (v := 0) hx hb dX1_bits_6 (by decide) ?_
    refine lv_goto (tgt := 36) hx hb dX1_bits_7 (by decide) ?_
    refine eb_lret hx hb hr hlk hK hP hD hS dX1_bits_36 ?_
    exact ⟨rfl, by unfold et_rb; rw [if_pos c3]⟩

set_option maxHeartbeats 4000000 in
set_option maxRecDepth 100000 in
theorem tM_good (l : Launch) (D : va_G) (q : Nat → Nat) (cs : Nat → ClassId) {K C : Nat} {wd : Int32} {kd num pri hit : Nat → Int32} {val msk mv mm ask : Nat → Int64} {nn ms : Int32} (k : Nat) (hk : k < 3) : eb_MI l D vwCl (MTy cs) yX1_good wsM_good { frames := 1, cells := 0, slots := 0, locals := 40 } [.ref (q 0), .int (nI k)] (MW q cs (nI K) wd kd num pri hit val msk mv mm ask (nI C) nn ms) (fun r w1 => w1 = MW q cs (nI K) wd kd num pri hit val msk mv mm ask (nI C) nn ms ∧ (((et_rs wd (kd k) (mv k) (mm k)) ∧ r = 1) ∨ (¬ (et_rs wd (kd k) (mv k) (mm k)) ∧ r = 0))) := by
  refine eb_openI (cc := cX1_good) (maxL := 2) (ret := (some .boolean)) (by decide +kernel) rfl (Nat.le_of_ble_eq_true rfl) ?_
  intro p e s m below meth c A ls H locs hx hb hr hts hown hlk hml hP hK hD hA hS hl
  have hU : ∀ w ∈ wsX10, w ∈ wsM_good := fun w h => List.mem_cons_of_mem _ (MALL_u w h)
  have hf_madeValue := hts (.fieldLink RX1 29 "EntryTableModel" "madeValue" "[J") (by decide +kernel)
  have hf_kind := hts (.fieldLink RX1 7 "EntryTableModel" "kind" "[I") (by decide +kernel)
  have hf_madeMask := hts (.fieldLink RX1 32 "EntryTableModel" "madeMask" "[J") (by decide +kernel)
  have hf_width := hts (.fieldLink RX1 42 "EntryTableModel" "width" "I") (by decide +kernel)
  have hl : lv_has ls 2 [(0, .ref (q 0)), (1, .int (nI k))] := hl
  refine lv_aload_n hx hb dX1_good_0 rfl (lv_at hl 0 rfl) ?_
  refine lv_aload_n hx hb dX1_good_1 rfl (lv_at hl 0 rfl) ?_
  refine va_get (D := D) (ci := 1) (C := RX1) (T := TX1) (N := 14) hx hb hts hU hown hK hP 0 rfl rfl 8 (by decide) hf_madeValue (fun _ h9 => h9) rfl dX1_good_2 ?_
  refine lv_iload_n hx hb dX1_good_5 rfl (lv_at hl 1 rfl) ?_
  refine eb_lald hx hb hK hP 7 6 rfl rfl (k) (by omega) (by decide) dX1_good_6 ?_
  refine eb_calli (As := [.long (mv k)]) (rest := []) ⟨hx, hb, hml, hown, hts⟩ (tM_fits l D q cs (mv k)) (cwV 1 hts gM_fits rfl rfl rfl (by decide +kernel) ⟨Nat.le_of_ble_eq_true rfl, Nat.le_of_ble_eq_true rfl⟩) hK hP hD hS hA rfl rfl rfl rfl hl.1 rfl (Nat.le_of_ble_eq_true rfl) dX1_good_7 ⟨Nat.zero_le _, Nat.zero_le _⟩ (fun r1 w1 H locs hq hP hD hS => ?_)
  obtain ⟨rfl, hq1⟩ := hq
  refine lv_if_ne (tgt := 15) hx hb dX1_good_10 (by decide) (fun c10 => ?_) (fun c10 => ?_)
  · have c10 := et_b1 hq1 c10
    refine lv_aload_n hx hb dX1_good_15 rfl (lv_at hl 0 rfl) ?_
    refine va_get (D := D) (ci := 1) (C := RX1) (T := TX1) (N := 14) hx hb hts hU hown hK hP 0 rfl rfl 2 (by decide) hf_kind (fun _ h9 => h9) rfl dX1_good_16 ?_
    refine lv_iload_n hx hb dX1_good_19 rfl (lv_at hl 1 rfl) ?_
    refine eb_iald hx hb hK hP 1 0 rfl rfl (k) (by omega) (by decide) dX1_good_20 ?_
    refine lv_if_ne (tgt := 26) hx hb dX1_good_21 (by decide) (fun c21 => ?_) (fun c21 => ?_)
    · refine lv_aload_n hx hb dX1_good_26 rfl (lv_at hl 0 rfl) ?_
      refine va_get (D := D) (ci := 1) (C := RX1) (T := TX1) (N := 14) hx hb hts hU hown hK hP 0 rfl rfl 2 (by decide) hf_kind (fun _ h9 => h9) rfl dX1_good_27 ?_
      refine lv_iload_n hx hb dX1_good_30 rfl (lv_at hl 1 rfl) ?_
      refine eb_iald hx hb hK hP 1 0 rfl rfl (k) (by omega) (by decide) dX1_good_31 ?_
      refine lv_iconst (v := 2) hx hb dX1_good_32 (by decide) ?_
      refine lv_icmp_ne (tgt := 77) hx hb dX1_good_33 (by decide) (fun c33 => ?_) (fun c33 => ?_)
      · refine lv_aload_n hx hb dX1_good_77 rfl (lv_at hl 0 rfl) ?_
        refine va_get (D := D) (ci := 1) (C := RX1) (T := TX1) (N := 14) hx hb hts hU hown hK hP 0 rfl rfl 9 (by decide) hf_madeMask (fun _ h9 => h9) rfl dX1_good_78 ?_
        refine lv_iload_n hx hb dX1_good_81 rfl (lv_at hl 1 rfl) ?_
        refine eb_lald hx hb hK hP 8 7 rfl rfl (k) (by omega) (by decide) dX1_good_82 ?_
        refine lv_lconst (v := 0) hx hb dX1_good_83 (by decide) ?_
        refine W.lcmp hx hb dX1_good_84 ?_
        refine lv_if_lt (tgt := 133) hx hb dX1_good_85 (by decide) (fun c85 => ?_) (fun c85 => ?_)
        · rw [lg_cmp_lt, ← Int64.not_le] at c85
          refine lv_iconst (v := 0) hx hb dX1_good_133 (by decide) ?_
          refine eb_zret hx hb hr hlk hK hP hD hS dX1_good_134 (by decide) ?_
          exact ⟨rfl, Or.inr ⟨by simp only [et_rs, c10, c21, c33, c85, true_and, and_true, true_or, or_true, false_and, and_false, false_or, or_false, if_true, if_false, not_true_eq_false, not_false_eq_true, implies_true], rfl⟩⟩
        · rw [lg_cmp_lt, Int64.not_lt] at c85
          refine lv_aload_n hx hb dX1_good_88 rfl (lv_at hl 0 rfl) ?_
          refine va_get (D := D) (ci := 1) (C := RX1) (T := TX1) (N := 14) hx hb hts hU hown hK hP 0 rfl rfl 9 (by decide) hf_madeMask (fun _ h9 => h9) rfl dX1_good_89 ?_
          refine lv_iload_n hx hb dX1_good_92 rfl (lv_at hl 1 rfl) ?_
          refine eb_lald hx hb hK hP 8 7 rfl rfl (k) (by omega) (by decide) dX1_good_93 ?_
          refine lv_aload_n hx hb dX1_good_94 rfl (lv_at hl 0 rfl) ?_
          refine va_get (D := D) (ci := 1) (C := RX1) (T := TX1) (N := 14) hx hb hts hU hown hK hP 0 rfl rfl 1 (by decide) hf_width (fun _ h9 => h9) rfl dX1_good_95 ?_
          refine lv_i2l hx hb dX1_good_98 rfl ?_
          refine W.lcmp hx hb dX1_good_99 ?_
          refine lv_if_gt (tgt := 133) hx hb dX1_good_100 (by decide) (fun c100 => ?_) (fun c100 => ?_)
          · rw [lg_cmp_gt, ← Int64.not_le] at c100
            refine lv_iconst (v := 0) hx hb dX1_good_133 (by decide) ?_
            refine eb_zret hx hb hr hlk hK hP hD hS dX1_good_134 (by decide) ?_
            exact ⟨rfl, Or.inr ⟨by simp only [et_rs, c10, c21, c33, c85, c100, true_and, and_true, true_or, or_true, false_and, and_false, false_or, or_false, if_true, if_false, not_true_eq_false, not_false_eq_true, implies_true], rfl⟩⟩
          · rw [lg_cmp_gt, Int64.not_lt] at c100
            refine lv_aload_n hx hb dX1_good_103 rfl (lv_at hl 0 rfl) ?_
            refine va_get (D := D) (ci := 1) (C := RX1) (T := TX1) (N := 14) hx hb hts hU hown hK hP 0 rfl rfl 8 (by decide) hf_madeValue (fun _ h9 => h9) rfl dX1_good_104 ?_
            refine lv_iload_n hx hb dX1_good_107 rfl (lv_at hl 1 rfl) ?_
            refine eb_lald hx hb hK hP 7 6 rfl rfl (k) (by omega) (by decide) dX1_good_108 ?_
            refine lv_aload_n hx hb dX1_good_109 rfl (lv_at hl 0 rfl) ?_
            refine lv_aload_n hx hb dX1_good_110 rfl (lv_at hl 0 rfl) ?_
            refine va_get (D := D) (ci := 1) (C := RX1) (T := TX1) (N := 14) hx hb hts hU hown hK hP 0 rfl rfl 9 (by decide) hf_madeMask (fun _ h9 => h9) rfl dX1_good_111 ?_
            refine lv_iload_n hx hb dX1_good_114 rfl (lv_at hl 1 rfl) ?_
            refine eb_lald hx hb hK hP 8 7 rfl rfl (k) (by omega) (by decide) dX1_good_115 ?_
            refine eb_calll (As := [.long (mm k)]) (rest := [.long (mv k)]) ⟨hx, hb, hml, hown, hts⟩ (tM_bits l D q cs (mm k)) (cwV 1 hts gM_bits rfl rfl rfl (by decide +kernel) ⟨Nat.le_of_ble_eq_true rfl, Nat.le_of_ble_eq_true rfl⟩) hK hP hD hS hA rfl rfl rfl rfl hl.1 rfl (Nat.le_of_ble_eq_true rfl) dX1_good_116 ⟨Nat.zero_le _, Nat.zero_le _⟩ (fun r2 w1 H locs hq hP hD hS => ?_)
            obtain ⟨rfl, rfl⟩ := hq
            refine lv_ldc2 (v := (-1)) hx hb hown (hts (.constantLong RX1 49 (-1)) (by decide +kernel)) dX1_good_119 ?_
            refine lv_lxor hx hb dX1_good_122 ?_
            refine lv_land hx hb dX1_good_123 ?_
            refine lv_lconst (v := 0) hx hb dX1_good_124 (by decide) ?_
            refine W.lcmp hx hb dX1_good_125 ?_
            refine lv_if_ne (tgt := 133) hx hb dX1_good_126 (by decide) (fun c126 => ?_) (fun c126 => ?_)
            · rw [lg_cmp_eq] at c126
              refine lv_iconst (v := 0) hx hb dX1_good_133 (by decide) ?_
              refine eb_zret hx hb hr hlk hK hP hD hS dX1_good_134 (by decide) ?_
              exact ⟨rfl, Or.inr ⟨by simp only [et_rs, c10, c21, c33, c85, c100, c126, true_and, and_true, true_or, or_true, false_and, and_false, false_or, or_false, if_true, if_false, not_true_eq_false, not_false_eq_true, implies_true], rfl⟩⟩
            · rw [lg_cmp_eq] at c126
              refine lv_iconst (v := 1) hx hb dX1_good_129 (by decide) ?_
              refine lv_goto (tgt := 134) hx hb dX1_good_130 (by decide) ?_
              refine eb_zret hx hb hr hlk hK hP hD hS dX1_good_134 (by decide) ?_
              exact ⟨rfl, Or.inl ⟨by simp only [et_rs, c10, c21, c33, c85, c100, eq_true c126, true_and, and_true, true_or, or_true, false_and, and_false, false_or, or_false, if_true, if_false, not_true_eq_false, not_false_eq_true, implies_true], rfl⟩⟩
      · refine lv_aload_n hx hb dX1_good_36 rfl (lv_at hl 0 rfl) ?_
        refine lv_aload_n hx hb dX1_good_37 rfl (lv_at hl 0 rfl) ?_
        refine va_get (D := D) (ci := 1) (C := RX1) (T := TX1) (N := 14) hx hb hts hU hown hK hP 0 rfl rfl 9 (by decide) hf_madeMask (fun _ h9 => h9) rfl dX1_good_38 ?_
        refine lv_iload_n hx hb dX1_good_41 rfl (lv_at hl 1 rfl) ?_
        refine eb_lald hx hb hK hP 8 7 rfl rfl (k) (by omega) (by decide) dX1_good_42 ?_
        refine eb_calli (As := [.long (mm k)]) (rest := []) ⟨hx, hb, hml, hown, hts⟩ (tM_fits l D q cs (mm k)) (cwV 1 hts gM_fits rfl rfl rfl (by decide +kernel) ⟨Nat.le_of_ble_eq_true rfl, Nat.le_of_ble_eq_true rfl⟩) hK hP hD hS hA rfl rfl rfl rfl hl.1 rfl (Nat.le_of_ble_eq_true rfl) dX1_good_43 ⟨Nat.zero_le _, Nat.zero_le _⟩ (fun r2 w1 H locs hq hP hD hS => ?_)
        obtain ⟨rfl, hq2⟩ := hq
        refine lv_if_eq (tgt := 75) hx hb dX1_good_46 (by decide) (fun c46 => ?_) (fun c46 => ?_)
        · have c46 := et_b0 hq2 c46
          refine lv_iconst (v := 0) hx hb dX1_good_75 (by decide) ?_
          refine eb_zret hx hb hr hlk hK hP hD hS dX1_good_76 (by decide) ?_
          exact ⟨rfl, Or.inr ⟨by simp only [et_rs, c10, c21, eq_true c33, c46, true_and, and_true, true_or, or_true, false_and, and_false, false_or, or_false, if_true, if_false, not_true_eq_false, not_false_eq_true, implies_true], rfl⟩⟩
        · have c46 := et_b1 hq2 c46
          refine lv_aload_n hx hb dX1_good_49 rfl (lv_at hl 0 rfl) ?_
          refine va_get (D := D) (ci := 1) (C := RX1) (T := TX1) (N := 14) hx hb hts hU hown hK hP 0 rfl rfl 8 (by decide) hf_madeValue (fun _ h9 => h9) rfl dX1_good_50 ?_
          refine lv_iload_n hx hb dX1_good_53 rfl (lv_at hl 1 rfl) ?_
          refine eb_lald hx hb hK hP 7 6 rfl rfl (k) (by omega) (by decide) dX1_good_54 ?_
          refine lv_aload_n hx hb dX1_good_55 rfl (lv_at hl 0 rfl) ?_
          refine va_get (D := D) (ci := 1) (C := RX1) (T := TX1) (N := 14) hx hb hts hU hown hK hP 0 rfl rfl 9 (by decide) hf_madeMask (fun _ h9 => h9) rfl dX1_good_56 ?_
          refine lv_iload_n hx hb dX1_good_59 rfl (lv_at hl 1 rfl) ?_
          refine eb_lald hx hb hK hP 8 7 rfl rfl (k) (by omega) (by decide) dX1_good_60 ?_
          refine lv_ldc2 (v := (-1)) hx hb hown (hts (.constantLong RX1 49 (-1)) (by decide +kernel)) dX1_good_61 ?_
          refine lv_lxor hx hb dX1_good_64 ?_
          refine lv_land hx hb dX1_good_65 ?_
          refine lv_lconst (v := 0) hx hb dX1_good_66 (by decide) ?_
          refine W.lcmp hx hb dX1_good_67 ?_
          refine lv_if_ne (tgt := 75) hx hb dX1_good_68 (by decide) (fun c68 => ?_) (fun c68 => ?_)
          · rw [lg_cmp_eq] at c68
            refine lv_iconst (v := 0) hx hb dX1_good_75 (by decide) ?_
            refine eb_zret hx hb hr hlk hK hP hD hS dX1_good_76 (by decide) ?_
            exact ⟨rfl, Or.inr ⟨by simp only [et_rs, c10, c21, eq_true c33, c46, c68, true_and, and_true, true_or, or_true, false_and, and_false, false_or, or_false, if_true, if_false, not_true_eq_false, not_false_eq_true, implies_true], rfl⟩⟩
          · rw [lg_cmp_eq] at c68
            refine lv_iconst (v := 1) hx hb dX1_good_71 (by decide) ?_
            refine lv_goto (tgt := 76) hx hb dX1_good_72 (by decide) ?_
            refine eb_zret hx hb hr hlk hK hP hD hS dX1_good_76 (by decide) ?_
            exact ⟨rfl, Or.inl ⟨by simp only [et_rs, c10, c21, eq_true c33, c46, eq_true c68, true_and, and_true, true_or, or_true, false_and, and_false, false_or, or_false, if_true, if_false, not_true_eq_false, not_false_eq_true, implies_true], rfl⟩⟩
    · refine lv_iconst (v := 1) hx hb dX1_good_24 (by decide) ?_
      refine eb_zret hx hb hr hlk hK hP hD hS dX1_good_25 (by decide) ?_
      exact ⟨rfl, Or.inl ⟨by simp only [et_rs, c10, eq_true c21, true_and, and_true, true_or, or_true, false_and, and_false, false_or, or_false, if_true, if_false, not_true_eq_false, not_false_eq_true, implies_true], rfl⟩⟩
  · have c10 := et_b0 hq1 c10
    refine lv_iconst (v := 0) hx hb dX1_good_13 (by decide) ?_
    refine eb_zret hx hb hr hlk hK hP hD hS dX1_good_14 (by decide) ?_
    exact ⟨rfl, Or.inr ⟨by simp only [et_rs, c10, true_and, and_true, true_or, or_true, false_and, and_false, false_or, or_false, if_true, if_false, not_true_eq_false, not_false_eq_true, implies_true], rfl⟩⟩

set_option maxHeartbeats 4000000 in
set_option maxRecDepth 100000 in
theorem tM_prefix (l : Launch) (D : va_G) (q : Nat → Nat) (cs : Nat → ClassId) {K C : Nat} {wd : Int32} {kd num pri hit : Nat → Int32} {val msk mv mm ask : Nat → Int64} {nn ms : Int32} (hK3 : K ≤ 3) (e0 : Nat) (he0 : e0 < 24) : eb_ML l D vwCl (MTy cs) yX1_prefix wsM_prefix { frames := 0, cells := 0, slots := 0, locals := 0 } [.ref (q 0), .int (nI e0)] (MW q cs (nI K) wd kd num pri hit val msk mv mm ask (nI C) nn ms) (fun r w1 => w1 = MW q cs (nI K) wd kd num pri hit val msk mv mm ask (nI C) nn ms ∧ r = et_pf K kd (fun k => msk (3 * e0 + k))) := by
  refine eb_openL (cc := cX1_prefix) (maxL := 3) (ret := (some .long)) (by decide +kernel) rfl (Nat.le_of_ble_eq_true rfl) ?_
  intro p e s m below meth c A ls H locs hx hb hr hts hown hlk hml hP hK hD hA hS hl
  have hU : ∀ w ∈ wsX10, w ∈ wsM_prefix := fun w h => List.mem_cons_of_mem _ (MALL_u w h)
  have hf_keys := hts (.fieldLink RX1 38 "EntryTableModel" "keys" "I") (by decide +kernel)
  have hf_kind := hts (.fieldLink RX1 7 "EntryTableModel" "kind" "[I") (by decide +kernel)
  have hf_mask := hts (.fieldLink RX1 26 "EntryTableModel" "mask" "[J") (by decide +kernel)
  have hl : lv_has ls 3 [(0, .ref (q 0)), (1, .int (nI e0))] := hl
  refine lv_iconst (v := 0) hx hb dX1_prefix_0 (by decide) ?_
  refine lv_istore_n hx hb dX1_prefix_1 rfl hl (by decide) rfl (fun ls hl => ?_)
  have hl : lv_has ls 3 [(2, .int 0), (0, .ref (q 0)), (1, .int (nI e0))] := hl
  refine eb_for (fun (i : Nat) (ls : Array Slot) (H : Heap) (locs : List Loc) => lv_has ls 3 [(0, .ref (q 0)), (1, .int (nI e0)), (2, .int (nI i))] ∧ va_P D vwCl (MW q cs (nI K) wd kd num pri hit val msk mv mm ask (nI C) nn ms) H ∧ va_D A (MW q cs (nI K) wd kd num pri hit val msk mv mm ask (nI C) nn ms) ∧ va_S A s.heap H locs ∧ (et_pg kd (fun k => msk (3 * e0 + k)) 0 K = et_pg kd (fun k => msk (3 * e0 + k)) i (K - i))) 2 (K) ?_ (K) (0) ls H locs (by omega) ⟨lv_sub hl [1, 2, 0] rfl, hP, hD, hS, rfl⟩
  intro i ls H locs hi hI hrec2
  obtain ⟨hl, hP, hD, hS, hi2⟩ := hI
  refine lv_iload_n hx hb dX1_prefix_2 rfl (lv_at hl 2 rfl) ?_
  refine lv_aload_n hx hb dX1_prefix_3 rfl (lv_at hl 0 rfl) ?_
  refine va_get (D := D) (ci := 1) (C := RX1) (T := TX1) (N := 14) hx hb hts hU hown hK hP 0 rfl rfl 0 (by decide) hf_keys (fun _ h9 => h9) rfl dX1_prefix_4 ?_
  refine lv_icmp_ge (tgt := 37) hx hb dX1_prefix_7 (by decide) (fun c7 => ?_) (fun c7 => ?_)
  · have c7 : nI K ≤ nI i := c7
    rw [nI_leI (by omega) (by omega)] at c7
    refine lv_lconst (v := 0) hx hb dX1_prefix_37 (by decide) ?_
    refine eb_lret hx hb hr hlk hK hP hD hS dX1_prefix_38 ?_
    exact ⟨rfl, by show _ = et_pg kd (fun k => msk (3 * e0 + k)) 0 K; rw [hi2, show K - i = 0 by omega]; rfl⟩
  · have c7 : ¬ nI K ≤ nI i := c7
    rw [nI_leI (by omega) (by omega)] at c7
    refine lv_aload_n hx hb dX1_prefix_10 rfl (lv_at hl 0 rfl) ?_
    refine va_get (D := D) (ci := 1) (C := RX1) (T := TX1) (N := 14) hx hb hts hU hown hK hP 0 rfl rfl 2 (by decide) hf_kind (fun _ h9 => h9) rfl dX1_prefix_11 ?_
    refine lv_iload_n hx hb dX1_prefix_14 rfl (lv_at hl 2 rfl) ?_
    refine eb_iald hx hb hK hP 1 0 rfl rfl (i) (by omega) (by decide) dX1_prefix_15 ?_
    refine lv_iconst (v := 1) hx hb dX1_prefix_16 (by decide) ?_
    refine lv_icmp_ne (tgt := 31) hx hb dX1_prefix_17 (by decide) (fun c17 => ?_) (fun c17 => ?_)
    · refine lv_iinc (k := 2) (v := nI (i + 1)) hx hb dX1_prefix_31 hl rfl (nI_add i 1) (by decide) rfl (fun ls hl => ?_)
      have hl : lv_has ls 3 [(2, .int (nI (i + 1))), (0, .ref (q 0)), (1, .int (nI e0))] := hl
      refine lv_goto (tgt := 2) hx hb dX1_prefix_34 (by decide) ?_
      exact hrec2 ls H locs (by omega) ⟨lv_sub hl [1, 2, 0] rfl, hP, hD, hS, by rw [hi2, et_pg_at (by omega), if_neg c17]⟩
    · refine lv_aload_n hx hb dX1_prefix_20 rfl (lv_at hl 0 rfl) ?_
      refine va_get (D := D) (ci := 1) (C := RX1) (T := TX1) (N := 14) hx hb hts hU hown hK hP 0 rfl rfl 7 (by decide) hf_mask (fun _ h9 => h9) rfl dX1_prefix_21 ?_
      refine lv_iconst (v := 3) hx hb dX1_prefix_24 (by decide) ?_
      refine lv_iload_n hx hb dX1_prefix_25 rfl (lv_at hl 1 rfl) ?_
      refine lv_imul hx hb dX1_prefix_26 ?_
      refine eb_ti (nI (3 * e0)) (pk_mul 3 e0) ?_
      refine lv_iload_n hx hb dX1_prefix_27 rfl (lv_at hl 2 rfl) ?_
      refine lv_iadd hx hb dX1_prefix_28 ?_
      refine eb_ti (nI ((3 * e0) + i)) (nI_add (3 * e0) i) ?_
      refine eb_lald hx hb hK hP 6 5 rfl rfl ((3 * e0) + i) (by omega) (by decide) dX1_prefix_29 ?_
      refine eb_lret hx hb hr hlk hK hP hD hS dX1_prefix_30 ?_
      exact ⟨rfl, by show _ = et_pg kd (fun k => msk (3 * e0 + k)) 0 K; rw [hi2, et_pg_at (by omega), if_pos c17]⟩

set_option maxHeartbeats 4000000 in
set_option maxRecDepth 100000 in
theorem tM_before (l : Launch) (D : va_G) (q : Nat → Nat) (cs : Nat → ClassId) {K C : Nat} {wd : Int32} {kd num pri hit : Nat → Int32} {val msk mv mm ask : Nat → Int64} {nn ms : Int32} (hK3 : K ≤ 3) (e0 t0 : Nat) (he0 : e0 < 24) (ht0 : t0 < 24) : eb_MI l D vwCl (MTy cs) yX1_before wsM_before { frames := 1, cells := 0, slots := 0, locals := 40 } [.ref (q 0), .int (nI e0), .int (nI t0)] (MW q cs (nI K) wd kd num pri hit val msk mv mm ask (nI C) nn ms) (fun r w1 => w1 = MW q cs (nI K) wd kd num pri hit val msk mv mm ask (nI C) nn ms ∧ (((et_mb K kd num pri msk e0 t0) ∧ r = 1) ∨ (¬ (et_mb K kd num pri msk e0 t0) ∧ r = 0))) := by
  refine eb_openI (cc := cX1_before) (maxL := 3) (ret := (some .boolean)) (by decide +kernel) rfl (Nat.le_of_ble_eq_true rfl) ?_
  intro p e s m below meth c A ls H locs hx hb hr hts hown hlk hml hP hK hD hA hS hl
  have hU : ∀ w ∈ wsX10, w ∈ wsM_before := fun w h => List.mem_cons_of_mem _ (MALL_u w h)
  have hf_priority := hts (.fieldLink RX1 16 "EntryTableModel" "priority" "[I") (by decide +kernel)
  have hf_number := hts (.fieldLink RX1 13 "EntryTableModel" "number" "[I") (by decide +kernel)
  have hl : lv_has ls 3 [(0, .ref (q 0)), (1, .int (nI e0)), (2, .int (nI t0))] := hl
  refine lv_aload_n hx hb dX1_before_0 rfl (lv_at hl 0 rfl) ?_
  refine lv_iload_n hx hb dX1_before_1 rfl (lv_at hl 1 rfl) ?_
  refine eb_calll (As := [.int (nI e0)]) (rest := []) ⟨hx, hb, hml, hown, hts⟩ (tM_prefix l D q cs hK3 (e0) (by omega)) (cwV 1 hts gM_prefix rfl rfl rfl (by decide +kernel) ⟨Nat.le_of_ble_eq_true rfl, Nat.le_of_ble_eq_true rfl⟩) hK hP hD hS hA rfl rfl rfl rfl hl.1 rfl (Nat.le_of_ble_eq_true rfl) dX1_before_2 ⟨Nat.zero_le _, Nat.zero_le _⟩ (fun r1 w1 H locs hq hP hD hS => ?_)
  obtain ⟨rfl, rfl⟩ := hq
  refine lv_aload_n hx hb dX1_before_5 rfl (lv_at hl 0 rfl) ?_
  refine lv_iload_n hx hb dX1_before_6 rfl (lv_at hl 2 rfl) ?_
  refine eb_calll (As := [.int (nI t0)]) (rest := [.long (et_pf K kd (fun k => msk (3 * e0 + k)))]) ⟨hx, hb, hml, hown, hts⟩ (tM_prefix l D q cs hK3 (t0) (by omega)) (cwV 1 hts gM_prefix rfl rfl rfl (by decide +kernel) ⟨Nat.le_of_ble_eq_true rfl, Nat.le_of_ble_eq_true rfl⟩) hK hP hD hS hA rfl rfl rfl rfl hl.1 rfl (Nat.le_of_ble_eq_true rfl) dX1_before_7 ⟨Nat.zero_le _, Nat.zero_le _⟩ (fun r2 w1 H locs hq hP hD hS => ?_)
  obtain ⟨rfl, rfl⟩ := hq
  refine W.lcmp hx hb dX1_before_10 ?_
  refine lv_if_eq (tgt := 34) hx hb dX1_before_11 (by decide) (fun c11 => ?_) (fun c11 => ?_)
  · rw [lg_cmp_eq] at c11
    refine lv_aload_n hx hb dX1_before_34 rfl (lv_at hl 0 rfl) ?_
    refine va_get (D := D) (ci := 1) (C := RX1) (T := TX1) (N := 14) hx hb hts hU hown hK hP 0 rfl rfl 4 (by decide) hf_priority (fun _ h9 => h9) rfl dX1_before_35 ?_
    refine lv_iload_n hx hb dX1_before_38 rfl (lv_at hl 1 rfl) ?_
    refine eb_iald hx hb hK hP 3 2 rfl rfl (e0) (by omega) (by decide) dX1_before_39 ?_
    refine lv_aload_n hx hb dX1_before_40 rfl (lv_at hl 0 rfl) ?_
    refine va_get (D := D) (ci := 1) (C := RX1) (T := TX1) (N := 14) hx hb hts hU hown hK hP 0 rfl rfl 4 (by decide) hf_priority (fun _ h9 => h9) rfl dX1_before_41 ?_
    refine lv_iload_n hx hb dX1_before_44 rfl (lv_at hl 2 rfl) ?_
    refine eb_iald hx hb hK hP 3 2 rfl rfl (t0) (by omega) (by decide) dX1_before_45 ?_
    refine lv_icmp_eq (tgt := 70) hx hb dX1_before_46 (by decide) (fun c46 => ?_) (fun c46 => ?_)
    · refine lv_aload_n hx hb dX1_before_70 rfl (lv_at hl 0 rfl) ?_
      refine va_get (D := D) (ci := 1) (C := RX1) (T := TX1) (N := 14) hx hb hts hU hown hK hP 0 rfl rfl 3 (by decide) hf_number (fun _ h9 => h9) rfl dX1_before_71 ?_
      refine lv_iload_n hx hb dX1_before_74 rfl (lv_at hl 1 rfl) ?_
      refine eb_iald hx hb hK hP 2 1 rfl rfl (e0) (by omega) (by decide) dX1_before_75 ?_
      refine lv_aload_n hx hb dX1_before_76 rfl (lv_at hl 0 rfl) ?_
      refine va_get (D := D) (ci := 1) (C := RX1) (T := TX1) (N := 14) hx hb hts hU hown hK hP 0 rfl rfl 3 (by decide) hf_number (fun _ h9 => h9) rfl dX1_before_77 ?_
      refine lv_iload_n hx hb dX1_before_80 rfl (lv_at hl 2 rfl) ?_
      refine eb_iald hx hb hK hP 2 1 rfl rfl (t0) (by omega) (by decide) dX1_before_81 ?_
      refine lv_icmp_ge (tgt := 89) hx hb dX1_before_82 (by decide) (fun c82 => ?_) (fun c82 => ?_)
      · rw [← Int32.not_lt] at c82
        refine lv_iconst (v := 0) hx hb dX1_before_89 (by decide) ?_
        refine eb_zret hx hb hr hlk hK hP hD hS dX1_before_90 (by decide) ?_
        exact ⟨rfl, Or.inr ⟨by simp only [et_mb, c11, c46, c82, Int64.lt_irrefl, Int32.lt_irrefl, eq_self, true_and, and_true, true_or, or_true, false_and, and_false, false_or, or_false, if_true, if_false, not_true_eq_false, not_false_eq_true, implies_true], rfl⟩⟩
      · rw [Int32.not_le] at c82
        refine lv_iconst (v := 1) hx hb dX1_before_85 (by decide) ?_
        refine lv_goto (tgt := 90) hx hb dX1_before_86 (by decide) ?_
        refine eb_zret hx hb hr hlk hK hP hD hS dX1_before_90 (by decide) ?_
        exact ⟨rfl, Or.inl ⟨by simp only [et_mb, c11, c46, c82, Int64.lt_irrefl, Int32.lt_irrefl, eq_self, true_and, and_true, true_or, or_true, false_and, and_false, false_or, or_false, if_true, if_false, not_true_eq_false, not_false_eq_true, implies_true], rfl⟩⟩
    · refine lv_aload_n hx hb dX1_before_49 rfl (lv_at hl 0 rfl) ?_
      refine va_get (D := D) (ci := 1) (C := RX1) (T := TX1) (N := 14) hx hb hts hU hown hK hP 0 rfl rfl 4 (by decide) hf_priority (fun _ h9 => h9) rfl dX1_before_50 ?_
      refine lv_iload_n hx hb dX1_before_53 rfl (lv_at hl 1 rfl) ?_
      refine eb_iald hx hb hK hP 3 2 rfl rfl (e0) (by omega) (by decide) dX1_before_54 ?_
      refine lv_aload_n hx hb dX1_before_55 rfl (lv_at hl 0 rfl) ?_
      refine va_get (D := D) (ci := 1) (C := RX1) (T := TX1) (N := 14) hx hb hts hU hown hK hP 0 rfl rfl 4 (by decide) hf_priority (fun _ h9 => h9) rfl dX1_before_56 ?_
      refine lv_iload_n hx hb dX1_before_59 rfl (lv_at hl 2 rfl) ?_
      refine eb_iald hx hb hK hP 3 2 rfl rfl (t0) (by omega) (by decide) dX1_before_60 ?_
      refine lv_icmp_le (tgt := 68) hx hb dX1_before_61 (by decide) (fun c61 => ?_) (fun c61 => ?_)
      · rw [← Int32.not_lt] at c61
        refine lv_iconst (v := 0) hx hb dX1_before_68 (by decide) ?_
        refine eb_zret hx hb hr hlk hK hP hD hS dX1_before_69 (by decide) ?_
        exact ⟨rfl, Or.inr ⟨by simp only [et_mb, c11, c46, c61, Int64.lt_irrefl, Int32.lt_irrefl, eq_self, true_and, and_true, true_or, or_true, false_and, and_false, false_or, or_false, if_true, if_false, not_true_eq_false, not_false_eq_true, implies_true], rfl⟩⟩
      · rw [Int32.not_le] at c61
        refine lv_iconst (v := 1) hx hb dX1_before_64 (by decide) ?_
        refine lv_goto (tgt := 69) hx hb dX1_before_65 (by decide) ?_
        refine eb_zret hx hb hr hlk hK hP hD hS dX1_before_69 (by decide) ?_
        exact ⟨rfl, Or.inl ⟨by simp only [et_mb, c11, c46, c61, Int64.lt_irrefl, Int32.lt_irrefl, eq_self, true_and, and_true, true_or, or_true, false_and, and_false, false_or, or_false, if_true, if_false, not_true_eq_false, not_false_eq_true, implies_true], rfl⟩⟩
  · rw [lg_cmp_eq] at c11
    refine lv_aload_n hx hb dX1_before_14 rfl (lv_at hl 0 rfl) ?_
    refine lv_iload_n hx hb dX1_before_15 rfl (lv_at hl 1 rfl) ?_
    refine eb_calll (As := [.int (nI e0)]) (rest := []) ⟨hx, hb, hml, hown, hts⟩ (tM_prefix l D q cs hK3 (e0) (by omega)) (cwV 1 hts gM_prefix rfl rfl rfl (by decide +kernel) ⟨Nat.le_of_ble_eq_true rfl, Nat.le_of_ble_eq_true rfl⟩) hK hP hD hS hA rfl rfl rfl rfl hl.1 rfl (Nat.le_of_ble_eq_true rfl) dX1_before_16 ⟨Nat.zero_le _, Nat.zero_le _⟩ (fun r3 w1 H locs hq hP hD hS => ?_)
    obtain ⟨rfl, rfl⟩ := hq
    refine lv_aload_n hx hb dX1_before_19 rfl (lv_at hl 0 rfl) ?_
    refine lv_iload_n hx hb dX1_before_20 rfl (lv_at hl 2 rfl) ?_
    refine eb_calll (As := [.int (nI t0)]) (rest := [.long (et_pf K kd (fun k => msk (3 * e0 + k)))]) ⟨hx, hb, hml, hown, hts⟩ (tM_prefix l D q cs hK3 (t0) (by omega)) (cwV 1 hts gM_prefix rfl rfl rfl (by decide +kernel) ⟨Nat.le_of_ble_eq_true rfl, Nat.le_of_ble_eq_true rfl⟩) hK hP hD hS hA rfl rfl rfl rfl hl.1 rfl (Nat.le_of_ble_eq_true rfl) dX1_before_21 ⟨Nat.zero_le _, Nat.zero_le _⟩ (fun r4 w1 H locs hq hP hD hS => ?_)
    obtain ⟨rfl, rfl⟩ := hq
    refine W.lcmp hx hb dX1_before_24 ?_
    refine lv_if_le (tgt := 32) hx hb dX1_before_25 (by decide) (fun c25 => ?_) (fun c25 => ?_)
    · rw [lg_cmp_le, ← Int64.not_lt] at c25
      refine lv_iconst (v := 0) hx hb dX1_before_32 (by decide) ?_
      refine eb_zret hx hb hr hlk hK hP hD hS dX1_before_33 (by decide) ?_
      exact ⟨rfl, Or.inr ⟨by simp only [et_mb, c11, c25, Int64.lt_irrefl, Int32.lt_irrefl, eq_self, true_and, and_true, true_or, or_true, false_and, and_false, false_or, or_false, if_true, if_false, not_true_eq_false, not_false_eq_true, implies_true], rfl⟩⟩
    · rw [lg_cmp_le, Int64.not_le] at c25
      refine lv_iconst (v := 1) hx hb dX1_before_28 (by decide) ?_
      refine lv_goto (tgt := 33) hx hb dX1_before_29 (by decide) ?_
      refine eb_zret hx hb hr hlk hK hP hD hS dX1_before_33 (by decide) ?_
      exact ⟨rfl, Or.inl ⟨by simp only [et_mb, c11, c25, Int64.lt_irrefl, Int32.lt_irrefl, eq_self, true_and, and_true, true_or, or_true, false_and, and_false, false_or, or_false, if_true, if_false, not_true_eq_false, not_false_eq_true, implies_true], rfl⟩⟩

set_option maxHeartbeats 4000000 in
set_option maxRecDepth 100000 in
theorem tM_place (l : Launch) (D : va_G) (q : Nat → Nat) (cs : Nat → ClassId) {K C : Nat} {wd : Int32} {kd num pri hit : Nat → Int32} {val msk mv mm ask : Nat → Int64} {nn ms : Int32} (hC : C ≤ 24) (en : Int32) : eb_MI l D vwCl (MTy cs) yX1_place wsM_place { frames := 0, cells := 0, slots := 0, locals := 0 } [.ref (q 0), .int en] (MW q cs (nI K) wd kd num pri hit val msk mv mm ask (nI C) nn ms) (fun r w1 => w1 = MW q cs (nI K) wd kd num pri hit val msk mv mm ask (nI C) nn ms ∧ ((∃ j, j < C ∧ num j = en ∧ r = nI j) ∨ ((∀ j, j < C → ¬ num j = en) ∧ r = -1))) := by
  refine eb_openI (cc := cX1_place) (maxL := 3) (ret := (some .int)) (by decide +kernel) rfl (Nat.le_of_ble_eq_true rfl) ?_
  intro p e s m below meth c A ls H locs hx hb hr hts hown hlk hml hP hK hD hA hS hl
  have hU : ∀ w ∈ wsX10, w ∈ wsM_place := fun w h => List.mem_cons_of_mem _ (MALL_u w h)
  have hf_count := hts (.fieldLink RX1 59 "EntryTableModel" "count" "I") (by decide +kernel)
  have hf_number := hts (.fieldLink RX1 13 "EntryTableModel" "number" "[I") (by decide +kernel)
  have hl : lv_has ls 3 [(0, .ref (q 0)), (1, .int en)] := hl
  refine lv_iconst (v := 0) hx hb dX1_place_0 (by decide) ?_
  refine lv_istore_n hx hb dX1_place_1 rfl hl (by decide) rfl (fun ls hl => ?_)
  have hl : lv_has ls 3 [(2, .int 0), (0, .ref (q 0)), (1, .int en)] := hl
  refine eb_for (fun (i : Nat) (ls : Array Slot) (H : Heap) (locs : List Loc) => lv_has ls 3 [(0, .ref (q 0)), (1, .int en), (2, .int (nI i))] ∧ va_P D vwCl (MW q cs (nI K) wd kd num pri hit val msk mv mm ask (nI C) nn ms) H ∧ va_D A (MW q cs (nI K) wd kd num pri hit val msk mv mm ask (nI C) nn ms) ∧ va_S A s.heap H locs ∧ (∀ j, j < i → ¬ num j = en)) 2 (C) ?_ (C) (0) ls H locs (by omega) ⟨lv_sub hl [1, 2, 0] rfl, hP, hD, hS, fun j hj => absurd hj (Nat.not_lt_zero j)⟩
  intro i ls H locs hi hI hrec2
  obtain ⟨hl, hP, hD, hS, hi2⟩ := hI
  refine lv_iload_n hx hb dX1_place_2 rfl (lv_at hl 2 rfl) ?_
  refine lv_aload_n hx hb dX1_place_3 rfl (lv_at hl 0 rfl) ?_
  refine va_get (D := D) (ci := 1) (C := RX1) (T := TX1) (N := 14) hx hb hts hU hown hK hP 0 rfl rfl 11 (by decide) hf_count (fun _ h9 => h9) rfl dX1_place_4 ?_
  refine lv_icmp_ge (tgt := 28) hx hb dX1_place_7 (by decide) (fun c7 => ?_) (fun c7 => ?_)
  · have c7 : nI C ≤ nI i := c7
    rw [nI_leI (by omega) (by omega)] at c7
    refine lv_iconst (v := (-1)) hx hb dX1_place_28 (by decide) ?_
    refine eb_iret hx hb hr hlk hK hP hD hS dX1_place_29 ?_
    exact ⟨rfl, Or.inr ⟨fun j hj => hi2 j (by omega), rfl⟩⟩
  · have c7 : ¬ nI C ≤ nI i := c7
    rw [nI_leI (by omega) (by omega)] at c7
    refine lv_aload_n hx hb dX1_place_10 rfl (lv_at hl 0 rfl) ?_
    refine va_get (D := D) (ci := 1) (C := RX1) (T := TX1) (N := 14) hx hb hts hU hown hK hP 0 rfl rfl 3 (by decide) hf_number (fun _ h9 => h9) rfl dX1_place_11 ?_
    refine lv_iload_n hx hb dX1_place_14 rfl (lv_at hl 2 rfl) ?_
    refine eb_iald hx hb hK hP 2 1 rfl rfl (i) (by omega) (by decide) dX1_place_15 ?_
    refine lv_iload_n hx hb dX1_place_16 rfl (lv_at hl 1 rfl) ?_
    refine lv_icmp_ne (tgt := 22) hx hb dX1_place_17 (by decide) (fun c17 => ?_) (fun c17 => ?_)
    · refine lv_iinc (k := 2) (v := nI (i + 1)) hx hb dX1_place_22 hl rfl (nI_add i 1) (by decide) rfl (fun ls hl => ?_)
      have hl : lv_has ls 3 [(2, .int (nI (i + 1))), (0, .ref (q 0)), (1, .int en)] := hl
      refine lv_goto (tgt := 2) hx hb dX1_place_25 (by decide) ?_
      exact hrec2 ls H locs (by omega) ⟨lv_sub hl [1, 2, 0] rfl, hP, hD, hS, lt_s hi2 c17⟩
    · refine lv_iload_n hx hb dX1_place_20 rfl (lv_at hl 2 rfl) ?_
      refine eb_iret hx hb hr hlk hK hP hD hS dX1_place_21 ?_
      exact ⟨rfl, Or.inl ⟨i, by omega, c17, rfl⟩⟩

