set_option maxHeartbeats 4000000 in
set_option maxRecDepth 100000 in
theorem tM_like (l : Launch) (D : va_G) (q : Nat → Nat) (cs : Nat → ClassId) {K C : Nat} {wd : Int32} {kd num pri hit : Nat → Int32} {val msk mv mm ask : Nat → Int64} {nn ms : Int32} (hK3 : K ≤ 3) (e0 : Nat) (he0 : e0 < 24) (pp : Int32) : eb_MI l D vwCl (MTy cs) yX1_like wsM_like { frames := 0, cells := 0, slots := 0, locals := 0 } [.ref (q 0), .int (nI e0), .int pp] (MW q cs (nI K) wd kd num pri hit val msk mv mm ask (nI C) nn ms) (fun r w1 => w1 = MW q cs (nI K) wd kd num pri hit val msk mv mm ask (nI C) nn ms ∧ ((((pri e0 = pp ∧ ∀ k, k < K → val (3 * e0 + k) = mv k ∧ (kd k = 0 ∨ msk (3 * e0 + k) = mm k))) ∧ r = 1) ∨ (¬ ((pri e0 = pp ∧ ∀ k, k < K → val (3 * e0 + k) = mv k ∧ (kd k = 0 ∨ msk (3 * e0 + k) = mm k))) ∧ r = 0))) := by
  refine eb_openI (cc := cX1_like) (maxL := 5) (ret := (some .boolean)) (by decide +kernel) rfl (Nat.le_of_ble_eq_true rfl) ?_
  intro p e s m below meth c A ls H locs hx hb hr hts hown hlk hml hP hK hD hA hS hl
  have hU : ∀ w ∈ wsX10, w ∈ wsM_like := fun w h => List.mem_cons_of_mem _ (MALL_u w h)
  have hf_priority := hts (.fieldLink RX1 16 "EntryTableModel" "priority" "[I") (by decide +kernel)
  have hf_keys := hts (.fieldLink RX1 38 "EntryTableModel" "keys" "I") (by decide +kernel)
  have hf_value := hts (.fieldLink RX1 22 "EntryTableModel" "value" "[J") (by decide +kernel)
  have hf_madeValue := hts (.fieldLink RX1 29 "EntryTableModel" "madeValue" "[J") (by decide +kernel)
  have hf_kind := hts (.fieldLink RX1 7 "EntryTableModel" "kind" "[I") (by decide +kernel)
  have hf_mask := hts (.fieldLink RX1 26 "EntryTableModel" "mask" "[J") (by decide +kernel)
  have hf_madeMask := hts (.fieldLink RX1 32 "EntryTableModel" "madeMask" "[J") (by decide +kernel)
  have hl : lv_has ls 5 [(0, .ref (q 0)), (1, .int (nI e0)), (2, .int pp)] := hl
  refine eb_jn (MW q cs (nI K) wd kd num pri hit val msk mv mm ask (nI C) nn ms) hP hS 15 (fun s0 => ((pri e0 = pp) ∧ s0 = 1) ∨ (¬ (pri e0 = pp) ∧ s0 = 0)) (fun hj0 => ?_) (fun s0 H locs hs0 hP hS => ?_)
  · refine lv_aload_n hx hb dX1_like_0 rfl (lv_at hl 0 rfl) ?_
    refine va_get (D := D) (ci := 1) (C := RX1) (T := TX1) (N := 14) hx hb hts hU hown hK hP 0 rfl rfl 4 (by decide) hf_priority (fun _ h9 => h9) rfl dX1_like_1 ?_
    refine lv_iload_n hx hb dX1_like_4 rfl (lv_at hl 1 rfl) ?_
    refine eb_iald hx hb hK hP 3 2 rfl rfl (e0) (by omega) (by decide) dX1_like_5 ?_
    refine lv_iload_n hx hb dX1_like_6 rfl (lv_at hl 2 rfl) ?_
    refine lv_icmp_ne (tgt := 14) hx hb dX1_like_7 (by decide) (fun c7 => ?_) (fun c7 => ?_)
    · refine lv_iconst (v := 0) hx hb dX1_like_14 (by decide) ?_
      exact hj0 _ H locs (Or.inr ⟨c7, rfl⟩) hP hS
    · refine lv_iconst (v := 1) hx hb dX1_like_10 (by decide) ?_
      refine lv_goto (tgt := 15) hx hb dX1_like_11 (by decide) ?_
      exact hj0 _ H locs (Or.inl ⟨c7, rfl⟩) hP hS
  · refine lv_istore_n hx hb dX1_like_15 rfl hl (by decide) rfl (fun ls hl => ?_)
    have hl : lv_has ls 5 [(3, .int s0), (0, .ref (q 0)), (1, .int (nI e0)), (2, .int pp)] := hl
    refine lv_iconst (v := 0) hx hb dX1_like_16 (by decide) ?_
    refine lv_istore hx hb dX1_like_17 hl (by decide) rfl (fun ls hl => ?_)
    have hl : lv_has ls 5 [(4, .int 0), (3, .int s0), (0, .ref (q 0)), (1, .int (nI e0)), (2, .int pp)] := hl
    refine eb_for (fun (i : Nat) (ls : Array Slot) (H : Heap) (locs : List Loc) => ∃ sm : Int32, lv_has ls 5 [(0, .ref (q 0)), (1, .int (nI e0)), (2, .int pp), (3, .int sm), (4, .int (nI i))] ∧ va_P D vwCl (MW q cs (nI K) wd kd num pri hit val msk mv mm ask (nI C) nn ms) H ∧ va_D A (MW q cs (nI K) wd kd num pri hit val msk mv mm ask (nI C) nn ms) ∧ va_S A s.heap H locs ∧ (((pri e0 = pp ∧ ∀ k, k < i → val (3 * e0 + k) = mv k ∧ (kd k = 0 ∨ msk (3 * e0 + k) = mm k)) ∧ sm = 1) ∨ (¬ (pri e0 = pp ∧ ∀ k, k < i → val (3 * e0 + k) = mv k ∧ (kd k = 0 ∨ msk (3 * e0 + k) = mm k)) ∧ sm = 0))) 19 (K) ?_ (K) (0) ls H locs (by omega) ⟨s0, lv_sub hl [2, 3, 4, 1, 0] rfl, hP, hD, hS, hs0.imp (fun hh => ⟨⟨hh.1, fun j hj => absurd hj (Nat.not_lt_zero j)⟩, hh.2⟩) (fun hh => ⟨fun g => hh.1 g.1, hh.2⟩)⟩
    intro i ls H locs hi hI hrec19
    obtain ⟨sm, hl, hP, hD, hS, hi19⟩ := hI
    refine lv_iload hx hb dX1_like_19 (lv_at hl 4 rfl) ?_
    refine lv_aload_n hx hb dX1_like_21 rfl (lv_at hl 0 rfl) ?_
    refine va_get (D := D) (ci := 1) (C := RX1) (T := TX1) (N := 14) hx hb hts hU hown hK hP 0 rfl rfl 0 (by decide) hf_keys (fun _ h9 => h9) rfl dX1_like_22 ?_
    refine lv_icmp_ge (tgt := 98) hx hb dX1_like_25 (by decide) (fun c25 => ?_) (fun c25 => ?_)
    · have c25 : nI K ≤ nI i := c25
      rw [nI_leI (by omega) (by omega)] at c25
      refine lv_iload_n hx hb dX1_like_98 rfl (lv_at hl 3 rfl) ?_
      have hiK : i = K := by omega
      subst hiK
      rcases hi19 with ⟨h1, rfl⟩ | ⟨h1, rfl⟩
      · refine eb_zret hx hb hr hlk hK hP hD hS dX1_like_99 (by decide) ?_
        exact ⟨rfl, Or.inl ⟨h1, rfl⟩⟩
      · refine eb_zret hx hb hr hlk hK hP hD hS dX1_like_99 (by decide) ?_
        exact ⟨rfl, Or.inr ⟨h1, rfl⟩⟩
    · have c25 : ¬ nI K ≤ nI i := c25
      rw [nI_leI (by omega) (by omega)] at c25
      refine eb_jn (MW q cs (nI K) wd kd num pri hit val msk mv mm ask (nI C) nn ms) hP hS 91 (fun s1 => (((pri e0 = pp ∧ ∀ k, k < (i + 1) → val (3 * e0 + k) = mv k ∧ (kd k = 0 ∨ msk (3 * e0 + k) = mm k))) ∧ s1 = 1) ∨ (¬ ((pri e0 = pp ∧ ∀ k, k < (i + 1) → val (3 * e0 + k) = mv k ∧ (kd k = 0 ∨ msk (3 * e0 + k) = mm k))) ∧ s1 = 0)) (fun hj28 => ?_) (fun s1 H locs hs1 hP hS => ?_)
      · refine lv_iload_n hx hb dX1_like_28 rfl (lv_at hl 3 rfl) ?_
        refine lv_if_eq (tgt := 90) hx hb dX1_like_29 (by decide) (fun c29 => ?_) (fun c29 => ?_)
        · have c29 := et_b0 hi19 c29
          refine lv_iconst (v := 0) hx hb dX1_like_90 (by decide) ?_
          exact hj28 _ H locs (Or.inr ⟨fun hh => c29 ⟨hh.1, fun k hk => hh.2 k (by omega)⟩, rfl⟩) hP hS
        · have c29 := et_b1 hi19 c29
          refine lv_aload_n hx hb dX1_like_32 rfl (lv_at hl 0 rfl) ?_
          refine va_get (D := D) (ci := 1) (C := RX1) (T := TX1) (N := 14) hx hb hts hU hown hK hP 0 rfl rfl 6 (by decide) hf_value (fun _ h9 => h9) rfl dX1_like_33 ?_
          refine lv_iconst (v := 3) hx hb dX1_like_36 (by decide) ?_
          refine lv_iload_n hx hb dX1_like_37 rfl (lv_at hl 1 rfl) ?_
          refine lv_imul hx hb dX1_like_38 ?_
          refine eb_ti (nI (3 * e0)) (pk_mul 3 e0) ?_
          refine lv_iload hx hb dX1_like_39 (lv_at hl 4 rfl) ?_
          refine lv_iadd hx hb dX1_like_41 ?_
          refine eb_ti (nI ((3 * e0) + i)) (nI_add (3 * e0) i) ?_
          refine eb_lald hx hb hK hP 5 4 rfl rfl ((3 * e0) + i) (by omega) (by decide) dX1_like_42 ?_
          refine lv_aload_n hx hb dX1_like_43 rfl (lv_at hl 0 rfl) ?_
          refine va_get (D := D) (ci := 1) (C := RX1) (T := TX1) (N := 14) hx hb hts hU hown hK hP 0 rfl rfl 8 (by decide) hf_madeValue (fun _ h9 => h9) rfl dX1_like_44 ?_
          refine lv_iload hx hb dX1_like_47 (lv_at hl 4 rfl) ?_
          refine eb_lald hx hb hK hP 7 6 rfl rfl (i) (by omega) (by decide) dX1_like_49 ?_
          refine W.lcmp hx hb dX1_like_50 ?_
          refine lv_if_ne (tgt := 90) hx hb dX1_like_51 (by decide) (fun c51 => ?_) (fun c51 => ?_)
          · rw [lg_cmp_eq] at c51
            refine lv_iconst (v := 0) hx hb dX1_like_90 (by decide) ?_
            exact hj28 _ H locs (Or.inr ⟨fun hh => c51 (hh.2 i (by omega)).1, rfl⟩) hP hS
          · rw [lg_cmp_eq] at c51
            refine lv_aload_n hx hb dX1_like_54 rfl (lv_at hl 0 rfl) ?_
            refine va_get (D := D) (ci := 1) (C := RX1) (T := TX1) (N := 14) hx hb hts hU hown hK hP 0 rfl rfl 2 (by decide) hf_kind (fun _ h9 => h9) rfl dX1_like_55 ?_
            refine lv_iload hx hb dX1_like_58 (lv_at hl 4 rfl) ?_
            refine eb_iald hx hb hK hP 1 0 rfl rfl (i) (by omega) (by decide) dX1_like_60 ?_
            refine lv_if_eq (tgt := 86) hx hb dX1_like_61 (by decide) (fun c61 => ?_) (fun c61 => ?_)
            · refine lv_iconst (v := 1) hx hb dX1_like_86 (by decide) ?_
              refine lv_goto (tgt := 91) hx hb dX1_like_87 (by decide) ?_
              exact hj28 _ H locs (Or.inl ⟨⟨c29.1, lt_s c29.2 ⟨c51, Or.inl c61⟩⟩, rfl⟩) hP hS
            · refine lv_aload_n hx hb dX1_like_64 rfl (lv_at hl 0 rfl) ?_
              refine va_get (D := D) (ci := 1) (C := RX1) (T := TX1) (N := 14) hx hb hts hU hown hK hP 0 rfl rfl 7 (by decide) hf_mask (fun _ h9 => h9) rfl dX1_like_65 ?_
              refine lv_iconst (v := 3) hx hb dX1_like_68 (by decide) ?_
              refine lv_iload_n hx hb dX1_like_69 rfl (lv_at hl 1 rfl) ?_
              refine lv_imul hx hb dX1_like_70 ?_
              refine eb_ti (nI (3 * e0)) (pk_mul 3 e0) ?_
              refine lv_iload hx hb dX1_like_71 (lv_at hl 4 rfl) ?_
              refine lv_iadd hx hb dX1_like_73 ?_
              refine eb_ti (nI ((3 * e0) + i)) (nI_add (3 * e0) i) ?_
              refine eb_lald hx hb hK hP 6 5 rfl rfl ((3 * e0) + i) (by omega) (by decide) dX1_like_74 ?_
              refine lv_aload_n hx hb dX1_like_75 rfl (lv_at hl 0 rfl) ?_
              refine va_get (D := D) (ci := 1) (C := RX1) (T := TX1) (N := 14) hx hb hts hU hown hK hP 0 rfl rfl 9 (by decide) hf_madeMask (fun _ h9 => h9) rfl dX1_like_76 ?_
              refine lv_iload hx hb dX1_like_79 (lv_at hl 4 rfl) ?_
              refine eb_lald hx hb hK hP 8 7 rfl rfl (i) (by omega) (by decide) dX1_like_81 ?_
              refine W.lcmp hx hb dX1_like_82 ?_
              refine lv_if_ne (tgt := 90) hx hb dX1_like_83 (by decide) (fun c83 => ?_) (fun c83 => ?_)
              · rw [lg_cmp_eq] at c83
                refine lv_iconst (v := 0) hx hb dX1_like_90 (by decide) ?_
                exact hj28 _ H locs (Or.inr ⟨fun hh => (hh.2 i (by omega)).2.elim c61 c83, rfl⟩) hP hS
              · rw [lg_cmp_eq] at c83
                refine lv_iconst (v := 1) hx hb dX1_like_86 (by decide) ?_
                refine lv_goto (tgt := 91) hx hb dX1_like_87 (by decide) ?_
                exact hj28 _ H locs (Or.inl ⟨⟨c29.1, lt_s c29.2 ⟨c51, Or.inr c83⟩⟩, rfl⟩) hP hS
      · refine lv_istore_n hx hb dX1_like_91 rfl hl (by decide) rfl (fun ls hl => ?_)
        have hl : lv_has ls 5 [(3, .int s1), (0, .ref (q 0)), (1, .int (nI e0)), (2, .int pp), (4, .int (nI i))] := hl
        refine lv_iinc (k := 4) (v := nI (i + 1)) hx hb dX1_like_92 hl rfl (nI_add i 1) (by decide) rfl (fun ls hl => ?_)
        have hl : lv_has ls 5 [(4, .int (nI (i + 1))), (3, .int s1), (0, .ref (q 0)), (1, .int (nI e0)), (2, .int pp)] := hl
        refine lv_goto (tgt := 19) hx hb dX1_like_95 (by decide) ?_
        exact hrec19 ls H locs (by omega) ⟨s1, lv_sub hl [2, 3, 4, 1, 0] rfl, hP, hD, hS, hs1⟩

set_option maxHeartbeats 4000000 in
set_option maxRecDepth 100000 in
theorem tM_matches (l : Launch) (D : va_G) (q : Nat → Nat) (cs : Nat → ClassId) {K C : Nat} {wd : Int32} {kd num pri hit : Nat → Int32} {val msk mv mm ask : Nat → Int64} {nn ms : Int32} (hK3 : K ≤ 3) (e0 : Nat) (he0 : e0 < 24) : eb_MI l D vwCl (MTy cs) yX1_matches wsM_matches { frames := 1, cells := 0, slots := 0, locals := 40 } [.ref (q 0), .int (nI e0)] (MW q cs (nI K) wd kd num pri hit val msk mv mm ask (nI C) nn ms) (fun r w1 => w1 = MW q cs (nI K) wd kd num pri hit val msk mv mm ask (nI C) nn ms ∧ ((((∀ k, k < K → ask k &&& et_rm wd (kd k) (msk (3 * e0 + k)) = val (3 * e0 + k))) ∧ r = 1) ∨ (¬ ((∀ k, k < K → ask k &&& et_rm wd (kd k) (msk (3 * e0 + k)) = val (3 * e0 + k))) ∧ r = 0))) := by
  refine eb_openI (cc := cX1_matches) (maxL := 6) (ret := (some .boolean)) (by decide +kernel) rfl (Nat.le_of_ble_eq_true rfl) ?_
  intro p e s m below meth c A ls H locs hx hb hr hts hown hlk hml hP hK hD hA hS hl
  have hU : ∀ w ∈ wsX10, w ∈ wsM_matches := fun w h => List.mem_cons_of_mem _ (MALL_u w h)
  have hf_keys := hts (.fieldLink RX1 38 "EntryTableModel" "keys" "I") (by decide +kernel)
  have hf_kind := hts (.fieldLink RX1 7 "EntryTableModel" "kind" "[I") (by decide +kernel)
  have hf_mask := hts (.fieldLink RX1 26 "EntryTableModel" "mask" "[J") (by decide +kernel)
  have hf_asked := hts (.fieldLink RX1 35 "EntryTableModel" "asked" "[J") (by decide +kernel)
  have hf_value := hts (.fieldLink RX1 22 "EntryTableModel" "value" "[J") (by decide +kernel)
  have hl : lv_has ls 6 [(0, .ref (q 0)), (1, .int (nI e0))] := hl
  refine lv_iconst (v := 1) hx hb dX1_matches_0 (by decide) ?_
  refine lv_istore_n hx hb dX1_matches_1 rfl hl (by decide) rfl (fun ls hl => ?_)
  have hl : lv_has ls 6 [(2, .int 1), (0, .ref (q 0)), (1, .int (nI e0))] := hl
  refine lv_iconst (v := 0) hx hb dX1_matches_2 (by decide) ?_
  refine lv_istore_n hx hb dX1_matches_3 rfl hl (by decide) rfl (fun ls hl => ?_)
  have hl : lv_has ls 6 [(3, .int 0), (2, .int 1), (0, .ref (q 0)), (1, .int (nI e0))] := hl
  refine eb_for (fun (i : Nat) (ls : Array Slot) (H : Heap) (locs : List Loc) => ∃ sm : Int32, lv_has ls 6 [(0, .ref (q 0)), (1, .int (nI e0)), (2, .int sm), (3, .int (nI i))] ∧ va_P D vwCl (MW q cs (nI K) wd kd num pri hit val msk mv mm ask (nI C) nn ms) H ∧ va_D A (MW q cs (nI K) wd kd num pri hit val msk mv mm ask (nI C) nn ms) ∧ va_S A s.heap H locs ∧ (((∀ k, k < i → ask k &&& et_rm wd (kd k) (msk (3 * e0 + k)) = val (3 * e0 + k)) ∧ sm = 1) ∨ (¬ (∀ k, k < i → ask k &&& et_rm wd (kd k) (msk (3 * e0 + k)) = val (3 * e0 + k)) ∧ sm = 0))) 4 (K) ?_ (K) (0) ls H locs (by omega) ⟨1, lv_sub hl [2, 3, 1, 0] rfl, hP, hD, hS, Or.inl ⟨fun j hj => absurd hj (Nat.not_lt_zero j), rfl⟩⟩
  intro i ls H locs hi hI hrec4
  obtain ⟨sm, hl, hP, hD, hS, hi4⟩ := hI
  refine lv_iload_n hx hb dX1_matches_4 rfl (lv_at hl 3 rfl) ?_
  refine lv_aload_n hx hb dX1_matches_5 rfl (lv_at hl 0 rfl) ?_
  refine va_get (D := D) (ci := 1) (C := RX1) (T := TX1) (N := 14) hx hb hts hU hown hK hP 0 rfl rfl 0 (by decide) hf_keys (fun _ h9 => h9) rfl dX1_matches_6 ?_
  refine lv_icmp_ge (tgt := 105) hx hb dX1_matches_9 (by decide) (fun c9 => ?_) (fun c9 => ?_)
  · have c9 : nI K ≤ nI i := c9
    rw [nI_leI (by omega) (by omega)] at c9
    refine lv_iload_n hx hb dX1_matches_105 rfl (lv_at hl 2 rfl) ?_
    have hiK : i = K := by omega
    subst hiK
    rcases hi4 with ⟨h1, rfl⟩ | ⟨h1, rfl⟩
    · refine eb_zret hx hb hr hlk hK hP hD hS dX1_matches_106 (by decide) ?_
      exact ⟨rfl, Or.inl ⟨h1, rfl⟩⟩
    · refine eb_zret hx hb hr hlk hK hP hD hS dX1_matches_106 (by decide) ?_
      exact ⟨rfl, Or.inr ⟨h1, rfl⟩⟩
  · have c9 : ¬ nI K ≤ nI i := c9
    rw [nI_leI (by omega) (by omega)] at c9
    refine eb_jl (MW q cs (nI K) wd kd num pri hit val msk mv mm ask (nI C) nn ms) hP hS 64 (et_rm wd (kd i) (msk (3 * e0 + i))) (fun hj12 => ?_) (fun H locs hP hS => ?_)
    · refine lv_aload_n hx hb dX1_matches_12 rfl (lv_at hl 0 rfl) ?_
      refine va_get (D := D) (ci := 1) (C := RX1) (T := TX1) (N := 14) hx hb hts hU hown hK hP 0 rfl rfl 2 (by decide) hf_kind (fun _ h9 => h9) rfl dX1_matches_13 ?_
      refine lv_iload_n hx hb dX1_matches_16 rfl (lv_at hl 3 rfl) ?_
      refine eb_iald hx hb hK hP 1 0 rfl rfl (i) (by omega) (by decide) dX1_matches_17 ?_
      refine lv_if_ne (tgt := 27) hx hb dX1_matches_18 (by decide) (fun c18 => ?_) (fun c18 => ?_)
      · refine lv_aload_n hx hb dX1_matches_27 rfl (lv_at hl 0 rfl) ?_
        refine va_get (D := D) (ci := 1) (C := RX1) (T := TX1) (N := 14) hx hb hts hU hown hK hP 0 rfl rfl 2 (by decide) hf_kind (fun _ h9 => h9) rfl dX1_matches_28 ?_
        refine lv_iload_n hx hb dX1_matches_31 rfl (lv_at hl 3 rfl) ?_
        refine eb_iald hx hb hK hP 1 0 rfl rfl (i) (by omega) (by decide) dX1_matches_32 ?_
        refine lv_iconst (v := 1) hx hb dX1_matches_33 (by decide) ?_
        refine lv_icmp_ne (tgt := 54) hx hb dX1_matches_34 (by decide) (fun c34 => ?_) (fun c34 => ?_)
        · refine lv_aload_n hx hb dX1_matches_54 rfl (lv_at hl 0 rfl) ?_
          refine va_get (D := D) (ci := 1) (C := RX1) (T := TX1) (N := 14) hx hb hts hU hown hK hP 0 rfl rfl 7 (by decide) hf_mask (fun _ h9 => h9) rfl dX1_matches_55 ?_
          refine lv_iconst (v := 3) hx hb dX1_matches_58 (by decide) ?_
          refine lv_iload_n hx hb dX1_matches_59 rfl (lv_at hl 1 rfl) ?_
          refine lv_imul hx hb dX1_matches_60 ?_
          refine eb_ti (nI (3 * e0)) (pk_mul 3 e0) ?_
          refine lv_iload_n hx hb dX1_matches_61 rfl (lv_at hl 3 rfl) ?_
          refine lv_iadd hx hb dX1_matches_62 ?_
          refine eb_ti (nI ((3 * e0) + i)) (nI_add (3 * e0) i) ?_
          refine eb_lald hx hb hK hP 6 5 rfl rfl ((3 * e0) + i) (by omega) (by decide) dX1_matches_63 ?_
          exact hj12 _ H locs (by unfold et_rm; rw [if_neg c18, if_neg c34]) hP hS
        · refine lv_aload_n hx hb dX1_matches_37 rfl (lv_at hl 0 rfl) ?_
          refine lv_aload_n hx hb dX1_matches_38 rfl (lv_at hl 0 rfl) ?_
          refine va_get (D := D) (ci := 1) (C := RX1) (T := TX1) (N := 14) hx hb hts hU hown hK hP 0 rfl rfl 7 (by decide) hf_mask (fun _ h9 => h9) rfl dX1_matches_39 ?_
          refine lv_iconst (v := 3) hx hb dX1_matches_42 (by decide) ?_
          refine lv_iload_n hx hb dX1_matches_43 rfl (lv_at hl 1 rfl) ?_
          refine lv_imul hx hb dX1_matches_44 ?_
          refine eb_ti (nI (3 * e0)) (pk_mul 3 e0) ?_
          refine lv_iload_n hx hb dX1_matches_45 rfl (lv_at hl 3 rfl) ?_
          refine lv_iadd hx hb dX1_matches_46 ?_
          refine eb_ti (nI ((3 * e0) + i)) (nI_add (3 * e0) i) ?_
          refine eb_lald hx hb hK hP 6 5 rfl rfl ((3 * e0) + i) (by omega) (by decide) dX1_matches_47 ?_
          refine eb_calll (As := [.long (msk ((3 * e0) + i))]) (rest := []) ⟨hx, hb, hml, hown, hts⟩ (tM_bits l D q cs (msk ((3 * e0) + i))) (cwV 1 hts gM_bits rfl rfl rfl (by decide +kernel) ⟨Nat.le_of_ble_eq_true rfl, Nat.le_of_ble_eq_true rfl⟩) hK hP hD hS hA rfl rfl rfl rfl hl.1 rfl (Nat.le_of_ble_eq_true rfl) dX1_matches_48 ⟨Nat.zero_le _, Nat.zero_le _⟩ (fun r1 w1 H locs hq hP hD hS => ?_)
          obtain ⟨rfl, rfl⟩ := hq
          refine lv_goto (tgt := 64) hx hb dX1_matches_51 (by decide) ?_
          exact hj12 _ H locs (by unfold et_rm; rw [if_neg c18, if_pos c34]) hP hS
      · refine lv_ldc2 (v := (-1)) hx hb hown (hts (.constantLong RX1 49 (-1)) (by decide +kernel)) dX1_matches_21 ?_
        refine lv_goto (tgt := 64) hx hb dX1_matches_24 (by decide) ?_
        exact hj12 _ H locs (by unfold et_rm; rw [if_pos c18]) hP hS
    · refine lv_lstore hx hb dX1_matches_64 hl (by decide) rfl (fun ls hl => ?_)
      have hl : lv_has ls 6 [(4, .long (et_rm wd (kd i) (msk (3 * e0 + i)))), (0, .ref (q 0)), (1, .int (nI e0)), (2, .int sm), (3, .int (nI i))] := hl
      refine eb_jn (MW q cs (nI K) wd kd num pri hit val msk mv mm ask (nI C) nn ms) hP hS 98 (fun s1 => (((∀ k, k < (i + 1) → ask k &&& et_rm wd (kd k) (msk (3 * e0 + k)) = val (3 * e0 + k))) ∧ s1 = 1) ∨ (¬ ((∀ k, k < (i + 1) → ask k &&& et_rm wd (kd k) (msk (3 * e0 + k)) = val (3 * e0 + k))) ∧ s1 = 0)) (fun hj66 => ?_) (fun s1 H locs hs1 hP hS => ?_)
      · refine lv_iload_n hx hb dX1_matches_66 rfl (lv_at hl 3 rfl) ?_
        refine lv_if_eq (tgt := 97) hx hb dX1_matches_67 (by decide) (fun c67 => ?_) (fun c67 => ?_)
        · have c67 := et_b0 hi4 c67
          refine lv_iconst (v := 0) hx hb dX1_matches_97 (by decide) ?_
          exact hj66 _ H locs (Or.inr ⟨fun hh => c67 (fun k hk => hh k (by omega)), rfl⟩) hP hS
        · have c67 := et_b1 hi4 c67
          refine lv_aload_n hx hb dX1_matches_70 rfl (lv_at hl 1 rfl) ?_
          refine va_get (D := D) (ci := 1) (C := RX1) (T := TX1) (N := 14) hx hb hts hU hown hK hP 0 rfl rfl 10 (by decide) hf_asked (fun _ h9 => h9) rfl dX1_matches_71 ?_
          refine lv_iload_n hx hb dX1_matches_74 rfl (lv_at hl 4 rfl) ?_
          refine eb_lald hx hb hK hP 9 8 rfl rfl (i) (by omega) (by decide) dX1_matches_75 ?_
          refine lv_lload hx hb dX1_matches_76 (lv_at hl 0 rfl) ?_
          refine lv_land hx hb dX1_matches_78 ?_
          refine lv_aload_n hx hb dX1_matches_79 rfl (lv_at hl 1 rfl) ?_
          refine va_get (D := D) (ci := 1) (C := RX1) (T := TX1) (N := 14) hx hb hts hU hown hK hP 0 rfl rfl 6 (by decide) hf_value (fun _ h9 => h9) rfl dX1_matches_80 ?_
          refine lv_iconst (v := 3) hx hb dX1_matches_83 (by decide) ?_
          refine lv_iload_n hx hb dX1_matches_84 rfl (lv_at hl 2 rfl) ?_
          refine lv_imul hx hb dX1_matches_85 ?_
          refine eb_ti (nI (3 * e0)) (pk_mul 3 e0) ?_
          refine lv_iload_n hx hb dX1_matches_86 rfl (lv_at hl 4 rfl) ?_
          refine lv_iadd hx hb dX1_matches_87 ?_
          refine eb_ti (nI ((3 * e0) + i)) (nI_add (3 * e0) i) ?_
          refine eb_lald hx hb hK hP 5 4 rfl rfl ((3 * e0) + i) (by omega) (by decide) dX1_matches_88 ?_
          refine W.lcmp hx hb dX1_matches_89 ?_
          refine lv_if_ne (tgt := 97) hx hb dX1_matches_90 (by decide) (fun c90 => ?_) (fun c90 => ?_)
          · rw [lg_cmp_eq] at c90
            refine lv_iconst (v := 0) hx hb dX1_matches_97 (by decide) ?_
            exact hj66 _ H locs (Or.inr ⟨fun hh => c90 (hh i (by omega)), rfl⟩) hP hS
          · rw [lg_cmp_eq] at c90
            refine lv_iconst (v := 1) hx hb dX1_matches_93 (by decide) ?_
            refine lv_goto (tgt := 98) hx hb dX1_matches_94 (by decide) ?_
            exact hj66 _ H locs (Or.inl ⟨lt_s c67 c90, rfl⟩) hP hS
      · refine lv_istore_n hx hb dX1_matches_98 rfl hl (by decide) rfl (fun ls hl => ?_)
        have hl : lv_has ls 6 [(2, .int s1), (4, .long (et_rm wd (kd i) (msk (3 * e0 + i)))), (0, .ref (q 0)), (1, .int (nI e0)), (3, .int (nI i))] := hl
        refine lv_iinc (k := 4) (v := nI (i + 1)) hx hb dX1_matches_99 hl rfl (nI_add i 1) (by decide) rfl (fun ls hl => ?_)
        have hl : lv_has ls 6 [(3, .int (nI (i + 1))), (2, .int s1), (4, .long (et_rm wd (kd i) (msk (3 * e0 + i)))), (0, .ref (q 0)), (1, .int (nI e0))] := hl
        refine lv_goto (tgt := 4) hx hb dX1_matches_102 (by decide) ?_
        exact hrec4 ls H locs (by omega) ⟨s1, lv_sub hl [3, 4, 1, 0] rfl, hP, hD, hS, hs1⟩

