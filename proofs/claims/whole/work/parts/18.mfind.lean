set_option maxHeartbeats 4000000 in
set_option maxRecDepth 100000 in
theorem tM_find (l : Launch) (D : va_G) (q : Nat → Nat) (cs : Nat → ClassId) {K w N : Nat} {B : List et_E} {kd num pri hit : Nat → Int32} {val msk dv dm ask : Nat → Int64} {ms : Int32} (hK3 : K ≤ 3) (hR : et_RR B num pri hit val msk) (hw : w < 49) (hn : ∀ x ∈ B, et_n x < 2 ^ 31) (a b c0 : Int64) : eb_MI l D vwCl (MTy cs) yX1_find wsM_find { frames := 2, cells := 0, slots := 0, locals := 80 } [.ref (q 0), .long a, .long b, .long c0] (MW q cs (nI K) (nI w) kd num pri hit val msk dv dm ask (nI B.length) (nI N) ms) (fun r w1 => et_QMf (et_SM q cs K w kd) K w kd dv dm N ms B (et_k3 a b c0) r w1) := by
  refine eb_openI (cc := cX1_find) (maxL := 9) (ret := (some .int)) (by decide +kernel) rfl (Nat.le_of_ble_eq_true rfl) ?_
  intro p e s m below meth c A ls H locs hx hb hr hts hown hlk hml hP hK hD hA hS hl
  have hU : ∀ w ∈ wsX10, w ∈ wsM_find := fun w h => List.mem_cons_of_mem _ (MALL_u w h)
  have hf_asked := hts (.fieldLink RX1 35 "EntryTableModel" "asked" "[J") (by decide +kernel)
  have hf_width := hts (.fieldLink RX1 42 "EntryTableModel" "width" "I") (by decide +kernel)
  have hf_count := hts (.fieldLink RX1 59 "EntryTableModel" "count" "I") (by decide +kernel)
  have hf_missed := hts (.fieldLink RX1 83 "EntryTableModel" "missed" "I") (by decide +kernel)
  have hf_hits := hts (.fieldLink RX1 19 "EntryTableModel" "hits" "[I") (by decide +kernel)
  have hf_number := hts (.fieldLink RX1 13 "EntryTableModel" "number" "[I") (by decide +kernel)
  have hC := hR.1
  have hl : lv_has ls 9 [(0, .ref (q 0)), (1, .long a), (3, .long b), (5, .long c0)] := hl
  refine lv_aload_n hx hb dX1_find_0 rfl (lv_at hl 0 rfl) ?_
  refine va_get (D := D) (ci := 1) (C := RX1) (T := TX1) (N := 14) hx hb hts hU hown hK hP 0 rfl rfl 10 (by decide) hf_asked (fun _ h9 => h9) rfl dX1_find_1 ?_
  refine lv_iconst (v := 0) hx hb dX1_find_4 (by decide) ?_
  refine lv_lload_n hx hb dX1_find_5 rfl (lv_at hl 1 rfl) ?_
  refine lv_lconst (v := 1) hx hb dX1_find_6 (by decide) ?_
  refine lv_aload_n hx hb dX1_find_7 rfl (lv_at hl 0 rfl) ?_
  refine va_get (D := D) (ci := 1) (C := RX1) (T := TX1) (N := 14) hx hb hts hU hown hK hP 0 rfl rfl 1 (by decide) hf_width (fun _ h9 => h9) rfl dX1_find_8 ?_
  refine lv_lshl hx hb dX1_find_11 rfl ?_
  refine lv_lconst (v := 1) hx hb dX1_find_12 (by decide) ?_
  refine lv_lsub hx hb dX1_find_13 ?_
  refine lv_land hx hb dX1_find_14 ?_
  refine eb_last hx hb hK hP hD hS 9 8 rfl rfl (0) (by omega) (by decide) dX1_find_15 (fun H locs hP hD hS => ?_)
  have hP : va_P D vwCl (MW q cs (nI K) (nI w) kd num pri hit val msk dv dm (vp_updL ask 0 (a &&& ((1 <<< ((nI w).toInt64 &&& 63)) - 1))) (nI B.length) (nI N) ms) H := hP
  have hD : va_D A (MW q cs (nI K) (nI w) kd num pri hit val msk dv dm (vp_updL ask 0 (a &&& ((1 <<< ((nI w).toInt64 &&& 63)) - 1))) (nI B.length) (nI N) ms) := hD
  refine lv_aload_n hx hb dX1_find_16 rfl (lv_at hl 0 rfl) ?_
  refine va_get (D := D) (ci := 1) (C := RX1) (T := TX1) (N := 14) hx hb hts hU hown hK hP 0 rfl rfl 10 (by decide) hf_asked (fun _ h9 => h9) rfl dX1_find_17 ?_
  refine lv_iconst (v := 1) hx hb dX1_find_20 (by decide) ?_
  refine lv_lload_n hx hb dX1_find_21 rfl (lv_at hl 2 rfl) ?_
  refine lv_lconst (v := 1) hx hb dX1_find_22 (by decide) ?_
  refine lv_aload_n hx hb dX1_find_23 rfl (lv_at hl 0 rfl) ?_
  refine va_get (D := D) (ci := 1) (C := RX1) (T := TX1) (N := 14) hx hb hts hU hown hK hP 0 rfl rfl 1 (by decide) hf_width (fun _ h9 => h9) rfl dX1_find_24 ?_
  refine lv_lshl hx hb dX1_find_27 rfl ?_
  refine lv_lconst (v := 1) hx hb dX1_find_28 (by decide) ?_
  refine lv_lsub hx hb dX1_find_29 ?_
  refine lv_land hx hb dX1_find_30 ?_
  refine eb_last hx hb hK hP hD hS 9 8 rfl rfl (1) (by omega) (by decide) dX1_find_31 (fun H locs hP hD hS => ?_)
  have hP : va_P D vwCl (MW q cs (nI K) (nI w) kd num pri hit val msk dv dm (vp_updL (vp_updL ask 0 (a &&& ((1 <<< ((nI w).toInt64 &&& 63)) - 1))) 1 (b &&& ((1 <<< ((nI w).toInt64 &&& 63)) - 1))) (nI B.length) (nI N) ms) H := hP
  have hD : va_D A (MW q cs (nI K) (nI w) kd num pri hit val msk dv dm (vp_updL (vp_updL ask 0 (a &&& ((1 <<< ((nI w).toInt64 &&& 63)) - 1))) 1 (b &&& ((1 <<< ((nI w).toInt64 &&& 63)) - 1))) (nI B.length) (nI N) ms) := hD
  refine lv_aload_n hx hb dX1_find_32 rfl (lv_at hl 0 rfl) ?_
  refine va_get (D := D) (ci := 1) (C := RX1) (T := TX1) (N := 14) hx hb hts hU hown hK hP 0 rfl rfl 10 (by decide) hf_asked (fun _ h9 => h9) rfl dX1_find_33 ?_
  refine lv_iconst (v := 2) hx hb dX1_find_36 (by decide) ?_
  refine lv_lload hx hb dX1_find_37 (lv_at hl 3 rfl) ?_
  refine lv_lconst (v := 1) hx hb dX1_find_39 (by decide) ?_
  refine lv_aload_n hx hb dX1_find_40 rfl (lv_at hl 0 rfl) ?_
  refine va_get (D := D) (ci := 1) (C := RX1) (T := TX1) (N := 14) hx hb hts hU hown hK hP 0 rfl rfl 1 (by decide) hf_width (fun _ h9 => h9) rfl dX1_find_41 ?_
  refine lv_lshl hx hb dX1_find_44 rfl ?_
  refine lv_lconst (v := 1) hx hb dX1_find_45 (by decide) ?_
  refine lv_lsub hx hb dX1_find_46 ?_
  refine lv_land hx hb dX1_find_47 ?_
  refine eb_last hx hb hK hP hD hS 9 8 rfl rfl (2) (by omega) (by decide) dX1_find_48 (fun H locs hP hD hS => ?_)
  have hP : va_P D vwCl (MW q cs (nI K) (nI w) kd num pri hit val msk dv dm (vp_updL (vp_updL (vp_updL ask 0 (a &&& ((1 <<< ((nI w).toInt64 &&& 63)) - 1))) 1 (b &&& ((1 <<< ((nI w).toInt64 &&& 63)) - 1))) 2 (c0 &&& ((1 <<< ((nI w).toInt64 &&& 63)) - 1))) (nI B.length) (nI N) ms) H := hP
  have hD : va_D A (MW q cs (nI K) (nI w) kd num pri hit val msk dv dm (vp_updL (vp_updL (vp_updL ask 0 (a &&& ((1 <<< ((nI w).toInt64 &&& 63)) - 1))) 1 (b &&& ((1 <<< ((nI w).toInt64 &&& 63)) - 1))) 2 (c0 &&& ((1 <<< ((nI w).toInt64 &&& 63)) - 1))) (nI B.length) (nI N) ms) := hD
  refine lv_iconst (v := (-1)) hx hb dX1_find_49 (by decide) ?_
  have hask : ∀ k, k < 3 → (vp_updL (vp_updL (vp_updL ask 0 (a &&& ((1 <<< ((nI w).toInt64 &&& 63)) - 1))) 1 (b &&& ((1 <<< ((nI w).toInt64 &&& 63)) - 1))) 2 (c0 &&& ((1 <<< ((nI w).toInt64 &&& 63)) - 1))) k = et_k3 a b c0 k &&& et_ab w := by
    intro k hk
    rw [← et_abW w hw]
    rcases (show k = 0 ∨ k = 1 ∨ k = 2 by omega) with rfl | rfl | rfl <;> rfl
  generalize (vp_updL (vp_updL (vp_updL ask 0 (a &&& ((1 <<< ((nI w).toInt64 &&& 63)) - 1))) 1 (b &&& ((1 <<< ((nI w).toInt64 &&& 63)) - 1))) 2 (c0 &&& ((1 <<< ((nI w).toInt64 &&& 63)) - 1))) = ask1 at hP hD hask
  refine lv_istore hx hb dX1_find_50 hl (by decide) rfl (fun ls hl => ?_)
  have hl : lv_has ls 9 [(7, .int (-1)), (0, .ref (q 0)), (1, .long a), (3, .long b), (5, .long c0)] := hl
  refine lv_iconst (v := 0) hx hb dX1_find_52 (by decide) ?_
  refine lv_istore hx hb dX1_find_53 hl (by decide) rfl (fun ls hl => ?_)
  have hl : lv_has ls 9 [(8, .int 0), (7, .int (-1)), (0, .ref (q 0)), (1, .long a), (3, .long b), (5, .long c0)] := hl
  refine eb_for (fun (t : Nat) (ls : Array Slot) (H : Heap) (locs : List Loc) => ∃ bs : Int32, lv_has ls 9 [(0, .ref (q 0)), (1, .long a), (3, .long b), (5, .long c0), (7, .int bs), (8, .int (nI t))] ∧ va_P D vwCl (MW q cs (nI K) (nI w) kd num pri hit val msk dv dm ask1 (nI B.length) (nI N) ms) H ∧ va_D A (MW q cs (nI K) (nI w) kd num pri hit val msk dv dm ask1 (nI B.length) (nI N) ms) ∧ va_S A s.heap H locs ∧ (et_fd K kd (et_Mmt K w kd (et_k3 a b c0)) B t bs)) 55 (B.length) ?_ (B.length) (0) ls H locs (by omega) ⟨(-1), lv_sub hl [2, 3, 4, 5, 1, 0] rfl, hP, hD, hS, (Or.inl ⟨rfl, fun j y hj => absurd hj (Nat.not_lt_zero j)⟩)⟩
  intro t ls H locs ht hI hrec55
  obtain ⟨bs, hl, hP, hD, hS, hi55⟩ := hI
  rcases hi55 with ⟨rfl, hno⟩ | ⟨b0, x0, hb0, rfl, hb2, hb3⟩
  · have hl : lv_has ls 9 [(0, .ref (q 0)), (1, .long a), (3, .long b), (5, .long c0), (7, .int (-1)), (8, .int (nI t))] := hl
    refine lv_iload hx hb dX1_find_55 (lv_at hl 5 rfl) ?_
    refine lv_aload_n hx hb dX1_find_57 rfl (lv_at hl 0 rfl) ?_
    refine va_get (D := D) (ci := 1) (C := RX1) (T := TX1) (N := 14) hx hb hts hU hown hK hP 0 rfl rfl 11 (by decide) hf_count (fun _ h9 => h9) rfl dX1_find_58 ?_
    refine lv_icmp_ge (tgt := 99) hx hb dX1_find_61 (by decide) (fun c61 => ?_) (fun c61 => ?_)
    · have c61 : nI B.length ≤ nI t := c61
      rw [nI_leI (by omega) (by omega)] at c61
      refine lv_iload hx hb dX1_find_99 (lv_at hl 4 rfl) ?_
      refine lv_if_ge (tgt := 117) hx hb dX1_find_101 (by decide) (fun c101 => absurd c101 (by decide)) (fun _ => ?_)
      refine lv_aload_n hx hb dX1_find_104 rfl (lv_at hl 0 rfl) ?_
      refine lv_dup hx hb dX1_find_105 rfl ?_
      refine va_get (D := D) (ci := 1) (C := RX1) (T := TX1) (N := 14) hx hb hts hU hown hK hP 0 rfl rfl 13 (by decide) hf_missed (fun _ h9 => h9) rfl dX1_find_106 ?_
      refine lv_iconst (v := 1) hx hb dX1_find_109 (by decide) ?_
      refine lv_iadd hx hb dX1_find_110 ?_
      refine va_put (D := D) (ci := 1) (ty := .int) (C := RX1) (T := TX1) (N := 14) hx hb hts hU tyX1 tyX1_ok nmX1 hown hK hP hD hS 0 rfl rfl 13 (by decide) hf_missed (fun _ h9 => h9) rfl (by decide +kernel) rfl rfl (Nat.le_of_ble_eq_true rfl) dX1_find_111 (fun H locs hP hD hS => ?_)
      have hP : va_P D vwCl (MW q cs (nI K) (nI w) kd num pri hit val msk dv dm ask1 (nI B.length) (nI N) (ms + 1)) H := hP
      have hD : va_D A (MW q cs (nI K) (nI w) kd num pri hit val msk dv dm ask1 (nI B.length) (nI N) (ms + 1)) := hD
      refine lv_bipush (v := (-2)) hx hb dX1_find_114 (by decide) ?_
      refine eb_iret hx hb hr hlk hK hP hD hS dX1_find_116 ?_
      refine Or.inl ⟨fun x hx hh => ?_, rfl, num, pri, hit, val, msk, ask1, hR, rfl⟩
      obtain ⟨j, hj⟩ := List.getElem?_of_mem hx
      exact hno j x (by have := (List.getElem?_eq_some_iff.mp hj).1; omega) hj hh
    · have c61 : ¬ nI B.length ≤ nI t := c61
      rw [nI_leI (by omega) (by omega)] at c61
      refine lv_aload_n hx hb dX1_find_64 rfl (lv_at hl 0 rfl) ?_
      refine lv_iload hx hb dX1_find_65 (lv_at hl 5 rfl) ?_
      refine eb_calli (As := [.int (nI t)]) (rest := []) ⟨hx, hb, hml, hown, hts⟩ (tM_matches l D q cs hK3 (t) (by omega)) (cwV 1 hts gM_matches rfl rfl rfl (by decide +kernel) ⟨Nat.le_of_ble_eq_true rfl, Nat.le_of_ble_eq_true rfl⟩) hK hP hD hS hA rfl rfl rfl rfl hl.1 rfl (Nat.le_of_ble_eq_true rfl) dX1_find_67 ⟨Nat.zero_le _, Nat.zero_le _⟩ (fun r1 w1 H locs hq hP hD hS => ?_)
      obtain ⟨rfl, hq1⟩ := hq
      refine lv_if_eq (tgt := 93) hx hb dX1_find_70 (by decide) (fun c70 => ?_) (fun c70 => ?_)
      · have c70 := et_b0 hq1 c70
        refine lv_iinc (k := 5) (v := nI (t + 1)) hx hb dX1_find_93 hl rfl (nI_add t 1) (by decide) rfl (fun ls hl => ?_)
        have hl : lv_has ls 9 [(8, .int (nI (t + 1))), (0, .ref (q 0)), (1, .long a), (3, .long b), (5, .long c0), (7, .int (-1))] := hl
        refine lv_goto (tgt := 55) hx hb dX1_find_96 (by decide) ?_
        exact hrec55 ls H locs (by omega) ⟨(-1), lv_sub hl [1, 2, 3, 4, 5, 0] rfl, hP, hD, hS, et_fd_n (Or.inl ⟨rfl, hno⟩) (fun y hy hh => c70 ((et_Mmt_iff hK3 hR hask hy).mpr hh))⟩
      · have c70 := et_b1 hq1 c70
        refine lv_iload hx hb dX1_find_73 (lv_at hl 4 rfl) ?_
        refine lv_if_lt (tgt := 89) hx hb dX1_find_75 (by decide) (fun _ => ?_) (fun c75 => absurd c75 (fun hh => hh (by decide)))
        refine lv_iload hx hb dX1_find_89 (lv_at hl 5 rfl) ?_
        refine lv_istore hx hb dX1_find_91 hl (by decide) rfl (fun ls hl => ?_)
        have hl : lv_has ls 9 [(7, .int (nI t)), (0, .ref (q 0)), (1, .long a), (3, .long b), (5, .long c0), (8, .int (nI t))] := hl
        refine lv_iinc (k := 5) (v := nI (t + 1)) hx hb dX1_find_93 hl rfl (nI_add t 1) (by decide) rfl (fun ls hl => ?_)
        have hl : lv_has ls 9 [(8, .int (nI (t + 1))), (7, .int (nI t)), (0, .ref (q 0)), (1, .long a), (3, .long b), (5, .long c0)] := hl
        refine lv_goto (tgt := 55) hx hb dX1_find_96 (by decide) ?_
        exact hrec55 ls H locs (by omega) ⟨(nI t), lv_sub hl [2, 3, 4, 5, 1, 0] rfl, hP, hD, hS, et_fd_1 hno (List.getElem?_eq_getElem (by omega)) ((et_Mmt_iff hK3 hR hask (List.getElem?_eq_getElem (by omega))).mp c70)⟩
  · have hl : lv_has ls 9 [(0, .ref (q 0)), (1, .long a), (3, .long b), (5, .long c0), (7, .int (nI b0)), (8, .int (nI t))] := hl
    have hb4 := (List.getElem?_eq_some_iff.mp hb0).1
    refine lv_iload hx hb dX1_find_55 (lv_at hl 5 rfl) ?_
    refine lv_aload_n hx hb dX1_find_57 rfl (lv_at hl 0 rfl) ?_
    refine va_get (D := D) (ci := 1) (C := RX1) (T := TX1) (N := 14) hx hb hts hU hown hK hP 0 rfl rfl 11 (by decide) hf_count (fun _ h9 => h9) rfl dX1_find_58 ?_
    refine lv_icmp_ge (tgt := 99) hx hb dX1_find_61 (by decide) (fun c61 => ?_) (fun c61 => ?_)
    · have c61 : nI B.length ≤ nI t := c61
      rw [nI_leI (by omega) (by omega)] at c61
      refine lv_iload hx hb dX1_find_99 (lv_at hl 4 rfl) ?_
      refine lv_if_ge (tgt := 117) hx hb dX1_find_101 (by decide) (fun _ => ?_) (fun c101 => absurd c101 (fun hh => hh (nI_pos' (by omega))))
      refine lv_aload_n hx hb dX1_find_117 rfl (lv_at hl 0 rfl) ?_
      refine va_get (D := D) (ci := 1) (C := RX1) (T := TX1) (N := 14) hx hb hts hU hown hK hP 0 rfl rfl 5 (by decide) hf_hits (fun _ h9 => h9) rfl dX1_find_118 ?_
      refine lv_iload hx hb dX1_find_121 (lv_at hl 4 rfl) ?_
      refine lv_dup2_11 hx hb dX1_find_123 rfl rfl ?_
      refine eb_iald hx hb hK hP 4 3 rfl rfl (b0) (by omega) (by decide) dX1_find_124 ?_
      refine lv_iconst (v := 1) hx hb dX1_find_125 (by decide) ?_
      refine lv_iadd hx hb dX1_find_126 ?_
      refine eb_iast hx hb hK hP hD hS 4 3 rfl rfl (b0) (by omega) (by decide) dX1_find_127 (fun H locs hP hD hS => ?_)
      have hP : va_P D vwCl (MW q cs (nI K) (nI w) kd num pri (upd hit b0 ((hit b0) + 1)) val msk dv dm ask1 (nI B.length) (nI N) ms) H := hP
      have hD : va_D A (MW q cs (nI K) (nI w) kd num pri (upd hit b0 ((hit b0) + 1)) val msk dv dm ask1 (nI B.length) (nI N) ms) := hD
      refine lv_aload_n hx hb dX1_find_128 rfl (lv_at hl 0 rfl) ?_
      refine va_get (D := D) (ci := 1) (C := RX1) (T := TX1) (N := 14) hx hb hts hU hown hK hP 0 rfl rfl 3 (by decide) hf_number (fun _ h9 => h9) rfl dX1_find_129 ?_
      refine lv_iload hx hb dX1_find_132 (lv_at hl 4 rfl) ?_
      refine eb_iald hx hb hK hP 2 1 rfl rfl (b0) (by omega) (by decide) dX1_find_134 ?_
      refine eb_iret hx hb hr hlk hK hP hD hS dX1_find_135 ?_
      refine Or.inr ⟨b0, x0, hb0, hb2, fun y hy hh => ?_, (hR.2 b0 x0 hb0).1, num, pri, _, val, msk, ask1, et_RR_hit hR hb0, by rw [List.length_set]⟩
      obtain ⟨j, hj⟩ := List.getElem?_of_mem hy
      exact hb3 j y (by have := (List.getElem?_eq_some_iff.mp hj).1; omega) hj hh
    · have c61 : ¬ nI B.length ≤ nI t := c61
      rw [nI_leI (by omega) (by omega)] at c61
      refine lv_aload_n hx hb dX1_find_64 rfl (lv_at hl 0 rfl) ?_
      refine lv_iload hx hb dX1_find_65 (lv_at hl 5 rfl) ?_
      refine eb_calli (As := [.int (nI t)]) (rest := []) ⟨hx, hb, hml, hown, hts⟩ (tM_matches l D q cs hK3 (t) (by omega)) (cwV 1 hts gM_matches rfl rfl rfl (by decide +kernel) ⟨Nat.le_of_ble_eq_true rfl, Nat.le_of_ble_eq_true rfl⟩) hK hP hD hS hA rfl rfl rfl rfl hl.1 rfl (Nat.le_of_ble_eq_true rfl) dX1_find_67 ⟨Nat.zero_le _, Nat.zero_le _⟩ (fun r1 w1 H locs hq hP hD hS => ?_)
      obtain ⟨rfl, hq1⟩ := hq
      refine lv_if_eq (tgt := 93) hx hb dX1_find_70 (by decide) (fun c70 => ?_) (fun c70 => ?_)
      · have c70 := et_b0 hq1 c70
        refine lv_iinc (k := 5) (v := nI (t + 1)) hx hb dX1_find_93 hl rfl (nI_add t 1) (by decide) rfl (fun ls hl => ?_)
        have hl : lv_has ls 9 [(8, .int (nI (t + 1))), (0, .ref (q 0)), (1, .long a), (3, .long b), (5, .long c0), (7, .int (nI b0))] := hl
        refine lv_goto (tgt := 55) hx hb dX1_find_96 (by decide) ?_
        exact hrec55 ls H locs (by omega) ⟨(nI b0), lv_sub hl [1, 2, 3, 4, 5, 0] rfl, hP, hD, hS, et_fd_n (Or.inr ⟨b0, x0, hb0, rfl, hb2, hb3⟩) (fun y hy hh => c70 ((et_Mmt_iff hK3 hR hask hy).mpr hh))⟩
      · have c70 := et_b1 hq1 c70
        refine lv_iload hx hb dX1_find_73 (lv_at hl 4 rfl) ?_
        refine lv_if_lt (tgt := 89) hx hb dX1_find_75 (by decide) (fun c75 => absurd c75 (nI_pos (by omega))) (fun _ => ?_)
        refine lv_aload_n hx hb dX1_find_78 rfl (lv_at hl 0 rfl) ?_
        refine lv_iload hx hb dX1_find_79 (lv_at hl 5 rfl) ?_
        refine lv_iload hx hb dX1_find_81 (lv_at hl 4 rfl) ?_
        refine eb_calli (As := [.int (nI t), .int (nI b0)]) (rest := []) ⟨hx, hb, hml, hown, hts⟩ (tM_before l D q cs hK3 (t) (b0) (by omega) (by omega)) (cwV 2 hts gM_before rfl rfl rfl (by decide +kernel) ⟨Nat.le_of_ble_eq_true rfl, Nat.le_of_ble_eq_true rfl⟩) hK hP hD hS hA rfl rfl rfl rfl hl.1 rfl (Nat.le_of_ble_eq_true rfl) dX1_find_83 ⟨Nat.zero_le _, Nat.zero_le _⟩ (fun r2 w1 H locs hq hP hD hS => ?_)
        obtain ⟨rfl, hq2⟩ := hq
        refine lv_if_eq (tgt := 93) hx hb dX1_find_86 (by decide) (fun c86 => ?_) (fun c86 => ?_)
        · have c86 := et_b0 hq2 c86
          refine lv_iinc (k := 5) (v := nI (t + 1)) hx hb dX1_find_93 hl rfl (nI_add t 1) (by decide) rfl (fun ls hl => ?_)
          have hl : lv_has ls 9 [(8, .int (nI (t + 1))), (0, .ref (q 0)), (1, .long a), (3, .long b), (5, .long c0), (7, .int (nI b0))] := hl
          refine lv_goto (tgt := 55) hx hb dX1_find_96 (by decide) ?_
          exact hrec55 ls H locs (by omega) ⟨(nI b0), lv_sub hl [1, 2, 3, 4, 5, 0] rfl, hP, hD, hS, et_fd_k hb0 hb2 hb3 (List.getElem?_eq_getElem (by omega)) (fun hh => c86 ((et_mb_iff hK3 hR hn (List.getElem?_eq_getElem (by omega)) hb0).mpr hh))⟩
        · have c86 := et_b1 hq2 c86
          refine lv_iload hx hb dX1_find_89 (lv_at hl 5 rfl) ?_
          refine lv_istore hx hb dX1_find_91 hl (by decide) rfl (fun ls hl => ?_)
          have hl : lv_has ls 9 [(7, .int (nI t)), (0, .ref (q 0)), (1, .long a), (3, .long b), (5, .long c0), (8, .int (nI t))] := hl
          refine lv_iinc (k := 5) (v := nI (t + 1)) hx hb dX1_find_93 hl rfl (nI_add t 1) (by decide) rfl (fun ls hl => ?_)
          have hl : lv_has ls 9 [(8, .int (nI (t + 1))), (7, .int (nI t)), (0, .ref (q 0)), (1, .long a), (3, .long b), (5, .long c0)] := hl
          refine lv_goto (tgt := 55) hx hb dX1_find_96 (by decide) ?_
          exact hrec55 ls H locs (by omega) ⟨(nI t), lv_sub hl [2, 3, 4, 5, 1, 0] rfl, hP, hD, hS, et_fd_b hb3 (List.getElem?_eq_getElem (by omega)) ((et_Mmt_iff hK3 hR hask (List.getElem?_eq_getElem (by omega))).mp c70) ((et_mb_iff hK3 hR hn (List.getElem?_eq_getElem (by omega)) hb0).mp c86)⟩

set_option maxHeartbeats 4000000 in
set_option maxRecDepth 100000 in
theorem tM_nth (l : Launch) (D : va_G) (q : Nat → Nat) (cs : Nat → ClassId) {K w N : Nat} {B : List et_E} {kd num pri hit : Nat → Int32} {val msk dv dm ask : Nat → Int64} {ms : Int32} (hK3 : K ≤ 3) (hR : et_RR B num pri hit val msk) (hn : ∀ x ∈ B, et_n x < 2 ^ 31) (kk : Int32) : eb_MI l D vwCl (MTy cs) yX1_nth wsM_nth { frames := 2, cells := 0, slots := 0, locals := 80 } [.ref (q 0), .int kk] (MW q cs (nI K) (nI w) kd num pri hit val msk dv dm ask (nI B.length) (nI N) ms) (fun r w1 => et_QMn (et_SM q cs K w kd) K kd dv dm N ms B kk r w1) := by
  refine eb_openI (cc := cX1_nth) (maxL := 5) (ret := (some .int)) (by decide +kernel) rfl (Nat.le_of_ble_eq_true rfl) ?_
  intro p e s m below meth c A ls H locs hx hb hr hts hown hlk hml hP hK hD hA hS hl
  have hU : ∀ w ∈ wsX10, w ∈ wsM_nth := fun w h => List.mem_cons_of_mem _ (MALL_u w h)
  have hf_count := hts (.fieldLink RX1 59 "EntryTableModel" "count" "I") (by decide +kernel)
  have hf_number := hts (.fieldLink RX1 13 "EntryTableModel" "number" "[I") (by decide +kernel)
  have hC := hR.1
  have hl : lv_has ls 5 [(0, .ref (q 0)), (1, .int kk)] := hl
  refine lv_iconst (v := 0) hx hb dX1_nth_0 (by decide) ?_
  refine lv_istore_n hx hb dX1_nth_1 rfl hl (by decide) rfl (fun ls hl => ?_)
  have hl : lv_has ls 5 [(2, .int 0), (0, .ref (q 0)), (1, .int kk)] := hl
  refine eb_for (fun (e0 : Nat) (ls : Array Slot) (H : Heap) (locs : List Loc) => lv_has ls 5 [(0, .ref (q 0)), (1, .int kk), (2, .int (nI e0))] ∧ va_P D vwCl (MW q cs (nI K) (nI w) kd num pri hit val msk dv dm ask (nI B.length) (nI N) ms) H ∧ va_D A (MW q cs (nI K) (nI w) kd num pri hit val msk dv dm ask (nI B.length) (nI N) ms) ∧ va_S A s.heap H locs ∧ (∀ j y, j < e0 → B[j]? = some y → ¬ kk = nI ((B).countP (fun z => decide (et_bf K kd z y))))) 2 (B.length) ?_ (B.length) (0) ls H locs (by omega) ⟨lv_sub hl [1, 2, 0] rfl, hP, hD, hS, fun j y hj => absurd hj (Nat.not_lt_zero j)⟩
  intro e0 ls H locs he0 hI hrec2
  obtain ⟨hl, hP, hD, hS, hi2⟩ := hI
  refine lv_iload_n hx hb dX1_nth_2 rfl (lv_at hl 2 rfl) ?_
  refine lv_aload_n hx hb dX1_nth_3 rfl (lv_at hl 0 rfl) ?_
  refine va_get (D := D) (ci := 1) (C := RX1) (T := TX1) (N := 14) hx hb hts hU hown hK hP 0 rfl rfl 11 (by decide) hf_count (fun _ h9 => h9) rfl dX1_nth_4 ?_
  refine lv_icmp_ge (tgt := 66) hx hb dX1_nth_7 (by decide) (fun c7 => ?_) (fun c7 => ?_)
  · have c7 : nI B.length ≤ nI e0 := c7
    rw [nI_leI (by omega) (by omega)] at c7
    refine lv_bipush (v := (-2)) hx hb dX1_nth_66 (by decide) ?_
    refine eb_iret hx hb hr hlk hK hP hD hS dX1_nth_68 ?_
    refine ⟨⟨num, pri, hit, val, msk, ask, hR, rfl⟩, Or.inl ⟨fun x hx => ?_, rfl⟩⟩
    obtain ⟨j, hj⟩ := List.getElem?_of_mem hx
    exact hi2 j x (by have := (List.getElem?_eq_some_iff.mp hj).1; omega) hj
  · have c7 : ¬ nI B.length ≤ nI e0 := c7
    rw [nI_leI (by omega) (by omega)] at c7
    obtain ⟨ye, hye⟩ : ∃ y, B[e0]? = some y := ⟨B[e0], List.getElem?_eq_getElem (by omega)⟩
    refine lv_iconst (v := 0) hx hb dX1_nth_10 (by decide) ?_
    refine lv_istore_n hx hb dX1_nth_11 rfl hl (by decide) rfl (fun ls hl => ?_)
    have hl : lv_has ls 5 [(3, .int 0), (0, .ref (q 0)), (1, .int kk), (2, .int (nI e0))] := hl
    refine lv_iconst (v := 0) hx hb dX1_nth_12 (by decide) ?_
    refine lv_istore hx hb dX1_nth_13 hl (by decide) rfl (fun ls hl => ?_)
    have hl : lv_has ls 5 [(4, .int 0), (3, .int 0), (0, .ref (q 0)), (1, .int kk), (2, .int (nI e0))] := hl
    refine eb_for (fun (t : Nat) (ls : Array Slot) (H : Heap) (locs : List Loc) => ∃ ah : Int32, lv_has ls 5 [(0, .ref (q 0)), (1, .int kk), (2, .int (nI e0)), (3, .int ah), (4, .int (nI t))] ∧ va_P D vwCl (MW q cs (nI K) (nI w) kd num pri hit val msk dv dm ask (nI B.length) (nI N) ms) H ∧ va_D A (MW q cs (nI K) (nI w) kd num pri hit val msk dv dm ask (nI B.length) (nI N) ms) ∧ va_S A s.heap H locs ∧ (ah = nI ((B.take t).countP (fun z => decide (et_bf K kd z ye))))) 15 (B.length) ?_ (B.length) (0) ls H locs (by omega) ⟨0, lv_sub hl [2, 3, 4, 1, 0] rfl, hP, hD, hS, rfl⟩
    intro t ls H locs ht hI hrec15
    obtain ⟨ah, hl, hP, hD, hS, hi15⟩ := hI
    obtain rfl := hi15
    have hl : lv_has ls 5 [(0, .ref (q 0)), (1, .int kk), (2, .int (nI e0)), (3, .int (nI ((B.take t).countP (fun z => decide (et_bf K kd z ye))))), (4, .int (nI t))] := hl
    refine lv_iload hx hb dX1_nth_15 (lv_at hl 4 rfl) ?_
    refine lv_aload_n hx hb dX1_nth_17 rfl (lv_at hl 0 rfl) ?_
    refine va_get (D := D) (ci := 1) (C := RX1) (T := TX1) (N := 14) hx hb hts hU hown hK hP 0 rfl rfl 11 (by decide) hf_count (fun _ h9 => h9) rfl dX1_nth_18 ?_
    refine lv_icmp_ge (tgt := 48) hx hb dX1_nth_21 (by decide) (fun c21 => ?_) (fun c21 => ?_)
    · have c21 : nI B.length ≤ nI t := c21
      rw [nI_leI (by omega) (by omega)] at c21
      refine lv_iload_n hx hb dX1_nth_48 rfl (lv_at hl 3 rfl) ?_
      refine lv_iload_n hx hb dX1_nth_49 rfl (lv_at hl 1 rfl) ?_
      refine lv_icmp_ne (tgt := 60) hx hb dX1_nth_50 (by decide) (fun c50 => ?_) (fun c50 => ?_)
      · refine lv_iinc (k := 2) (v := nI (e0 + 1)) hx hb dX1_nth_60 hl rfl (nI_add e0 1) (by decide) rfl (fun ls hl => ?_)
        have hl : lv_has ls 5 [(2, .int (nI (e0 + 1))), (0, .ref (q 0)), (1, .int kk), (3, .int (nI ((B.take t).countP (fun z => decide (et_bf K kd z ye))))), (4, .int (nI t))] := hl
        refine lv_goto (tgt := 2) hx hb dX1_nth_63 (by decide) ?_
        exact hrec2 ls H locs (by omega) ⟨lv_sub hl [1, 2, 0] rfl, hP, hD, hS, et_ltx (P := fun y => kk = nI ((B).countP (fun z => decide (et_bf K kd z y)))) hi2 (fun y hy hh => c50 (by rw [hye] at hy; cases hy; rw [hh, List.take_of_length_le (by omega)]))⟩
      · refine lv_aload_n hx hb dX1_nth_53 rfl (lv_at hl 0 rfl) ?_
        refine va_get (D := D) (ci := 1) (C := RX1) (T := TX1) (N := 14) hx hb hts hU hown hK hP 0 rfl rfl 3 (by decide) hf_number (fun _ h9 => h9) rfl dX1_nth_54 ?_
        refine lv_iload_n hx hb dX1_nth_57 rfl (lv_at hl 2 rfl) ?_
        refine eb_iald hx hb hK hP 2 1 rfl rfl (e0) (by omega) (by decide) dX1_nth_58 ?_
        refine eb_iret hx hb hr hlk hK hP hD hS dX1_nth_59 ?_
        exact ⟨⟨num, pri, hit, val, msk, ask, hR, rfl⟩, Or.inr ⟨ye, List.mem_of_getElem? hye, by rw [← c50, List.take_of_length_le (by omega)], (hR.2 e0 ye hye).1⟩⟩
    · have c21 : ¬ nI B.length ≤ nI t := c21
      rw [nI_leI (by omega) (by omega)] at c21
      refine lv_iload_n hx hb dX1_nth_24 rfl (lv_at hl 3 rfl) ?_
      refine lv_aload_n hx hb dX1_nth_25 rfl (lv_at hl 0 rfl) ?_
      refine lv_iload hx hb dX1_nth_26 (lv_at hl 4 rfl) ?_
      refine lv_iload_n hx hb dX1_nth_28 rfl (lv_at hl 2 rfl) ?_
      refine eb_calli (As := [.int (nI t), .int (nI e0)]) (rest := [.int (nI ((B.take t).countP (fun z => decide (et_bf K kd z ye))))]) ⟨hx, hb, hml, hown, hts⟩ (tM_before l D q cs hK3 (t) (e0) (by omega) (by omega)) (cwV 2 hts gM_before rfl rfl rfl (by decide +kernel) ⟨Nat.le_of_ble_eq_true rfl, Nat.le_of_ble_eq_true rfl⟩) hK hP hD hS hA rfl rfl rfl rfl hl.1 rfl (Nat.le_of_ble_eq_true rfl) dX1_nth_29 ⟨Nat.zero_le _, Nat.zero_le _⟩ (fun r1 w1 H locs hq hP hD hS => ?_)
      obtain ⟨rfl, hq1⟩ := hq
      refine lv_if_eq (tgt := 39) hx hb dX1_nth_32 (by decide) (fun c32 => ?_) (fun c32 => ?_)
      · have c32 := et_b0 hq1 c32
        refine lv_iconst (v := 0) hx hb dX1_nth_39 (by decide) ?_
        refine lv_iadd hx hb dX1_nth_40 ?_
        refine eb_ti (nI (((B.take t).countP (fun z => decide (et_bf K kd z ye))) + 0)) (nI_add ((B.take t).countP (fun z => decide (et_bf K kd z ye))) 0) ?_
        refine lv_istore_n hx hb dX1_nth_41 rfl hl (by decide) rfl (fun ls hl => ?_)
        have hl : lv_has ls 5 [(3, .int (nI (((B.take t).countP (fun z => decide (et_bf K kd z ye))) + 0))), (0, .ref (q 0)), (1, .int kk), (2, .int (nI e0)), (4, .int (nI t))] := hl
        refine lv_iinc (k := 4) (v := nI (t + 1)) hx hb dX1_nth_42 hl rfl (nI_add t 1) (by decide) rfl (fun ls hl => ?_)
        have hl : lv_has ls 5 [(4, .int (nI (t + 1))), (3, .int (nI (((B.take t).countP (fun z => decide (et_bf K kd z ye))) + 0))), (0, .ref (q 0)), (1, .int kk), (2, .int (nI e0))] := hl
        refine lv_goto (tgt := 15) hx hb dX1_nth_45 (by decide) ?_
        exact hrec15 ls H locs (by omega) ⟨(nI (((B.take t).countP (fun z => decide (et_bf K kd z ye))) + 0)), lv_sub hl [2, 3, 4, 1, 0] rfl, hP, hD, hS, by rw [et_ct_s (List.getElem?_eq_getElem (by omega)), if_neg (by simpa only [decide_eq_true_eq] using fun hh => c32 ((et_mb_iff hK3 hR hn (List.getElem?_eq_getElem (by omega)) hye).mpr hh))]⟩
      · have c32 := et_b1 hq1 c32
        refine lv_iconst (v := 1) hx hb dX1_nth_35 (by decide) ?_
        refine lv_goto (tgt := 40) hx hb dX1_nth_36 (by decide) ?_
        refine lv_iadd hx hb dX1_nth_40 ?_
        refine eb_ti (nI (((B.take t).countP (fun z => decide (et_bf K kd z ye))) + 1)) (nI_add ((B.take t).countP (fun z => decide (et_bf K kd z ye))) 1) ?_
        refine lv_istore_n hx hb dX1_nth_41 rfl hl (by decide) rfl (fun ls hl => ?_)
        have hl : lv_has ls 5 [(3, .int (nI (((B.take t).countP (fun z => decide (et_bf K kd z ye))) + 1))), (0, .ref (q 0)), (1, .int kk), (2, .int (nI e0)), (4, .int (nI t))] := hl
        refine lv_iinc (k := 4) (v := nI (t + 1)) hx hb dX1_nth_42 hl rfl (nI_add t 1) (by decide) rfl (fun ls hl => ?_)
        have hl : lv_has ls 5 [(4, .int (nI (t + 1))), (3, .int (nI (((B.take t).countP (fun z => decide (et_bf K kd z ye))) + 1))), (0, .ref (q 0)), (1, .int kk), (2, .int (nI e0))] := hl
        refine lv_goto (tgt := 15) hx hb dX1_nth_45 (by decide) ?_
        exact hrec15 ls H locs (by omega) ⟨(nI (((B.take t).countP (fun z => decide (et_bf K kd z ye))) + 1)), lv_sub hl [2, 3, 4, 1, 0] rfl, hP, hD, hS, by rw [et_ct_s (List.getElem?_eq_getElem (by omega)), if_pos (by simpa only [decide_eq_true_eq] using (et_mb_iff hK3 hR hn (List.getElem?_eq_getElem (by omega)) hye).mp c32)]⟩

