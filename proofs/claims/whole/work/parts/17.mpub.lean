set_option maxHeartbeats 4000000 in
set_option maxRecDepth 100000 in
theorem tM_match (l : Launch) (D : va_G) (q : Nat → Nat) (cs : Nat → ClassId) {K w N : Nat} {B : List et_E} {kd num pri hit : Nat → Int32} {val msk dv dm ask : Nat → Int64} {ms : Int32} (hK3 : K ≤ 3) (hR : et_RR B num pri hit val msk) (k : Int32) (v0 m0 : Int64) : eb_MI l D vwCl (MTy cs) yX1_match wsM_match { frames := 0, cells := 0, slots := 0, locals := 0 } [.ref (q 0), .int k, .long v0, .long m0] (MW q cs (nI K) (nI w) kd num pri hit val msk dv dm ask (nI B.length) (nI N) ms) (fun r w1 => et_Qm (et_SM q cs K w kd) dv dm N ms B k v0 m0 r w1) := by
  refine eb_openI (cc := cX1_match) (maxL := 6) (ret := (some .int)) (by decide +kernel) rfl (Nat.le_of_ble_eq_true rfl) ?_
  intro p e s m below meth c A ls H locs hx hb hr hts hown hlk hml hP hK hD hA hS hl
  have hU : ∀ w ∈ wsX10, w ∈ wsM_match := fun w h => List.mem_cons_of_mem _ (MALL_u w h)
  have hf_madeValue := hts (.fieldLink RX1 29 "EntryTableModel" "madeValue" "[J") (by decide +kernel)
  have hf_madeMask := hts (.fieldLink RX1 32 "EntryTableModel" "madeMask" "[J") (by decide +kernel)
  have hC := hR.1
  have hl : lv_has ls 6 [(0, .ref (q 0)), (1, .int k), (2, .long v0), (4, .long m0)] := hl
  refine lv_iload_n hx hb dX1_match_0 rfl (lv_at hl 1 rfl) ?_
  refine lv_if_lt (tgt := 9) hx hb dX1_match_1 (by decide) (fun c1 => ?_) (fun c1 => ?_)
  · refine lv_iconst (v := (-1)) hx hb dX1_match_9 (by decide) ?_
    refine eb_iret hx hb hr hlk hK hP hD hS dX1_match_10 ?_
    exact Or.inl ⟨Or.inl c1, rfl, ⟨num, pri, hit, val, msk, ask, hR, rfl⟩⟩
  · refine lv_iload_n hx hb dX1_match_4 rfl (lv_at hl 1 rfl) ?_
    refine lv_iconst (v := 2) hx hb dX1_match_5 (by decide) ?_
    refine lv_icmp_le (tgt := 11) hx hb dX1_match_6 (by decide) (fun c6 => ?_) (fun c6 => ?_)
    · rw [← Int32.not_lt] at c6
      obtain ⟨j, hj, rfl⟩ := et_ix (n := 3) (by decide) c1 (et_le2 c6)
      have hl : lv_has ls 6 [(0, .ref (q 0)), (1, .int (nI j)), (2, .long v0), (4, .long m0)] := hl
      refine lv_aload_n hx hb dX1_match_11 rfl (lv_at hl 0 rfl) ?_
      refine va_get (D := D) (ci := 1) (C := RX1) (T := TX1) (N := 14) hx hb hts hU hown hK hP 0 rfl rfl 8 (by decide) hf_madeValue (fun _ h9 => h9) rfl dX1_match_12 ?_
      refine lv_iload_n hx hb dX1_match_15 rfl (lv_at hl 1 rfl) ?_
      refine lv_lload_n hx hb dX1_match_16 rfl (lv_at hl 2 rfl) ?_
      refine eb_last hx hb hK hP hD hS 7 6 rfl rfl (j) (by omega) (by decide) dX1_match_17 (fun H locs hP hD hS => ?_)
      have hP : va_P D vwCl (MW q cs (nI K) (nI w) kd num pri hit val msk (vp_updL dv j v0) dm ask (nI B.length) (nI N) ms) H := hP
      have hD : va_D A (MW q cs (nI K) (nI w) kd num pri hit val msk (vp_updL dv j v0) dm ask (nI B.length) (nI N) ms) := hD
      refine lv_aload_n hx hb dX1_match_18 rfl (lv_at hl 0 rfl) ?_
      refine va_get (D := D) (ci := 1) (C := RX1) (T := TX1) (N := 14) hx hb hts hU hown hK hP 0 rfl rfl 9 (by decide) hf_madeMask (fun _ h9 => h9) rfl dX1_match_19 ?_
      refine lv_iload_n hx hb dX1_match_22 rfl (lv_at hl 1 rfl) ?_
      refine lv_lload hx hb dX1_match_23 (lv_at hl 3 rfl) ?_
      refine eb_last hx hb hK hP hD hS 8 7 rfl rfl (j) (by omega) (by decide) dX1_match_25 (fun H locs hP hD hS => ?_)
      have hP : va_P D vwCl (MW q cs (nI K) (nI w) kd num pri hit val msk (vp_updL dv j v0) (vp_updL dm j m0) ask (nI B.length) (nI N) ms) H := hP
      have hD : va_D A (MW q cs (nI K) (nI w) kd num pri hit val msk (vp_updL dv j v0) (vp_updL dm j m0) ask (nI B.length) (nI N) ms) := hD
      refine lv_iload_n hx hb dX1_match_26 rfl (lv_at hl 1 rfl) ?_
      refine eb_iret hx hb hr hlk hK hP hD hS dX1_match_27 ?_
      exact Or.inr ⟨j, hj, rfl, rfl, ⟨num, pri, hit, val, msk, ask, hR, rfl⟩⟩
    · rw [Int32.not_le] at c6
      refine lv_iconst (v := (-1)) hx hb dX1_match_9 (by decide) ?_
      refine eb_iret hx hb hr hlk hK hP hD hS dX1_match_10 ?_
      exact Or.inl ⟨Or.inr (et_gt2 c6), rfl, ⟨num, pri, hit, val, msk, ask, hR, rfl⟩⟩

set_option maxHeartbeats 4000000 in
set_option maxRecDepth 100000 in
theorem tM_count (l : Launch) (D : va_G) (q : Nat → Nat) (cs : Nat → ClassId) {K w N : Nat} {B : List et_E} {kd num pri hit : Nat → Int32} {val msk dv dm ask : Nat → Int64} {ms : Int32} (hK3 : K ≤ 3) (hR : et_RR B num pri hit val msk) (what : Int32) : eb_MI l D vwCl (MTy cs) yX1_count wsM_count { frames := 0, cells := 0, slots := 0, locals := 0 } [.ref (q 0), .int what] (MW q cs (nI K) (nI w) kd num pri hit val msk dv dm ask (nI B.length) (nI N) ms) (fun r w1 => et_Qc (et_SM q cs K w kd) K w kd dv dm N ms B what r w1) := by
  refine eb_openI (cc := cX1_count) (maxL := 2) (ret := (some .int)) (by decide +kernel) rfl (Nat.le_of_ble_eq_true rfl) ?_
  intro p e s m below meth c A ls H locs hx hb hr hts hown hlk hml hP hK hD hA hS hl
  have hU : ∀ w ∈ wsX10, w ∈ wsM_count := fun w h => List.mem_cons_of_mem _ (MALL_u w h)
  have hf_keys := hts (.fieldLink RX1 38 "EntryTableModel" "keys" "I") (by decide +kernel)
  have hf_width := hts (.fieldLink RX1 42 "EntryTableModel" "width" "I") (by decide +kernel)
  have hf_count := hts (.fieldLink RX1 59 "EntryTableModel" "count" "I") (by decide +kernel)
  have hf_missed := hts (.fieldLink RX1 83 "EntryTableModel" "missed" "I") (by decide +kernel)
  have hf_kind := hts (.fieldLink RX1 7 "EntryTableModel" "kind" "[I") (by decide +kernel)
  have hC := hR.1
  have hl : lv_has ls 2 [(0, .ref (q 0)), (1, .int what)] := hl
  refine lv_iload_n hx hb dX1_count_0 rfl (lv_at hl 1 rfl) ?_
  by_cases h0 : what = 0
  · subst h0
    have hl : lv_has ls 2 [(0, .ref (q 0)), (1, .int 0)] := hl
    refine lv_tableIn (tgt := 44) hx hb dX1_count_1 (by decide) (by decide) rfl (by decide) ?_
    refine lv_aload_n hx hb dX1_count_44 rfl (lv_at hl 0 rfl) ?_
    refine va_get (D := D) (ci := 1) (C := RX1) (T := TX1) (N := 14) hx hb hts hU hown hK hP 0 rfl rfl 0 (by decide) hf_keys (fun _ h9 => h9) rfl dX1_count_45 ?_
    refine eb_iret hx hb hr hlk hK hP hD hS dX1_count_48 ?_
    exact ⟨⟨num, pri, hit, val, msk, ask, hR, rfl⟩, rfl⟩
  by_cases h1 : what = 1
  · subst h1
    have hl : lv_has ls 2 [(0, .ref (q 0)), (1, .int 1)] := hl
    refine lv_tableIn (tgt := 49) hx hb dX1_count_1 (by decide) (by decide) rfl (by decide) ?_
    refine lv_aload_n hx hb dX1_count_49 rfl (lv_at hl 0 rfl) ?_
    refine va_get (D := D) (ci := 1) (C := RX1) (T := TX1) (N := 14) hx hb hts hU hown hK hP 0 rfl rfl 1 (by decide) hf_width (fun _ h9 => h9) rfl dX1_count_50 ?_
    refine eb_iret hx hb hr hlk hK hP hD hS dX1_count_53 ?_
    exact ⟨⟨num, pri, hit, val, msk, ask, hR, rfl⟩, rfl⟩
  by_cases h2 : what = 2
  · subst h2
    have hl : lv_has ls 2 [(0, .ref (q 0)), (1, .int 2)] := hl
    refine lv_tableIn (tgt := 54) hx hb dX1_count_1 (by decide) (by decide) rfl (by decide) ?_
    refine lv_aload_n hx hb dX1_count_54 rfl (lv_at hl 0 rfl) ?_
    refine va_get (D := D) (ci := 1) (C := RX1) (T := TX1) (N := 14) hx hb hts hU hown hK hP 0 rfl rfl 11 (by decide) hf_count (fun _ h9 => h9) rfl dX1_count_55 ?_
    refine eb_iret hx hb hr hlk hK hP hD hS dX1_count_58 ?_
    exact ⟨⟨num, pri, hit, val, msk, ask, hR, rfl⟩, rfl⟩
  by_cases h3 : what = 3
  · subst h3
    have hl : lv_has ls 2 [(0, .ref (q 0)), (1, .int 3)] := hl
    refine lv_tableIn (tgt := 59) hx hb dX1_count_1 (by decide) (by decide) rfl (by decide) ?_
    refine lv_aload_n hx hb dX1_count_59 rfl (lv_at hl 0 rfl) ?_
    refine va_get (D := D) (ci := 1) (C := RX1) (T := TX1) (N := 14) hx hb hts hU hown hK hP 0 rfl rfl 13 (by decide) hf_missed (fun _ h9 => h9) rfl dX1_count_60 ?_
    refine eb_iret hx hb hr hlk hK hP hD hS dX1_count_63 ?_
    exact ⟨⟨num, pri, hit, val, msk, ask, hR, rfl⟩, rfl⟩
  by_cases h4 : what = 4
  · subst h4
    have hl : lv_has ls 2 [(0, .ref (q 0)), (1, .int 4)] := hl
    refine lv_tableIn (tgt := 64) hx hb dX1_count_1 (by decide) (by decide) rfl (by decide) ?_
    refine lv_aload_n hx hb dX1_count_64 rfl (lv_at hl 0 rfl) ?_
    refine va_get (D := D) (ci := 1) (C := RX1) (T := TX1) (N := 14) hx hb hts hU hown hK hP 0 rfl rfl 2 (by decide) hf_kind (fun _ h9 => h9) rfl dX1_count_65 ?_
    refine lv_iload_n hx hb dX1_count_68 rfl (lv_at hl 1 rfl) ?_
    refine lv_iconst (v := 4) hx hb dX1_count_69 (by decide) ?_
    refine lv_isub hx hb dX1_count_70 ?_
    refine eb_ti (nI (4 - 4)) (pk_sub (a := 4) (b := 4) (by omega)) ?_
    refine eb_iald hx hb hK hP 1 0 rfl rfl (4 - 4) (by omega) (by decide) dX1_count_71 ?_
    refine eb_iret hx hb hr hlk hK hP hD hS dX1_count_72 ?_
    exact ⟨⟨num, pri, hit, val, msk, ask, hR, rfl⟩, rfl⟩
  by_cases h5 : what = 5
  · subst h5
    have hl : lv_has ls 2 [(0, .ref (q 0)), (1, .int 5)] := hl
    refine lv_tableIn (tgt := 64) hx hb dX1_count_1 (by decide) (by decide) rfl (by decide) ?_
    refine lv_aload_n hx hb dX1_count_64 rfl (lv_at hl 0 rfl) ?_
    refine va_get (D := D) (ci := 1) (C := RX1) (T := TX1) (N := 14) hx hb hts hU hown hK hP 0 rfl rfl 2 (by decide) hf_kind (fun _ h9 => h9) rfl dX1_count_65 ?_
    refine lv_iload_n hx hb dX1_count_68 rfl (lv_at hl 1 rfl) ?_
    refine lv_iconst (v := 4) hx hb dX1_count_69 (by decide) ?_
    refine lv_isub hx hb dX1_count_70 ?_
    refine eb_ti (nI (5 - 4)) (pk_sub (a := 5) (b := 4) (by omega)) ?_
    refine eb_iald hx hb hK hP 1 0 rfl rfl (5 - 4) (by omega) (by decide) dX1_count_71 ?_
    refine eb_iret hx hb hr hlk hK hP hD hS dX1_count_72 ?_
    exact ⟨⟨num, pri, hit, val, msk, ask, hR, rfl⟩, rfl⟩
  by_cases h6 : what = 6
  · subst h6
    have hl : lv_has ls 2 [(0, .ref (q 0)), (1, .int 6)] := hl
    refine lv_tableIn (tgt := 64) hx hb dX1_count_1 (by decide) (by decide) rfl (by decide) ?_
    refine lv_aload_n hx hb dX1_count_64 rfl (lv_at hl 0 rfl) ?_
    refine va_get (D := D) (ci := 1) (C := RX1) (T := TX1) (N := 14) hx hb hts hU hown hK hP 0 rfl rfl 2 (by decide) hf_kind (fun _ h9 => h9) rfl dX1_count_65 ?_
    refine lv_iload_n hx hb dX1_count_68 rfl (lv_at hl 1 rfl) ?_
    refine lv_iconst (v := 4) hx hb dX1_count_69 (by decide) ?_
    refine lv_isub hx hb dX1_count_70 ?_
    refine eb_ti (nI (6 - 4)) (pk_sub (a := 6) (b := 4) (by omega)) ?_
    refine eb_iald hx hb hK hP 1 0 rfl rfl (6 - 4) (by omega) (by decide) dX1_count_71 ?_
    refine eb_iret hx hb hr hlk hK hP hD hS dX1_count_72 ?_
    exact ⟨⟨num, pri, hit, val, msk, ask, hR, rfl⟩, rfl⟩
  refine lv_tableOut (tgt := 73) hx hb dX1_count_1 (et_out h0 h1 h2 h3 h4 h5 h6) (by decide) ?_
  refine lv_iconst (v := (-1)) hx hb dX1_count_73 (by decide) ?_
  refine eb_iret hx hb hr hlk hK hP hD hS dX1_count_74 ?_
  exact ⟨⟨num, pri, hit, val, msk, ask, hR, rfl⟩, by unfold et_cnt; rw [if_neg h0, if_neg h1, if_neg h2, if_neg h3, if_neg h4, if_neg h5, if_neg h6]⟩

set_option maxHeartbeats 4000000 in
set_option maxRecDepth 100000 in
theorem tM_hits (l : Launch) (D : va_G) (q : Nat → Nat) (cs : Nat → ClassId) {K w N : Nat} {B : List et_E} {kd num pri hit : Nat → Int32} {val msk dv dm ask : Nat → Int64} {ms : Int32} (hK3 : K ≤ 3) (hR : et_RR B num pri hit val msk) (en : Int32) : eb_MI l D vwCl (MTy cs) yX1_hits wsM_hits { frames := 1, cells := 0, slots := 0, locals := 40 } [.ref (q 0), .int en] (MW q cs (nI K) (nI w) kd num pri hit val msk dv dm ask (nI B.length) (nI N) ms) (fun r w1 => et_Qh (et_SM q cs K w kd) dv dm N ms B en r w1) := by
  refine eb_openI (cc := cX1_hits) (maxL := 3) (ret := (some .int)) (by decide +kernel) rfl (Nat.le_of_ble_eq_true rfl) ?_
  intro p e s m below meth c A ls H locs hx hb hr hts hown hlk hml hP hK hD hA hS hl
  have hU : ∀ w ∈ wsX10, w ∈ wsM_hits := fun w h => List.mem_cons_of_mem _ (MALL_u w h)
  have hf_hits := hts (.fieldLink RX1 19 "EntryTableModel" "hits" "[I") (by decide +kernel)
  have hC := hR.1
  have hl : lv_has ls 3 [(0, .ref (q 0)), (1, .int en)] := hl
  refine lv_aload_n hx hb dX1_hits_0 rfl (lv_at hl 0 rfl) ?_
  refine lv_iload_n hx hb dX1_hits_1 rfl (lv_at hl 1 rfl) ?_
  refine eb_calli (As := [.int en]) (rest := []) ⟨hx, hb, hml, hown, hts⟩ (tM_place l D q cs hC en) (cwV 1 hts gM_place rfl rfl rfl (by decide +kernel) ⟨Nat.le_of_ble_eq_true rfl, Nat.le_of_ble_eq_true rfl⟩) hK hP hD hS hA rfl rfl rfl rfl hl.1 rfl (Nat.le_of_ble_eq_true rfl) dX1_hits_2 ⟨Nat.zero_le _, Nat.zero_le _⟩ (fun r1 w1 H locs hq hP hD hS => ?_)
  obtain ⟨rfl, ⟨j, hj1, hj2, rfl⟩ | ⟨hj, rfl⟩⟩ := hq
  · refine lv_istore_n hx hb dX1_hits_5 rfl hl (by decide) rfl (fun ls hl => ?_)
    have hl : lv_has ls 3 [(2, .int (nI j)), (0, .ref (q 0)), (1, .int en)] := hl
    refine lv_iload_n hx hb dX1_hits_6 rfl (lv_at hl 0 rfl) ?_
    refine lv_if_ge (tgt := 15) hx hb dX1_hits_7 (by decide) (fun _ => ?_) (fun c7 => absurd c7 (fun hh => hh (nI_pos' (by omega))))
    refine lv_aload_n hx hb dX1_hits_15 rfl (lv_at hl 1 rfl) ?_
    refine va_get (D := D) (ci := 1) (C := RX1) (T := TX1) (N := 14) hx hb hts hU hown hK hP 0 rfl rfl 5 (by decide) hf_hits (fun _ h9 => h9) rfl dX1_hits_16 ?_
    refine lv_iload_n hx hb dX1_hits_19 rfl (lv_at hl 0 rfl) ?_
    refine eb_iald hx hb hK hP 4 3 rfl rfl (j) (by omega) (by decide) dX1_hits_20 ?_
    have hx1 : B[j]? = some B[j] := List.getElem?_eq_getElem hj1
    have hx2 := hR.2 j B[j] hx1
    refine eb_iret hx hb hr hlk hK hP hD hS dX1_hits_21 ?_
    exact ⟨⟨num, pri, hit, val, msk, ask, hR, rfl⟩, Or.inr ⟨B[j], List.mem_of_getElem? hx1, hx2.1.symm.trans hj2, hx2.2.2.1⟩⟩
  · refine lv_istore_n hx hb dX1_hits_5 rfl hl (by decide) rfl (fun ls hl => ?_)
    have hl : lv_has ls 3 [(2, .int (-1)), (0, .ref (q 0)), (1, .int en)] := hl
    refine lv_iload_n hx hb dX1_hits_6 rfl (lv_at hl 0 rfl) ?_
    refine lv_if_ge (tgt := 15) hx hb dX1_hits_7 (by decide) (fun c7 => absurd c7 (by decide)) (fun _ => ?_)
    refine lv_bipush (v := (-2)) hx hb dX1_hits_10 (by decide) ?_
    refine lv_goto (tgt := 21) hx hb dX1_hits_12 (by decide) ?_
    refine eb_iret hx hb hr hlk hK hP hD hS dX1_hits_21 ?_
    refine ⟨⟨num, pri, hit, val, msk, ask, hR, rfl⟩, Or.inl ⟨fun x hx hh => by
      obtain ⟨i, hi⟩ := List.getElem?_of_mem hx
      exact hj i (List.getElem?_eq_some_iff.mp hi).1 ((hR.2 i x hi).1.trans hh), rfl⟩⟩

set_option maxHeartbeats 4000000 in
set_option maxRecDepth 100000 in
theorem tM_remove (l : Launch) (D : va_G) (q : Nat → Nat) (cs : Nat → ClassId) {K w N : Nat} {B : List et_E} {kd num pri hit : Nat → Int32} {val msk dv dm ask : Nat → Int64} {ms : Int32} (hK3 : K ≤ 3) (hR : et_RR B num pri hit val msk) (en : Int32) : eb_MI l D vwCl (MTy cs) yX1_remove wsM_remove { frames := 1, cells := 0, slots := 0, locals := 40 } [.ref (q 0), .int en] (MW q cs (nI K) (nI w) kd num pri hit val msk dv dm ask (nI B.length) (nI N) ms) (fun r w1 => et_Qr (et_SM q cs K w kd) dv dm N ms B en r w1) := by
  refine eb_openI (cc := cX1_remove) (maxL := 5) (ret := (some .int)) (by decide +kernel) rfl (Nat.le_of_ble_eq_true rfl) ?_
  intro p e s m below meth c A ls H locs hx hb hr hts hown hlk hml hP hK hD hA hS hl
  have hU : ∀ w ∈ wsX10, w ∈ wsM_remove := fun w h => List.mem_cons_of_mem _ (MALL_u w h)
  have hf_count := hts (.fieldLink RX1 59 "EntryTableModel" "count" "I") (by decide +kernel)
  have hf_number := hts (.fieldLink RX1 13 "EntryTableModel" "number" "[I") (by decide +kernel)
  have hf_priority := hts (.fieldLink RX1 16 "EntryTableModel" "priority" "[I") (by decide +kernel)
  have hf_hits := hts (.fieldLink RX1 19 "EntryTableModel" "hits" "[I") (by decide +kernel)
  have hf_value := hts (.fieldLink RX1 22 "EntryTableModel" "value" "[J") (by decide +kernel)
  have hf_mask := hts (.fieldLink RX1 26 "EntryTableModel" "mask" "[J") (by decide +kernel)
  have hC := hR.1
  have hl : lv_has ls 5 [(0, .ref (q 0)), (1, .int en)] := hl
  refine lv_aload_n hx hb dX1_remove_0 rfl (lv_at hl 0 rfl) ?_
  refine lv_iload_n hx hb dX1_remove_1 rfl (lv_at hl 1 rfl) ?_
  refine eb_calli (As := [.int en]) (rest := []) ⟨hx, hb, hml, hown, hts⟩ (tM_place l D q cs hC en) (cwV 1 hts gM_place rfl rfl rfl (by decide +kernel) ⟨Nat.le_of_ble_eq_true rfl, Nat.le_of_ble_eq_true rfl⟩) hK hP hD hS hA rfl rfl rfl rfl hl.1 rfl (Nat.le_of_ble_eq_true rfl) dX1_remove_2 ⟨Nat.zero_le _, Nat.zero_le _⟩ (fun r1 w1 H locs hq hP hD hS => ?_)
  obtain ⟨rfl, ⟨j, hj1, hj2, rfl⟩ | ⟨hj, rfl⟩⟩ := hq
  · refine lv_istore_n hx hb dX1_remove_5 rfl hl (by decide) rfl (fun ls hl => ?_)
    have hl : lv_has ls 5 [(2, .int (nI j)), (0, .ref (q 0)), (1, .int en)] := hl
    refine lv_iload_n hx hb dX1_remove_6 rfl (lv_at hl 0 rfl) ?_
    refine lv_if_ge (tgt := 13) hx hb dX1_remove_7 (by decide) (fun _ => ?_) (fun c7 => absurd c7 (fun hh => hh (nI_pos' (by omega))))
    refine lv_aload_n hx hb dX1_remove_13 rfl (lv_at hl 1 rfl) ?_
    refine lv_dup hx hb dX1_remove_14 rfl ?_
    refine va_get (D := D) (ci := 1) (C := RX1) (T := TX1) (N := 14) hx hb hts hU hown hK hP 0 rfl rfl 11 (by decide) hf_count (fun _ h9 => h9) rfl dX1_remove_15 ?_
    refine lv_iconst (v := 1) hx hb dX1_remove_18 (by decide) ?_
    refine lv_isub hx hb dX1_remove_19 ?_
    refine eb_ti (nI (B.length - 1)) (pk_sub (a := B.length) (b := 1) (by omega)) ?_
    refine va_put (D := D) (ci := 1) (ty := .int) (C := RX1) (T := TX1) (N := 14) hx hb hts hU tyX1 tyX1_ok nmX1 hown hK hP hD hS 0 rfl rfl 11 (by decide) hf_count (fun _ h9 => h9) rfl (by decide +kernel) rfl rfl (Nat.le_of_ble_eq_true rfl) dX1_remove_20 (fun H locs hP hD hS => ?_)
    have hP : va_P D vwCl (MW q cs (nI K) (nI w) kd num pri hit val msk dv dm ask (nI (B.length - 1)) (nI N) ms) H := hP
    have hD : va_D A (MW q cs (nI K) (nI w) kd num pri hit val msk dv dm ask (nI (B.length - 1)) (nI N) ms) := hD
    refine lv_iload_n hx hb dX1_remove_23 rfl (lv_at hl 0 rfl) ?_
    refine lv_istore_n hx hb dX1_remove_24 rfl hl (by decide) rfl (fun ls hl => ?_)
    have hl : lv_has ls 5 [(3, .int (nI j)), (2, .int (nI j)), (0, .ref (q 0)), (1, .int en)] := hl
    refine eb_for (fun (e0 : Nat) (ls : Array Slot) (H : Heap) (locs : List Loc) => ∃ num1 : Nat → Int32, ∃ pri1 : Nat → Int32, ∃ hit1 : Nat → Int32, ∃ val1 : Nat → Int64, ∃ msk1 : Nat → Int64, lv_has ls 5 [(0, .ref (q 0)), (1, .int en), (2, .int (nI j)), (3, .int (nI e0))] ∧ va_P D vwCl (MW q cs (nI K) (nI w) kd num1 pri1 hit1 val1 msk1 dv dm ask (nI (B.length - 1)) (nI N) ms) H ∧ va_D A (MW q cs (nI K) (nI w) kd num1 pri1 hit1 val1 msk1 dv dm ask (nI (B.length - 1)) (nI N) ms) ∧ va_S A s.heap H locs ∧ (j ≤ e0 ∧ et_sh 1 num num1 j (e0) ∧ et_sh 1 pri pri1 j (e0) ∧ et_sh 1 hit hit1 j (e0) ∧ et_sh 3 val val1 (3 * j) (3 * (e0)) ∧ et_sh 3 msk msk1 (3 * j) (3 * (e0)))) 25 (B.length - 1) ?_ (B.length - 1 - j) (j) ls H locs (by omega) ⟨num, pri, hit, val, msk, lv_sub hl [2, 3, 1, 0] rfl, hP, hD, hS, ⟨Nat.le_refl j, et_sh_0, et_sh_0, et_sh_0, et_sh_0, et_sh_0⟩⟩
    intro e0 ls H locs he0 hI hrec25
    obtain ⟨num1, pri1, hit1, val1, msk1, hl, hP, hD, hS, hi25⟩ := hI
    refine lv_iload_n hx hb dX1_remove_25 rfl (lv_at hl 3 rfl) ?_
    refine lv_aload_n hx hb dX1_remove_26 rfl (lv_at hl 0 rfl) ?_
    refine va_get (D := D) (ci := 1) (C := RX1) (T := TX1) (N := 14) hx hb hts hU hown hK hP 0 rfl rfl 11 (by decide) hf_count (fun _ h9 => h9) rfl dX1_remove_27 ?_
    refine lv_icmp_ge (tgt := 144) hx hb dX1_remove_30 (by decide) (fun c30 => ?_) (fun c30 => ?_)
    · have c30 : nI (B.length - 1) ≤ nI e0 := c30
      rw [nI_leI (by omega) (by omega)] at c30
      refine lv_aload_n hx hb dX1_remove_144 rfl (lv_at hl 0 rfl) ?_
      refine va_get (D := D) (ci := 1) (C := RX1) (T := TX1) (N := 14) hx hb hts hU hown hK hP 0 rfl rfl 11 (by decide) hf_count (fun _ h9 => h9) rfl dX1_remove_145 ?_
      have hx1 : B[j]? = some B[j] := List.getElem?_eq_getElem hj1
      have hx2 := hR.2 j B[j] hx1
      have he1 : e0 = B.length - 1 := by omega
      subst he1
      obtain ⟨-, g1, g2, g3, g4, g5⟩ := hi25
      refine eb_iret hx hb hr hlk hK hP hD hS dX1_remove_148 ?_
      refine Or.inr ⟨j, B[j], hx1, hx2.1.symm.trans hj2, rfl, num1, pri1, hit1, val1, msk1, ask, et_RR_del hR hj1 (fun i hi => ⟨g1.1 i (by omega), g2.1 i (by omega), g3.1 i (by omega)⟩) (fun i hi => ⟨g4.1 i (by omega), g5.1 i (by omega)⟩) (fun i h1 h2 => ⟨g1.2 i h1 (by omega), g2.2 i h1 (by omega), g3.2 i h1 (by omega)⟩) (fun i h1 h2 k hk => ?_), by rw [List.length_eraseIdx_of_lt hj1]⟩
      exact ⟨(g4.2 (3 * i + k) (by omega) (by omega)).trans (by congr 1; omega), (g5.2 (3 * i + k) (by omega) (by omega)).trans (by congr 1; omega)⟩
    · have c30 : ¬ nI (B.length - 1) ≤ nI e0 := c30
      rw [nI_leI (by omega) (by omega)] at c30
      refine lv_aload_n hx hb dX1_remove_33 rfl (lv_at hl 0 rfl) ?_
      refine va_get (D := D) (ci := 1) (C := RX1) (T := TX1) (N := 14) hx hb hts hU hown hK hP 0 rfl rfl 3 (by decide) hf_number (fun _ h9 => h9) rfl dX1_remove_34 ?_
      refine lv_iload_n hx hb dX1_remove_37 rfl (lv_at hl 3 rfl) ?_
      refine lv_aload_n hx hb dX1_remove_38 rfl (lv_at hl 0 rfl) ?_
      refine va_get (D := D) (ci := 1) (C := RX1) (T := TX1) (N := 14) hx hb hts hU hown hK hP 0 rfl rfl 3 (by decide) hf_number (fun _ h9 => h9) rfl dX1_remove_39 ?_
      refine lv_iload_n hx hb dX1_remove_42 rfl (lv_at hl 3 rfl) ?_
      refine lv_iconst (v := 1) hx hb dX1_remove_43 (by decide) ?_
      refine lv_iadd hx hb dX1_remove_44 ?_
      refine eb_ti (nI (e0 + 1)) (nI_add e0 1) ?_
      refine eb_iald hx hb hK hP 2 1 rfl rfl (e0 + 1) (by omega) (by decide) dX1_remove_45 ?_
      refine eb_iast hx hb hK hP hD hS 2 1 rfl rfl (e0) (by omega) (by decide) dX1_remove_46 (fun H locs hP hD hS => ?_)
      have hP : va_P D vwCl (MW q cs (nI K) (nI w) kd (upd num1 e0 (num1 (e0 + 1))) pri1 hit1 val1 msk1 dv dm ask (nI (B.length - 1)) (nI N) ms) H := hP
      have hD : va_D A (MW q cs (nI K) (nI w) kd (upd num1 e0 (num1 (e0 + 1))) pri1 hit1 val1 msk1 dv dm ask (nI (B.length - 1)) (nI N) ms) := hD
      refine lv_aload_n hx hb dX1_remove_47 rfl (lv_at hl 0 rfl) ?_
      refine va_get (D := D) (ci := 1) (C := RX1) (T := TX1) (N := 14) hx hb hts hU hown hK hP 0 rfl rfl 4 (by decide) hf_priority (fun _ h9 => h9) rfl dX1_remove_48 ?_
      refine lv_iload_n hx hb dX1_remove_51 rfl (lv_at hl 3 rfl) ?_
      refine lv_aload_n hx hb dX1_remove_52 rfl (lv_at hl 0 rfl) ?_
      refine va_get (D := D) (ci := 1) (C := RX1) (T := TX1) (N := 14) hx hb hts hU hown hK hP 0 rfl rfl 4 (by decide) hf_priority (fun _ h9 => h9) rfl dX1_remove_53 ?_
      refine lv_iload_n hx hb dX1_remove_56 rfl (lv_at hl 3 rfl) ?_
      refine lv_iconst (v := 1) hx hb dX1_remove_57 (by decide) ?_
      refine lv_iadd hx hb dX1_remove_58 ?_
      refine eb_ti (nI (e0 + 1)) (nI_add e0 1) ?_
      refine eb_iald hx hb hK hP 3 2 rfl rfl (e0 + 1) (by omega) (by decide) dX1_remove_59 ?_
      refine eb_iast hx hb hK hP hD hS 3 2 rfl rfl (e0) (by omega) (by decide) dX1_remove_60 (fun H locs hP hD hS => ?_)
      have hP : va_P D vwCl (MW q cs (nI K) (nI w) kd (upd num1 e0 (num1 (e0 + 1))) (upd pri1 e0 (pri1 (e0 + 1))) hit1 val1 msk1 dv dm ask (nI (B.length - 1)) (nI N) ms) H := hP
      have hD : va_D A (MW q cs (nI K) (nI w) kd (upd num1 e0 (num1 (e0 + 1))) (upd pri1 e0 (pri1 (e0 + 1))) hit1 val1 msk1 dv dm ask (nI (B.length - 1)) (nI N) ms) := hD
      refine lv_aload_n hx hb dX1_remove_61 rfl (lv_at hl 0 rfl) ?_
      refine va_get (D := D) (ci := 1) (C := RX1) (T := TX1) (N := 14) hx hb hts hU hown hK hP 0 rfl rfl 5 (by decide) hf_hits (fun _ h9 => h9) rfl dX1_remove_62 ?_
      refine lv_iload_n hx hb dX1_remove_65 rfl (lv_at hl 3 rfl) ?_
      refine lv_aload_n hx hb dX1_remove_66 rfl (lv_at hl 0 rfl) ?_
      refine va_get (D := D) (ci := 1) (C := RX1) (T := TX1) (N := 14) hx hb hts hU hown hK hP 0 rfl rfl 5 (by decide) hf_hits (fun _ h9 => h9) rfl dX1_remove_67 ?_
      refine lv_iload_n hx hb dX1_remove_70 rfl (lv_at hl 3 rfl) ?_
      refine lv_iconst (v := 1) hx hb dX1_remove_71 (by decide) ?_
      refine lv_iadd hx hb dX1_remove_72 ?_
      refine eb_ti (nI (e0 + 1)) (nI_add e0 1) ?_
      refine eb_iald hx hb hK hP 4 3 rfl rfl (e0 + 1) (by omega) (by decide) dX1_remove_73 ?_
      refine eb_iast hx hb hK hP hD hS 4 3 rfl rfl (e0) (by omega) (by decide) dX1_remove_74 (fun H locs hP hD hS => ?_)
      have hP : va_P D vwCl (MW q cs (nI K) (nI w) kd (upd num1 e0 (num1 (e0 + 1))) (upd pri1 e0 (pri1 (e0 + 1))) (upd hit1 e0 (hit1 (e0 + 1))) val1 msk1 dv dm ask (nI (B.length - 1)) (nI N) ms) H := hP
      have hD : va_D A (MW q cs (nI K) (nI w) kd (upd num1 e0 (num1 (e0 + 1))) (upd pri1 e0 (pri1 (e0 + 1))) (upd hit1 e0 (hit1 (e0 + 1))) val1 msk1 dv dm ask (nI (B.length - 1)) (nI N) ms) := hD
      refine lv_iconst (v := 0) hx hb dX1_remove_75 (by decide) ?_
      refine lv_istore hx hb dX1_remove_76 hl (by decide) rfl (fun ls hl => ?_)
      have hl : lv_has ls 5 [(4, .int 0), (0, .ref (q 0)), (1, .int en), (2, .int (nI j)), (3, .int (nI e0))] := hl
      refine eb_for (fun (i : Nat) (ls : Array Slot) (H : Heap) (locs : List Loc) => ∃ val2 : Nat → Int64, ∃ msk2 : Nat → Int64, lv_has ls 5 [(0, .ref (q 0)), (1, .int en), (2, .int (nI j)), (3, .int (nI e0)), (4, .int (nI i))] ∧ va_P D vwCl (MW q cs (nI K) (nI w) kd (upd num1 e0 (num1 (e0 + 1))) (upd pri1 e0 (pri1 (e0 + 1))) (upd hit1 e0 (hit1 (e0 + 1))) val2 msk2 dv dm ask (nI (B.length - 1)) (nI N) ms) H ∧ va_D A (MW q cs (nI K) (nI w) kd (upd num1 e0 (num1 (e0 + 1))) (upd pri1 e0 (pri1 (e0 + 1))) (upd hit1 e0 (hit1 (e0 + 1))) val2 msk2 dv dm ask (nI (B.length - 1)) (nI N) ms) ∧ va_S A s.heap H locs ∧ (et_sh 3 val val2 (3 * j) (3 * e0 + i) ∧ et_sh 3 msk msk2 (3 * j) (3 * e0 + i))) 78 (3) ?_ (3) (0) ls H locs (by omega) ⟨val1, msk1, lv_sub hl [1, 2, 3, 4, 0] rfl, hP, hD, hS, ⟨hi25.2.2.2.2.1, hi25.2.2.2.2.2⟩⟩
      intro i ls H locs hi hI hrec78
      obtain ⟨val2, msk2, hl, hP, hD, hS, hi78⟩ := hI
      refine lv_iload hx hb dX1_remove_78 (lv_at hl 4 rfl) ?_
      refine lv_iconst (v := 3) hx hb dX1_remove_80 (by decide) ?_
      refine lv_icmp_ge (tgt := 138) hx hb dX1_remove_81 (by decide) (fun c81 => ?_) (fun c81 => ?_)
      · have c81 : nI 3 ≤ nI i := c81
        rw [nI_leI (by omega) (by omega)] at c81
        refine lv_iinc (k := 3) (v := nI (e0 + 1)) hx hb dX1_remove_138 hl rfl (nI_add e0 1) (by decide) rfl (fun ls hl => ?_)
        have hl : lv_has ls 5 [(3, .int (nI (e0 + 1))), (0, .ref (q 0)), (1, .int en), (2, .int (nI j)), (4, .int (nI i))] := hl
        refine lv_goto (tgt := 25) hx hb dX1_remove_141 (by decide) ?_
        exact hrec25 ls H locs (by omega) ⟨(upd num1 e0 (num1 (e0 + 1))), (upd pri1 e0 (pri1 (e0 + 1))), (upd hit1 e0 (hit1 (e0 + 1))), val2, msk2, lv_sub hl [1, 2, 3, 0] rfl, hP, hD, hS, ⟨by omega, et_sh_i hi25.2.1 hi25.1 (by decide) rfl, et_sh_i hi25.2.2.1 hi25.1 (by decide) rfl, et_sh_i hi25.2.2.2.1 hi25.1 (by decide) rfl, by rw [show 3 * (e0 + 1) = 3 * e0 + i by omega]; exact hi78.1, by rw [show 3 * (e0 + 1) = 3 * e0 + i by omega]; exact hi78.2⟩⟩
      · have c81 : ¬ nI 3 ≤ nI i := c81
        rw [nI_leI (by omega) (by omega)] at c81
        refine lv_aload_n hx hb dX1_remove_84 rfl (lv_at hl 0 rfl) ?_
        refine va_get (D := D) (ci := 1) (C := RX1) (T := TX1) (N := 14) hx hb hts hU hown hK hP 0 rfl rfl 6 (by decide) hf_value (fun _ h9 => h9) rfl dX1_remove_85 ?_
        refine lv_iconst (v := 3) hx hb dX1_remove_88 (by decide) ?_
        refine lv_iload_n hx hb dX1_remove_89 rfl (lv_at hl 3 rfl) ?_
        refine lv_imul hx hb dX1_remove_90 ?_
        refine eb_ti (nI (3 * e0)) (pk_mul 3 e0) ?_
        refine lv_iload hx hb dX1_remove_91 (lv_at hl 4 rfl) ?_
        refine lv_iadd hx hb dX1_remove_93 ?_
        refine eb_ti (nI ((3 * e0) + i)) (nI_add (3 * e0) i) ?_
        refine lv_aload_n hx hb dX1_remove_94 rfl (lv_at hl 0 rfl) ?_
        refine va_get (D := D) (ci := 1) (C := RX1) (T := TX1) (N := 14) hx hb hts hU hown hK hP 0 rfl rfl 6 (by decide) hf_value (fun _ h9 => h9) rfl dX1_remove_95 ?_
        refine lv_iconst (v := 3) hx hb dX1_remove_98 (by decide) ?_
        refine lv_iload_n hx hb dX1_remove_99 rfl (lv_at hl 3 rfl) ?_
        refine lv_imul hx hb dX1_remove_100 ?_
        refine eb_ti (nI (3 * e0)) (pk_mul 3 e0) ?_
        refine lv_iconst (v := 3) hx hb dX1_remove_101 (by decide) ?_
        refine lv_iadd hx hb dX1_remove_102 ?_
        refine eb_ti (nI ((3 * e0) + 3)) (nI_add (3 * e0) 3) ?_
        refine lv_iload hx hb dX1_remove_103 (lv_at hl 4 rfl) ?_
        refine lv_iadd hx hb dX1_remove_105 ?_
        refine eb_ti (nI (((3 * e0) + 3) + i)) (nI_add ((3 * e0) + 3) i) ?_
        refine eb_lald hx hb hK hP 5 4 rfl rfl (((3 * e0) + 3) + i) (by omega) (by decide) dX1_remove_106 ?_
        refine eb_last hx hb hK hP hD hS 5 4 rfl rfl ((3 * e0) + i) (by omega) (by decide) dX1_remove_107 (fun H locs hP hD hS => ?_)
        have hP : va_P D vwCl (MW q cs (nI K) (nI w) kd (upd num1 e0 (num1 (e0 + 1))) (upd pri1 e0 (pri1 (e0 + 1))) (upd hit1 e0 (hit1 (e0 + 1))) (vp_updL val2 ((3 * e0) + i) (val2 (((3 * e0) + 3) + i))) msk2 dv dm ask (nI (B.length - 1)) (nI N) ms) H := hP
        have hD : va_D A (MW q cs (nI K) (nI w) kd (upd num1 e0 (num1 (e0 + 1))) (upd pri1 e0 (pri1 (e0 + 1))) (upd hit1 e0 (hit1 (e0 + 1))) (vp_updL val2 ((3 * e0) + i) (val2 (((3 * e0) + 3) + i))) msk2 dv dm ask (nI (B.length - 1)) (nI N) ms) := hD
        refine lv_aload_n hx hb dX1_remove_108 rfl (lv_at hl 0 rfl) ?_
        refine va_get (D := D) (ci := 1) (C := RX1) (T := TX1) (N := 14) hx hb hts hU hown hK hP 0 rfl rfl 7 (by decide) hf_mask (fun _ h9 => h9) rfl dX1_remove_109 ?_
        refine lv_iconst (v := 3) hx hb dX1_remove_112 (by decide) ?_
        refine lv_iload_n hx hb dX1_remove_113 rfl (lv_at hl 3 rfl) ?_
        refine lv_imul hx hb dX1_remove_114 ?_
        refine eb_ti (nI (3 * e0)) (pk_mul 3 e0) ?_
        refine lv_iload hx hb dX1_remove_115 (lv_at hl 4 rfl) ?_
        refine lv_iadd hx hb dX1_remove_117 ?_
        refine eb_ti (nI ((3 * e0) + i)) (nI_add (3 * e0) i) ?_
        refine lv_aload_n hx hb dX1_remove_118 rfl (lv_at hl 0 rfl) ?_
        refine va_get (D := D) (ci := 1) (C := RX1) (T := TX1) (N := 14) hx hb hts hU hown hK hP 0 rfl rfl 7 (by decide) hf_mask (fun _ h9 => h9) rfl dX1_remove_119 ?_
        refine lv_iconst (v := 3) hx hb dX1_remove_122 (by decide) ?_
        refine lv_iload_n hx hb dX1_remove_123 rfl (lv_at hl 3 rfl) ?_
        refine lv_imul hx hb dX1_remove_124 ?_
        refine eb_ti (nI (3 * e0)) (pk_mul 3 e0) ?_
        refine lv_iconst (v := 3) hx hb dX1_remove_125 (by decide) ?_
        refine lv_iadd hx hb dX1_remove_126 ?_
        refine eb_ti (nI ((3 * e0) + 3)) (nI_add (3 * e0) 3) ?_
        refine lv_iload hx hb dX1_remove_127 (lv_at hl 4 rfl) ?_
        refine lv_iadd hx hb dX1_remove_129 ?_
        refine eb_ti (nI (((3 * e0) + 3) + i)) (nI_add ((3 * e0) + 3) i) ?_
        refine eb_lald hx hb hK hP 6 5 rfl rfl (((3 * e0) + 3) + i) (by omega) (by decide) dX1_remove_130 ?_
        refine eb_last hx hb hK hP hD hS 6 5 rfl rfl ((3 * e0) + i) (by omega) (by decide) dX1_remove_131 (fun H locs hP hD hS => ?_)
        have hP : va_P D vwCl (MW q cs (nI K) (nI w) kd (upd num1 e0 (num1 (e0 + 1))) (upd pri1 e0 (pri1 (e0 + 1))) (upd hit1 e0 (hit1 (e0 + 1))) (vp_updL val2 ((3 * e0) + i) (val2 (((3 * e0) + 3) + i))) (vp_updL msk2 ((3 * e0) + i) (msk2 (((3 * e0) + 3) + i))) dv dm ask (nI (B.length - 1)) (nI N) ms) H := hP
        have hD : va_D A (MW q cs (nI K) (nI w) kd (upd num1 e0 (num1 (e0 + 1))) (upd pri1 e0 (pri1 (e0 + 1))) (upd hit1 e0 (hit1 (e0 + 1))) (vp_updL val2 ((3 * e0) + i) (val2 (((3 * e0) + 3) + i))) (vp_updL msk2 ((3 * e0) + i) (msk2 (((3 * e0) + 3) + i))) dv dm ask (nI (B.length - 1)) (nI N) ms) := hD
        refine lv_iinc (k := 4) (v := nI (i + 1)) hx hb dX1_remove_132 hl rfl (nI_add i 1) (by decide) rfl (fun ls hl => ?_)
        have hl : lv_has ls 5 [(4, .int (nI (i + 1))), (0, .ref (q 0)), (1, .int en), (2, .int (nI j)), (3, .int (nI e0))] := hl
        refine lv_goto (tgt := 78) hx hb dX1_remove_135 (by decide) ?_
        exact hrec78 ls H locs (by omega) ⟨(vp_updL val2 ((3 * e0) + i) (val2 (((3 * e0) + 3) + i))), (vp_updL msk2 ((3 * e0) + i) (msk2 (((3 * e0) + 3) + i))), lv_sub hl [1, 2, 3, 4, 0] rfl, hP, hD, hS, ⟨et_sh_l hi78.1 (by omega) (by decide) (by congr 1; omega), et_sh_l hi78.2 (by omega) (by decide) (by congr 1; omega)⟩⟩
  · refine lv_istore_n hx hb dX1_remove_5 rfl hl (by decide) rfl (fun ls hl => ?_)
    have hl : lv_has ls 5 [(2, .int (-1)), (0, .ref (q 0)), (1, .int en)] := hl
    refine lv_iload_n hx hb dX1_remove_6 rfl (lv_at hl 0 rfl) ?_
    refine lv_if_ge (tgt := 13) hx hb dX1_remove_7 (by decide) (fun c7 => absurd c7 (by decide)) (fun _ => ?_)
    refine lv_bipush (v := (-2)) hx hb dX1_remove_10 (by decide) ?_
    refine eb_iret hx hb hr hlk hK hP hD hS dX1_remove_12 ?_
    refine Or.inl ⟨fun x hx hh => by
      obtain ⟨i, hi⟩ := List.getElem?_of_mem hx
      exact hj i (List.getElem?_eq_some_iff.mp hi).1 ((hR.2 i x hi).1.trans hh), rfl, ⟨num, pri, hit, val, msk, ask, hR, rfl⟩⟩

set_option maxHeartbeats 4000000 in
set_option maxRecDepth 100000 in
theorem tM_insert (l : Launch) (D : va_G) (q : Nat → Nat) (cs : Nat → ClassId) {K w N : Nat} {B : List et_E} {kd num pri hit : Nat → Int32} {val msk dv dm ask : Nat → Int64} {ms : Int32} (hK3 : K ≤ 3) (hR : et_RR B num pri hit val msk) (pp : Int32) : eb_MI l D vwCl (MTy cs) yX1_insert wsM_insert { frames := 2, cells := 0, slots := 0, locals := 80 } [.ref (q 0), .int pp] (MW q cs (nI K) (nI w) kd num pri hit val msk dv dm ask (nI B.length) (nI N) ms) (fun r w1 => et_QMi (et_SM q cs K w kd) K w kd dv dm N ms B pp r w1) := by
  refine eb_openI (cc := cX1_insert) (maxL := 3) (ret := (some .int)) (by decide +kernel) rfl (Nat.le_of_ble_eq_true rfl) ?_
  intro p e s m below meth c A ls H locs hx hb hr hts hown hlk hml hP hK hD hA hS hl
  have hU : ∀ w ∈ wsX10, w ∈ wsM_insert := fun w h => List.mem_cons_of_mem _ (MALL_u w h)
  have hf_keys := hts (.fieldLink RX1 38 "EntryTableModel" "keys" "I") (by decide +kernel)
  have hf_count := hts (.fieldLink RX1 59 "EntryTableModel" "count" "I") (by decide +kernel)
  have hf_number := hts (.fieldLink RX1 13 "EntryTableModel" "number" "[I") (by decide +kernel)
  have hf_numbers := hts (.fieldLink RX1 66 "EntryTableModel" "numbers" "I") (by decide +kernel)
  have hf_priority := hts (.fieldLink RX1 16 "EntryTableModel" "priority" "[I") (by decide +kernel)
  have hf_hits := hts (.fieldLink RX1 19 "EntryTableModel" "hits" "[I") (by decide +kernel)
  have hf_value := hts (.fieldLink RX1 22 "EntryTableModel" "value" "[J") (by decide +kernel)
  have hf_madeValue := hts (.fieldLink RX1 29 "EntryTableModel" "madeValue" "[J") (by decide +kernel)
  have hf_mask := hts (.fieldLink RX1 26 "EntryTableModel" "mask" "[J") (by decide +kernel)
  have hf_madeMask := hts (.fieldLink RX1 32 "EntryTableModel" "madeMask" "[J") (by decide +kernel)
  have hC := hR.1
  have hl : lv_has ls 3 [(0, .ref (q 0)), (1, .int pp)] := hl
  refine lv_iconst (v := 0) hx hb dX1_insert_0 (by decide) ?_
  refine lv_istore_n hx hb dX1_insert_1 rfl hl (by decide) rfl (fun ls hl => ?_)
  have hl : lv_has ls 3 [(2, .int 0), (0, .ref (q 0)), (1, .int pp)] := hl
  refine eb_for (fun (i : Nat) (ls : Array Slot) (H : Heap) (locs : List Loc) => lv_has ls 3 [(0, .ref (q 0)), (1, .int pp), (2, .int (nI i))] ∧ va_P D vwCl (MW q cs (nI K) (nI w) kd num pri hit val msk dv dm ask (nI B.length) (nI N) ms) H ∧ va_D A (MW q cs (nI K) (nI w) kd num pri hit val msk dv dm ask (nI B.length) (nI N) ms) ∧ va_S A s.heap H locs ∧ (∀ j, j < i → et_rs (nI w) (kd j) (dv j) (dm j))) 2 (K) ?_ (K) (0) ls H locs (by omega) ⟨lv_sub hl [1, 2, 0] rfl, hP, hD, hS, fun j hj => absurd hj (Nat.not_lt_zero j)⟩
  intro i ls H locs hi hI hrec2
  obtain ⟨hl, hP, hD, hS, hi2⟩ := hI
  refine lv_iload_n hx hb dX1_insert_2 rfl (lv_at hl 2 rfl) ?_
  refine lv_aload_n hx hb dX1_insert_3 rfl (lv_at hl 0 rfl) ?_
  refine va_get (D := D) (ci := 1) (C := RX1) (T := TX1) (N := 14) hx hb hts hU hown hK hP 0 rfl rfl 0 (by decide) hf_keys (fun _ h9 => h9) rfl dX1_insert_4 ?_
  refine lv_icmp_ge (tgt := 26) hx hb dX1_insert_7 (by decide) (fun c7 => ?_) (fun c7 => ?_)
  · have c7 : nI K ≤ nI i := c7
    rw [nI_leI (by omega) (by omega)] at c7
    refine lv_iconst (v := 0) hx hb dX1_insert_26 (by decide) ?_
    refine lv_istore_n hx hb dX1_insert_27 rfl hl (by decide) rfl (fun ls hl => ?_)
    have hl : lv_has ls 3 [(2, .int 0), (0, .ref (q 0)), (1, .int pp)] := hl
    refine eb_for (fun (t : Nat) (ls : Array Slot) (H : Heap) (locs : List Loc) => lv_has ls 3 [(0, .ref (q 0)), (1, .int pp), (2, .int (nI t))] ∧ va_P D vwCl (MW q cs (nI K) (nI w) kd num pri hit val msk dv dm ask (nI B.length) (nI N) ms) H ∧ va_D A (MW q cs (nI K) (nI w) kd num pri hit val msk dv dm ask (nI B.length) (nI N) ms) ∧ va_S A s.heap H locs ∧ (∀ j, j < t → ¬ (pri j = pp ∧ ∀ k, k < K → val (3 * j + k) = dv k ∧ (kd k = 0 ∨ msk (3 * j + k) = dm k)))) 28 (B.length) ?_ (B.length) (0) ls H locs (by omega) ⟨lv_sub hl [1, 2, 0] rfl, hP, hD, hS, fun j hj => absurd hj (Nat.not_lt_zero j)⟩
    intro t ls H locs ht hI hrec28
    obtain ⟨hl, hP, hD, hS, hi28⟩ := hI
    refine lv_iload_n hx hb dX1_insert_28 rfl (lv_at hl 2 rfl) ?_
    refine lv_aload_n hx hb dX1_insert_29 rfl (lv_at hl 0 rfl) ?_
    refine va_get (D := D) (ci := 1) (C := RX1) (T := TX1) (N := 14) hx hb hts hU hown hK hP 0 rfl rfl 11 (by decide) hf_count (fun _ h9 => h9) rfl dX1_insert_30 ?_
    refine lv_icmp_ge (tgt := 54) hx hb dX1_insert_33 (by decide) (fun c33 => ?_) (fun c33 => ?_)
    · have c33 : nI B.length ≤ nI t := c33
      rw [nI_leI (by omega) (by omega)] at c33
      refine lv_aload_n hx hb dX1_insert_54 rfl (lv_at hl 0 rfl) ?_
      refine va_get (D := D) (ci := 1) (C := RX1) (T := TX1) (N := 14) hx hb hts hU hown hK hP 0 rfl rfl 11 (by decide) hf_count (fun _ h9 => h9) rfl dX1_insert_55 ?_
      refine lv_bipush (v := 24) hx hb dX1_insert_58 (by decide) ?_
      refine lv_icmp_ne (tgt := 66) hx hb dX1_insert_60 (by decide) (fun c60 => ?_) (fun c60 => ?_)
      · have c60 : ¬ nI B.length = nI 24 := c60
        rw [nI_eq (by omega) (by omega)] at c60
        refine lv_iconst (v := 0) hx hb dX1_insert_66 (by decide) ?_
        refine lv_istore_n hx hb dX1_insert_67 rfl hl (by decide) rfl (fun ls hl => ?_)
        have hl : lv_has ls 3 [(2, .int 0), (0, .ref (q 0)), (1, .int pp)] := hl
        refine eb_for (fun (k : Nat) (ls : Array Slot) (H : Heap) (locs : List Loc) => ∃ val1 : Nat → Int64, ∃ msk1 : Nat → Int64, ∃ dv1 : Nat → Int64, ∃ dm1 : Nat → Int64, lv_has ls 3 [(0, .ref (q 0)), (1, .int pp), (2, .int (nI k))] ∧ va_P D vwCl (MW q cs (nI K) (nI w) kd num pri hit val1 msk1 dv1 dm1 ask (nI B.length) (nI N) ms) H ∧ va_D A (MW q cs (nI K) (nI w) kd num pri hit val1 msk1 dv1 dm1 ask (nI B.length) (nI N) ms) ∧ va_S A s.heap H locs ∧ (et_fl val val1 dv (3 * B.length) k ∧ et_fl msk msk1 dm (3 * B.length) k ∧ dv1 = et_zz dv k ∧ dm1 = et_zz dm k)) 68 (3) ?_ (3) (0) ls H locs (by omega) ⟨val, msk, dv, dm, lv_sub hl [1, 2, 0] rfl, hP, hD, hS, ⟨et_fl_0, et_fl_0, et_zz_0.symm, et_zz_0.symm⟩⟩
        intro k ls H locs hk hI hrec68
        obtain ⟨val1, msk1, dv1, dm1, hl, hP, hD, hS, hi68⟩ := hI
        refine lv_iload_n hx hb dX1_insert_68 rfl (lv_at hl 2 rfl) ?_
        refine lv_iconst (v := 3) hx hb dX1_insert_69 (by decide) ?_
        refine lv_icmp_ge (tgt := 131) hx hb dX1_insert_70 (by decide) (fun c70 => ?_) (fun c70 => ?_)
        · have c70 : nI 3 ≤ nI k := c70
          rw [nI_leI (by omega) (by omega)] at c70
          refine lv_aload_n hx hb dX1_insert_131 rfl (lv_at hl 0 rfl) ?_
          refine va_get (D := D) (ci := 1) (C := RX1) (T := TX1) (N := 14) hx hb hts hU hown hK hP 0 rfl rfl 3 (by decide) hf_number (fun _ h9 => h9) rfl dX1_insert_132 ?_
          refine lv_aload_n hx hb dX1_insert_135 rfl (lv_at hl 0 rfl) ?_
          refine va_get (D := D) (ci := 1) (C := RX1) (T := TX1) (N := 14) hx hb hts hU hown hK hP 0 rfl rfl 11 (by decide) hf_count (fun _ h9 => h9) rfl dX1_insert_136 ?_
          refine lv_aload_n hx hb dX1_insert_139 rfl (lv_at hl 0 rfl) ?_
          refine va_get (D := D) (ci := 1) (C := RX1) (T := TX1) (N := 14) hx hb hts hU hown hK hP 0 rfl rfl 12 (by decide) hf_numbers (fun _ h9 => h9) rfl dX1_insert_140 ?_
          refine eb_iast hx hb hK hP hD hS 2 1 rfl rfl (B.length) (by omega) (by decide) dX1_insert_143 (fun H locs hP hD hS => ?_)
          have hP : va_P D vwCl (MW q cs (nI K) (nI w) kd (upd num B.length (nI N)) pri hit val1 msk1 dv1 dm1 ask (nI B.length) (nI N) ms) H := hP
          have hD : va_D A (MW q cs (nI K) (nI w) kd (upd num B.length (nI N)) pri hit val1 msk1 dv1 dm1 ask (nI B.length) (nI N) ms) := hD
          refine lv_aload_n hx hb dX1_insert_144 rfl (lv_at hl 0 rfl) ?_
          refine va_get (D := D) (ci := 1) (C := RX1) (T := TX1) (N := 14) hx hb hts hU hown hK hP 0 rfl rfl 4 (by decide) hf_priority (fun _ h9 => h9) rfl dX1_insert_145 ?_
          refine lv_aload_n hx hb dX1_insert_148 rfl (lv_at hl 0 rfl) ?_
          refine va_get (D := D) (ci := 1) (C := RX1) (T := TX1) (N := 14) hx hb hts hU hown hK hP 0 rfl rfl 11 (by decide) hf_count (fun _ h9 => h9) rfl dX1_insert_149 ?_
          refine lv_iload_n hx hb dX1_insert_152 rfl (lv_at hl 1 rfl) ?_
          refine eb_iast hx hb hK hP hD hS 3 2 rfl rfl (B.length) (by omega) (by decide) dX1_insert_153 (fun H locs hP hD hS => ?_)
          have hP : va_P D vwCl (MW q cs (nI K) (nI w) kd (upd num B.length (nI N)) (upd pri B.length pp) hit val1 msk1 dv1 dm1 ask (nI B.length) (nI N) ms) H := hP
          have hD : va_D A (MW q cs (nI K) (nI w) kd (upd num B.length (nI N)) (upd pri B.length pp) hit val1 msk1 dv1 dm1 ask (nI B.length) (nI N) ms) := hD
          refine lv_aload_n hx hb dX1_insert_154 rfl (lv_at hl 0 rfl) ?_
          refine va_get (D := D) (ci := 1) (C := RX1) (T := TX1) (N := 14) hx hb hts hU hown hK hP 0 rfl rfl 5 (by decide) hf_hits (fun _ h9 => h9) rfl dX1_insert_155 ?_
          refine lv_aload_n hx hb dX1_insert_158 rfl (lv_at hl 0 rfl) ?_
          refine va_get (D := D) (ci := 1) (C := RX1) (T := TX1) (N := 14) hx hb hts hU hown hK hP 0 rfl rfl 11 (by decide) hf_count (fun _ h9 => h9) rfl dX1_insert_159 ?_
          refine lv_iconst (v := 0) hx hb dX1_insert_162 (by decide) ?_
          refine eb_iast hx hb hK hP hD hS 4 3 rfl rfl (B.length) (by omega) (by decide) dX1_insert_163 (fun H locs hP hD hS => ?_)
          have hP : va_P D vwCl (MW q cs (nI K) (nI w) kd (upd num B.length (nI N)) (upd pri B.length pp) (upd hit B.length 0) val1 msk1 dv1 dm1 ask (nI B.length) (nI N) ms) H := hP
          have hD : va_D A (MW q cs (nI K) (nI w) kd (upd num B.length (nI N)) (upd pri B.length pp) (upd hit B.length 0) val1 msk1 dv1 dm1 ask (nI B.length) (nI N) ms) := hD
          refine lv_aload_n hx hb dX1_insert_164 rfl (lv_at hl 0 rfl) ?_
          refine lv_dup hx hb dX1_insert_165 rfl ?_
          refine va_get (D := D) (ci := 1) (C := RX1) (T := TX1) (N := 14) hx hb hts hU hown hK hP 0 rfl rfl 11 (by decide) hf_count (fun _ h9 => h9) rfl dX1_insert_166 ?_
          refine lv_iconst (v := 1) hx hb dX1_insert_169 (by decide) ?_
          refine lv_iadd hx hb dX1_insert_170 ?_
          refine eb_ti (nI (B.length + 1)) (nI_add B.length 1) ?_
          refine va_put (D := D) (ci := 1) (ty := .int) (C := RX1) (T := TX1) (N := 14) hx hb hts hU tyX1 tyX1_ok nmX1 hown hK hP hD hS 0 rfl rfl 11 (by decide) hf_count (fun _ h9 => h9) rfl (by decide +kernel) rfl rfl (Nat.le_of_ble_eq_true rfl) dX1_insert_171 (fun H locs hP hD hS => ?_)
          have hP : va_P D vwCl (MW q cs (nI K) (nI w) kd (upd num B.length (nI N)) (upd pri B.length pp) (upd hit B.length 0) val1 msk1 dv1 dm1 ask (nI (B.length + 1)) (nI N) ms) H := hP
          have hD : va_D A (MW q cs (nI K) (nI w) kd (upd num B.length (nI N)) (upd pri B.length pp) (upd hit B.length 0) val1 msk1 dv1 dm1 ask (nI (B.length + 1)) (nI N) ms) := hD
          refine lv_aload_n hx hb dX1_insert_174 rfl (lv_at hl 0 rfl) ?_
          refine lv_dup hx hb dX1_insert_175 rfl ?_
          refine va_get (D := D) (ci := 1) (C := RX1) (T := TX1) (N := 14) hx hb hts hU hown hK hP 0 rfl rfl 12 (by decide) hf_numbers (fun _ h9 => h9) rfl dX1_insert_176 ?_
          refine lv_iconst (v := 1) hx hb dX1_insert_179 (by decide) ?_
          refine lv_iadd hx hb dX1_insert_180 ?_
          refine eb_ti (nI (N + 1)) (nI_add N 1) ?_
          refine va_put (D := D) (ci := 1) (ty := .int) (C := RX1) (T := TX1) (N := 14) hx hb hts hU tyX1 tyX1_ok nmX1 hown hK hP hD hS 0 rfl rfl 12 (by decide) hf_numbers (fun _ h9 => h9) rfl (by decide +kernel) rfl rfl (Nat.le_of_ble_eq_true rfl) dX1_insert_181 (fun H locs hP hD hS => ?_)
          have hP : va_P D vwCl (MW q cs (nI K) (nI w) kd (upd num B.length (nI N)) (upd pri B.length pp) (upd hit B.length 0) val1 msk1 dv1 dm1 ask (nI (B.length + 1)) (nI (N + 1)) ms) H := hP
          have hD : va_D A (MW q cs (nI K) (nI w) kd (upd num B.length (nI N)) (upd pri B.length pp) (upd hit B.length 0) val1 msk1 dv1 dm1 ask (nI (B.length + 1)) (nI (N + 1)) ms) := hD
          refine lv_aload_n hx hb dX1_insert_184 rfl (lv_at hl 0 rfl) ?_
          refine va_get (D := D) (ci := 1) (C := RX1) (T := TX1) (N := 14) hx hb hts hU hown hK hP 0 rfl rfl 12 (by decide) hf_numbers (fun _ h9 => h9) rfl dX1_insert_185 ?_
          refine lv_iconst (v := 1) hx hb dX1_insert_188 (by decide) ?_
          refine lv_isub hx hb dX1_insert_189 ?_
          refine eb_ti (nI ((N + 1) - 1)) (pk_sub (a := (N + 1)) (b := 1) (by omega)) ?_
          have hk3 : k = 3 := by omega
          subst hk3
          obtain ⟨g1, g2, rfl, rfl⟩ := hi68
          refine eb_iret hx hb hr hlk hK hP hD hS dX1_insert_190 ?_
          exact Or.inr (Or.inr (Or.inr ⟨(fun k hk => hi2 k (by omega)), (fun x hx hh => by
              obtain ⟨j, hj⟩ := List.getElem?_of_mem hx
              exact hi28 j (by have := (List.getElem?_eq_some_iff.mp hj).1; omega) ((et_like_iff hK3 hR hj).mpr hh)), by omega, rfl, _, _, _, val1, msk1, ask, et_RR_ins hR (by omega) (fun i hi => ⟨pk_un (by omega), pk_un (by omega), pk_un (by omega)⟩) (fun i hi => ⟨g1.1 i (by omega), g2.1 i (by omega)⟩) ⟨pk_us, pk_us, pk_us⟩ (fun k hk => ⟨g1.2 k hk, g2.2 k hk⟩), by rw [List.length_append]; rfl⟩))
        · have c70 : ¬ nI 3 ≤ nI k := c70
          rw [nI_leI (by omega) (by omega)] at c70
          refine lv_aload_n hx hb dX1_insert_73 rfl (lv_at hl 0 rfl) ?_
          refine va_get (D := D) (ci := 1) (C := RX1) (T := TX1) (N := 14) hx hb hts hU hown hK hP 0 rfl rfl 6 (by decide) hf_value (fun _ h9 => h9) rfl dX1_insert_74 ?_
          refine lv_iconst (v := 3) hx hb dX1_insert_77 (by decide) ?_
          refine lv_aload_n hx hb dX1_insert_78 rfl (lv_at hl 0 rfl) ?_
          refine va_get (D := D) (ci := 1) (C := RX1) (T := TX1) (N := 14) hx hb hts hU hown hK hP 0 rfl rfl 11 (by decide) hf_count (fun _ h9 => h9) rfl dX1_insert_79 ?_
          refine lv_imul hx hb dX1_insert_82 ?_
          refine eb_ti (nI (3 * B.length)) (pk_mul 3 B.length) ?_
          refine lv_iload_n hx hb dX1_insert_83 rfl (lv_at hl 2 rfl) ?_
          refine lv_iadd hx hb dX1_insert_84 ?_
          refine eb_ti (nI ((3 * B.length) + k)) (nI_add (3 * B.length) k) ?_
          refine lv_aload_n hx hb dX1_insert_85 rfl (lv_at hl 0 rfl) ?_
          refine va_get (D := D) (ci := 1) (C := RX1) (T := TX1) (N := 14) hx hb hts hU hown hK hP 0 rfl rfl 8 (by decide) hf_madeValue (fun _ h9 => h9) rfl dX1_insert_86 ?_
          refine lv_iload_n hx hb dX1_insert_89 rfl (lv_at hl 2 rfl) ?_
          refine eb_lald hx hb hK hP 7 6 rfl rfl (k) (by omega) (by decide) dX1_insert_90 ?_
          refine eb_last hx hb hK hP hD hS 5 4 rfl rfl ((3 * B.length) + k) (by omega) (by decide) dX1_insert_91 (fun H locs hP hD hS => ?_)
          have hP : va_P D vwCl (MW q cs (nI K) (nI w) kd num pri hit (vp_updL val1 ((3 * B.length) + k) (dv1 k)) msk1 dv1 dm1 ask (nI B.length) (nI N) ms) H := hP
          have hD : va_D A (MW q cs (nI K) (nI w) kd num pri hit (vp_updL val1 ((3 * B.length) + k) (dv1 k)) msk1 dv1 dm1 ask (nI B.length) (nI N) ms) := hD
          refine lv_aload_n hx hb dX1_insert_92 rfl (lv_at hl 0 rfl) ?_
          refine va_get (D := D) (ci := 1) (C := RX1) (T := TX1) (N := 14) hx hb hts hU hown hK hP 0 rfl rfl 7 (by decide) hf_mask (fun _ h9 => h9) rfl dX1_insert_93 ?_
          refine lv_iconst (v := 3) hx hb dX1_insert_96 (by decide) ?_
          refine lv_aload_n hx hb dX1_insert_97 rfl (lv_at hl 0 rfl) ?_
          refine va_get (D := D) (ci := 1) (C := RX1) (T := TX1) (N := 14) hx hb hts hU hown hK hP 0 rfl rfl 11 (by decide) hf_count (fun _ h9 => h9) rfl dX1_insert_98 ?_
          refine lv_imul hx hb dX1_insert_101 ?_
          refine eb_ti (nI (3 * B.length)) (pk_mul 3 B.length) ?_
          refine lv_iload_n hx hb dX1_insert_102 rfl (lv_at hl 2 rfl) ?_
          refine lv_iadd hx hb dX1_insert_103 ?_
          refine eb_ti (nI ((3 * B.length) + k)) (nI_add (3 * B.length) k) ?_
          refine lv_aload_n hx hb dX1_insert_104 rfl (lv_at hl 0 rfl) ?_
          refine va_get (D := D) (ci := 1) (C := RX1) (T := TX1) (N := 14) hx hb hts hU hown hK hP 0 rfl rfl 9 (by decide) hf_madeMask (fun _ h9 => h9) rfl dX1_insert_105 ?_
          refine lv_iload_n hx hb dX1_insert_108 rfl (lv_at hl 2 rfl) ?_
          refine eb_lald hx hb hK hP 8 7 rfl rfl (k) (by omega) (by decide) dX1_insert_109 ?_
          refine eb_last hx hb hK hP hD hS 6 5 rfl rfl ((3 * B.length) + k) (by omega) (by decide) dX1_insert_110 (fun H locs hP hD hS => ?_)
          have hP : va_P D vwCl (MW q cs (nI K) (nI w) kd num pri hit (vp_updL val1 ((3 * B.length) + k) (dv1 k)) (vp_updL msk1 ((3 * B.length) + k) (dm1 k)) dv1 dm1 ask (nI B.length) (nI N) ms) H := hP
          have hD : va_D A (MW q cs (nI K) (nI w) kd num pri hit (vp_updL val1 ((3 * B.length) + k) (dv1 k)) (vp_updL msk1 ((3 * B.length) + k) (dm1 k)) dv1 dm1 ask (nI B.length) (nI N) ms) := hD
          refine lv_aload_n hx hb dX1_insert_111 rfl (lv_at hl 0 rfl) ?_
          refine va_get (D := D) (ci := 1) (C := RX1) (T := TX1) (N := 14) hx hb hts hU hown hK hP 0 rfl rfl 8 (by decide) hf_madeValue (fun _ h9 => h9) rfl dX1_insert_112 ?_
          refine lv_iload_n hx hb dX1_insert_115 rfl (lv_at hl 2 rfl) ?_
          refine lv_lconst (v := 0) hx hb dX1_insert_116 (by decide) ?_
          refine eb_last hx hb hK hP hD hS 7 6 rfl rfl (k) (by omega) (by decide) dX1_insert_117 (fun H locs hP hD hS => ?_)
          have hP : va_P D vwCl (MW q cs (nI K) (nI w) kd num pri hit (vp_updL val1 ((3 * B.length) + k) (dv1 k)) (vp_updL msk1 ((3 * B.length) + k) (dm1 k)) (vp_updL dv1 k 0) dm1 ask (nI B.length) (nI N) ms) H := hP
          have hD : va_D A (MW q cs (nI K) (nI w) kd num pri hit (vp_updL val1 ((3 * B.length) + k) (dv1 k)) (vp_updL msk1 ((3 * B.length) + k) (dm1 k)) (vp_updL dv1 k 0) dm1 ask (nI B.length) (nI N) ms) := hD
          refine lv_aload_n hx hb dX1_insert_118 rfl (lv_at hl 0 rfl) ?_
          refine va_get (D := D) (ci := 1) (C := RX1) (T := TX1) (N := 14) hx hb hts hU hown hK hP 0 rfl rfl 9 (by decide) hf_madeMask (fun _ h9 => h9) rfl dX1_insert_119 ?_
          refine lv_iload_n hx hb dX1_insert_122 rfl (lv_at hl 2 rfl) ?_
          refine lv_lconst (v := 0) hx hb dX1_insert_123 (by decide) ?_
          refine eb_last hx hb hK hP hD hS 8 7 rfl rfl (k) (by omega) (by decide) dX1_insert_124 (fun H locs hP hD hS => ?_)
          have hP : va_P D vwCl (MW q cs (nI K) (nI w) kd num pri hit (vp_updL val1 ((3 * B.length) + k) (dv1 k)) (vp_updL msk1 ((3 * B.length) + k) (dm1 k)) (vp_updL dv1 k 0) (vp_updL dm1 k 0) ask (nI B.length) (nI N) ms) H := hP
          have hD : va_D A (MW q cs (nI K) (nI w) kd num pri hit (vp_updL val1 ((3 * B.length) + k) (dv1 k)) (vp_updL msk1 ((3 * B.length) + k) (dm1 k)) (vp_updL dv1 k 0) (vp_updL dm1 k 0) ask (nI B.length) (nI N) ms) := hD
          refine lv_iinc (k := 2) (v := nI (k + 1)) hx hb dX1_insert_125 hl rfl (nI_add k 1) (by decide) rfl (fun ls hl => ?_)
          have hl : lv_has ls 3 [(2, .int (nI (k + 1))), (0, .ref (q 0)), (1, .int pp)] := hl
          refine lv_goto (tgt := 68) hx hb dX1_insert_128 (by decide) ?_
          exact hrec68 ls H locs (by omega) ⟨(vp_updL val1 ((3 * B.length) + k) (dv1 k)), (vp_updL msk1 ((3 * B.length) + k) (dm1 k)), (vp_updL dv1 k 0), (vp_updL dm1 k 0), lv_sub hl [1, 2, 0] rfl, hP, hD, hS, by rw [hi68.2.2.1, hi68.2.2.2]; exact ⟨et_fl_s hi68.1 et_zz_at, et_fl_s hi68.2.1 et_zz_at, et_zz_s, et_zz_s⟩⟩
      · have c60 : nI B.length = nI 24 := c60
        rw [nI_eq (by omega) (by omega)] at c60
        refine lv_bipush (v := (-3)) hx hb dX1_insert_63 (by decide) ?_
        refine eb_iret hx hb hr hlk hK hP hD hS dX1_insert_65 ?_
        exact Or.inr (Or.inr (Or.inl ⟨(fun k hk => hi2 k (by omega)), (fun x hx hh => by
            obtain ⟨j, hj⟩ := List.getElem?_of_mem hx
            exact hi28 j (by have := (List.getElem?_eq_some_iff.mp hj).1; omega) ((et_like_iff hK3 hR hj).mpr hh)), by omega, rfl, ⟨num, pri, hit, val, msk, ask, hR, rfl⟩⟩))
    · have c33 : ¬ nI B.length ≤ nI t := c33
      rw [nI_leI (by omega) (by omega)] at c33
      refine lv_aload_n hx hb dX1_insert_36 rfl (lv_at hl 0 rfl) ?_
      refine lv_iload_n hx hb dX1_insert_37 rfl (lv_at hl 2 rfl) ?_
      refine lv_iload_n hx hb dX1_insert_38 rfl (lv_at hl 1 rfl) ?_
      refine eb_calli (As := [.int (nI t), .int pp]) (rest := []) ⟨hx, hb, hml, hown, hts⟩ (tM_like l D q cs hK3 (t) (by omega) pp) (cwV 2 hts gM_like rfl rfl rfl (by decide +kernel) ⟨Nat.le_of_ble_eq_true rfl, Nat.le_of_ble_eq_true rfl⟩) hK hP hD hS hA rfl rfl rfl rfl hl.1 rfl (Nat.le_of_ble_eq_true rfl) dX1_insert_39 ⟨Nat.zero_le _, Nat.zero_le _⟩ (fun r1 w1 H locs hq hP hD hS => ?_)
      obtain ⟨rfl, hq1⟩ := hq
      refine lv_if_eq (tgt := 48) hx hb dX1_insert_42 (by decide) (fun c42 => ?_) (fun c42 => ?_)
      · have c42 := et_b0 hq1 c42
        refine lv_iinc (k := 2) (v := nI (t + 1)) hx hb dX1_insert_48 hl rfl (nI_add t 1) (by decide) rfl (fun ls hl => ?_)
        have hl : lv_has ls 3 [(2, .int (nI (t + 1))), (0, .ref (q 0)), (1, .int pp)] := hl
        refine lv_goto (tgt := 28) hx hb dX1_insert_51 (by decide) ?_
        exact hrec28 ls H locs (by omega) ⟨lv_sub hl [1, 2, 0] rfl, hP, hD, hS, lt_s hi28 c42⟩
      · have c42 := et_b1 hq1 c42
        refine lv_bipush (v := (-4)) hx hb dX1_insert_45 (by decide) ?_
        have ht1 : t < B.length := by omega
        have hx1 : B[t]? = some B[t] := List.getElem?_eq_getElem ht1
        refine eb_iret hx hb hr hlk hK hP hD hS dX1_insert_47 ?_
        exact Or.inr (Or.inl ⟨(fun k hk => hi2 k (by omega)), ⟨B[t], List.mem_of_getElem? hx1, (et_like_iff hK3 hR hx1).mp c42⟩, rfl, ⟨num, pri, hit, val, msk, ask, hR, rfl⟩⟩)
  · have c7 : ¬ nI K ≤ nI i := c7
    rw [nI_leI (by omega) (by omega)] at c7
    refine lv_aload_n hx hb dX1_insert_10 rfl (lv_at hl 0 rfl) ?_
    refine lv_iload_n hx hb dX1_insert_11 rfl (lv_at hl 2 rfl) ?_
    refine eb_calli (As := [.int (nI i)]) (rest := []) ⟨hx, hb, hml, hown, hts⟩ (tM_good l D q cs (i) (by omega)) (cwV 1 hts gM_good rfl rfl rfl (by decide +kernel) ⟨Nat.le_of_ble_eq_true rfl, Nat.le_of_ble_eq_true rfl⟩) hK hP hD hS hA rfl rfl rfl rfl hl.1 rfl (Nat.le_of_ble_eq_true rfl) dX1_insert_12 ⟨Nat.zero_le _, Nat.zero_le _⟩ (fun r1 w1 H locs hq hP hD hS => ?_)
    obtain ⟨rfl, hq1⟩ := hq
    refine lv_if_ne (tgt := 20) hx hb dX1_insert_15 (by decide) (fun c15 => ?_) (fun c15 => ?_)
    · have c15 := et_b1 hq1 c15
      refine lv_iinc (k := 2) (v := nI (i + 1)) hx hb dX1_insert_20 hl rfl (nI_add i 1) (by decide) rfl (fun ls hl => ?_)
      have hl : lv_has ls 3 [(2, .int (nI (i + 1))), (0, .ref (q 0)), (1, .int pp)] := hl
      refine lv_goto (tgt := 2) hx hb dX1_insert_23 (by decide) ?_
      exact hrec2 ls H locs (by omega) ⟨lv_sub hl [1, 2, 0] rfl, hP, hD, hS, lt_s hi2 c15⟩
    · have c15 := et_b0 hq1 c15
      refine lv_iconst (v := (-1)) hx hb dX1_insert_18 (by decide) ?_
      refine eb_iret hx hb hr hlk hK hP hD hS dX1_insert_19 ?_
      exact Or.inl ⟨fun hh => c15 (hh i (by omega)), rfl, ⟨num, pri, hit, val, msk, ask, hR, rfl⟩⟩

