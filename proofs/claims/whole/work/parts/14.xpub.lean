set_option maxHeartbeats 4000000 in
set_option maxRecDepth 100000 in
theorem tX_match (l : Launch) (D : va_G) (q : Nat → Nat) (cs : Nat → ClassId) {K w N : Nat} {L : List et_E} {kd : Nat → Int32} {dv dm : Nat → Int64} {ord : Nat → Int32} {ms : Int32} {nums pris pres fins : Nat → Int32} {vals msks : Nat → Int64} (hK3 : K ≤ 3) (o : Nat → Nat) (hC : et_CR K w kd L o ord nums pris pres fins vals msks) (k : Int32) (v0 m0 : Int64) : eb_MI l D vwCl (XTy cs) yX0_match wsX0_match { frames := 0, cells := 0, slots := 0, locals := 0 } [.ref (q 0), .int k, .long v0, .long m0] (XW q cs (nI K) (nI w) (et_ab w) kd dv dm ord (nI L.length) (nI N) ms nums pris pres fins vals msks) (fun r w1 => et_Qm (et_SX q cs K w kd) dv dm N ms L k v0 m0 r w1) := by
  refine eb_openI (cc := cX0_match) (maxL := 6) (ret := (some .int)) (by decide +kernel) rfl (Nat.le_of_ble_eq_true rfl) ?_
  intro p e s m below meth c A ls H locs hx hb hr hts hown hlk hml hP hK hD hA hS hl
  have hU : ∀ w ∈ wsX00, w ∈ wsX0_match := fun w h => List.mem_cons_of_mem _ (List.mem_append_right _ h)
  have hf_draftValues := hts (.fieldLink RX0 13 "EntryTable" "draftValues" "[J") (by decide +kernel)
  have hf_draftMasks := hts (.fieldLink RX0 17 "EntryTable" "draftMasks" "[J") (by decide +kernel)
  have ho := hC.1
  have hE := hC.2.2.1
  have hl : lv_has ls 6 [(0, .ref (q 0)), (1, .int k), (2, .long v0), (4, .long m0)] := hl
  refine lv_iload_n hx hb dX0_match_0 rfl (lv_at hl 1 rfl) ?_
  refine lv_if_lt (tgt := 9) hx hb dX0_match_1 (by decide) (fun c1 => ?_) (fun c1 => ?_)
  · refine lv_iconst (v := (-1)) hx hb dX0_match_9 (by decide) ?_
    refine eb_iret hx hb hr hlk hK hP hD hS dX0_match_10 ?_
    exact Or.inl ⟨Or.inl c1, rfl, ⟨o, ord, nums, pris, pres, fins, vals, msks, hC, rfl⟩⟩
  · refine lv_iload_n hx hb dX0_match_4 rfl (lv_at hl 1 rfl) ?_
    refine lv_iconst (v := 3) hx hb dX0_match_5 (by decide) ?_
    refine lv_icmp_lt (tgt := 11) hx hb dX0_match_6 (by decide) (fun c6 => ?_) (fun c6 => ?_)
    · obtain ⟨j, hj, rfl⟩ := et_ix (n := 3) (by decide) c1 c6
      have hl : lv_has ls 6 [(0, .ref (q 0)), (1, .int (nI j)), (2, .long v0), (4, .long m0)] := hl
      refine lv_aload_n hx hb dX0_match_11 rfl (lv_at hl 0 rfl) ?_
      refine va_get (D := D) (ci := 0) (C := RX0) (T := TX0) (N := 16) hx hb hts hU hown hK hP 0 rfl rfl 4 (by decide) hf_draftValues (fun _ h9 => h9) rfl dX0_match_12 ?_
      refine lv_iload_n hx hb dX0_match_15 rfl (lv_at hl 1 rfl) ?_
      refine lv_lload_n hx hb dX0_match_16 rfl (lv_at hl 2 rfl) ?_
      refine eb_last hx hb hK hP hD hS 2 1 rfl rfl (j) (by omega) (by decide) dX0_match_17 (fun H locs hP hD hS => ?_)
      have hP : va_P D vwCl (XW q cs (nI K) (nI w) (et_ab w) kd (vp_updL dv j v0) dm ord (nI L.length) (nI N) ms nums pris pres fins vals msks) H := hP
      have hD : va_D A (XW q cs (nI K) (nI w) (et_ab w) kd (vp_updL dv j v0) dm ord (nI L.length) (nI N) ms nums pris pres fins vals msks) := hD
      refine lv_aload_n hx hb dX0_match_18 rfl (lv_at hl 0 rfl) ?_
      refine va_get (D := D) (ci := 0) (C := RX0) (T := TX0) (N := 16) hx hb hts hU hown hK hP 0 rfl rfl 5 (by decide) hf_draftMasks (fun _ h9 => h9) rfl dX0_match_19 ?_
      refine lv_iload_n hx hb dX0_match_22 rfl (lv_at hl 1 rfl) ?_
      refine lv_lload hx hb dX0_match_23 (lv_at hl 3 rfl) ?_
      refine eb_last hx hb hK hP hD hS 3 2 rfl rfl (j) (by omega) (by decide) dX0_match_25 (fun H locs hP hD hS => ?_)
      have hP : va_P D vwCl (XW q cs (nI K) (nI w) (et_ab w) kd (vp_updL dv j v0) (vp_updL dm j m0) ord (nI L.length) (nI N) ms nums pris pres fins vals msks) H := hP
      have hD : va_D A (XW q cs (nI K) (nI w) (et_ab w) kd (vp_updL dv j v0) (vp_updL dm j m0) ord (nI L.length) (nI N) ms nums pris pres fins vals msks) := hD
      refine lv_iload_n hx hb dX0_match_26 rfl (lv_at hl 1 rfl) ?_
      refine eb_iret hx hb hr hlk hK hP hD hS dX0_match_27 ?_
      exact Or.inr ⟨j, hj, rfl, rfl, ⟨o, ord, nums, pris, pres, fins, vals, msks, hC, rfl⟩⟩
    · refine lv_iconst (v := (-1)) hx hb dX0_match_9 (by decide) ?_
      refine eb_iret hx hb hr hlk hK hP hD hS dX0_match_10 ?_
      exact Or.inl ⟨Or.inr (Int32.not_lt.mp c6), rfl, ⟨o, ord, nums, pris, pres, fins, vals, msks, hC, rfl⟩⟩

set_option maxHeartbeats 4000000 in
set_option maxRecDepth 100000 in
theorem tX_nth (l : Launch) (D : va_G) (q : Nat → Nat) (cs : Nat → ClassId) {K w N : Nat} {L : List et_E} {kd : Nat → Int32} {dv dm : Nat → Int64} {ord : Nat → Int32} {ms : Int32} {nums pris pres fins : Nat → Int32} {vals msks : Nat → Int64} (hK3 : K ≤ 3) (o : Nat → Nat) (hC : et_CR K w kd L o ord nums pris pres fins vals msks) (k : Int32) : eb_MI l D vwCl (XTy cs) yX0_nth wsX0_nth { frames := 0, cells := 0, slots := 0, locals := 0 } [.ref (q 0), .int k] (XW q cs (nI K) (nI w) (et_ab w) kd dv dm ord (nI L.length) (nI N) ms nums pris pres fins vals msks) (fun r w1 => et_QXn (et_SX q cs K w kd) dv dm N ms L k r w1) := by
  refine eb_openI (cc := cX0_nth) (maxL := 2) (ret := (some .int)) (by decide +kernel) rfl (Nat.le_of_ble_eq_true rfl) ?_
  intro p e s m below meth c A ls H locs hx hb hr hts hown hlk hml hP hK hD hA hS hl
  have hU : ∀ w ∈ wsX00, w ∈ wsX0_nth := fun w h => List.mem_cons_of_mem _ (List.mem_append_right _ h)
  have hf_entries := hts (.fieldLink RX0 23 "EntryTable" "entries" "I") (by decide +kernel)
  have hf_numbers := hts (.fieldLink RX0 33 "EntryTable" "numbers" "[I") (by decide +kernel)
  have hf_order := hts (.fieldLink RX0 20 "EntryTable" "order" "[I") (by decide +kernel)
  have ho := hC.1
  have hE := hC.2.2.1
  have hl : lv_has ls 2 [(0, .ref (q 0)), (1, .int k)] := hl
  refine lv_iload_n hx hb dX0_nth_0 rfl (lv_at hl 1 rfl) ?_
  refine lv_if_lt (tgt := 12) hx hb dX0_nth_1 (by decide) (fun c1 => ?_) (fun c1 => ?_)
  · refine lv_bipush (v := (-2)) hx hb dX0_nth_12 (by decide) ?_
    refine eb_iret hx hb hr hlk hK hP hD hS dX0_nth_14 ?_
    exact ⟨⟨o, ord, nums, pris, pres, fins, vals, msks, hC, rfl⟩, Or.inl ⟨fun j hj hh => nI_pos (n := j) (by omega) (by rw [← hh]; exact c1), rfl⟩⟩
  · refine lv_iload_n hx hb dX0_nth_4 rfl (lv_at hl 1 rfl) ?_
    refine lv_aload_n hx hb dX0_nth_5 rfl (lv_at hl 0 rfl) ?_
    refine va_get (D := D) (ci := 0) (C := RX0) (T := TX0) (N := 16) hx hb hts hU hown hK hP 0 rfl rfl 7 (by decide) hf_entries (fun _ h9 => h9) rfl dX0_nth_6 ?_
    refine lv_icmp_lt (tgt := 15) hx hb dX0_nth_9 (by decide) (fun c9 => ?_) (fun c9 => ?_)
    · obtain ⟨j, hj, rfl⟩ := et_ix (n := L.length) (by omega) c1 c9
      have hl : lv_has ls 2 [(0, .ref (q 0)), (1, .int (nI j))] := hl
      refine lv_aload_n hx hb dX0_nth_15 rfl (lv_at hl 0 rfl) ?_
      refine va_get (D := D) (ci := 0) (C := RX0) (T := TX0) (N := 16) hx hb hts hU hown hK hP 0 rfl rfl 10 (by decide) hf_numbers (fun _ h9 => h9) rfl dX0_nth_16 ?_
      refine lv_aload_n hx hb dX0_nth_19 rfl (lv_at hl 0 rfl) ?_
      refine va_get (D := D) (ci := 0) (C := RX0) (T := TX0) (N := 16) hx hb hts hU hown hK hP 0 rfl rfl 6 (by decide) hf_order (fun _ h9 => h9) rfl dX0_nth_20 ?_
      refine lv_iload_n hx hb dX0_nth_23 rfl (lv_at hl 1 rfl) ?_
      refine eb_iald hx hb hK hP 4 3 rfl rfl (j) (by omega) (by decide) dX0_nth_24 ?_
      have hs1 := (ho (j) (by omega)).2
      refine eb_ti (nI (o j)) ((ho (j) (by omega)).1) ?_
      refine eb_iald hx hb hK hP 5 4 rfl rfl (o j) (by omega) (by decide) dX0_nth_25 ?_
      obtain ⟨x, hx1⟩ : ∃ x, L[j]? = some x := ⟨L[j], List.getElem?_eq_getElem hj⟩
      refine eb_iret hx hb hr hlk hK hP hD hS dX0_nth_26 ?_
      exact ⟨⟨o, ord, nums, pris, pres, fins, vals, msks, hC, rfl⟩, Or.inr ⟨j, x, hx1, rfl, (hC.2.2.2.1 j x hx1).1⟩⟩
    · refine lv_bipush (v := (-2)) hx hb dX0_nth_12 (by decide) ?_
      refine eb_iret hx hb hr hlk hK hP hD hS dX0_nth_14 ?_
      exact ⟨⟨o, ord, nums, pris, pres, fins, vals, msks, hC, rfl⟩, Or.inl ⟨fun j hj hh => c9 (by rw [hh]; exact nI_lt hj (by omega)), rfl⟩⟩

set_option maxHeartbeats 4000000 in
set_option maxRecDepth 100000 in
theorem tX_hits (l : Launch) (D : va_G) (q : Nat → Nat) (cs : Nat → ClassId) {K w N : Nat} {L : List et_E} {kd : Nat → Int32} {dv dm : Nat → Int64} {ord : Nat → Int32} {ms : Int32} {nums pris pres fins : Nat → Int32} {vals msks : Nat → Int64} (hK3 : K ≤ 3) (o : Nat → Nat) (hC : et_CR K w kd L o ord nums pris pres fins vals msks) (en : Int32) : eb_MI l D vwCl (XTy cs) yX0_hits wsX0_hits { frames := 1, cells := 0, slots := 0, locals := 40 } [.ref (q 0), .int en] (XW q cs (nI K) (nI w) (et_ab w) kd dv dm ord (nI L.length) (nI N) ms nums pris pres fins vals msks) (fun r w1 => et_Qh (et_SX q cs K w kd) dv dm N ms L en r w1) := by
  refine eb_openI (cc := cX0_hits) (maxL := 3) (ret := (some .int)) (by decide +kernel) rfl (Nat.le_of_ble_eq_true rfl) ?_
  intro p e s m below meth c A ls H locs hx hb hr hts hown hlk hml hP hK hD hA hS hl
  have hU : ∀ w ∈ wsX00, w ∈ wsX0_hits := fun w h => List.mem_cons_of_mem _ (List.mem_append_right _ h)
  have hf_finds := hts (.fieldLink RX0 42 "EntryTable" "finds" "[I") (by decide +kernel)
  have hf_order := hts (.fieldLink RX0 20 "EntryTable" "order" "[I") (by decide +kernel)
  have ho := hC.1
  have hE := hC.2.2.1
  have hl : lv_has ls 3 [(0, .ref (q 0)), (1, .int en)] := hl
  refine lv_aload_n hx hb dX0_hits_0 rfl (lv_at hl 0 rfl) ?_
  refine lv_iload_n hx hb dX0_hits_1 rfl (lv_at hl 1 rfl) ?_
  refine eb_calli (As := [.int en]) (rest := []) ⟨hx, hb, hml, hown, hts⟩ (tX_rankOf l D q cs hE o ho en) (cwV 1 hts gX0_hits_X0_rankOf rfl rfl rfl (by decide +kernel) ⟨Nat.le_of_ble_eq_true rfl, Nat.le_of_ble_eq_true rfl⟩) hK hP hD hS hA rfl rfl rfl rfl hl.1 rfl (Nat.le_of_ble_eq_true rfl) dX0_hits_2 ⟨Nat.zero_le _, Nat.zero_le _⟩ (fun r1 w1 H locs hq hP hD hS => ?_)
  obtain ⟨rfl, ⟨j, hj1, hj2, hj3, rfl⟩ | ⟨hj, rfl⟩⟩ := hq
  · refine lv_istore_n hx hb dX0_hits_5 rfl hl (by decide) rfl (fun ls hl => ?_)
    have hl : lv_has ls 3 [(2, .int (nI j)), (0, .ref (q 0)), (1, .int en)] := hl
    refine lv_iload_n hx hb dX0_hits_6 rfl (lv_at hl 0 rfl) ?_
    refine lv_iconst (v := (-1)) hx hb dX0_hits_7 (by decide) ?_
    refine lv_icmp_ne (tgt := 14) hx hb dX0_hits_8 (by decide) (fun _ => ?_) (fun c8 => absurd c8 (et_nm1 (by omega)))
    refine lv_aload_n hx hb dX0_hits_14 rfl (lv_at hl 1 rfl) ?_
    refine va_get (D := D) (ci := 0) (C := RX0) (T := TX0) (N := 16) hx hb hts hU hown hK hP 0 rfl rfl 13 (by decide) hf_finds (fun _ h9 => h9) rfl dX0_hits_15 ?_
    refine lv_aload_n hx hb dX0_hits_18 rfl (lv_at hl 1 rfl) ?_
    refine va_get (D := D) (ci := 0) (C := RX0) (T := TX0) (N := 16) hx hb hts hU hown hK hP 0 rfl rfl 6 (by decide) hf_order (fun _ h9 => h9) rfl dX0_hits_19 ?_
    refine lv_iload_n hx hb dX0_hits_22 rfl (lv_at hl 0 rfl) ?_
    refine eb_iald hx hb hK hP 4 3 rfl rfl (j) (by omega) (by decide) dX0_hits_23 ?_
    have hs2 := (ho (j) (by omega)).2
    refine eb_ti (nI (o j)) ((ho (j) (by omega)).1) ?_
    refine eb_iald hx hb hK hP 8 7 rfl rfl (o j) (by omega) (by decide) dX0_hits_24 ?_
    have hx1 : L[j]? = some L[j] := List.getElem?_eq_getElem hj1
    have hx2 := hC.2.2.2.1 j L[j] hx1
    refine eb_iret hx hb hr hlk hK hP hD hS dX0_hits_25 ?_
    exact ⟨⟨o, ord, nums, pris, pres, fins, vals, msks, hC, rfl⟩, Or.inr ⟨L[j], List.mem_of_getElem? hx1, hx2.1.symm.trans hj2, hx2.2.2.2.1⟩⟩
  · refine lv_istore_n hx hb dX0_hits_5 rfl hl (by decide) rfl (fun ls hl => ?_)
    have hl : lv_has ls 3 [(2, .int (-1)), (0, .ref (q 0)), (1, .int en)] := hl
    refine lv_iload_n hx hb dX0_hits_6 rfl (lv_at hl 0 rfl) ?_
    refine lv_iconst (v := (-1)) hx hb dX0_hits_7 (by decide) ?_
    refine lv_icmp_ne (tgt := 14) hx hb dX0_hits_8 (by decide) (fun c8 => absurd c8 (fun hh => hh rfl)) (fun _ => ?_)
    refine lv_bipush (v := (-2)) hx hb dX0_hits_11 (by decide) ?_
    refine eb_iret hx hb hr hlk hK hP hD hS dX0_hits_13 ?_
    refine ⟨⟨o, ord, nums, pris, pres, fins, vals, msks, hC, rfl⟩, Or.inl ⟨fun x hx hh => by
      obtain ⟨i, hi⟩ := List.getElem?_of_mem hx
      exact hj i (List.getElem?_eq_some_iff.mp hi).1 ((hC.2.2.2.1 i x hi).1.trans hh), rfl⟩⟩

set_option maxHeartbeats 4000000 in
set_option maxRecDepth 100000 in
theorem tX_remove (l : Launch) (D : va_G) (q : Nat → Nat) (cs : Nat → ClassId) {K w N : Nat} {L : List et_E} {kd : Nat → Int32} {dv dm : Nat → Int64} {ord : Nat → Int32} {ms : Int32} {nums pris pres fins : Nat → Int32} {vals msks : Nat → Int64} (hK3 : K ≤ 3) (o : Nat → Nat) (hC : et_CR K w kd L o ord nums pris pres fins vals msks) (en : Int32) : eb_MI l D vwCl (XTy cs) yX0_remove wsX0_remove { frames := 2, cells := 0, slots := 0, locals := 80 } [.ref (q 0), .int en] (XW q cs (nI K) (nI w) (et_ab w) kd dv dm ord (nI L.length) (nI N) ms nums pris pres fins vals msks) (fun r w1 => et_Qr (et_SX q cs K w kd) dv dm N ms L en r w1) := by
  refine eb_openI (cc := cX0_remove) (maxL := 3) (ret := (some .int)) (by decide +kernel) rfl (Nat.le_of_ble_eq_true rfl) ?_
  intro p e s m below meth c A ls H locs hx hb hr hts hown hlk hml hP hK hD hA hS hl
  have hU : ∀ w ∈ wsX00, w ∈ wsX0_remove := fun w h => List.mem_cons_of_mem _ (List.mem_append_right _ h)
  have hf_entries := hts (.fieldLink RX0 23 "EntryTable" "entries" "I") (by decide +kernel)
  have ho := hC.1
  have hE := hC.2.2.1
  have hl : lv_has ls 3 [(0, .ref (q 0)), (1, .int en)] := hl
  refine lv_aload_n hx hb dX0_remove_0 rfl (lv_at hl 0 rfl) ?_
  refine lv_iload_n hx hb dX0_remove_1 rfl (lv_at hl 1 rfl) ?_
  refine eb_calli (As := [.int en]) (rest := []) ⟨hx, hb, hml, hown, hts⟩ (tX_rankOf l D q cs hE o ho en) (cwV 1 hts gX0_remove_X0_rankOf rfl rfl rfl (by decide +kernel) ⟨Nat.le_of_ble_eq_true rfl, Nat.le_of_ble_eq_true rfl⟩) hK hP hD hS hA rfl rfl rfl rfl hl.1 rfl (Nat.le_of_ble_eq_true rfl) dX0_remove_2 ⟨Nat.zero_le _, Nat.zero_le _⟩ (fun r1 w1 H locs hq hP hD hS => ?_)
  obtain ⟨rfl, ⟨j, hj1, hj2, hj3, rfl⟩ | ⟨hj, rfl⟩⟩ := hq
  · refine lv_istore_n hx hb dX0_remove_5 rfl hl (by decide) rfl (fun ls hl => ?_)
    have hl : lv_has ls 3 [(2, .int (nI j)), (0, .ref (q 0)), (1, .int en)] := hl
    refine lv_iload_n hx hb dX0_remove_6 rfl (lv_at hl 0 rfl) ?_
    refine lv_iconst (v := (-1)) hx hb dX0_remove_7 (by decide) ?_
    refine lv_icmp_ne (tgt := 14) hx hb dX0_remove_8 (by decide) (fun _ => ?_) (fun c8 => absurd c8 (et_nm1 (by omega)))
    refine lv_aload_n hx hb dX0_remove_14 rfl (lv_at hl 1 rfl) ?_
    refine lv_iload_n hx hb dX0_remove_15 rfl (lv_at hl 0 rfl) ?_
    refine eb_callv (As := [.int (nI j)]) (rest := []) ⟨hx, hb, hml, hown, hts⟩ (tX_freeSlot l D q cs hE j hj1) (cwV 1 hts gX0_remove_X0_freeSlot rfl rfl rfl (by decide +kernel) ⟨Nat.le_of_ble_eq_true rfl, Nat.le_of_ble_eq_true rfl⟩) hK hP hD hS hA rfl rfl rfl rfl hl.1 rfl (Nat.le_of_ble_eq_true rfl) dX0_remove_16 ⟨Nat.zero_le _, Nat.zero_le _⟩ (fun w1 H locs hq hP hD hS => ?_)
    obtain rfl := hq
    refine lv_aload_n hx hb dX0_remove_19 rfl (lv_at hl 1 rfl) ?_
    refine va_get (D := D) (ci := 0) (C := RX0) (T := TX0) (N := 16) hx hb hts hU hown hK hP 0 rfl rfl 7 (by decide) hf_entries (fun _ h9 => h9) rfl dX0_remove_20 ?_
    have hx1 : L[j]? = some L[j] := List.getElem?_eq_getElem hj1
    have hx2 := hC.2.2.2.1 j L[j] hx1
    refine eb_iret hx hb hr hlk hK hP hD hS dX0_remove_23 ?_
    exact Or.inr ⟨j, L[j], hx1, hx2.1.symm.trans hj2, rfl, _, _, nums, pris, pres, fins, vals, msks, et_CR_del hC rfl hj1, by rw [List.length_eraseIdx_of_lt hj1]⟩
  · refine lv_istore_n hx hb dX0_remove_5 rfl hl (by decide) rfl (fun ls hl => ?_)
    have hl : lv_has ls 3 [(2, .int (-1)), (0, .ref (q 0)), (1, .int en)] := hl
    refine lv_iload_n hx hb dX0_remove_6 rfl (lv_at hl 0 rfl) ?_
    refine lv_iconst (v := (-1)) hx hb dX0_remove_7 (by decide) ?_
    refine lv_icmp_ne (tgt := 14) hx hb dX0_remove_8 (by decide) (fun c8 => absurd c8 (fun hh => hh rfl)) (fun _ => ?_)
    refine lv_bipush (v := (-2)) hx hb dX0_remove_11 (by decide) ?_
    refine eb_iret hx hb hr hlk hK hP hD hS dX0_remove_13 ?_
    refine Or.inl ⟨fun x hx hh => by
      obtain ⟨i, hi⟩ := List.getElem?_of_mem hx
      exact hj i (List.getElem?_eq_some_iff.mp hi).1 ((hC.2.2.2.1 i x hi).1.trans hh), rfl, ⟨o, ord, nums, pris, pres, fins, vals, msks, hC, rfl⟩⟩

set_option maxHeartbeats 4000000 in
set_option maxRecDepth 100000 in
theorem tX_find (l : Launch) (D : va_G) (q : Nat → Nat) (cs : Nat → ClassId) {K w N : Nat} {L : List et_E} {kd : Nat → Int32} {dv dm : Nat → Int64} {ord : Nat → Int32} {ms : Int32} {nums pris pres fins : Nat → Int32} {vals msks : Nat → Int64} (hK3 : K ≤ 3) (o : Nat → Nat) (hC : et_CR K w kd L o ord nums pris pres fins vals msks) (a b c0 : Int64) : eb_MI l D vwCl (XTy cs) yX0_find wsX0_find { frames := 1, cells := 0, slots := 0, locals := 40 } [.ref (q 0), .long a, .long b, .long c0] (XW q cs (nI K) (nI w) (et_ab w) kd dv dm ord (nI L.length) (nI N) ms nums pris pres fins vals msks) (fun r w1 => et_QXf (et_SX q cs K w kd) K w kd dv dm N ms L (et_k3 a b c0) r w1) := by
  refine eb_openI (cc := cX0_find) (maxL := 9) (ret := (some .int)) (by decide +kernel) rfl (Nat.le_of_ble_eq_true rfl) ?_
  intro p e s m below meth c A ls H locs hx hb hr hts hown hlk hml hP hK hD hA hS hl
  have hU : ∀ w ∈ wsX00, w ∈ wsX0_find := fun w h => List.mem_cons_of_mem _ (List.mem_append_right _ h)
  have hf_entries := hts (.fieldLink RX0 23 "EntryTable" "entries" "I") (by decide +kernel)
  have hf_misses := hts (.fieldLink RX0 30 "EntryTable" "misses" "I") (by decide +kernel)
  have hf_order := hts (.fieldLink RX0 20 "EntryTable" "order" "[I") (by decide +kernel)
  have hf_finds := hts (.fieldLink RX0 42 "EntryTable" "finds" "[I") (by decide +kernel)
  have hf_numbers := hts (.fieldLink RX0 33 "EntryTable" "numbers" "[I") (by decide +kernel)
  have ho := hC.1
  have hE := hC.2.2.1
  have hl : lv_has ls 9 [(0, .ref (q 0)), (1, .long a), (3, .long b), (5, .long c0)] := hl
  refine lv_iconst (v := 0) hx hb dX0_find_0 (by decide) ?_
  refine lv_istore hx hb dX0_find_1 hl (by decide) rfl (fun ls hl => ?_)
  have hl : lv_has ls 9 [(7, .int 0), (0, .ref (q 0)), (1, .long a), (3, .long b), (5, .long c0)] := hl
  refine eb_for (fun (i : Nat) (ls : Array Slot) (H : Heap) (locs : List Loc) => lv_has ls 9 [(0, .ref (q 0)), (1, .long a), (3, .long b), (5, .long c0), (7, .int (nI i))] ∧ va_P D vwCl (XW q cs (nI K) (nI w) (et_ab w) kd dv dm ord (nI L.length) (nI N) ms nums pris pres fins vals msks) H ∧ va_D A (XW q cs (nI K) (nI w) (et_ab w) kd dv dm ord (nI L.length) (nI N) ms nums pris pres fins vals msks) ∧ va_S A s.heap H locs ∧ (∀ j y, j < i → L[j]? = some y → ¬ et_Xmt K (et_ab w) kd (et_k3 a b c0) y)) 3 (L.length) ?_ (L.length) (0) ls H locs (by omega) ⟨lv_sub hl [1, 2, 3, 4, 0] rfl, hP, hD, hS, fun j y hj => absurd hj (Nat.not_lt_zero j)⟩
  intro i ls H locs hi hI hrec3
  obtain ⟨hl, hP, hD, hS, hi3⟩ := hI
  refine lv_iload hx hb dX0_find_3 (lv_at hl 4 rfl) ?_
  refine lv_aload_n hx hb dX0_find_5 rfl (lv_at hl 0 rfl) ?_
  refine va_get (D := D) (ci := 0) (C := RX0) (T := TX0) (N := 16) hx hb hts hU hown hK hP 0 rfl rfl 7 (by decide) hf_entries (fun _ h9 => h9) rfl dX0_find_6 ?_
  refine lv_icmp_ge (tgt := 80) hx hb dX0_find_9 (by decide) (fun c9 => ?_) (fun c9 => ?_)
  · have c9 : nI L.length ≤ nI i := c9
    rw [nI_leI (by omega) (by omega)] at c9
    refine lv_aload_n hx hb dX0_find_80 rfl (lv_at hl 0 rfl) ?_
    refine lv_dup hx hb dX0_find_81 rfl ?_
    refine va_get (D := D) (ci := 0) (C := RX0) (T := TX0) (N := 16) hx hb hts hU hown hK hP 0 rfl rfl 9 (by decide) hf_misses (fun _ h9 => h9) rfl dX0_find_82 ?_
    refine lv_iconst (v := 1) hx hb dX0_find_85 (by decide) ?_
    refine lv_iadd hx hb dX0_find_86 ?_
    refine va_put (D := D) (ci := 0) (ty := .int) (C := RX0) (T := TX0) (N := 16) hx hb hts hU tyX0 tyX0_ok nmX0 hown hK hP hD hS 0 rfl rfl 9 (by decide) hf_misses (fun _ h9 => h9) rfl (by decide +kernel) rfl rfl (Nat.le_of_ble_eq_true rfl) dX0_find_87 (fun H locs hP hD hS => ?_)
    have hP : va_P D vwCl (XW q cs (nI K) (nI w) (et_ab w) kd dv dm ord (nI L.length) (nI N) (ms + 1) nums pris pres fins vals msks) H := hP
    have hD : va_D A (XW q cs (nI K) (nI w) (et_ab w) kd dv dm ord (nI L.length) (nI N) (ms + 1) nums pris pres fins vals msks) := hD
    refine lv_bipush (v := (-2)) hx hb dX0_find_90 (by decide) ?_
    refine eb_iret hx hb hr hlk hK hP hD hS dX0_find_92 ?_
    refine Or.inl ⟨fun x hx hh => ?_, rfl, ⟨o, ord, nums, pris, pres, fins, vals, msks, hC, rfl⟩⟩
    obtain ⟨t, ht⟩ := List.getElem?_of_mem hx
    exact hi3 t x (by have := (List.getElem?_eq_some_iff.mp ht).1; omega) ht hh
  · have c9 : ¬ nI L.length ≤ nI i := c9
    rw [nI_leI (by omega) (by omega)] at c9
    refine lv_aload_n hx hb dX0_find_12 rfl (lv_at hl 0 rfl) ?_
    refine va_get (D := D) (ci := 0) (C := RX0) (T := TX0) (N := 16) hx hb hts hU hown hK hP 0 rfl rfl 6 (by decide) hf_order (fun _ h9 => h9) rfl dX0_find_13 ?_
    refine lv_iload hx hb dX0_find_16 (lv_at hl 4 rfl) ?_
    refine eb_iald hx hb hK hP 4 3 rfl rfl (i) (by omega) (by decide) dX0_find_18 ?_
    have hs1 := (ho (i) (by omega)).2
    refine eb_ti (nI (o i)) ((ho (i) (by omega)).1) ?_
    refine lv_istore hx hb dX0_find_19 hl (by decide) rfl (fun ls hl => ?_)
    have hl : lv_has ls 9 [(8, .int (nI (o i))), (0, .ref (q 0)), (1, .long a), (3, .long b), (5, .long c0), (7, .int (nI i))] := hl
    refine lv_aload_n hx hb dX0_find_21 rfl (lv_at hl 1 rfl) ?_
    refine lv_iload hx hb dX0_find_22 (lv_at hl 0 rfl) ?_
    refine lv_iconst (v := 0) hx hb dX0_find_24 (by decide) ?_
    refine lv_lload_n hx hb dX0_find_25 rfl (lv_at hl 2 rfl) ?_
    refine eb_calli (As := [.int (nI (o i)), .int 0, .long a]) (rest := []) ⟨hx, hb, hml, hown, hts⟩ (tX_fits l D q cs (o i) (0) (by omega) (by omega) a) (cwV 3 hts gX0_find_X0_fits rfl rfl rfl (by decide +kernel) ⟨Nat.le_of_ble_eq_true rfl, Nat.le_of_ble_eq_true rfl⟩) hK hP hD hS hA rfl rfl rfl rfl hl.1 rfl (Nat.le_of_ble_eq_true rfl) dX0_find_26 ⟨Nat.zero_le _, Nat.zero_le _⟩ (fun r2 w1 H locs hq hP hD hS => ?_)
    obtain ⟨rfl, hq2⟩ := hq
    refine lv_if_eq (tgt := 74) hx hb dX0_find_29 (by decide) (fun c29 => ?_) (fun c29 => ?_)
    · have c29 := et_b0 hq2 c29
      refine lv_iinc (k := 5) (v := nI (i + 1)) hx hb dX0_find_74 hl rfl (nI_add i 1) (by decide) rfl (fun ls hl => ?_)
      have hl : lv_has ls 9 [(7, .int (nI (i + 1))), (8, .int (nI (o i))), (0, .ref (q 0)), (1, .long a), (3, .long b), (5, .long c0)] := hl
      refine lv_goto (tgt := 3) hx hb dX0_find_77 (by decide) ?_
      exact hrec3 ls H locs (by omega) ⟨lv_sub hl [2, 3, 4, 5, 0] rfl, hP, hD, hS, et_ltx hi3 (fun y hy hh => c29 (et_mt_at hC hy hh 0 (by decide)))⟩
    · have c29 := et_b1 hq2 c29
      refine lv_aload_n hx hb dX0_find_32 rfl (lv_at hl 1 rfl) ?_
      refine lv_iload hx hb dX0_find_33 (lv_at hl 0 rfl) ?_
      refine lv_iconst (v := 1) hx hb dX0_find_35 (by decide) ?_
      refine lv_lload_n hx hb dX0_find_36 rfl (lv_at hl 3 rfl) ?_
      refine eb_calli (As := [.int (nI (o i)), .int 1, .long b]) (rest := []) ⟨hx, hb, hml, hown, hts⟩ (tX_fits l D q cs (o i) (1) (by omega) (by omega) b) (cwV 3 hts gX0_find_X0_fits rfl rfl rfl (by decide +kernel) ⟨Nat.le_of_ble_eq_true rfl, Nat.le_of_ble_eq_true rfl⟩) hK hP hD hS hA rfl rfl rfl rfl hl.1 rfl (Nat.le_of_ble_eq_true rfl) dX0_find_37 ⟨Nat.zero_le _, Nat.zero_le _⟩ (fun r3 w1 H locs hq hP hD hS => ?_)
      obtain ⟨rfl, hq3⟩ := hq
      refine lv_if_eq (tgt := 74) hx hb dX0_find_40 (by decide) (fun c40 => ?_) (fun c40 => ?_)
      · have c40 := et_b0 hq3 c40
        refine lv_iinc (k := 5) (v := nI (i + 1)) hx hb dX0_find_74 hl rfl (nI_add i 1) (by decide) rfl (fun ls hl => ?_)
        have hl : lv_has ls 9 [(7, .int (nI (i + 1))), (8, .int (nI (o i))), (0, .ref (q 0)), (1, .long a), (3, .long b), (5, .long c0)] := hl
        refine lv_goto (tgt := 3) hx hb dX0_find_77 (by decide) ?_
        exact hrec3 ls H locs (by omega) ⟨lv_sub hl [2, 3, 4, 5, 0] rfl, hP, hD, hS, et_ltx hi3 (fun y hy hh => c40 (et_mt_at hC hy hh 1 (by decide)))⟩
      · have c40 := et_b1 hq3 c40
        refine lv_aload_n hx hb dX0_find_43 rfl (lv_at hl 1 rfl) ?_
        refine lv_iload hx hb dX0_find_44 (lv_at hl 0 rfl) ?_
        refine lv_iconst (v := 2) hx hb dX0_find_46 (by decide) ?_
        refine lv_lload hx hb dX0_find_47 (lv_at hl 4 rfl) ?_
        refine eb_calli (As := [.int (nI (o i)), .int 2, .long c0]) (rest := []) ⟨hx, hb, hml, hown, hts⟩ (tX_fits l D q cs (o i) (2) (by omega) (by omega) c0) (cwV 3 hts gX0_find_X0_fits rfl rfl rfl (by decide +kernel) ⟨Nat.le_of_ble_eq_true rfl, Nat.le_of_ble_eq_true rfl⟩) hK hP hD hS hA rfl rfl rfl rfl hl.1 rfl (Nat.le_of_ble_eq_true rfl) dX0_find_49 ⟨Nat.zero_le _, Nat.zero_le _⟩ (fun r4 w1 H locs hq hP hD hS => ?_)
        obtain ⟨rfl, hq4⟩ := hq
        refine lv_if_eq (tgt := 74) hx hb dX0_find_52 (by decide) (fun c52 => ?_) (fun c52 => ?_)
        · have c52 := et_b0 hq4 c52
          refine lv_iinc (k := 5) (v := nI (i + 1)) hx hb dX0_find_74 hl rfl (nI_add i 1) (by decide) rfl (fun ls hl => ?_)
          have hl : lv_has ls 9 [(7, .int (nI (i + 1))), (8, .int (nI (o i))), (0, .ref (q 0)), (1, .long a), (3, .long b), (5, .long c0)] := hl
          refine lv_goto (tgt := 3) hx hb dX0_find_77 (by decide) ?_
          exact hrec3 ls H locs (by omega) ⟨lv_sub hl [2, 3, 4, 5, 0] rfl, hP, hD, hS, et_ltx hi3 (fun y hy hh => c52 (et_mt_at hC hy hh 2 (by decide)))⟩
        · have c52 := et_b1 hq4 c52
          refine lv_aload_n hx hb dX0_find_55 rfl (lv_at hl 1 rfl) ?_
          refine va_get (D := D) (ci := 0) (C := RX0) (T := TX0) (N := 16) hx hb hts hU hown hK hP 0 rfl rfl 13 (by decide) hf_finds (fun _ h9 => h9) rfl dX0_find_56 ?_
          refine lv_iload hx hb dX0_find_59 (lv_at hl 0 rfl) ?_
          refine lv_dup2_11 hx hb dX0_find_61 rfl rfl ?_
          refine eb_iald hx hb hK hP 8 7 rfl rfl (o i) (by omega) (by decide) dX0_find_62 ?_
          refine lv_iconst (v := 1) hx hb dX0_find_63 (by decide) ?_
          refine lv_iadd hx hb dX0_find_64 ?_
          refine eb_iast hx hb hK hP hD hS 8 7 rfl rfl (o i) (by omega) (by decide) dX0_find_65 (fun H locs hP hD hS => ?_)
          have hP : va_P D vwCl (XW q cs (nI K) (nI w) (et_ab w) kd dv dm ord (nI L.length) (nI N) ms nums pris pres (upd fins (o i) ((fins (o i)) + 1)) vals msks) H := hP
          have hD : va_D A (XW q cs (nI K) (nI w) (et_ab w) kd dv dm ord (nI L.length) (nI N) ms nums pris pres (upd fins (o i) ((fins (o i)) + 1)) vals msks) := hD
          refine lv_aload_n hx hb dX0_find_66 rfl (lv_at hl 1 rfl) ?_
          refine va_get (D := D) (ci := 0) (C := RX0) (T := TX0) (N := 16) hx hb hts hU hown hK hP 0 rfl rfl 10 (by decide) hf_numbers (fun _ h9 => h9) rfl dX0_find_67 ?_
          refine lv_iload hx hb dX0_find_70 (lv_at hl 0 rfl) ?_
          refine eb_iald hx hb hK hP 5 4 rfl rfl (o i) (by omega) (by decide) dX0_find_72 ?_
          have hi1 : i < L.length := by omega
          have hx1 : L[i]? = some L[i] := List.getElem?_eq_getElem hi1
          have hx2 := hC.2.2.2.1 i L[i] hx1
          refine eb_iret hx hb hr hlk hK hP hD hS dX0_find_73 ?_
          exact Or.inr ⟨i, L[i], hx1, et_mt_of hK3 hC hx1 c29 c40 c52, fun j y hj hy => hi3 j y hj hy, hx2.1, o, ord, nums, pris, pres, _, vals, msks, et_CR_hit hC hx1, by rw [List.length_set]⟩

set_option maxHeartbeats 4000000 in
set_option maxRecDepth 100000 in
theorem tX_insert (l : Launch) (D : va_G) (q : Nat → Nat) (cs : Nat → ClassId) {K w N : Nat} {L : List et_E} {kd : Nat → Int32} {dv dm : Nat → Int64} {ord : Nat → Int32} {ms : Int32} {nums pris pres fins : Nat → Int32} {vals msks : Nat → Int64} (hK3 : K ≤ 3) (o : Nat → Nat) (hC : et_CR K w kd L o ord nums pris pres fins vals msks) (pp : Int32) : eb_MI l D vwCl (XTy cs) yX0_insert wsX0_insert { frames := 3, cells := 0, slots := 0, locals := 120 } [.ref (q 0), .int pp] (XW q cs (nI K) (nI w) (et_ab w) kd dv dm ord (nI L.length) (nI N) ms nums pris pres fins vals msks) (fun r w1 => et_QXi (et_SX q cs K w kd) K w kd dv dm N ms L pp r w1) := by
  refine eb_openI (cc := cX0_insert) (maxL := 3) (ret := (some .int)) (by decide +kernel) rfl (Nat.le_of_ble_eq_true rfl) ?_
  intro p e s m below meth c A ls H locs hx hb hr hts hown hlk hml hP hK hD hA hS hl
  have hU : ∀ w ∈ wsX00, w ∈ wsX0_insert := fun w h => List.mem_cons_of_mem _ (List.mem_append_right _ h)
  have hf_entries := hts (.fieldLink RX0 23 "EntryTable" "entries" "I") (by decide +kernel)
  have hf_numbers := hts (.fieldLink RX0 33 "EntryTable" "numbers" "[I") (by decide +kernel)
  have ho := hC.1
  have hE := hC.2.2.1
  have hl : lv_has ls 3 [(0, .ref (q 0)), (1, .int pp)] := hl
  refine lv_aload_n hx hb dX0_insert_0 rfl (lv_at hl 0 rfl) ?_
  refine eb_calli (As := []) (rest := []) ⟨hx, hb, hml, hown, hts⟩ (tX_isDraftSound l D q cs hK3) (cwV 0 hts gX0_insert_X0_isDraftSound rfl rfl rfl (by decide +kernel) ⟨Nat.le_of_ble_eq_true rfl, Nat.le_of_ble_eq_true rfl⟩) hK hP hD hS hA rfl rfl rfl rfl hl.1 rfl (Nat.le_of_ble_eq_true rfl) dX0_insert_1 ⟨Nat.zero_le _, Nat.zero_le _⟩ (fun r1 w1 H locs hq hP hD hS => ?_)
  obtain ⟨rfl, hq1⟩ := hq
  refine lv_if_ne (tgt := 9) hx hb dX0_insert_4 (by decide) (fun c4 => ?_) (fun c4 => ?_)
  · have c4 := et_b1 hq1 c4
    refine lv_aload_n hx hb dX0_insert_9 rfl (lv_at hl 0 rfl) ?_
    refine lv_iload_n hx hb dX0_insert_10 rfl (lv_at hl 1 rfl) ?_
    refine eb_calli (As := [.int pp]) (rest := []) ⟨hx, hb, hml, hown, hts⟩ (tX_isDraftThere l D q cs hK3 hE o ho pp) (cwV 1 hts gX0_insert_X0_isDraftThere rfl rfl rfl (by decide +kernel) ⟨Nat.le_of_ble_eq_true rfl, Nat.le_of_ble_eq_true rfl⟩) hK hP hD hS hA rfl rfl rfl rfl hl.1 rfl (Nat.le_of_ble_eq_true rfl) dX0_insert_11 ⟨Nat.zero_le _, Nat.zero_le _⟩ (fun r2 w1 H locs hq hP hD hS => ?_)
    obtain ⟨rfl, hq2⟩ := hq
    refine lv_if_eq (tgt := 20) hx hb dX0_insert_14 (by decide) (fun c14 => ?_) (fun c14 => ?_)
    · have c14 := et_b0 hq2 c14
      refine lv_aload_n hx hb dX0_insert_20 rfl (lv_at hl 0 rfl) ?_
      refine va_get (D := D) (ci := 0) (C := RX0) (T := TX0) (N := 16) hx hb hts hU hown hK hP 0 rfl rfl 7 (by decide) hf_entries (fun _ h9 => h9) rfl dX0_insert_21 ?_
      refine lv_bipush (v := 24) hx hb dX0_insert_24 (by decide) ?_
      refine lv_icmp_lt (tgt := 32) hx hb dX0_insert_26 (by decide) (fun c26 => ?_) (fun c26 => ?_)
      · have c26 : nI L.length < nI 24 := c26
        rw [nI_ltI (by omega) (by omega)] at c26
        refine lv_aload_n hx hb dX0_insert_32 rfl (lv_at hl 0 rfl) ?_
        refine lv_aload_n hx hb dX0_insert_33 rfl (lv_at hl 0 rfl) ?_
        refine lv_iload_n hx hb dX0_insert_34 rfl (lv_at hl 1 rfl) ?_
        refine eb_calli (As := [.int pp]) (rest := [.ref (q 0)]) ⟨hx, hb, hml, hown, hts⟩ (tX_rankForDraft l D q cs hK3 hE o ho pp) (cwV 1 hts gX0_insert_X0_rankForDraft rfl rfl rfl (by decide +kernel) ⟨Nat.le_of_ble_eq_true rfl, Nat.le_of_ble_eq_true rfl⟩) hK hP hD hS hA rfl rfl rfl rfl hl.1 rfl (Nat.le_of_ble_eq_true rfl) dX0_insert_35 ⟨Nat.zero_le _, Nat.zero_le _⟩ (fun rj w1 H locs hq hP hD hS => ?_)
        obtain ⟨rfl, j, rfl, hj1, hj2, hj3⟩ := hq
        refine eb_calli (As := [.int (nI j)]) (rest := []) ⟨hx, hb, hml, hown, hts⟩ (tX_takeSlot l D q cs (by omega) j hj1) (cwV 1 hts gX0_insert_X0_takeSlot rfl rfl rfl (by decide +kernel) ⟨Nat.le_of_ble_eq_true rfl, Nat.le_of_ble_eq_true rfl⟩) hK hP hD hS hA rfl rfl rfl rfl hl.1 rfl (Nat.le_of_ble_eq_true rfl) dX0_insert_38 ⟨Nat.zero_le _, Nat.zero_le _⟩ (fun rs w1 H locs hq hP hD hS => ?_)
        obtain ⟨rfl, rfl⟩ := hq
        have hs0 := (ho L.length (by omega)).2
        refine eb_ti (nI (o L.length)) ((ho L.length (by omega)).1) ?_
        refine lv_istore_n hx hb dX0_insert_41 rfl hl (by decide) rfl (fun ls hl => ?_)
        have hl : lv_has ls 3 [(2, .int (nI (o L.length))), (0, .ref (q 0)), (1, .int pp)] := hl
        refine lv_aload_n hx hb dX0_insert_42 rfl (lv_at hl 1 rfl) ?_
        refine lv_iload_n hx hb dX0_insert_43 rfl (lv_at hl 0 rfl) ?_
        refine lv_iload_n hx hb dX0_insert_44 rfl (lv_at hl 2 rfl) ?_
        refine eb_callv (As := [.int (nI (o L.length)), .int pp]) (rest := []) ⟨hx, hb, hml, hown, hts⟩ (tX_fillSlot l D q cs hK3 (o L.length) hs0 pp) (cwV 2 hts gX0_insert_X0_fillSlot rfl rfl rfl (by decide +kernel) ⟨Nat.le_of_ble_eq_true rfl, Nat.le_of_ble_eq_true rfl⟩) hK hP hD hS hA rfl rfl rfl rfl hl.1 rfl (Nat.le_of_ble_eq_true rfl) dX0_insert_45 ⟨Nat.zero_le _, Nat.zero_le _⟩ (fun w1 H locs hq hP hD hS => ?_)
        obtain ⟨vals1, msks1, rfl, hf1, hf2⟩ := hq
        refine lv_aload_n hx hb dX0_insert_48 rfl (lv_at hl 1 rfl) ?_
        refine eb_callv (As := []) (rest := []) ⟨hx, hb, hml, hown, hts⟩ (tX_clearDraft l D q cs) (cwV 0 hts gX0_insert_X0_clearDraft rfl rfl rfl (by decide +kernel) ⟨Nat.le_of_ble_eq_true rfl, Nat.le_of_ble_eq_true rfl⟩) hK hP hD hS hA rfl rfl rfl rfl hl.1 rfl (Nat.le_of_ble_eq_true rfl) dX0_insert_49 ⟨Nat.zero_le _, Nat.zero_le _⟩ (fun w1 H locs hq hP hD hS => ?_)
        obtain rfl := hq
        refine lv_aload_n hx hb dX0_insert_52 rfl (lv_at hl 1 rfl) ?_
        refine va_get (D := D) (ci := 0) (C := RX0) (T := TX0) (N := 16) hx hb hts hU hown hK hP 0 rfl rfl 10 (by decide) hf_numbers (fun _ h9 => h9) rfl dX0_insert_53 ?_
        refine lv_iload_n hx hb dX0_insert_56 rfl (lv_at hl 0 rfl) ?_
        refine eb_iald hx hb hK hP 5 4 rfl rfl (o L.length) (by omega) (by decide) dX0_insert_57 ?_
        refine eb_iret hx hb hr hlk hK hP hD hS dX0_insert_58 ?_
        refine Or.inr (Or.inr (Or.inr ⟨c4, et_th_no hC c14, by omega, pk_us, j, hj1, et_lo_no hC hj2, et_lo_at hC hj3, ?_⟩))
        exact ⟨_, _, _, _, _, _, vals1, msks1, et_CR_ins hC hK3 rfl (by omega) hj1 (fun i hi => ⟨hf1.1 i hi, hf2.1 i hi⟩) (fun k hk => ⟨hf1.2 k hk, hf2.2 k hk⟩), by rw [List.length_insertIdx_of_le_length hj1, nI_1]⟩
      · have c26 : ¬ nI L.length < nI 24 := c26
        rw [nI_ltI (by omega) (by omega)] at c26
        refine lv_bipush (v := (-3)) hx hb dX0_insert_29 (by decide) ?_
        refine eb_iret hx hb hr hlk hK hP hD hS dX0_insert_31 ?_
        exact Or.inr (Or.inr (Or.inl ⟨c4, et_th_no hC c14, by omega, rfl, ⟨o, ord, nums, pris, pres, fins, vals, msks, hC, rfl⟩⟩))
    · have c14 := et_b1 hq2 c14
      refine lv_bipush (v := (-4)) hx hb dX0_insert_17 (by decide) ?_
      refine eb_iret hx hb hr hlk hK hP hD hS dX0_insert_19 ?_
      obtain ⟨j, hj, hj1, hj2⟩ := c14
      exact Or.inr (Or.inl ⟨c4, et_th_of hC hj hj1 hj2, rfl, ⟨o, ord, nums, pris, pres, fins, vals, msks, hC, rfl⟩⟩)
  · have c4 := et_b0 hq1 c4
    refine lv_iconst (v := (-1)) hx hb dX0_insert_7 (by decide) ?_
    refine eb_iret hx hb hr hlk hK hP hD hS dX0_insert_8 ?_
    exact Or.inl ⟨c4, rfl, ⟨o, ord, nums, pris, pres, fins, vals, msks, hC, rfl⟩⟩

set_option maxHeartbeats 4000000 in
set_option maxRecDepth 100000 in
theorem tX_count (l : Launch) (D : va_G) (q : Nat → Nat) (cs : Nat → ClassId) {K w N : Nat} {L : List et_E} {kd : Nat → Int32} {dv dm : Nat → Int64} {ord : Nat → Int32} {ms : Int32} {nums pris pres fins : Nat → Int32} {vals msks : Nat → Int64} (hK3 : K ≤ 3) (o : Nat → Nat) (hC : et_CR K w kd L o ord nums pris pres fins vals msks) (what : Int32) : eb_MI l D vwCl (XTy cs) yX0_count wsX0_count { frames := 0, cells := 0, slots := 0, locals := 0 } [.ref (q 0), .int what] (XW q cs (nI K) (nI w) (et_ab w) kd dv dm ord (nI L.length) (nI N) ms nums pris pres fins vals msks) (fun r w1 => et_Qc (et_SX q cs K w kd) K w kd dv dm N ms L what r w1) := by
  refine eb_openI (cc := cX0_count) (maxL := 2) (ret := (some .int)) (by decide +kernel) rfl (Nat.le_of_ble_eq_true rfl) ?_
  intro p e s m below meth c A ls H locs hx hb hr hts hown hlk hml hP hK hD hA hS hl
  have hU : ∀ w ∈ wsX00, w ∈ wsX0_count := fun w h => List.mem_cons_of_mem _ (List.mem_append_right _ h)
  have hf_keys := hts (.fieldLink RX0 60 "EntryTable" "keys" "I") (by decide +kernel)
  have hf_width := hts (.fieldLink RX0 63 "EntryTable" "width" "I") (by decide +kernel)
  have hf_entries := hts (.fieldLink RX0 23 "EntryTable" "entries" "I") (by decide +kernel)
  have hf_misses := hts (.fieldLink RX0 30 "EntryTable" "misses" "I") (by decide +kernel)
  have hf_kinds := hts (.fieldLink RX0 9 "EntryTable" "kinds" "[I") (by decide +kernel)
  have ho := hC.1
  have hE := hC.2.2.1
  have hl : lv_has ls 2 [(0, .ref (q 0)), (1, .int what)] := hl
  refine lv_iload_n hx hb dX0_count_0 rfl (lv_at hl 1 rfl) ?_
  by_cases h0 : what = 0
  · subst h0
    have hl : lv_has ls 2 [(0, .ref (q 0)), (1, .int 0)] := hl
    refine lv_tableIn (tgt := 44) hx hb dX0_count_1 (by decide) (by decide) rfl (by decide) ?_
    refine lv_aload_n hx hb dX0_count_44 rfl (lv_at hl 0 rfl) ?_
    refine va_get (D := D) (ci := 0) (C := RX0) (T := TX0) (N := 16) hx hb hts hU hown hK hP 0 rfl rfl 0 (by decide) hf_keys (fun _ h9 => h9) rfl dX0_count_45 ?_
    refine eb_iret hx hb hr hlk hK hP hD hS dX0_count_48 ?_
    exact ⟨⟨o, ord, nums, pris, pres, fins, vals, msks, hC, rfl⟩, rfl⟩
  by_cases h1 : what = 1
  · subst h1
    have hl : lv_has ls 2 [(0, .ref (q 0)), (1, .int 1)] := hl
    refine lv_tableIn (tgt := 49) hx hb dX0_count_1 (by decide) (by decide) rfl (by decide) ?_
    refine lv_aload_n hx hb dX0_count_49 rfl (lv_at hl 0 rfl) ?_
    refine va_get (D := D) (ci := 0) (C := RX0) (T := TX0) (N := 16) hx hb hts hU hown hK hP 0 rfl rfl 1 (by decide) hf_width (fun _ h9 => h9) rfl dX0_count_50 ?_
    refine eb_iret hx hb hr hlk hK hP hD hS dX0_count_53 ?_
    exact ⟨⟨o, ord, nums, pris, pres, fins, vals, msks, hC, rfl⟩, rfl⟩
  by_cases h2 : what = 2
  · subst h2
    have hl : lv_has ls 2 [(0, .ref (q 0)), (1, .int 2)] := hl
    refine lv_tableIn (tgt := 54) hx hb dX0_count_1 (by decide) (by decide) rfl (by decide) ?_
    refine lv_aload_n hx hb dX0_count_54 rfl (lv_at hl 0 rfl) ?_
    refine va_get (D := D) (ci := 0) (C := RX0) (T := TX0) (N := 16) hx hb hts hU hown hK hP 0 rfl rfl 7 (by decide) hf_entries (fun _ h9 => h9) rfl dX0_count_55 ?_
    refine eb_iret hx hb hr hlk hK hP hD hS dX0_count_58 ?_
    exact ⟨⟨o, ord, nums, pris, pres, fins, vals, msks, hC, rfl⟩, rfl⟩
  by_cases h3 : what = 3
  · subst h3
    have hl : lv_has ls 2 [(0, .ref (q 0)), (1, .int 3)] := hl
    refine lv_tableIn (tgt := 59) hx hb dX0_count_1 (by decide) (by decide) rfl (by decide) ?_
    refine lv_aload_n hx hb dX0_count_59 rfl (lv_at hl 0 rfl) ?_
    refine va_get (D := D) (ci := 0) (C := RX0) (T := TX0) (N := 16) hx hb hts hU hown hK hP 0 rfl rfl 9 (by decide) hf_misses (fun _ h9 => h9) rfl dX0_count_60 ?_
    refine eb_iret hx hb hr hlk hK hP hD hS dX0_count_63 ?_
    exact ⟨⟨o, ord, nums, pris, pres, fins, vals, msks, hC, rfl⟩, rfl⟩
  by_cases h4 : what = 4
  · subst h4
    have hl : lv_has ls 2 [(0, .ref (q 0)), (1, .int 4)] := hl
    refine lv_tableIn (tgt := 64) hx hb dX0_count_1 (by decide) (by decide) rfl (by decide) ?_
    refine lv_aload_n hx hb dX0_count_64 rfl (lv_at hl 0 rfl) ?_
    refine va_get (D := D) (ci := 0) (C := RX0) (T := TX0) (N := 16) hx hb hts hU hown hK hP 0 rfl rfl 3 (by decide) hf_kinds (fun _ h9 => h9) rfl dX0_count_65 ?_
    refine lv_iload_n hx hb dX0_count_68 rfl (lv_at hl 1 rfl) ?_
    refine lv_iconst (v := 4) hx hb dX0_count_69 (by decide) ?_
    refine lv_isub hx hb dX0_count_70 ?_
    refine eb_ti (nI (4 - 4)) (pk_sub (a := 4) (b := 4) (by omega)) ?_
    refine eb_iald hx hb hK hP 1 0 rfl rfl (4 - 4) (by omega) (by decide) dX0_count_71 ?_
    refine eb_iret hx hb hr hlk hK hP hD hS dX0_count_72 ?_
    exact ⟨⟨o, ord, nums, pris, pres, fins, vals, msks, hC, rfl⟩, rfl⟩
  by_cases h5 : what = 5
  · subst h5
    have hl : lv_has ls 2 [(0, .ref (q 0)), (1, .int 5)] := hl
    refine lv_tableIn (tgt := 64) hx hb dX0_count_1 (by decide) (by decide) rfl (by decide) ?_
    refine lv_aload_n hx hb dX0_count_64 rfl (lv_at hl 0 rfl) ?_
    refine va_get (D := D) (ci := 0) (C := RX0) (T := TX0) (N := 16) hx hb hts hU hown hK hP 0 rfl rfl 3 (by decide) hf_kinds (fun _ h9 => h9) rfl dX0_count_65 ?_
    refine lv_iload_n hx hb dX0_count_68 rfl (lv_at hl 1 rfl) ?_
    refine lv_iconst (v := 4) hx hb dX0_count_69 (by decide) ?_
    refine lv_isub hx hb dX0_count_70 ?_
    refine eb_ti (nI (5 - 4)) (pk_sub (a := 5) (b := 4) (by omega)) ?_
    refine eb_iald hx hb hK hP 1 0 rfl rfl (5 - 4) (by omega) (by decide) dX0_count_71 ?_
    refine eb_iret hx hb hr hlk hK hP hD hS dX0_count_72 ?_
    exact ⟨⟨o, ord, nums, pris, pres, fins, vals, msks, hC, rfl⟩, rfl⟩
  by_cases h6 : what = 6
  · subst h6
    have hl : lv_has ls 2 [(0, .ref (q 0)), (1, .int 6)] := hl
    refine lv_tableIn (tgt := 64) hx hb dX0_count_1 (by decide) (by decide) rfl (by decide) ?_
    refine lv_aload_n hx hb dX0_count_64 rfl (lv_at hl 0 rfl) ?_
    refine va_get (D := D) (ci := 0) (C := RX0) (T := TX0) (N := 16) hx hb hts hU hown hK hP 0 rfl rfl 3 (by decide) hf_kinds (fun _ h9 => h9) rfl dX0_count_65 ?_
    refine lv_iload_n hx hb dX0_count_68 rfl (lv_at hl 1 rfl) ?_
    refine lv_iconst (v := 4) hx hb dX0_count_69 (by decide) ?_
    refine lv_isub hx hb dX0_count_70 ?_
    refine eb_ti (nI (6 - 4)) (pk_sub (a := 6) (b := 4) (by omega)) ?_
    refine eb_iald hx hb hK hP 1 0 rfl rfl (6 - 4) (by omega) (by decide) dX0_count_71 ?_
    refine eb_iret hx hb hr hlk hK hP hD hS dX0_count_72 ?_
    exact ⟨⟨o, ord, nums, pris, pres, fins, vals, msks, hC, rfl⟩, rfl⟩
  refine lv_tableOut (tgt := 73) hx hb dX0_count_1 (et_out h0 h1 h2 h3 h4 h5 h6) (by decide) ?_
  refine lv_iconst (v := (-1)) hx hb dX0_count_73 (by decide) ?_
  refine eb_iret hx hb hr hlk hK hP hD hS dX0_count_74 ?_
  exact ⟨⟨o, ord, nums, pris, pres, fins, vals, msks, hC, rfl⟩, by unfold et_cnt; rw [if_neg h0, if_neg h1, if_neg h2, if_neg h3, if_neg h4, if_neg h5, if_neg h6]⟩

