set_option maxHeartbeats 4000000 in
set_option maxRecDepth 100000 in
theorem tX_clearDraft (l : Launch) (D : va_G) (q : Nat → Nat) (cs : Nat → ClassId) {K E : Nat} {wd : Int32} {ab : Int64} {kd : Nat → Int32} {dv dm : Nat → Int64} {ord : Nat → Int32} {nn ms : Int32} {nums pris pres fins : Nat → Int32} {vals msks : Nat → Int64}  : eb_MV l D vwCl (XTy cs) yX0_clearDraft wsX0_clearDraft { frames := 0, cells := 0, slots := 0, locals := 0 } [.ref (q 0)] (XW q cs (nI K) wd ab kd dv dm ord (nI E) nn ms nums pris pres fins vals msks) (fun w1 => w1 = XW q cs (nI K) wd ab kd (et_z dv) (et_z dm) ord (nI E) nn ms nums pris pres fins vals msks) := by
  refine eb_openV (cc := cX0_clearDraft) (maxL := 2) (ret := none) (by decide +kernel) rfl (Nat.le_of_ble_eq_true rfl) ?_
  intro p e s m below meth c A ls H locs hx hb hr hts hown hlk hml hP hK hD hA hS hl
  have hU : ∀ w ∈ wsX00, w ∈ wsX0_clearDraft := fun w h => List.mem_cons_of_mem _ (List.mem_append_right _ h)
  have hf_draftValues := hts (.fieldLink RX0 13 "EntryTable" "draftValues" "[J") (by decide +kernel)
  have hf_draftMasks := hts (.fieldLink RX0 17 "EntryTable" "draftMasks" "[J") (by decide +kernel)
  have hl : lv_has ls 2 [(0, .ref (q 0))] := hl
  refine lv_iconst (v := 0) hx hb dX0_clearDraft_0 (by decide) ?_
  refine lv_istore_n hx hb dX0_clearDraft_1 rfl hl (by decide) rfl (fun ls hl => ?_)
  have hl : lv_has ls 2 [(1, .int 0), (0, .ref (q 0))] := hl
  refine eb_for (fun (k : Nat) (ls : Array Slot) (H : Heap) (locs : List Loc) => ∃ dv1 : Nat → Int64, ∃ dm1 : Nat → Int64, lv_has ls 2 [(0, .ref (q 0)), (1, .int (nI k))] ∧ va_P D vwCl (XW q cs (nI K) wd ab kd dv1 dm1 ord (nI E) nn ms nums pris pres fins vals msks) H ∧ va_D A (XW q cs (nI K) wd ab kd dv1 dm1 ord (nI E) nn ms nums pris pres fins vals msks) ∧ va_S A s.heap H locs ∧ (dv1 = et_zz dv k ∧ dm1 = et_zz dm k)) 2 (3) ?_ (3) (0) ls H locs (by omega) ⟨dv, dm, lv_sub hl [1, 0] rfl, hP, hD, hS, ⟨et_zz_0.symm, et_zz_0.symm⟩⟩
  intro k ls H locs hk hI hrec2
  obtain ⟨dv1, dm1, hl, hP, hD, hS, hi2⟩ := hI
  refine lv_iload_n hx hb dX0_clearDraft_2 rfl (lv_at hl 1 rfl) ?_
  refine lv_iconst (v := 3) hx hb dX0_clearDraft_3 (by decide) ?_
  refine lv_icmp_ge (tgt := 27) hx hb dX0_clearDraft_4 (by decide) (fun c4 => ?_) (fun c4 => ?_)
  · have c4 : nI 3 ≤ nI k := c4
    rw [nI_leI (by omega) (by omega)] at c4
    refine eb_vret hx hb hr hlk hK hP hD hS dX0_clearDraft_27 ?_
    obtain ⟨rfl, rfl⟩ := hi2
    show XW q cs _ _ _ _ (et_zz dv k) (et_zz dm k) _ _ _ _ _ _ _ _ _ _ = _
    rw [show k = 3 by omega]
  · have c4 : ¬ nI 3 ≤ nI k := c4
    rw [nI_leI (by omega) (by omega)] at c4
    refine lv_aload_n hx hb dX0_clearDraft_7 rfl (lv_at hl 0 rfl) ?_
    refine va_get (D := D) (ci := 0) (C := RX0) (T := TX0) (N := 16) hx hb hts hU hown hK hP 0 rfl rfl 4 (by decide) hf_draftValues (fun _ h9 => h9) rfl dX0_clearDraft_8 ?_
    refine lv_iload_n hx hb dX0_clearDraft_11 rfl (lv_at hl 1 rfl) ?_
    refine lv_lconst (v := 0) hx hb dX0_clearDraft_12 (by decide) ?_
    refine eb_last hx hb hK hP hD hS 2 1 rfl rfl (k) (by omega) (by decide) dX0_clearDraft_13 (fun H locs hP hD hS => ?_)
    have hP : va_P D vwCl (XW q cs (nI K) wd ab kd (vp_updL dv1 k 0) dm1 ord (nI E) nn ms nums pris pres fins vals msks) H := hP
    have hD : va_D A (XW q cs (nI K) wd ab kd (vp_updL dv1 k 0) dm1 ord (nI E) nn ms nums pris pres fins vals msks) := hD
    refine lv_aload_n hx hb dX0_clearDraft_14 rfl (lv_at hl 0 rfl) ?_
    refine va_get (D := D) (ci := 0) (C := RX0) (T := TX0) (N := 16) hx hb hts hU hown hK hP 0 rfl rfl 5 (by decide) hf_draftMasks (fun _ h9 => h9) rfl dX0_clearDraft_15 ?_
    refine lv_iload_n hx hb dX0_clearDraft_18 rfl (lv_at hl 1 rfl) ?_
    refine lv_lconst (v := 0) hx hb dX0_clearDraft_19 (by decide) ?_
    refine eb_last hx hb hK hP hD hS 3 2 rfl rfl (k) (by omega) (by decide) dX0_clearDraft_20 (fun H locs hP hD hS => ?_)
    have hP : va_P D vwCl (XW q cs (nI K) wd ab kd (vp_updL dv1 k 0) (vp_updL dm1 k 0) ord (nI E) nn ms nums pris pres fins vals msks) H := hP
    have hD : va_D A (XW q cs (nI K) wd ab kd (vp_updL dv1 k 0) (vp_updL dm1 k 0) ord (nI E) nn ms nums pris pres fins vals msks) := hD
    refine lv_iinc (k := 1) (v := nI (k + 1)) hx hb dX0_clearDraft_21 hl rfl (nI_add k 1) (by decide) rfl (fun ls hl => ?_)
    have hl : lv_has ls 2 [(1, .int (nI (k + 1))), (0, .ref (q 0))] := hl
    refine lv_goto (tgt := 2) hx hb dX0_clearDraft_24 (by decide) ?_
    exact hrec2 ls H locs (by omega) ⟨(vp_updL dv1 k 0), (vp_updL dm1 k 0), lv_sub hl [1, 0] rfl, hP, hD, hS, by rw [hi2.1, hi2.2]; exact ⟨et_zz_s, et_zz_s⟩⟩

set_option maxHeartbeats 4000000 in
set_option maxRecDepth 100000 in
theorem tX_takeSlot (l : Launch) (D : va_G) (q : Nat → Nat) (cs : Nat → ClassId) {K E : Nat} {wd : Int32} {ab : Int64} {kd : Nat → Int32} {dv dm : Nat → Int64} {ord : Nat → Int32} {nn ms : Int32} {nums pris pres fins : Nat → Int32} {vals msks : Nat → Int64} (hE : E < 24) (j : Nat) (hj : j ≤ E) : eb_MI l D vwCl (XTy cs) yX0_takeSlot wsX0_takeSlot { frames := 1, cells := 0, slots := 0, locals := 40 } [.ref (q 0), .int (nI j)] (XW q cs (nI K) wd ab kd dv dm ord (nI E) nn ms nums pris pres fins vals msks) (fun r w1 => r = ord E ∧ w1 = XW q cs (nI K) wd ab kd dv dm (upd (va_cpy ord ord j (j + 1) (E - j)) j (ord E)) (nI (E + 1)) nn ms nums pris pres fins vals msks) := by
  refine eb_openI (cc := cX0_takeSlot) (maxL := 3) (ret := (some .int)) (by decide +kernel) rfl (Nat.le_of_ble_eq_true rfl) ?_
  intro p e s m below meth c A ls H locs hx hb hr hts hown hlk hml hP hK hD hA hS hl
  have hU : ∀ w ∈ wsX00, w ∈ wsX0_takeSlot := fun w h => List.mem_cons_of_mem _ (List.mem_append_right _ h)
  have hf_order := hts (.fieldLink RX0 20 "EntryTable" "order" "[I") (by decide +kernel)
  have hf_entries := hts (.fieldLink RX0 23 "EntryTable" "entries" "I") (by decide +kernel)
  have hl : lv_has ls 3 [(0, .ref (q 0)), (1, .int (nI j))] := hl
  refine lv_aload_n hx hb dX0_takeSlot_0 rfl (lv_at hl 0 rfl) ?_
  refine va_get (D := D) (ci := 0) (C := RX0) (T := TX0) (N := 16) hx hb hts hU hown hK hP 0 rfl rfl 6 (by decide) hf_order (fun _ h9 => h9) rfl dX0_takeSlot_1 ?_
  refine lv_aload_n hx hb dX0_takeSlot_4 rfl (lv_at hl 0 rfl) ?_
  refine va_get (D := D) (ci := 0) (C := RX0) (T := TX0) (N := 16) hx hb hts hU hown hK hP 0 rfl rfl 7 (by decide) hf_entries (fun _ h9 => h9) rfl dX0_takeSlot_5 ?_
  refine eb_iald hx hb hK hP 4 3 rfl rfl (E) (by omega) (by decide) dX0_takeSlot_8 ?_
  refine lv_istore_n hx hb dX0_takeSlot_9 rfl hl (by decide) rfl (fun ls hl => ?_)
  have hl : lv_has ls 3 [(2, .int (ord E)), (0, .ref (q 0)), (1, .int (nI j))] := hl
  refine lv_aload_n hx hb dX0_takeSlot_10 rfl (lv_at hl 1 rfl) ?_
  refine va_get (D := D) (ci := 0) (C := RX0) (T := TX0) (N := 16) hx hb hts hU hown hK hP 0 rfl rfl 6 (by decide) hf_order (fun _ h9 => h9) rfl dX0_takeSlot_11 ?_
  refine lv_iload_n hx hb dX0_takeSlot_14 rfl (lv_at hl 2 rfl) ?_
  refine lv_aload_n hx hb dX0_takeSlot_15 rfl (lv_at hl 1 rfl) ?_
  refine va_get (D := D) (ci := 0) (C := RX0) (T := TX0) (N := 16) hx hb hts hU hown hK hP 0 rfl rfl 6 (by decide) hf_order (fun _ h9 => h9) rfl dX0_takeSlot_16 ?_
  refine lv_iload_n hx hb dX0_takeSlot_19 rfl (lv_at hl 2 rfl) ?_
  refine lv_iconst (v := 1) hx hb dX0_takeSlot_20 (by decide) ?_
  refine lv_iadd hx hb dX0_takeSlot_21 ?_
  refine eb_ti (nI (j + 1)) (nI_add j 1) ?_
  refine lv_aload_n hx hb dX0_takeSlot_22 rfl (lv_at hl 1 rfl) ?_
  refine va_get (D := D) (ci := 0) (C := RX0) (T := TX0) (N := 16) hx hb hts hU hown hK hP 0 rfl rfl 7 (by decide) hf_entries (fun _ h9 => h9) rfl dX0_takeSlot_23 ?_
  refine lv_iload_n hx hb dX0_takeSlot_26 rfl (lv_at hl 2 rfl) ?_
  refine lv_isub hx hb dX0_takeSlot_27 ?_
  refine eb_ti (nI (E - j)) (pk_sub (a := E) (b := j) (by omega)) ?_
  refine eb_copyi hx hb (hml.trans hl.1.symm) hown (hts (.methodLink RX0 123 arraycopyName) (by decide +kernel)) (hts (.native arraycopyName) (by decide +kernel)) (hts (.static arraycopyName) (by decide +kernel)) (hts (.initialized "java/lang/System") (by decide +kernel)) hK hP hD hS 4 3 rfl rfl (j) (j + 1) (E - j) (by omega) (by omega) (by decide) (Nat.le_of_ble_eq_true rfl) (by decide +kernel) dX0_takeSlot_28 (fun H locs hP hD hS => ?_)
  have hP : va_P D vwCl (XW q cs (nI K) wd ab kd dv dm (va_cpy ord ord j (j + 1) (E - j)) (nI E) nn ms nums pris pres fins vals msks) H := hP
  have hD : va_D A (XW q cs (nI K) wd ab kd dv dm (va_cpy ord ord j (j + 1) (E - j)) (nI E) nn ms nums pris pres fins vals msks) := hD
  refine lv_aload_n hx hb dX0_takeSlot_31 rfl (lv_at hl 1 rfl) ?_
  refine va_get (D := D) (ci := 0) (C := RX0) (T := TX0) (N := 16) hx hb hts hU hown hK hP 0 rfl rfl 6 (by decide) hf_order (fun _ h9 => h9) rfl dX0_takeSlot_32 ?_
  refine lv_iload_n hx hb dX0_takeSlot_35 rfl (lv_at hl 2 rfl) ?_
  refine lv_iload_n hx hb dX0_takeSlot_36 rfl (lv_at hl 0 rfl) ?_
  refine eb_iast hx hb hK hP hD hS 4 3 rfl rfl (j) (by omega) (by decide) dX0_takeSlot_37 (fun H locs hP hD hS => ?_)
  have hP : va_P D vwCl (XW q cs (nI K) wd ab kd dv dm (upd (va_cpy ord ord j (j + 1) (E - j)) j (ord E)) (nI E) nn ms nums pris pres fins vals msks) H := hP
  have hD : va_D A (XW q cs (nI K) wd ab kd dv dm (upd (va_cpy ord ord j (j + 1) (E - j)) j (ord E)) (nI E) nn ms nums pris pres fins vals msks) := hD
  refine lv_aload_n hx hb dX0_takeSlot_38 rfl (lv_at hl 1 rfl) ?_
  refine lv_dup hx hb dX0_takeSlot_39 rfl ?_
  refine va_get (D := D) (ci := 0) (C := RX0) (T := TX0) (N := 16) hx hb hts hU hown hK hP 0 rfl rfl 7 (by decide) hf_entries (fun _ h9 => h9) rfl dX0_takeSlot_40 ?_
  refine lv_iconst (v := 1) hx hb dX0_takeSlot_43 (by decide) ?_
  refine lv_iadd hx hb dX0_takeSlot_44 ?_
  refine eb_ti (nI (E + 1)) (nI_add E 1) ?_
  refine va_put (D := D) (ci := 0) (ty := .int) (C := RX0) (T := TX0) (N := 16) hx hb hts hU tyX0 tyX0_ok nmX0 hown hK hP hD hS 0 rfl rfl 7 (by decide) hf_entries (fun _ h9 => h9) rfl (by decide +kernel) rfl rfl (Nat.le_of_ble_eq_true rfl) dX0_takeSlot_45 (fun H locs hP hD hS => ?_)
  have hP : va_P D vwCl (XW q cs (nI K) wd ab kd dv dm (upd (va_cpy ord ord j (j + 1) (E - j)) j (ord E)) (nI (E + 1)) nn ms nums pris pres fins vals msks) H := hP
  have hD : va_D A (XW q cs (nI K) wd ab kd dv dm (upd (va_cpy ord ord j (j + 1) (E - j)) j (ord E)) (nI (E + 1)) nn ms nums pris pres fins vals msks) := hD
  refine lv_iload_n hx hb dX0_takeSlot_48 rfl (lv_at hl 0 rfl) ?_
  refine eb_iret hx hb hr hlk hK hP hD hS dX0_takeSlot_49 ?_
  exact ⟨rfl, rfl⟩

set_option maxHeartbeats 4000000 in
set_option maxRecDepth 100000 in
theorem tX_freeSlot (l : Launch) (D : va_G) (q : Nat → Nat) (cs : Nat → ClassId) {K E : Nat} {wd : Int32} {ab : Int64} {kd : Nat → Int32} {dv dm : Nat → Int64} {ord : Nat → Int32} {nn ms : Int32} {nums pris pres fins : Nat → Int32} {vals msks : Nat → Int64} (hE : E ≤ 24) (j : Nat) (hj : j < E) : eb_MV l D vwCl (XTy cs) yX0_freeSlot wsX0_freeSlot { frames := 1, cells := 0, slots := 0, locals := 40 } [.ref (q 0), .int (nI j)] (XW q cs (nI K) wd ab kd dv dm ord (nI E) nn ms nums pris pres fins vals msks) (fun w1 => w1 = XW q cs (nI K) wd ab kd dv dm (upd (va_cpy ord ord (j + 1) j (E - 1 - j)) (E - 1) (ord j)) (nI (E - 1)) nn ms nums pris pres fins vals msks) := by
  refine eb_openV (cc := cX0_freeSlot) (maxL := 3) (ret := none) (by decide +kernel) rfl (Nat.le_of_ble_eq_true rfl) ?_
  intro p e s m below meth c A ls H locs hx hb hr hts hown hlk hml hP hK hD hA hS hl
  have hU : ∀ w ∈ wsX00, w ∈ wsX0_freeSlot := fun w h => List.mem_cons_of_mem _ (List.mem_append_right _ h)
  have hf_order := hts (.fieldLink RX0 20 "EntryTable" "order" "[I") (by decide +kernel)
  have hf_entries := hts (.fieldLink RX0 23 "EntryTable" "entries" "I") (by decide +kernel)
  have hl : lv_has ls 3 [(0, .ref (q 0)), (1, .int (nI j))] := hl
  refine lv_aload_n hx hb dX0_freeSlot_0 rfl (lv_at hl 0 rfl) ?_
  refine va_get (D := D) (ci := 0) (C := RX0) (T := TX0) (N := 16) hx hb hts hU hown hK hP 0 rfl rfl 6 (by decide) hf_order (fun _ h9 => h9) rfl dX0_freeSlot_1 ?_
  refine lv_iload_n hx hb dX0_freeSlot_4 rfl (lv_at hl 1 rfl) ?_
  refine eb_iald hx hb hK hP 4 3 rfl rfl (j) (by omega) (by decide) dX0_freeSlot_5 ?_
  refine lv_istore_n hx hb dX0_freeSlot_6 rfl hl (by decide) rfl (fun ls hl => ?_)
  have hl : lv_has ls 3 [(2, .int (ord j)), (0, .ref (q 0)), (1, .int (nI j))] := hl
  refine lv_aload_n hx hb dX0_freeSlot_7 rfl (lv_at hl 1 rfl) ?_
  refine lv_dup hx hb dX0_freeSlot_8 rfl ?_
  refine va_get (D := D) (ci := 0) (C := RX0) (T := TX0) (N := 16) hx hb hts hU hown hK hP 0 rfl rfl 7 (by decide) hf_entries (fun _ h9 => h9) rfl dX0_freeSlot_9 ?_
  refine lv_iconst (v := 1) hx hb dX0_freeSlot_12 (by decide) ?_
  refine lv_isub hx hb dX0_freeSlot_13 ?_
  refine eb_ti (nI (E - 1)) (pk_sub (a := E) (b := 1) (by omega)) ?_
  refine va_put (D := D) (ci := 0) (ty := .int) (C := RX0) (T := TX0) (N := 16) hx hb hts hU tyX0 tyX0_ok nmX0 hown hK hP hD hS 0 rfl rfl 7 (by decide) hf_entries (fun _ h9 => h9) rfl (by decide +kernel) rfl rfl (Nat.le_of_ble_eq_true rfl) dX0_freeSlot_14 (fun H locs hP hD hS => ?_)
  have hP : va_P D vwCl (XW q cs (nI K) wd ab kd dv dm ord (nI (E - 1)) nn ms nums pris pres fins vals msks) H := hP
  have hD : va_D A (XW q cs (nI K) wd ab kd dv dm ord (nI (E - 1)) nn ms nums pris pres fins vals msks) := hD
  refine lv_aload_n hx hb dX0_freeSlot_17 rfl (lv_at hl 1 rfl) ?_
  refine va_get (D := D) (ci := 0) (C := RX0) (T := TX0) (N := 16) hx hb hts hU hown hK hP 0 rfl rfl 6 (by decide) hf_order (fun _ h9 => h9) rfl dX0_freeSlot_18 ?_
  refine lv_iload_n hx hb dX0_freeSlot_21 rfl (lv_at hl 2 rfl) ?_
  refine lv_iconst (v := 1) hx hb dX0_freeSlot_22 (by decide) ?_
  refine lv_iadd hx hb dX0_freeSlot_23 ?_
  refine eb_ti (nI (j + 1)) (nI_add j 1) ?_
  refine lv_aload_n hx hb dX0_freeSlot_24 rfl (lv_at hl 1 rfl) ?_
  refine va_get (D := D) (ci := 0) (C := RX0) (T := TX0) (N := 16) hx hb hts hU hown hK hP 0 rfl rfl 6 (by decide) hf_order (fun _ h9 => h9) rfl dX0_freeSlot_25 ?_
  refine lv_iload_n hx hb dX0_freeSlot_28 rfl (lv_at hl 2 rfl) ?_
  refine lv_aload_n hx hb dX0_freeSlot_29 rfl (lv_at hl 1 rfl) ?_
  refine va_get (D := D) (ci := 0) (C := RX0) (T := TX0) (N := 16) hx hb hts hU hown hK hP 0 rfl rfl 7 (by decide) hf_entries (fun _ h9 => h9) rfl dX0_freeSlot_30 ?_
  refine lv_iload_n hx hb dX0_freeSlot_33 rfl (lv_at hl 2 rfl) ?_
  refine lv_isub hx hb dX0_freeSlot_34 ?_
  refine eb_ti (nI ((E - 1) - j)) (pk_sub (a := (E - 1)) (b := j) (by omega)) ?_
  refine eb_copyi hx hb (hml.trans hl.1.symm) hown (hts (.methodLink RX0 123 arraycopyName) (by decide +kernel)) (hts (.native arraycopyName) (by decide +kernel)) (hts (.static arraycopyName) (by decide +kernel)) (hts (.initialized "java/lang/System") (by decide +kernel)) hK hP hD hS 4 3 rfl rfl (j + 1) (j) ((E - 1) - j) (by omega) (by omega) (by decide) (Nat.le_of_ble_eq_true rfl) (by decide +kernel) dX0_freeSlot_35 (fun H locs hP hD hS => ?_)
  have hP : va_P D vwCl (XW q cs (nI K) wd ab kd dv dm (va_cpy ord ord (j + 1) j ((E - 1) - j)) (nI (E - 1)) nn ms nums pris pres fins vals msks) H := hP
  have hD : va_D A (XW q cs (nI K) wd ab kd dv dm (va_cpy ord ord (j + 1) j ((E - 1) - j)) (nI (E - 1)) nn ms nums pris pres fins vals msks) := hD
  refine lv_aload_n hx hb dX0_freeSlot_38 rfl (lv_at hl 1 rfl) ?_
  refine va_get (D := D) (ci := 0) (C := RX0) (T := TX0) (N := 16) hx hb hts hU hown hK hP 0 rfl rfl 6 (by decide) hf_order (fun _ h9 => h9) rfl dX0_freeSlot_39 ?_
  refine lv_aload_n hx hb dX0_freeSlot_42 rfl (lv_at hl 1 rfl) ?_
  refine va_get (D := D) (ci := 0) (C := RX0) (T := TX0) (N := 16) hx hb hts hU hown hK hP 0 rfl rfl 7 (by decide) hf_entries (fun _ h9 => h9) rfl dX0_freeSlot_43 ?_
  refine lv_iload_n hx hb dX0_freeSlot_46 rfl (lv_at hl 0 rfl) ?_
  refine eb_iast hx hb hK hP hD hS 4 3 rfl rfl (E - 1) (by omega) (by decide) dX0_freeSlot_47 (fun H locs hP hD hS => ?_)
  have hP : va_P D vwCl (XW q cs (nI K) wd ab kd dv dm (upd (va_cpy ord ord (j + 1) j ((E - 1) - j)) (E - 1) (ord j)) (nI (E - 1)) nn ms nums pris pres fins vals msks) H := hP
  have hD : va_D A (XW q cs (nI K) wd ab kd dv dm (upd (va_cpy ord ord (j + 1) j ((E - 1) - j)) (E - 1) (ord j)) (nI (E - 1)) nn ms nums pris pres fins vals msks) := hD
  refine eb_vret hx hb hr hlk hK hP hD hS dX0_freeSlot_48 ?_
  exact rfl

set_option maxHeartbeats 4000000 in
set_option maxRecDepth 100000 in
theorem tX_fillSlot (l : Launch) (D : va_G) (q : Nat → Nat) (cs : Nat → ClassId) {K E : Nat} {wd : Int32} {ab : Int64} {kd : Nat → Int32} {dv dm : Nat → Int64} {ord : Nat → Int32} {nn ms : Int32} {nums pris pres fins : Nat → Int32} {vals msks : Nat → Int64} (hK3 : K ≤ 3) (s0 : Nat) (hs0 : s0 < 24) (pp : Int32) : eb_MV l D vwCl (XTy cs) yX0_fillSlot wsX0_fillSlot { frames := 1, cells := 0, slots := 0, locals := 40 } [.ref (q 0), .int (nI s0), .int pp] (XW q cs (nI K) wd ab kd dv dm ord (nI E) nn ms nums pris pres fins vals msks) (fun w1 => ∃ vals1 msks1 : Nat → Int64, w1 = XW q cs (nI K) wd ab kd dv dm ord (nI E) (nn + 1) ms (upd nums s0 nn) (upd pris s0 pp) (upd pres s0 (et_pf K kd dm).toInt32) (upd fins s0 0) vals1 msks1 ∧ et_fl vals vals1 dv (s0 * 3) K ∧ et_fl msks msks1 (fun j => et_db ab (kd j) (dm j)) (s0 * 3) K) := by
  refine eb_openV (cc := cX0_fillSlot) (maxL := 4) (ret := none) (by decide +kernel) rfl (Nat.le_of_ble_eq_true rfl) ?_
  intro p e s m below meth c A ls H locs hx hb hr hts hown hlk hml hP hK hD hA hS hl
  have hU : ∀ w ∈ wsX00, w ∈ wsX0_fillSlot := fun w h => List.mem_cons_of_mem _ (List.mem_append_right _ h)
  have hf_numbers := hts (.fieldLink RX0 33 "EntryTable" "numbers" "[I") (by decide +kernel)
  have hf_nextNumber := hts (.fieldLink RX0 27 "EntryTable" "nextNumber" "I") (by decide +kernel)
  have hf_priorities := hts (.fieldLink RX0 36 "EntryTable" "priorities" "[I") (by decide +kernel)
  have hf_prefixes := hts (.fieldLink RX0 39 "EntryTable" "prefixes" "[I") (by decide +kernel)
  have hf_finds := hts (.fieldLink RX0 42 "EntryTable" "finds" "[I") (by decide +kernel)
  have hf_keys := hts (.fieldLink RX0 60 "EntryTable" "keys" "I") (by decide +kernel)
  have hf_values := hts (.fieldLink RX0 45 "EntryTable" "values" "[J") (by decide +kernel)
  have hf_draftValues := hts (.fieldLink RX0 13 "EntryTable" "draftValues" "[J") (by decide +kernel)
  have hf_masks := hts (.fieldLink RX0 48 "EntryTable" "masks" "[J") (by decide +kernel)
  have hl : lv_has ls 4 [(0, .ref (q 0)), (1, .int (nI s0)), (2, .int pp)] := hl
  refine lv_aload_n hx hb dX0_fillSlot_0 rfl (lv_at hl 0 rfl) ?_
  refine va_get (D := D) (ci := 0) (C := RX0) (T := TX0) (N := 16) hx hb hts hU hown hK hP 0 rfl rfl 10 (by decide) hf_numbers (fun _ h9 => h9) rfl dX0_fillSlot_1 ?_
  refine lv_iload_n hx hb dX0_fillSlot_4 rfl (lv_at hl 1 rfl) ?_
  refine lv_aload_n hx hb dX0_fillSlot_5 rfl (lv_at hl 0 rfl) ?_
  refine va_get (D := D) (ci := 0) (C := RX0) (T := TX0) (N := 16) hx hb hts hU hown hK hP 0 rfl rfl 8 (by decide) hf_nextNumber (fun _ h9 => h9) rfl dX0_fillSlot_6 ?_
  refine eb_iast hx hb hK hP hD hS 5 4 rfl rfl (s0) (by omega) (by decide) dX0_fillSlot_9 (fun H locs hP hD hS => ?_)
  have hP : va_P D vwCl (XW q cs (nI K) wd ab kd dv dm ord (nI E) nn ms (upd nums s0 nn) pris pres fins vals msks) H := hP
  have hD : va_D A (XW q cs (nI K) wd ab kd dv dm ord (nI E) nn ms (upd nums s0 nn) pris pres fins vals msks) := hD
  refine lv_aload_n hx hb dX0_fillSlot_10 rfl (lv_at hl 0 rfl) ?_
  refine lv_dup hx hb dX0_fillSlot_11 rfl ?_
  refine va_get (D := D) (ci := 0) (C := RX0) (T := TX0) (N := 16) hx hb hts hU hown hK hP 0 rfl rfl 8 (by decide) hf_nextNumber (fun _ h9 => h9) rfl dX0_fillSlot_12 ?_
  refine lv_iconst (v := 1) hx hb dX0_fillSlot_15 (by decide) ?_
  refine lv_iadd hx hb dX0_fillSlot_16 ?_
  refine va_put (D := D) (ci := 0) (ty := .int) (C := RX0) (T := TX0) (N := 16) hx hb hts hU tyX0 tyX0_ok nmX0 hown hK hP hD hS 0 rfl rfl 8 (by decide) hf_nextNumber (fun _ h9 => h9) rfl (by decide +kernel) rfl rfl (Nat.le_of_ble_eq_true rfl) dX0_fillSlot_17 (fun H locs hP hD hS => ?_)
  have hP : va_P D vwCl (XW q cs (nI K) wd ab kd dv dm ord (nI E) (nn + 1) ms (upd nums s0 nn) pris pres fins vals msks) H := hP
  have hD : va_D A (XW q cs (nI K) wd ab kd dv dm ord (nI E) (nn + 1) ms (upd nums s0 nn) pris pres fins vals msks) := hD
  refine lv_aload_n hx hb dX0_fillSlot_20 rfl (lv_at hl 0 rfl) ?_
  refine va_get (D := D) (ci := 0) (C := RX0) (T := TX0) (N := 16) hx hb hts hU hown hK hP 0 rfl rfl 11 (by decide) hf_priorities (fun _ h9 => h9) rfl dX0_fillSlot_21 ?_
  refine lv_iload_n hx hb dX0_fillSlot_24 rfl (lv_at hl 1 rfl) ?_
  refine lv_iload_n hx hb dX0_fillSlot_25 rfl (lv_at hl 2 rfl) ?_
  refine eb_iast hx hb hK hP hD hS 6 5 rfl rfl (s0) (by omega) (by decide) dX0_fillSlot_26 (fun H locs hP hD hS => ?_)
  have hP : va_P D vwCl (XW q cs (nI K) wd ab kd dv dm ord (nI E) (nn + 1) ms (upd nums s0 nn) (upd pris s0 pp) pres fins vals msks) H := hP
  have hD : va_D A (XW q cs (nI K) wd ab kd dv dm ord (nI E) (nn + 1) ms (upd nums s0 nn) (upd pris s0 pp) pres fins vals msks) := hD
  refine lv_aload_n hx hb dX0_fillSlot_27 rfl (lv_at hl 0 rfl) ?_
  refine va_get (D := D) (ci := 0) (C := RX0) (T := TX0) (N := 16) hx hb hts hU hown hK hP 0 rfl rfl 12 (by decide) hf_prefixes (fun _ h9 => h9) rfl dX0_fillSlot_28 ?_
  refine lv_iload_n hx hb dX0_fillSlot_31 rfl (lv_at hl 1 rfl) ?_
  refine lv_aload_n hx hb dX0_fillSlot_32 rfl (lv_at hl 0 rfl) ?_
  refine eb_calli (As := []) (rest := [.int (nI s0), .ref (q 7)]) ⟨hx, hb, hml, hown, hts⟩ (tX_draftPrefix l D q cs hK3) (cwV 0 hts gX0_fillSlot_X0_draftPrefix rfl rfl rfl (by decide +kernel) ⟨Nat.le_of_ble_eq_true rfl, Nat.le_of_ble_eq_true rfl⟩) hK hP hD hS hA rfl rfl rfl rfl hl.1 rfl (Nat.le_of_ble_eq_true rfl) dX0_fillSlot_33 ⟨Nat.zero_le _, Nat.zero_le _⟩ (fun r1 w1 H locs hq hP hD hS => ?_)
  obtain ⟨rfl, rfl⟩ := hq
  refine eb_iast hx hb hK hP hD hS 7 6 rfl rfl (s0) (by omega) (by decide) dX0_fillSlot_36 (fun H locs hP hD hS => ?_)
  have hP : va_P D vwCl (XW q cs (nI K) wd ab kd dv dm ord (nI E) (nn + 1) ms (upd nums s0 nn) (upd pris s0 pp) (upd pres s0 ((et_pf K kd dm).toInt32)) fins vals msks) H := hP
  have hD : va_D A (XW q cs (nI K) wd ab kd dv dm ord (nI E) (nn + 1) ms (upd nums s0 nn) (upd pris s0 pp) (upd pres s0 ((et_pf K kd dm).toInt32)) fins vals msks) := hD
  refine lv_aload_n hx hb dX0_fillSlot_37 rfl (lv_at hl 0 rfl) ?_
  refine va_get (D := D) (ci := 0) (C := RX0) (T := TX0) (N := 16) hx hb hts hU hown hK hP 0 rfl rfl 13 (by decide) hf_finds (fun _ h9 => h9) rfl dX0_fillSlot_38 ?_
  refine lv_iload_n hx hb dX0_fillSlot_41 rfl (lv_at hl 1 rfl) ?_
  refine lv_iconst (v := 0) hx hb dX0_fillSlot_42 (by decide) ?_
  refine eb_iast hx hb hK hP hD hS 8 7 rfl rfl (s0) (by omega) (by decide) dX0_fillSlot_43 (fun H locs hP hD hS => ?_)
  have hP : va_P D vwCl (XW q cs (nI K) wd ab kd dv dm ord (nI E) (nn + 1) ms (upd nums s0 nn) (upd pris s0 pp) (upd pres s0 ((et_pf K kd dm).toInt32)) (upd fins s0 0) vals msks) H := hP
  have hD : va_D A (XW q cs (nI K) wd ab kd dv dm ord (nI E) (nn + 1) ms (upd nums s0 nn) (upd pris s0 pp) (upd pres s0 ((et_pf K kd dm).toInt32)) (upd fins s0 0) vals msks) := hD
  refine lv_iconst (v := 0) hx hb dX0_fillSlot_44 (by decide) ?_
  refine lv_istore_n hx hb dX0_fillSlot_45 rfl hl (by decide) rfl (fun ls hl => ?_)
  have hl : lv_has ls 4 [(3, .int 0), (0, .ref (q 0)), (1, .int (nI s0)), (2, .int pp)] := hl
  refine eb_for (fun (k : Nat) (ls : Array Slot) (H : Heap) (locs : List Loc) => ∃ vals1 : Nat → Int64, ∃ msks1 : Nat → Int64, lv_has ls 4 [(0, .ref (q 0)), (1, .int (nI s0)), (2, .int pp), (3, .int (nI k))] ∧ va_P D vwCl (XW q cs (nI K) wd ab kd dv dm ord (nI E) (nn + 1) ms (upd nums s0 nn) (upd pris s0 pp) (upd pres s0 ((et_pf K kd dm).toInt32)) (upd fins s0 0) vals1 msks1) H ∧ va_D A (XW q cs (nI K) wd ab kd dv dm ord (nI E) (nn + 1) ms (upd nums s0 nn) (upd pris s0 pp) (upd pres s0 ((et_pf K kd dm).toInt32)) (upd fins s0 0) vals1 msks1) ∧ va_S A s.heap H locs ∧ (et_fl vals vals1 dv (s0 * 3) k ∧ et_fl msks msks1 (fun j => et_db ab (kd j) (dm j)) (s0 * 3) k)) 46 (K) ?_ (K) (0) ls H locs (by omega) ⟨vals, msks, lv_sub hl [1, 2, 3, 0] rfl, hP, hD, hS, ⟨et_fl_0, et_fl_0⟩⟩
  intro k ls H locs hk hI hrec46
  obtain ⟨vals1, msks1, hl, hP, hD, hS, hi46⟩ := hI
  refine lv_iload_n hx hb dX0_fillSlot_46 rfl (lv_at hl 3 rfl) ?_
  refine lv_aload_n hx hb dX0_fillSlot_47 rfl (lv_at hl 0 rfl) ?_
  refine va_get (D := D) (ci := 0) (C := RX0) (T := TX0) (N := 16) hx hb hts hU hown hK hP 0 rfl rfl 0 (by decide) hf_keys (fun _ h9 => h9) rfl dX0_fillSlot_48 ?_
  refine lv_icmp_ge (tgt := 91) hx hb dX0_fillSlot_51 (by decide) (fun c51 => ?_) (fun c51 => ?_)
  · have c51 : nI K ≤ nI k := c51
    rw [nI_leI (by omega) (by omega)] at c51
    refine eb_vret hx hb hr hlk hK hP hD hS dX0_fillSlot_91 ?_
    have hkK : k = K := by omega
    subst hkK
    exact ⟨vals1, msks1, rfl, hi46.1, hi46.2⟩
  · have c51 : ¬ nI K ≤ nI k := c51
    rw [nI_leI (by omega) (by omega)] at c51
    refine lv_aload_n hx hb dX0_fillSlot_54 rfl (lv_at hl 0 rfl) ?_
    refine va_get (D := D) (ci := 0) (C := RX0) (T := TX0) (N := 16) hx hb hts hU hown hK hP 0 rfl rfl 14 (by decide) hf_values (fun _ h9 => h9) rfl dX0_fillSlot_55 ?_
    refine lv_iload_n hx hb dX0_fillSlot_58 rfl (lv_at hl 1 rfl) ?_
    refine lv_iconst (v := 3) hx hb dX0_fillSlot_59 (by decide) ?_
    refine lv_imul hx hb dX0_fillSlot_60 ?_
    refine eb_ti (nI (s0 * 3)) (pk_mul s0 3) ?_
    refine lv_iload_n hx hb dX0_fillSlot_61 rfl (lv_at hl 3 rfl) ?_
    refine lv_iadd hx hb dX0_fillSlot_62 ?_
    refine eb_ti (nI ((s0 * 3) + k)) (nI_add (s0 * 3) k) ?_
    refine lv_aload_n hx hb dX0_fillSlot_63 rfl (lv_at hl 0 rfl) ?_
    refine va_get (D := D) (ci := 0) (C := RX0) (T := TX0) (N := 16) hx hb hts hU hown hK hP 0 rfl rfl 4 (by decide) hf_draftValues (fun _ h9 => h9) rfl dX0_fillSlot_64 ?_
    refine lv_iload_n hx hb dX0_fillSlot_67 rfl (lv_at hl 3 rfl) ?_
    refine eb_lald hx hb hK hP 2 1 rfl rfl (k) (by omega) (by decide) dX0_fillSlot_68 ?_
    refine eb_last hx hb hK hP hD hS 9 8 rfl rfl ((s0 * 3) + k) (by omega) (by decide) dX0_fillSlot_69 (fun H locs hP hD hS => ?_)
    have hP : va_P D vwCl (XW q cs (nI K) wd ab kd dv dm ord (nI E) (nn + 1) ms (upd nums s0 nn) (upd pris s0 pp) (upd pres s0 ((et_pf K kd dm).toInt32)) (upd fins s0 0) (vp_updL vals1 ((s0 * 3) + k) (dv k)) msks1) H := hP
    have hD : va_D A (XW q cs (nI K) wd ab kd dv dm ord (nI E) (nn + 1) ms (upd nums s0 nn) (upd pris s0 pp) (upd pres s0 ((et_pf K kd dm).toInt32)) (upd fins s0 0) (vp_updL vals1 ((s0 * 3) + k) (dv k)) msks1) := hD
    refine lv_aload_n hx hb dX0_fillSlot_70 rfl (lv_at hl 0 rfl) ?_
    refine va_get (D := D) (ci := 0) (C := RX0) (T := TX0) (N := 16) hx hb hts hU hown hK hP 0 rfl rfl 15 (by decide) hf_masks (fun _ h9 => h9) rfl dX0_fillSlot_71 ?_
    refine lv_iload_n hx hb dX0_fillSlot_74 rfl (lv_at hl 1 rfl) ?_
    refine lv_iconst (v := 3) hx hb dX0_fillSlot_75 (by decide) ?_
    refine lv_imul hx hb dX0_fillSlot_76 ?_
    refine eb_ti (nI (s0 * 3)) (pk_mul s0 3) ?_
    refine lv_iload_n hx hb dX0_fillSlot_77 rfl (lv_at hl 3 rfl) ?_
    refine lv_iadd hx hb dX0_fillSlot_78 ?_
    refine eb_ti (nI ((s0 * 3) + k)) (nI_add (s0 * 3) k) ?_
    refine lv_aload_n hx hb dX0_fillSlot_79 rfl (lv_at hl 0 rfl) ?_
    refine lv_iload_n hx hb dX0_fillSlot_80 rfl (lv_at hl 3 rfl) ?_
    refine eb_calll (As := [.int (nI k)]) (rest := [.int (nI ((s0 * 3) + k)), .ref (q 10)]) ⟨hx, hb, hml, hown, hts⟩ (tX_draftBits l D q cs (k) (by omega)) (cwV 1 hts gX0_fillSlot_X0_draftBits rfl rfl rfl (by decide +kernel) ⟨Nat.le_of_ble_eq_true rfl, Nat.le_of_ble_eq_true rfl⟩) hK hP hD hS hA rfl rfl rfl rfl hl.1 rfl (Nat.le_of_ble_eq_true rfl) dX0_fillSlot_81 ⟨Nat.zero_le _, Nat.zero_le _⟩ (fun r2 w1 H locs hq hP hD hS => ?_)
    obtain ⟨rfl, rfl⟩ := hq
    refine eb_last hx hb hK hP hD hS 10 9 rfl rfl ((s0 * 3) + k) (by omega) (by decide) dX0_fillSlot_84 (fun H locs hP hD hS => ?_)
    have hP : va_P D vwCl (XW q cs (nI K) wd ab kd dv dm ord (nI E) (nn + 1) ms (upd nums s0 nn) (upd pris s0 pp) (upd pres s0 ((et_pf K kd dm).toInt32)) (upd fins s0 0) (vp_updL vals1 ((s0 * 3) + k) (dv k)) (vp_updL msks1 ((s0 * 3) + k) (et_db ab (kd k) (dm k)))) H := hP
    have hD : va_D A (XW q cs (nI K) wd ab kd dv dm ord (nI E) (nn + 1) ms (upd nums s0 nn) (upd pris s0 pp) (upd pres s0 ((et_pf K kd dm).toInt32)) (upd fins s0 0) (vp_updL vals1 ((s0 * 3) + k) (dv k)) (vp_updL msks1 ((s0 * 3) + k) (et_db ab (kd k) (dm k)))) := hD
    refine lv_iinc (k := 3) (v := nI (k + 1)) hx hb dX0_fillSlot_85 hl rfl (nI_add k 1) (by decide) rfl (fun ls hl => ?_)
    have hl : lv_has ls 4 [(3, .int (nI (k + 1))), (0, .ref (q 0)), (1, .int (nI s0)), (2, .int pp)] := hl
    refine lv_goto (tgt := 46) hx hb dX0_fillSlot_88 (by decide) ?_
    exact hrec46 ls H locs (by omega) ⟨(vp_updL vals1 ((s0 * 3) + k) (dv k)), (vp_updL msks1 ((s0 * 3) + k) (et_db ab (kd k) (dm k))), lv_sub hl [1, 2, 3, 0] rfl, hP, hD, hS, ⟨et_fl_s hi46.1 rfl, et_fl_s hi46.2 rfl⟩⟩

