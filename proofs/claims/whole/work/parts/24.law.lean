set_option maxHeartbeats 2000000 in
set_option maxRecDepth 100000 in
theorem whole_start {p : Program} {e : Env} {s : State} {m : MethodId} {below : List Frame} {meth : Method} {c : Code} (l : Launch) {b L : Nat} {xs : Nat → Int32} (hL : L ≤ 3587) (C0 : lw_At p s m meth c b L xs) : W p l e room_1 s m #[Value.ref b] below meth c s.heap [] 0 0 (lw_Z below #[Value.ref b] s) (entryFrame m ([Value.ref b] : List Value).toArray 4) := by
  obtain ⟨hx, hb, hr, hml, hown0, hts, hXs, hbl, hlk, -⟩ := C0
  have hown : s.vm.findClass RL = some m.cls := hown0
  have htsL : ∀ w ∈ wsL_law, w.before #[Value.ref b] s = true := fun w h => hts w (wsL_law_in w h)
  have hL31 : L < 2 ^ 31 := by omega
  obtain ⟨d0, i0, hk0⟩ := u_known (T := TX0) (N := 16) hts inX0 (hts (.instantiable RX0 16) (by decide +kernel))
  obtain ⟨d1, i1, hk1⟩ := u_known (T := TX1) (N := 14) hts inX1 (hts (.instantiable RX1 14) (by decide +kernel))
  obtain ⟨D, hK⟩ : ∃ D : va_G, va_K D vwCl [] s := ⟨_, et_K0 hk0 hk1⟩
  obtain ⟨A, hA, hA2⟩ : ∃ A : Nat → Prop, (∀ q, s.heap.size ≤ q → A q) ∧ (∀ q, A q → s.heap.size ≤ q) := ⟨fun q => s.heap.size ≤ q, fun _ h => h, fun _ h => h⟩
  have hbA : ¬ A b := fun h => by have := hA2 b h; omega
  have hP : va_P D vwCl [] s.heap := fun k q hk => by simp at hk
  have hD : va_D A [] := ⟨fun i j p q hi => by simp at hi, fun k q hk => by simp at hk⟩
  have hS : va_S A s.heap s.heap [] := va_S.rf
  obtain ⟨a1, ha1⟩ : ∃ a, a = if 0 < L then xs 0 else 0 := ⟨_, rfl⟩
  obtain ⟨a2, ha2⟩ : ∃ a, a = if 1 < L then xs 1 else 0 := ⟨_, rfl⟩
  obtain ⟨a3, ha3⟩ : ∃ a, a = if 2 < L then xs 2 else 0 := ⟨_, rfl⟩
  have hl := lv_entry ([.ref b]) (n := 4) (Nat.le_of_ble_eq_true rfl)
  rw [lg_entry_eq]
  generalize (lg_sl ([.ref b]) ++ List.replicate (4 - (lg_sl ([.ref b])).length) Slot.unset).toArray = ls at hl ⊢
  have hl : lv_has ls 4 [(0, .ref b)] := hl
  refine va_new (ci := 0) (fs := [.int 0, .int 0, .long 0, .null, .null, .null, .null, .int 0, .int 0, .int 0, .null, .null, .null, .null, .null, .null]) (C := RX0) (T := TX0) (N := 16) hx hb hts inX0 tyX0 tyX0_ok hown (hts (.classLink RL 7 RX0) (by decide +kernel)) (hts (.instantiable RX0 16) (by decide +kernel)) (hts (.initialized RX0) (by decide +kernel)) hK hP hD hS hA rfl et_fsX (Nat.le_of_ble_eq_true rfl) (Nat.le_of_ble_eq_true rfl) dL_law_0 (fun h0 H hP hD hS => ?_)
  refine lv_dup hx hb dL_law_3 rfl ?_
  refine lv_aload_n hx hb dL_law_4 rfl (lv_at hl 0 rfl) ?_
  refine lv_iconst (v := 0) hx hb dL_law_5 (by decide) ?_
  refine e3_cell (rest := [.ref h0, .ref h0]) ⟨hx, hb, hml, hown, htsL⟩ hL31 0 (by decide) a1 ha1 (va_cwS 2 htsL gL_law_L_cell rfl rfl rfl (by decide +kernel) ⟨Nat.le_of_ble_eq_true rfl, Nat.le_of_ble_eq_true rfl⟩) hXs hbl hbA hP hS hl.1 rfl (Nat.le_of_ble_eq_true rfl) dL_law_6 ⟨Nat.le_of_ble_eq_true rfl, Nat.le_of_ble_eq_true rfl⟩ (fun H locs hP hS => ?_)
  refine lv_aload_n hx hb dL_law_9 rfl (lv_at hl 0 rfl) ?_
  refine lv_iconst (v := 1) hx hb dL_law_10 (by decide) ?_
  refine e3_cell (rest := [.int a1, .ref h0, .ref h0]) ⟨hx, hb, hml, hown, htsL⟩ hL31 1 (by decide) a2 ha2 (va_cwS 2 htsL gL_law_L_cell rfl rfl rfl (by decide +kernel) ⟨Nat.le_of_ble_eq_true rfl, Nat.le_of_ble_eq_true rfl⟩) hXs hbl hbA hP hS hl.1 rfl (Nat.le_of_ble_eq_true rfl) dL_law_11 ⟨Nat.le_of_ble_eq_true rfl, Nat.le_of_ble_eq_true rfl⟩ (fun H locs hP hS => ?_)
  refine lv_aload_n hx hb dL_law_14 rfl (lv_at hl 0 rfl) ?_
  refine lv_iconst (v := 2) hx hb dL_law_15 (by decide) ?_
  refine e3_cell (rest := [.int a2, .int a1, .ref h0, .ref h0]) ⟨hx, hb, hml, hown, htsL⟩ hL31 2 (by decide) a3 ha3 (va_cwS 2 htsL gL_law_L_cell rfl rfl rfl (by decide +kernel) ⟨Nat.le_of_ble_eq_true rfl, Nat.le_of_ble_eq_true rfl⟩) hXs hbl hbA hP hS hl.1 rfl (Nat.le_of_ble_eq_true rfl) dL_law_16 ⟨Nat.le_of_ble_eq_true rfl, Nat.le_of_ble_eq_true rfl⟩ (fun H locs hP hS => ?_)
  refine e3_ctor (As := [.int a1, .int a2, .int a3]) (rest := [.ref h0]) (wx := []) (t1 := []) ⟨hx, hb, hml, hown, htsL⟩ (tX_init l D h0 a1 a2 a3) (cwI 3 htsL gL_law_X0_init rfl rfl rfl (htsL (.initialized RX0) (by decide +kernel)) (htsL (.methodLink RL 15 yX0_init) (by decide +kernel)) (htsL (.instanceMethod yX0_init) (by decide +kernel)) rfl (by decide +kernel) ⟨Nat.le_of_ble_eq_true rfl, Nat.le_of_ble_eq_true rfl⟩) hK hP hD hS hA rfl hl.1 rfl (Nat.le_of_ble_eq_true rfl) dL_law_19 ⟨Nat.le_of_ble_eq_true rfl, Nat.le_of_ble_eq_true rfl⟩ (fun u H locs hu hK hP hD hS => ?_)
  obtain ⟨q, cs, ord⟩ := u
  obtain ⟨hq0, hord⟩ := hu
  have hq0 : q 0 = h0 := hq0
  have hsx := et_SX_new (q := q) (cs := cs) (K := et_cl 3 a1) (w := et_cl 48 a3) (kd := et_kf (et_d0 a2) 3) hord
  have hP1 : va_P D vwCl (XW q cs (nI (et_cl 3 a1)) (nI (et_cl 48 a3)) (et_ab (et_cl 48 a3)) (et_kf (et_d0 a2) 3) (fun _ => 0) (fun _ => 0) ord 0 0 0 (fun _ => 0) (fun _ => 0) (fun _ => 0) (fun _ => 0) (fun _ => 0) (fun _ => 0)) H := hP
  have hD1 : va_D A (XW q cs (nI (et_cl 3 a1)) (nI (et_cl 48 a3)) (et_ab (et_cl 48 a3)) (et_kf (et_d0 a2) 3) (fun _ => 0) (fun _ => 0) ord 0 0 0 (fun _ => 0) (fun _ => 0) (fun _ => 0) (fun _ => 0) (fun _ => 0) (fun _ => 0)) := hD
  have hK1 : va_K D vwCl (XTy cs) s := hK
  subst hq0
  have hP := hP1
  have hD := hD1
  have hK := hK1
  clear hP1 hD1 hK1
  generalize hwx : (XW q cs (nI (et_cl 3 a1)) (nI (et_cl 48 a3)) (et_ab (et_cl 48 a3)) (et_kf (et_d0 a2) 3) (fun _ => 0) (fun _ => 0) ord 0 0 0 (fun _ => 0) (fun _ => 0) (fun _ => 0) (fun _ => 0) (fun _ => 0) (fun _ => 0)) = wx at hP hD hsx
  refine lv_astore_n hx hb dL_law_22 rfl hl (by decide) rfl (fun ls hl => ?_)
  have hl : lv_has ls 4 [(1, .ref (q 0)), (0, .ref b)] := hl
  refine va_new (ci := 1) (fs := [.int 0, .int 0, .null, .null, .null, .null, .null, .null, .null, .null, .null, .int 0, .int 0, .int 0]) (C := RX1) (T := TX1) (N := 14) hx hb hts inX1 tyX1 tyX1_ok hown (hts (.classLink RL 18 RX1) (by decide +kernel)) (hts (.instantiable RX1 14) (by decide +kernel)) (hts (.initialized RX1) (by decide +kernel)) hK hP hD hS hA rfl et_fsM (Nat.le_of_ble_eq_true rfl) (Nat.le_of_ble_eq_true rfl) dL_law_23 (fun g0 H hP hD hS => ?_)
  refine lv_dup hx hb dL_law_26 rfl ?_
  refine lv_aload_n hx hb dL_law_27 rfl (lv_at hl 1 rfl) ?_
  refine lv_iconst (v := 0) hx hb dL_law_28 (by decide) ?_
  refine e3_cell (rest := [.ref g0, .ref g0]) ⟨hx, hb, hml, hown, htsL⟩ hL31 0 (by decide) a1 ha1 (va_cwS 2 htsL gL_law_L_cell rfl rfl rfl (by decide +kernel) ⟨Nat.le_of_ble_eq_true rfl, Nat.le_of_ble_eq_true rfl⟩) hXs hbl hbA hP hS hl.1 rfl (Nat.le_of_ble_eq_true rfl) dL_law_29 ⟨Nat.le_of_ble_eq_true rfl, Nat.le_of_ble_eq_true rfl⟩ (fun H locs hP hS => ?_)
  refine lv_aload_n hx hb dL_law_32 rfl (lv_at hl 1 rfl) ?_
  refine lv_iconst (v := 1) hx hb dL_law_33 (by decide) ?_
  refine e3_cell (rest := [.int a1, .ref g0, .ref g0]) ⟨hx, hb, hml, hown, htsL⟩ hL31 1 (by decide) a2 ha2 (va_cwS 2 htsL gL_law_L_cell rfl rfl rfl (by decide +kernel) ⟨Nat.le_of_ble_eq_true rfl, Nat.le_of_ble_eq_true rfl⟩) hXs hbl hbA hP hS hl.1 rfl (Nat.le_of_ble_eq_true rfl) dL_law_34 ⟨Nat.le_of_ble_eq_true rfl, Nat.le_of_ble_eq_true rfl⟩ (fun H locs hP hS => ?_)
  refine lv_aload_n hx hb dL_law_37 rfl (lv_at hl 1 rfl) ?_
  refine lv_iconst (v := 2) hx hb dL_law_38 (by decide) ?_
  refine e3_cell (rest := [.int a2, .int a1, .ref g0, .ref g0]) ⟨hx, hb, hml, hown, htsL⟩ hL31 2 (by decide) a3 ha3 (va_cwS 2 htsL gL_law_L_cell rfl rfl rfl (by decide +kernel) ⟨Nat.le_of_ble_eq_true rfl, Nat.le_of_ble_eq_true rfl⟩) hXs hbl hbA hP hS hl.1 rfl (Nat.le_of_ble_eq_true rfl) dL_law_39 ⟨Nat.le_of_ble_eq_true rfl, Nat.le_of_ble_eq_true rfl⟩ (fun H locs hP hS => ?_)
  refine e3_ctor (As := [.int a1, .int a2, .int a3]) (rest := [.ref g0]) (wx := wx) (t1 := XTy cs) ⟨hx, hb, hml, hown, htsL⟩ (tM_init l D g0 a1 a2 a3) (cwI 3 htsL gL_law_X1_init rfl rfl rfl (htsL (.initialized RX1) (by decide +kernel)) (htsL (.methodLink RL 20 yX1_init) (by decide +kernel)) (htsL (.instanceMethod yX1_init) (by decide +kernel)) rfl (by decide +kernel) ⟨Nat.le_of_ble_eq_true rfl, Nat.le_of_ble_eq_true rfl⟩) hK hP hD hS hA rfl hl.1 rfl (Nat.le_of_ble_eq_true rfl) dL_law_42 ⟨Nat.le_of_ble_eq_true rfl, Nat.le_of_ble_eq_true rfl⟩ (fun u H locs hu hK hP hD hS => ?_)
  obtain ⟨q2, cs2⟩ := u
  have hu : q2 0 = g0 := hu
  have hsm := et_SM_new (q := q2) (cs := cs2) (K := et_cl 3 a1) (w := et_cl 48 a3) (kd := et_kf (et_d0 a2) 3)
  have hP1 : va_P D vwCl (wx ++ MW q2 cs2 (nI (et_cl 3 a1)) (nI (et_cl 48 a3)) (et_kf (et_d0 a2) 3) (fun _ => 0) (fun _ => 0) (fun _ => 0) (fun _ => 0) (fun _ => 0) (fun _ => 0) (fun _ => 0) (fun _ => 0) 0 0 0) H := hP
  have hD1 : va_D A (wx ++ MW q2 cs2 (nI (et_cl 3 a1)) (nI (et_cl 48 a3)) (et_kf (et_d0 a2) 3) (fun _ => 0) (fun _ => 0) (fun _ => 0) (fun _ => 0) (fun _ => 0) (fun _ => 0) (fun _ => 0) (fun _ => 0) 0 0 0) := hD
  have hK1 : va_K D vwCl (XTy cs ++ MTy cs2) s := hK
  subst hu
  have hP := hP1
  have hD := hD1
  have hK := hK1
  clear hP1 hD1 hK1
  generalize hwm : (MW q2 cs2 (nI (et_cl 3 a1)) (nI (et_cl 48 a3)) (et_kf (et_d0 a2) 3) (fun _ => 0) (fun _ => 0) (fun _ => 0) (fun _ => 0) (fun _ => 0) (fun _ => 0) (fun _ => 0) (fun _ => 0) 0 0 0) = wm at hP hD hsm
  have hK3 := (et_cl_in (h := 3) (by decide) a1).2
  have hw : et_cl 48 a3 < 49 := by have := (et_cl_in (h := 48) (by decide) a3).2; omega
  have hkd : ∀ k, k < 3 → et_kk (et_kf (et_d0 a2) 3 k) := fun k _ => et_kf_kk _ k
  clear hwx hwm ha1 ha2 ha3
  generalize et_cl 3 a1 = K at hsx hsm hK3
  generalize et_cl 48 a3 = w at hsx hsm hw
  generalize et_kf (et_d0 a2) 3 = kd at hsx hsm hkd
  refine lv_astore_n hx hb dL_law_45 rfl hl (by decide) rfl (fun ls hl => ?_)
  have hl : lv_has ls 4 [(2, .ref (q2 0)), (1, .ref (q 0)), (0, .ref b)] := hl
  refine lv_iconst (v := 3) hx hb dL_law_46 (by decide) ?_
  refine lv_istore_n hx hb dL_law_47 rfl hl (by decide) rfl (fun ls hl => ?_)
  have hl : lv_has ls 4 [(3, .int 3), (2, .ref (q2 0)), (1, .ref (q 0)), (0, .ref b)] := hl
  refine eb_for (fun (t : Nat) (ls : Array Slot) (H : Heap) (locs : List Loc) => ∃ (dv dm : et_F) (N : Nat) (ms : Int32) (B L0 : List et_E) (wx wm : va_W), lv_has ls 4 [(0, .ref b), (1, .ref (q 0)), (2, .ref (q2 0)), (3, .int (nI (3 + 7 * t)))] ∧ va_P D vwCl (wx ++ wm) H ∧ va_D A (wx ++ wm) ∧ va_S A s.heap H locs ∧ et_SX q cs K w kd dv dm N ms L0 wx ∧ et_SM q2 cs2 K w kd dv dm N ms B wm ∧ et_IV K w kd N B L0 ∧ N ≤ t) 48 512 ?_ 512 0 ls H locs (by omega) ⟨fun _ => 0, fun _ => 0, 0, 0, [], [], wx, wm, lv_sub hl [3, 2, 1, 0] rfl, hP, hD, hS, hsx, hsm, et_IV_new, Nat.le_refl 0⟩
  clear hP hD hS hl hsx hsm
  intro t ls H locs ht hI hrec
  obtain ⟨dv, dm, N, ms, B, L0, wx, wm, hl, hP, hD, hS, hsx, hsm, hIV, hNt⟩ := hI
  refine lv_iload_n hx hb dL_law_48 rfl (lv_at hl 3 rfl) ?_
  refine lv_aload_n hx hb dL_law_49 rfl (lv_at hl 0 rfl) ?_
  refine va_slen hx hb hXs hbl hbA hS dL_law_50 ?_
  refine lv_bipush (v := 7) hx hb dL_law_51 (by decide) ?_
  refine lv_isub hx hb dL_law_53 ?_
  refine lv_icmp_gt (tgt := 463) hx hb dL_law_54 (by decide) (fun c54 => ?_) (fun c54 => ?_)
  · refine lv_iconst (v := 1) hx hb dL_law_463 (by decide) ?_
    refine va_forget (fun q hq => hA2 _ (hS.2.2 q hq)) ?_
    refine W.widen (k := 21) (n := 531) (Nat.le_of_ble_eq_true rfl) (Nat.le_of_ble_eq_true rfl) ?_
    exact lw_ret hx hb hr hlk dL_law_464
  · have c54 : ¬ nI L - nI 7 < nI (3 + 7 * t) := c54
    rw [et_lc (by omega) (by omega)] at c54
    refine lv_aload_n hx hb dL_law_57 rfl (lv_at hl 0 rfl) ?_
    refine lv_iload_n hx hb dL_law_58 rfl (lv_at hl 3 rfl) ?_
    refine e3_sld hx hb hXs hbl hbA hS hL31 (3 + 7 * t) (by omega) dL_law_59 ?_
    refine lv_bipush (v := 7) hx hb dL_law_60 (by decide) ?_
    refine lv_iand hx hb dL_law_62 ?_
    obtain ⟨j, hj, hjx⟩ := pk_andE (xs (3 + 7 * t)) (m := 7) 3 (by decide)
    have hj : j < 8 := hj
    have hn : ∀ x ∈ B, et_n x < 2 ^ 31 := fun x hx => by have := (hIV.2.2.2 x hx).1; omega
    rcases (show j = 0 ∨ j = 1 ∨ j = 2 ∨ j = 3 ∨ j = 4 ∨ j = 5 ∨ j = 6 ∨ j = 7 by omega) with rfl | rfl | rfl | rfl | rfl | rfl | rfl | rfl
    · refine eb_ti (nI 0) hjx ?_
      refine lv_tableIn (tgt := 104) hx hb dL_law_63 (by decide) (by decide) rfl (by decide) ?_
      refine lv_aload_n hx hb dL_law_104 rfl (lv_at hl 1 rfl) ?_
      refine lv_aload_n hx hb dL_law_105 rfl (lv_at hl 0 rfl) ?_
      refine lv_iload_n hx hb dL_law_106 rfl (lv_at hl 3 rfl) ?_
      refine lv_iconst (v := 1) hx hb dL_law_107 (by decide) ?_
      refine lv_iadd hx hb dL_law_108 ?_
      refine eb_ti (nI ((3 + 7 * t) + 1)) (nI_add (3 + 7 * t) 1) ?_
      refine e3_sld hx hb hXs hbl hbA hS hL31 ((3 + 7 * t) + 1) (by omega) dL_law_109 ?_
      refine lv_aload_n hx hb dL_law_110 rfl (lv_at hl 0 rfl) ?_
      refine lv_iload_n hx hb dL_law_111 rfl (lv_at hl 3 rfl) ?_
      refine lv_iconst (v := 2) hx hb dL_law_112 (by decide) ?_
      refine lv_iadd hx hb dL_law_113 ?_
      refine eb_ti (nI ((3 + 7 * t) + 2)) (nI_add (3 + 7 * t) 2) ?_
      refine e3_sld hx hb hXs hbl hbA hS hL31 ((3 + 7 * t) + 2) (by omega) dL_law_114 ?_
      refine lv_i2l hx hb dL_law_115 rfl ?_
      refine lv_bipush (v := 32) hx hb dL_law_116 (by decide) ?_
      refine lv_lshl hx hb dL_law_118 rfl ?_
      refine lv_aload_n hx hb dL_law_119 rfl (lv_at hl 0 rfl) ?_
      refine lv_iload_n hx hb dL_law_120 rfl (lv_at hl 3 rfl) ?_
      refine lv_iconst (v := 3) hx hb dL_law_121 (by decide) ?_
      refine lv_iadd hx hb dL_law_122 ?_
      refine eb_ti (nI ((3 + 7 * t) + 3)) (nI_add (3 + 7 * t) 3) ?_
      refine e3_sld hx hb hXs hbl hbA hS hL31 ((3 + 7 * t) + 3) (by omega) dL_law_123 ?_
      refine lv_i2l hx hb dL_law_124 rfl ?_
      refine lv_ldc2 (v := 4294967295) hx hb hown (hts (.constantLong RL 21 4294967295) (by decide +kernel)) dL_law_125 ?_
      refine lv_land hx hb dL_law_128 ?_
      refine lv_lor hx hb dL_law_129 ?_
      refine lv_aload_n hx hb dL_law_130 rfl (lv_at hl 0 rfl) ?_
      refine lv_iload_n hx hb dL_law_131 rfl (lv_at hl 3 rfl) ?_
      refine lv_iconst (v := 4) hx hb dL_law_132 (by decide) ?_
      refine lv_iadd hx hb dL_law_133 ?_
      refine eb_ti (nI ((3 + 7 * t) + 4)) (nI_add (3 + 7 * t) 4) ?_
      refine e3_sld hx hb hXs hbl hbA hS hL31 ((3 + 7 * t) + 4) (by omega) dL_law_134 ?_
      refine lv_i2l hx hb dL_law_135 rfl ?_
      refine lv_bipush (v := 32) hx hb dL_law_136 (by decide) ?_
      refine lv_lshl hx hb dL_law_138 rfl ?_
      refine lv_aload_n hx hb dL_law_139 rfl (lv_at hl 0 rfl) ?_
      refine lv_iload_n hx hb dL_law_140 rfl (lv_at hl 3 rfl) ?_
      refine lv_iconst (v := 5) hx hb dL_law_141 (by decide) ?_
      refine lv_iadd hx hb dL_law_142 ?_
      refine eb_ti (nI ((3 + 7 * t) + 5)) (nI_add (3 + 7 * t) 5) ?_
      refine e3_sld hx hb hXs hbl hbA hS hL31 ((3 + 7 * t) + 5) (by omega) dL_law_143 ?_
      refine lv_i2l hx hb dL_law_144 rfl ?_
      refine lv_ldc2 (v := 4294967295) hx hb hown (hts (.constantLong RL 21 4294967295) (by decide +kernel)) dL_law_145 ?_
      refine lv_land hx hb dL_law_148 ?_
      refine lv_lor hx hb dL_law_149 ?_
      obtain ⟨o, ord, nums, pris, pres, fins, vals, msks, hC, rfl⟩ := hsx
      refine e3_calll (As := [.int (xs ((3 + 7 * t) + 1)), .long ((((xs ((3 + 7 * t) + 2)).toInt64) <<< ((32 : Int32).toInt64 &&& 63)) ||| (((xs ((3 + 7 * t) + 3)).toInt64) &&& 4294967295)), .long ((((xs ((3 + 7 * t) + 4)).toInt64) <<< ((32 : Int32).toInt64 &&& 63)) ||| (((xs ((3 + 7 * t) + 5)).toInt64) &&& 4294967295))]) (rest := []) ⟨hx, hb, hml, hown, htsL⟩ (tX_match l D q cs hK3 o hC (xs ((3 + 7 * t) + 1)) ((((xs ((3 + 7 * t) + 2)).toInt64) <<< ((32 : Int32).toInt64 &&& 63)) ||| (((xs ((3 + 7 * t) + 3)).toInt64) &&& 4294967295)) ((((xs ((3 + 7 * t) + 4)).toInt64) <<< ((32 : Int32).toInt64 &&& 63)) ||| (((xs ((3 + 7 * t) + 5)).toInt64) &&& 4294967295))) (cwV 3 htsL gL_law_X0_match rfl rfl rfl (by decide +kernel) ⟨Nat.le_of_ble_eq_true rfl, Nat.le_of_ble_eq_true rfl⟩) hK hP hD hS hA rfl rfl rfl rfl hl.1 rfl (Nat.le_of_ble_eq_true rfl) dL_law_150 ⟨Nat.le_of_ble_eq_true rfl, Nat.le_of_ble_eq_true rfl⟩ (fun r1 w1 H locs hq1 hP hD hS => ?_)
      refine lv_aload_n hx hb dL_law_153 rfl (lv_at hl 2 rfl) ?_
      refine lv_aload_n hx hb dL_law_154 rfl (lv_at hl 0 rfl) ?_
      refine lv_iload_n hx hb dL_law_155 rfl (lv_at hl 3 rfl) ?_
      refine lv_iconst (v := 1) hx hb dL_law_156 (by decide) ?_
      refine lv_iadd hx hb dL_law_157 ?_
      refine eb_ti (nI ((3 + 7 * t) + 1)) (nI_add (3 + 7 * t) 1) ?_
      refine e3_sld hx hb hXs hbl hbA hS hL31 ((3 + 7 * t) + 1) (by omega) dL_law_158 ?_
      refine lv_aload_n hx hb dL_law_159 rfl (lv_at hl 0 rfl) ?_
      refine lv_iload_n hx hb dL_law_160 rfl (lv_at hl 3 rfl) ?_
      refine lv_iconst (v := 2) hx hb dL_law_161 (by decide) ?_
      refine lv_iadd hx hb dL_law_162 ?_
      refine eb_ti (nI ((3 + 7 * t) + 2)) (nI_add (3 + 7 * t) 2) ?_
      refine e3_sld hx hb hXs hbl hbA hS hL31 ((3 + 7 * t) + 2) (by omega) dL_law_163 ?_
      refine lv_i2l hx hb dL_law_164 rfl ?_
      refine lv_bipush (v := 32) hx hb dL_law_165 (by decide) ?_
      refine lv_lshl hx hb dL_law_167 rfl ?_
      refine lv_aload_n hx hb dL_law_168 rfl (lv_at hl 0 rfl) ?_
      refine lv_iload_n hx hb dL_law_169 rfl (lv_at hl 3 rfl) ?_
      refine lv_iconst (v := 3) hx hb dL_law_170 (by decide) ?_
      refine lv_iadd hx hb dL_law_171 ?_
      refine eb_ti (nI ((3 + 7 * t) + 3)) (nI_add (3 + 7 * t) 3) ?_
      refine e3_sld hx hb hXs hbl hbA hS hL31 ((3 + 7 * t) + 3) (by omega) dL_law_172 ?_
      refine lv_i2l hx hb dL_law_173 rfl ?_
      refine lv_ldc2 (v := 4294967295) hx hb hown (hts (.constantLong RL 21 4294967295) (by decide +kernel)) dL_law_174 ?_
      refine lv_land hx hb dL_law_177 ?_
      refine lv_lor hx hb dL_law_178 ?_
      refine lv_aload_n hx hb dL_law_179 rfl (lv_at hl 0 rfl) ?_
      refine lv_iload_n hx hb dL_law_180 rfl (lv_at hl 3 rfl) ?_
      refine lv_iconst (v := 4) hx hb dL_law_181 (by decide) ?_
      refine lv_iadd hx hb dL_law_182 ?_
      refine eb_ti (nI ((3 + 7 * t) + 4)) (nI_add (3 + 7 * t) 4) ?_
      refine e3_sld hx hb hXs hbl hbA hS hL31 ((3 + 7 * t) + 4) (by omega) dL_law_183 ?_
      refine lv_i2l hx hb dL_law_184 rfl ?_
      refine lv_bipush (v := 32) hx hb dL_law_185 (by decide) ?_
      refine lv_lshl hx hb dL_law_187 rfl ?_
      refine lv_aload_n hx hb dL_law_188 rfl (lv_at hl 0 rfl) ?_
      refine lv_iload_n hx hb dL_law_189 rfl (lv_at hl 3 rfl) ?_
      refine lv_iconst (v := 5) hx hb dL_law_190 (by decide) ?_
      refine lv_iadd hx hb dL_law_191 ?_
      refine eb_ti (nI ((3 + 7 * t) + 5)) (nI_add (3 + 7 * t) 5) ?_
      refine e3_sld hx hb hXs hbl hbA hS hL31 ((3 + 7 * t) + 5) (by omega) dL_law_192 ?_
      refine lv_i2l hx hb dL_law_193 rfl ?_
      refine lv_ldc2 (v := 4294967295) hx hb hown (hts (.constantLong RL 21 4294967295) (by decide +kernel)) dL_law_194 ?_
      refine lv_land hx hb dL_law_197 ?_
      refine lv_lor hx hb dL_law_198 ?_
      obtain ⟨num, pri, hit, val, msk, ask, hR, rfl⟩ := hsm
      refine e3_callr (As := [.int (xs ((3 + 7 * t) + 1)), .long ((((xs ((3 + 7 * t) + 2)).toInt64) <<< ((32 : Int32).toInt64 &&& 63)) ||| (((xs ((3 + 7 * t) + 3)).toInt64) &&& 4294967295)), .long ((((xs ((3 + 7 * t) + 4)).toInt64) <<< ((32 : Int32).toInt64 &&& 63)) ||| (((xs ((3 + 7 * t) + 5)).toInt64) &&& 4294967295))]) (rest := [.int r1]) ⟨hx, hb, hml, hown, hts⟩ (tM_match l D q2 cs2 hK3 hR (xs ((3 + 7 * t) + 1)) ((((xs ((3 + 7 * t) + 2)).toInt64) <<< ((32 : Int32).toInt64 &&& 63)) ||| (((xs ((3 + 7 * t) + 3)).toInt64) &&& 4294967295)) ((((xs ((3 + 7 * t) + 4)).toInt64) <<< ((32 : Int32).toInt64 &&& 63)) ||| (((xs ((3 + 7 * t) + 5)).toInt64) &&& 4294967295))) (cwV 3 hts gLM_match rfl rfl rfl (by decide +kernel) ⟨Nat.le_of_ble_eq_true rfl, Nat.le_of_ble_eq_true rfl⟩) hK hP hD hS hA rfl rfl rfl rfl hl.1 rfl (Nat.le_of_ble_eq_true rfl) dL_law_199 ⟨Nat.le_of_ble_eq_true rfl, Nat.le_of_ble_eq_true rfl⟩ (fun r2 w2 H locs hq2 hP hD hS => ?_)
      obtain ⟨he, hgo⟩ := et_agm hIV hq1 hq2
      refine lv_icmp_eq (tgt := 457) hx hb dL_law_202 (by decide) (fun _ => ?_) (fun c9 => absurd he c9)
      refine lv_iinc (k := 3) (v := nI (3 + 7 * (t + 1))) hx hb dL_law_457 hl rfl ((nI_add (3 + 7 * t) 7).trans (congrArg nI (by omega))) (by decide) rfl (fun ls hl => ?_)
      have hl : lv_has ls 4 [(3, .int (nI (3 + 7 * (t + 1)))), (0, .ref b), (1, .ref (q 0)), (2, .ref (q2 0))] := hl
      refine lv_goto (tgt := 48) hx hb dL_law_460 (by decide) ?_
      obtain ⟨dv1, dm1, N1, ms1, B1, L1, hN1, hIV1, hsx1, hsm1⟩ := hgo
      exact hrec ls H locs (by omega) ⟨dv1, dm1, N1, ms1, B1, L1, w1, w2, lv_sub hl [1, 2, 3, 0] rfl, hP, hD, hS, hsx1, hsm1, hIV1, by omega⟩
    · refine eb_ti (nI 1) hjx ?_
      refine lv_tableIn (tgt := 207) hx hb dL_law_63 (by decide) (by decide) rfl (by decide) ?_
      refine lv_aload_n hx hb dL_law_207 rfl (lv_at hl 1 rfl) ?_
      refine lv_aload_n hx hb dL_law_208 rfl (lv_at hl 0 rfl) ?_
      refine lv_iload_n hx hb dL_law_209 rfl (lv_at hl 3 rfl) ?_
      refine lv_iconst (v := 1) hx hb dL_law_210 (by decide) ?_
      refine lv_iadd hx hb dL_law_211 ?_
      refine eb_ti (nI ((3 + 7 * t) + 1)) (nI_add (3 + 7 * t) 1) ?_
      refine e3_sld hx hb hXs hbl hbA hS hL31 ((3 + 7 * t) + 1) (by omega) dL_law_212 ?_
      obtain ⟨o, ord, nums, pris, pres, fins, vals, msks, hC, rfl⟩ := hsx
      refine e3_calll (As := [.int (xs ((3 + 7 * t) + 1))]) (rest := []) ⟨hx, hb, hml, hown, htsL⟩ (tX_insert l D q cs hK3 o hC (xs ((3 + 7 * t) + 1))) (cwV 1 htsL gL_law_X0_insert rfl rfl rfl (by decide +kernel) ⟨Nat.le_of_ble_eq_true rfl, Nat.le_of_ble_eq_true rfl⟩) hK hP hD hS hA rfl rfl rfl rfl hl.1 rfl (Nat.le_of_ble_eq_true rfl) dL_law_213 ⟨Nat.le_of_ble_eq_true rfl, Nat.le_of_ble_eq_true rfl⟩ (fun r1 w1 H locs hq1 hP hD hS => ?_)
      refine lv_aload_n hx hb dL_law_216 rfl (lv_at hl 2 rfl) ?_
      refine lv_aload_n hx hb dL_law_217 rfl (lv_at hl 0 rfl) ?_
      refine lv_iload_n hx hb dL_law_218 rfl (lv_at hl 3 rfl) ?_
      refine lv_iconst (v := 1) hx hb dL_law_219 (by decide) ?_
      refine lv_iadd hx hb dL_law_220 ?_
      refine eb_ti (nI ((3 + 7 * t) + 1)) (nI_add (3 + 7 * t) 1) ?_
      refine e3_sld hx hb hXs hbl hbA hS hL31 ((3 + 7 * t) + 1) (by omega) dL_law_221 ?_
      obtain ⟨num, pri, hit, val, msk, ask, hR, rfl⟩ := hsm
      refine e3_callr (As := [.int (xs ((3 + 7 * t) + 1))]) (rest := [.int r1]) ⟨hx, hb, hml, hown, hts⟩ (tM_insert l D q2 cs2 hK3 hR (xs ((3 + 7 * t) + 1))) (cwV 1 hts gLM_insert rfl rfl rfl (by decide +kernel) ⟨Nat.le_of_ble_eq_true rfl, Nat.le_of_ble_eq_true rfl⟩) hK hP hD hS hA rfl rfl rfl rfl hl.1 rfl (Nat.le_of_ble_eq_true rfl) dL_law_222 ⟨Nat.le_of_ble_eq_true rfl, Nat.le_of_ble_eq_true rfl⟩ (fun r2 w2 H locs hq2 hP hD hS => ?_)
      obtain ⟨he, hgo⟩ := et_agi hK3 hw hkd hIV hq1 hq2
      refine lv_icmp_eq (tgt := 457) hx hb dL_law_225 (by decide) (fun _ => ?_) (fun c9 => absurd he c9)
      refine lv_iinc (k := 3) (v := nI (3 + 7 * (t + 1))) hx hb dL_law_457 hl rfl ((nI_add (3 + 7 * t) 7).trans (congrArg nI (by omega))) (by decide) rfl (fun ls hl => ?_)
      have hl : lv_has ls 4 [(3, .int (nI (3 + 7 * (t + 1)))), (0, .ref b), (1, .ref (q 0)), (2, .ref (q2 0))] := hl
      refine lv_goto (tgt := 48) hx hb dL_law_460 (by decide) ?_
      obtain ⟨dv1, dm1, N1, ms1, B1, L1, hN1, hIV1, hsx1, hsm1⟩ := hgo
      exact hrec ls H locs (by omega) ⟨dv1, dm1, N1, ms1, B1, L1, w1, w2, lv_sub hl [1, 2, 3, 0] rfl, hP, hD, hS, hsx1, hsm1, hIV1, by omega⟩
    · refine eb_ti (nI 2) hjx ?_
      refine lv_tableIn (tgt := 230) hx hb dL_law_63 (by decide) (by decide) rfl (by decide) ?_
      refine lv_aload_n hx hb dL_law_230 rfl (lv_at hl 1 rfl) ?_
      refine lv_aload_n hx hb dL_law_231 rfl (lv_at hl 0 rfl) ?_
      refine lv_iload_n hx hb dL_law_232 rfl (lv_at hl 3 rfl) ?_
      refine lv_iconst (v := 1) hx hb dL_law_233 (by decide) ?_
      refine lv_iadd hx hb dL_law_234 ?_
      refine eb_ti (nI ((3 + 7 * t) + 1)) (nI_add (3 + 7 * t) 1) ?_
      refine e3_sld hx hb hXs hbl hbA hS hL31 ((3 + 7 * t) + 1) (by omega) dL_law_235 ?_
      obtain ⟨o, ord, nums, pris, pres, fins, vals, msks, hC, rfl⟩ := hsx
      refine e3_calll (As := [.int (xs ((3 + 7 * t) + 1))]) (rest := []) ⟨hx, hb, hml, hown, htsL⟩ (tX_remove l D q cs hK3 o hC (xs ((3 + 7 * t) + 1))) (cwV 1 htsL gL_law_X0_remove rfl rfl rfl (by decide +kernel) ⟨Nat.le_of_ble_eq_true rfl, Nat.le_of_ble_eq_true rfl⟩) hK hP hD hS hA rfl rfl rfl rfl hl.1 rfl (Nat.le_of_ble_eq_true rfl) dL_law_236 ⟨Nat.le_of_ble_eq_true rfl, Nat.le_of_ble_eq_true rfl⟩ (fun r1 w1 H locs hq1 hP hD hS => ?_)
      refine lv_aload_n hx hb dL_law_239 rfl (lv_at hl 2 rfl) ?_
      refine lv_aload_n hx hb dL_law_240 rfl (lv_at hl 0 rfl) ?_
      refine lv_iload_n hx hb dL_law_241 rfl (lv_at hl 3 rfl) ?_
      refine lv_iconst (v := 1) hx hb dL_law_242 (by decide) ?_
      refine lv_iadd hx hb dL_law_243 ?_
      refine eb_ti (nI ((3 + 7 * t) + 1)) (nI_add (3 + 7 * t) 1) ?_
      refine e3_sld hx hb hXs hbl hbA hS hL31 ((3 + 7 * t) + 1) (by omega) dL_law_244 ?_
      obtain ⟨num, pri, hit, val, msk, ask, hR, rfl⟩ := hsm
      refine e3_callr (As := [.int (xs ((3 + 7 * t) + 1))]) (rest := [.int r1]) ⟨hx, hb, hml, hown, hts⟩ (tM_remove l D q2 cs2 hK3 hR (xs ((3 + 7 * t) + 1))) (cwV 1 hts gLM_remove rfl rfl rfl (by decide +kernel) ⟨Nat.le_of_ble_eq_true rfl, Nat.le_of_ble_eq_true rfl⟩) hK hP hD hS hA rfl rfl rfl rfl hl.1 rfl (Nat.le_of_ble_eq_true rfl) dL_law_245 ⟨Nat.le_of_ble_eq_true rfl, Nat.le_of_ble_eq_true rfl⟩ (fun r2 w2 H locs hq2 hP hD hS => ?_)
      obtain ⟨he, hgo⟩ := et_agr (by omega) hIV hq1 hq2
      refine lv_icmp_eq (tgt := 457) hx hb dL_law_248 (by decide) (fun _ => ?_) (fun c9 => absurd he c9)
      refine lv_iinc (k := 3) (v := nI (3 + 7 * (t + 1))) hx hb dL_law_457 hl rfl ((nI_add (3 + 7 * t) 7).trans (congrArg nI (by omega))) (by decide) rfl (fun ls hl => ?_)
      have hl : lv_has ls 4 [(3, .int (nI (3 + 7 * (t + 1)))), (0, .ref b), (1, .ref (q 0)), (2, .ref (q2 0))] := hl
      refine lv_goto (tgt := 48) hx hb dL_law_460 (by decide) ?_
      obtain ⟨dv1, dm1, N1, ms1, B1, L1, hN1, hIV1, hsx1, hsm1⟩ := hgo
      exact hrec ls H locs (by omega) ⟨dv1, dm1, N1, ms1, B1, L1, w1, w2, lv_sub hl [1, 2, 3, 0] rfl, hP, hD, hS, hsx1, hsm1, hIV1, by omega⟩
    · refine eb_ti (nI 3) hjx ?_
      refine lv_tableIn (tgt := 253) hx hb dL_law_63 (by decide) (by decide) rfl (by decide) ?_
      refine lv_aload_n hx hb dL_law_253 rfl (lv_at hl 1 rfl) ?_
      refine lv_aload_n hx hb dL_law_254 rfl (lv_at hl 0 rfl) ?_
      refine lv_iload_n hx hb dL_law_255 rfl (lv_at hl 3 rfl) ?_
      refine lv_iconst (v := 1) hx hb dL_law_256 (by decide) ?_
      refine lv_iadd hx hb dL_law_257 ?_
      refine eb_ti (nI ((3 + 7 * t) + 1)) (nI_add (3 + 7 * t) 1) ?_
      refine e3_sld hx hb hXs hbl hbA hS hL31 ((3 + 7 * t) + 1) (by omega) dL_law_258 ?_
      refine lv_i2l hx hb dL_law_259 rfl ?_
      refine lv_bipush (v := 32) hx hb dL_law_260 (by decide) ?_
      refine lv_lshl hx hb dL_law_262 rfl ?_
      refine lv_aload_n hx hb dL_law_263 rfl (lv_at hl 0 rfl) ?_
      refine lv_iload_n hx hb dL_law_264 rfl (lv_at hl 3 rfl) ?_
      refine lv_iconst (v := 2) hx hb dL_law_265 (by decide) ?_
      refine lv_iadd hx hb dL_law_266 ?_
      refine eb_ti (nI ((3 + 7 * t) + 2)) (nI_add (3 + 7 * t) 2) ?_
      refine e3_sld hx hb hXs hbl hbA hS hL31 ((3 + 7 * t) + 2) (by omega) dL_law_267 ?_
      refine lv_i2l hx hb dL_law_268 rfl ?_
      refine lv_ldc2 (v := 4294967295) hx hb hown (hts (.constantLong RL 21 4294967295) (by decide +kernel)) dL_law_269 ?_
      refine lv_land hx hb dL_law_272 ?_
      refine lv_lor hx hb dL_law_273 ?_
      refine lv_aload_n hx hb dL_law_274 rfl (lv_at hl 0 rfl) ?_
      refine lv_iload_n hx hb dL_law_275 rfl (lv_at hl 3 rfl) ?_
      refine lv_iconst (v := 3) hx hb dL_law_276 (by decide) ?_
      refine lv_iadd hx hb dL_law_277 ?_
      refine eb_ti (nI ((3 + 7 * t) + 3)) (nI_add (3 + 7 * t) 3) ?_
      refine e3_sld hx hb hXs hbl hbA hS hL31 ((3 + 7 * t) + 3) (by omega) dL_law_278 ?_
      refine lv_i2l hx hb dL_law_279 rfl ?_
      refine lv_bipush (v := 32) hx hb dL_law_280 (by decide) ?_
      refine lv_lshl hx hb dL_law_282 rfl ?_
      refine lv_aload_n hx hb dL_law_283 rfl (lv_at hl 0 rfl) ?_
      refine lv_iload_n hx hb dL_law_284 rfl (lv_at hl 3 rfl) ?_
      refine lv_iconst (v := 4) hx hb dL_law_285 (by decide) ?_
      refine lv_iadd hx hb dL_law_286 ?_
      refine eb_ti (nI ((3 + 7 * t) + 4)) (nI_add (3 + 7 * t) 4) ?_
      refine e3_sld hx hb hXs hbl hbA hS hL31 ((3 + 7 * t) + 4) (by omega) dL_law_287 ?_
      refine lv_i2l hx hb dL_law_288 rfl ?_
      refine lv_ldc2 (v := 4294967295) hx hb hown (hts (.constantLong RL 21 4294967295) (by decide +kernel)) dL_law_289 ?_
      refine lv_land hx hb dL_law_292 ?_
      refine lv_lor hx hb dL_law_293 ?_
      refine lv_aload_n hx hb dL_law_294 rfl (lv_at hl 0 rfl) ?_
      refine lv_iload_n hx hb dL_law_295 rfl (lv_at hl 3 rfl) ?_
      refine lv_iconst (v := 5) hx hb dL_law_296 (by decide) ?_
      refine lv_iadd hx hb dL_law_297 ?_
      refine eb_ti (nI ((3 + 7 * t) + 5)) (nI_add (3 + 7 * t) 5) ?_
      refine e3_sld hx hb hXs hbl hbA hS hL31 ((3 + 7 * t) + 5) (by omega) dL_law_298 ?_
      refine lv_i2l hx hb dL_law_299 rfl ?_
      refine lv_bipush (v := 32) hx hb dL_law_300 (by decide) ?_
      refine lv_lshl hx hb dL_law_302 rfl ?_
      refine lv_aload_n hx hb dL_law_303 rfl (lv_at hl 0 rfl) ?_
      refine lv_iload_n hx hb dL_law_304 rfl (lv_at hl 3 rfl) ?_
      refine lv_bipush (v := 6) hx hb dL_law_305 (by decide) ?_
      refine lv_iadd hx hb dL_law_307 ?_
      refine eb_ti (nI ((3 + 7 * t) + 6)) (nI_add (3 + 7 * t) 6) ?_
      refine e3_sld hx hb hXs hbl hbA hS hL31 ((3 + 7 * t) + 6) (by omega) dL_law_308 ?_
      refine lv_i2l hx hb dL_law_309 rfl ?_
      refine lv_ldc2 (v := 4294967295) hx hb hown (hts (.constantLong RL 21 4294967295) (by decide +kernel)) dL_law_310 ?_
      refine lv_land hx hb dL_law_313 ?_
      refine lv_lor hx hb dL_law_314 ?_
      obtain ⟨o, ord, nums, pris, pres, fins, vals, msks, hC, rfl⟩ := hsx
      refine e3_calll (As := [.long ((((xs ((3 + 7 * t) + 1)).toInt64) <<< ((32 : Int32).toInt64 &&& 63)) ||| (((xs ((3 + 7 * t) + 2)).toInt64) &&& 4294967295)), .long ((((xs ((3 + 7 * t) + 3)).toInt64) <<< ((32 : Int32).toInt64 &&& 63)) ||| (((xs ((3 + 7 * t) + 4)).toInt64) &&& 4294967295)), .long ((((xs ((3 + 7 * t) + 5)).toInt64) <<< ((32 : Int32).toInt64 &&& 63)) ||| (((xs ((3 + 7 * t) + 6)).toInt64) &&& 4294967295))]) (rest := []) ⟨hx, hb, hml, hown, htsL⟩ (tX_find l D q cs hK3 o hC ((((xs ((3 + 7 * t) + 1)).toInt64) <<< ((32 : Int32).toInt64 &&& 63)) ||| (((xs ((3 + 7 * t) + 2)).toInt64) &&& 4294967295)) ((((xs ((3 + 7 * t) + 3)).toInt64) <<< ((32 : Int32).toInt64 &&& 63)) ||| (((xs ((3 + 7 * t) + 4)).toInt64) &&& 4294967295)) ((((xs ((3 + 7 * t) + 5)).toInt64) <<< ((32 : Int32).toInt64 &&& 63)) ||| (((xs ((3 + 7 * t) + 6)).toInt64) &&& 4294967295))) (cwV 3 htsL gL_law_X0_find rfl rfl rfl (by decide +kernel) ⟨Nat.le_of_ble_eq_true rfl, Nat.le_of_ble_eq_true rfl⟩) hK hP hD hS hA rfl rfl rfl rfl hl.1 rfl (Nat.le_of_ble_eq_true rfl) dL_law_315 ⟨Nat.le_of_ble_eq_true rfl, Nat.le_of_ble_eq_true rfl⟩ (fun r1 w1 H locs hq1 hP hD hS => ?_)
      refine lv_aload_n hx hb dL_law_318 rfl (lv_at hl 2 rfl) ?_
      refine lv_aload_n hx hb dL_law_319 rfl (lv_at hl 0 rfl) ?_
      refine lv_iload_n hx hb dL_law_320 rfl (lv_at hl 3 rfl) ?_
      refine lv_iconst (v := 1) hx hb dL_law_321 (by decide) ?_
      refine lv_iadd hx hb dL_law_322 ?_
      refine eb_ti (nI ((3 + 7 * t) + 1)) (nI_add (3 + 7 * t) 1) ?_
      refine e3_sld hx hb hXs hbl hbA hS hL31 ((3 + 7 * t) + 1) (by omega) dL_law_323 ?_
      refine lv_i2l hx hb dL_law_324 rfl ?_
      refine lv_bipush (v := 32) hx hb dL_law_325 (by decide) ?_
      refine lv_lshl hx hb dL_law_327 rfl ?_
      refine lv_aload_n hx hb dL_law_328 rfl (lv_at hl 0 rfl) ?_
      refine lv_iload_n hx hb dL_law_329 rfl (lv_at hl 3 rfl) ?_
      refine lv_iconst (v := 2) hx hb dL_law_330 (by decide) ?_
      refine lv_iadd hx hb dL_law_331 ?_
      refine eb_ti (nI ((3 + 7 * t) + 2)) (nI_add (3 + 7 * t) 2) ?_
      refine e3_sld hx hb hXs hbl hbA hS hL31 ((3 + 7 * t) + 2) (by omega) dL_law_332 ?_
      refine lv_i2l hx hb dL_law_333 rfl ?_
      refine lv_ldc2 (v := 4294967295) hx hb hown (hts (.constantLong RL 21 4294967295) (by decide +kernel)) dL_law_334 ?_
      refine lv_land hx hb dL_law_337 ?_
      refine lv_lor hx hb dL_law_338 ?_
      refine lv_aload_n hx hb dL_law_339 rfl (lv_at hl 0 rfl) ?_
      refine lv_iload_n hx hb dL_law_340 rfl (lv_at hl 3 rfl) ?_
      refine lv_iconst (v := 3) hx hb dL_law_341 (by decide) ?_
      refine lv_iadd hx hb dL_law_342 ?_
      refine eb_ti (nI ((3 + 7 * t) + 3)) (nI_add (3 + 7 * t) 3) ?_
      refine e3_sld hx hb hXs hbl hbA hS hL31 ((3 + 7 * t) + 3) (by omega) dL_law_343 ?_
      refine lv_i2l hx hb dL_law_344 rfl ?_
      refine lv_bipush (v := 32) hx hb dL_law_345 (by decide) ?_
      refine lv_lshl hx hb dL_law_347 rfl ?_
      refine lv_aload_n hx hb dL_law_348 rfl (lv_at hl 0 rfl) ?_
      refine lv_iload_n hx hb dL_law_349 rfl (lv_at hl 3 rfl) ?_
      refine lv_iconst (v := 4) hx hb dL_law_350 (by decide) ?_
      refine lv_iadd hx hb dL_law_351 ?_
      refine eb_ti (nI ((3 + 7 * t) + 4)) (nI_add (3 + 7 * t) 4) ?_
      refine e3_sld hx hb hXs hbl hbA hS hL31 ((3 + 7 * t) + 4) (by omega) dL_law_352 ?_
      refine lv_i2l hx hb dL_law_353 rfl ?_
      refine lv_ldc2 (v := 4294967295) hx hb hown (hts (.constantLong RL 21 4294967295) (by decide +kernel)) dL_law_354 ?_
      refine lv_land hx hb dL_law_357 ?_
      refine lv_lor hx hb dL_law_358 ?_
      refine lv_aload_n hx hb dL_law_359 rfl (lv_at hl 0 rfl) ?_
      refine lv_iload_n hx hb dL_law_360 rfl (lv_at hl 3 rfl) ?_
      refine lv_iconst (v := 5) hx hb dL_law_361 (by decide) ?_
      refine lv_iadd hx hb dL_law_362 ?_
      refine eb_ti (nI ((3 + 7 * t) + 5)) (nI_add (3 + 7 * t) 5) ?_
      refine e3_sld hx hb hXs hbl hbA hS hL31 ((3 + 7 * t) + 5) (by omega) dL_law_363 ?_
      refine lv_i2l hx hb dL_law_364 rfl ?_
      refine lv_bipush (v := 32) hx hb dL_law_365 (by decide) ?_
      refine lv_lshl hx hb dL_law_367 rfl ?_
      refine lv_aload_n hx hb dL_law_368 rfl (lv_at hl 0 rfl) ?_
      refine lv_iload_n hx hb dL_law_369 rfl (lv_at hl 3 rfl) ?_
      refine lv_bipush (v := 6) hx hb dL_law_370 (by decide) ?_
      refine lv_iadd hx hb dL_law_372 ?_
      refine eb_ti (nI ((3 + 7 * t) + 6)) (nI_add (3 + 7 * t) 6) ?_
      refine e3_sld hx hb hXs hbl hbA hS hL31 ((3 + 7 * t) + 6) (by omega) dL_law_373 ?_
      refine lv_i2l hx hb dL_law_374 rfl ?_
      refine lv_ldc2 (v := 4294967295) hx hb hown (hts (.constantLong RL 21 4294967295) (by decide +kernel)) dL_law_375 ?_
      refine lv_land hx hb dL_law_378 ?_
      refine lv_lor hx hb dL_law_379 ?_
      obtain ⟨num, pri, hit, val, msk, ask, hR, rfl⟩ := hsm
      refine e3_callr (As := [.long ((((xs ((3 + 7 * t) + 1)).toInt64) <<< ((32 : Int32).toInt64 &&& 63)) ||| (((xs ((3 + 7 * t) + 2)).toInt64) &&& 4294967295)), .long ((((xs ((3 + 7 * t) + 3)).toInt64) <<< ((32 : Int32).toInt64 &&& 63)) ||| (((xs ((3 + 7 * t) + 4)).toInt64) &&& 4294967295)), .long ((((xs ((3 + 7 * t) + 5)).toInt64) <<< ((32 : Int32).toInt64 &&& 63)) ||| (((xs ((3 + 7 * t) + 6)).toInt64) &&& 4294967295))]) (rest := [.int r1]) ⟨hx, hb, hml, hown, hts⟩ (tM_find l D q2 cs2 hK3 hR hw hn ((((xs ((3 + 7 * t) + 1)).toInt64) <<< ((32 : Int32).toInt64 &&& 63)) ||| (((xs ((3 + 7 * t) + 2)).toInt64) &&& 4294967295)) ((((xs ((3 + 7 * t) + 3)).toInt64) <<< ((32 : Int32).toInt64 &&& 63)) ||| (((xs ((3 + 7 * t) + 4)).toInt64) &&& 4294967295)) ((((xs ((3 + 7 * t) + 5)).toInt64) <<< ((32 : Int32).toInt64 &&& 63)) ||| (((xs ((3 + 7 * t) + 6)).toInt64) &&& 4294967295))) (cwV 3 hts gLM_find rfl rfl rfl (by decide +kernel) ⟨Nat.le_of_ble_eq_true rfl, Nat.le_of_ble_eq_true rfl⟩) hK hP hD hS hA rfl rfl rfl rfl hl.1 rfl (Nat.le_of_ble_eq_true rfl) dL_law_380 ⟨Nat.le_of_ble_eq_true rfl, Nat.le_of_ble_eq_true rfl⟩ (fun r2 w2 H locs hq2 hP hD hS => ?_)
      obtain ⟨he, hgo⟩ := et_agf hK3 hw hkd hIV hq1 hq2
      refine lv_icmp_eq (tgt := 457) hx hb dL_law_383 (by decide) (fun _ => ?_) (fun c9 => absurd he c9)
      refine lv_iinc (k := 3) (v := nI (3 + 7 * (t + 1))) hx hb dL_law_457 hl rfl ((nI_add (3 + 7 * t) 7).trans (congrArg nI (by omega))) (by decide) rfl (fun ls hl => ?_)
      have hl : lv_has ls 4 [(3, .int (nI (3 + 7 * (t + 1)))), (0, .ref b), (1, .ref (q 0)), (2, .ref (q2 0))] := hl
      refine lv_goto (tgt := 48) hx hb dL_law_460 (by decide) ?_
      obtain ⟨dv1, dm1, N1, ms1, B1, L1, hN1, hIV1, hsx1, hsm1⟩ := hgo
      exact hrec ls H locs (by omega) ⟨dv1, dm1, N1, ms1, B1, L1, w1, w2, lv_sub hl [1, 2, 3, 0] rfl, hP, hD, hS, hsx1, hsm1, hIV1, by omega⟩
    · refine eb_ti (nI 4) hjx ?_
      refine lv_tableIn (tgt := 388) hx hb dL_law_63 (by decide) (by decide) rfl (by decide) ?_
      refine lv_aload_n hx hb dL_law_388 rfl (lv_at hl 1 rfl) ?_
      refine lv_aload_n hx hb dL_law_389 rfl (lv_at hl 0 rfl) ?_
      refine lv_iload_n hx hb dL_law_390 rfl (lv_at hl 3 rfl) ?_
      refine lv_iconst (v := 1) hx hb dL_law_391 (by decide) ?_
      refine lv_iadd hx hb dL_law_392 ?_
      refine eb_ti (nI ((3 + 7 * t) + 1)) (nI_add (3 + 7 * t) 1) ?_
      refine e3_sld hx hb hXs hbl hbA hS hL31 ((3 + 7 * t) + 1) (by omega) dL_law_393 ?_
      obtain ⟨o, ord, nums, pris, pres, fins, vals, msks, hC, rfl⟩ := hsx
      refine e3_calll (As := [.int (xs ((3 + 7 * t) + 1))]) (rest := []) ⟨hx, hb, hml, hown, htsL⟩ (tX_nth l D q cs hK3 o hC (xs ((3 + 7 * t) + 1))) (cwV 1 htsL gL_law_X0_nth rfl rfl rfl (by decide +kernel) ⟨Nat.le_of_ble_eq_true rfl, Nat.le_of_ble_eq_true rfl⟩) hK hP hD hS hA rfl rfl rfl rfl hl.1 rfl (Nat.le_of_ble_eq_true rfl) dL_law_394 ⟨Nat.le_of_ble_eq_true rfl, Nat.le_of_ble_eq_true rfl⟩ (fun r1 w1 H locs hq1 hP hD hS => ?_)
      refine lv_aload_n hx hb dL_law_397 rfl (lv_at hl 2 rfl) ?_
      refine lv_aload_n hx hb dL_law_398 rfl (lv_at hl 0 rfl) ?_
      refine lv_iload_n hx hb dL_law_399 rfl (lv_at hl 3 rfl) ?_
      refine lv_iconst (v := 1) hx hb dL_law_400 (by decide) ?_
      refine lv_iadd hx hb dL_law_401 ?_
      refine eb_ti (nI ((3 + 7 * t) + 1)) (nI_add (3 + 7 * t) 1) ?_
      refine e3_sld hx hb hXs hbl hbA hS hL31 ((3 + 7 * t) + 1) (by omega) dL_law_402 ?_
      obtain ⟨num, pri, hit, val, msk, ask, hR, rfl⟩ := hsm
      refine e3_callr (As := [.int (xs ((3 + 7 * t) + 1))]) (rest := [.int r1]) ⟨hx, hb, hml, hown, hts⟩ (tM_nth l D q2 cs2 hK3 hR hn (xs ((3 + 7 * t) + 1))) (cwV 1 hts gLM_nth rfl rfl rfl (by decide +kernel) ⟨Nat.le_of_ble_eq_true rfl, Nat.le_of_ble_eq_true rfl⟩) hK hP hD hS hA rfl rfl rfl rfl hl.1 rfl (Nat.le_of_ble_eq_true rfl) dL_law_403 ⟨Nat.le_of_ble_eq_true rfl, Nat.le_of_ble_eq_true rfl⟩ (fun r2 w2 H locs hq2 hP hD hS => ?_)
      obtain ⟨he, hgo⟩ := et_agn hR.1 hIV hq1 hq2
      refine lv_icmp_eq (tgt := 457) hx hb dL_law_406 (by decide) (fun _ => ?_) (fun c9 => absurd he c9)
      refine lv_iinc (k := 3) (v := nI (3 + 7 * (t + 1))) hx hb dL_law_457 hl rfl ((nI_add (3 + 7 * t) 7).trans (congrArg nI (by omega))) (by decide) rfl (fun ls hl => ?_)
      have hl : lv_has ls 4 [(3, .int (nI (3 + 7 * (t + 1)))), (0, .ref b), (1, .ref (q 0)), (2, .ref (q2 0))] := hl
      refine lv_goto (tgt := 48) hx hb dL_law_460 (by decide) ?_
      obtain ⟨dv1, dm1, N1, ms1, B1, L1, hN1, hIV1, hsx1, hsm1⟩ := hgo
      exact hrec ls H locs (by omega) ⟨dv1, dm1, N1, ms1, B1, L1, w1, w2, lv_sub hl [1, 2, 3, 0] rfl, hP, hD, hS, hsx1, hsm1, hIV1, by omega⟩
    · refine eb_ti (nI 5) hjx ?_
      refine lv_tableIn (tgt := 411) hx hb dL_law_63 (by decide) (by decide) rfl (by decide) ?_
      refine lv_aload_n hx hb dL_law_411 rfl (lv_at hl 1 rfl) ?_
      refine lv_aload_n hx hb dL_law_412 rfl (lv_at hl 0 rfl) ?_
      refine lv_iload_n hx hb dL_law_413 rfl (lv_at hl 3 rfl) ?_
      refine lv_iconst (v := 1) hx hb dL_law_414 (by decide) ?_
      refine lv_iadd hx hb dL_law_415 ?_
      refine eb_ti (nI ((3 + 7 * t) + 1)) (nI_add (3 + 7 * t) 1) ?_
      refine e3_sld hx hb hXs hbl hbA hS hL31 ((3 + 7 * t) + 1) (by omega) dL_law_416 ?_
      obtain ⟨o, ord, nums, pris, pres, fins, vals, msks, hC, rfl⟩ := hsx
      refine e3_calll (As := [.int (xs ((3 + 7 * t) + 1))]) (rest := []) ⟨hx, hb, hml, hown, htsL⟩ (tX_hits l D q cs hK3 o hC (xs ((3 + 7 * t) + 1))) (cwV 1 htsL gL_law_X0_hits rfl rfl rfl (by decide +kernel) ⟨Nat.le_of_ble_eq_true rfl, Nat.le_of_ble_eq_true rfl⟩) hK hP hD hS hA rfl rfl rfl rfl hl.1 rfl (Nat.le_of_ble_eq_true rfl) dL_law_417 ⟨Nat.le_of_ble_eq_true rfl, Nat.le_of_ble_eq_true rfl⟩ (fun r1 w1 H locs hq1 hP hD hS => ?_)
      refine lv_aload_n hx hb dL_law_420 rfl (lv_at hl 2 rfl) ?_
      refine lv_aload_n hx hb dL_law_421 rfl (lv_at hl 0 rfl) ?_
      refine lv_iload_n hx hb dL_law_422 rfl (lv_at hl 3 rfl) ?_
      refine lv_iconst (v := 1) hx hb dL_law_423 (by decide) ?_
      refine lv_iadd hx hb dL_law_424 ?_
      refine eb_ti (nI ((3 + 7 * t) + 1)) (nI_add (3 + 7 * t) 1) ?_
      refine e3_sld hx hb hXs hbl hbA hS hL31 ((3 + 7 * t) + 1) (by omega) dL_law_425 ?_
      obtain ⟨num, pri, hit, val, msk, ask, hR, rfl⟩ := hsm
      refine e3_callr (As := [.int (xs ((3 + 7 * t) + 1))]) (rest := [.int r1]) ⟨hx, hb, hml, hown, hts⟩ (tM_hits l D q2 cs2 hK3 hR (xs ((3 + 7 * t) + 1))) (cwV 1 hts gLM_hits rfl rfl rfl (by decide +kernel) ⟨Nat.le_of_ble_eq_true rfl, Nat.le_of_ble_eq_true rfl⟩) hK hP hD hS hA rfl rfl rfl rfl hl.1 rfl (Nat.le_of_ble_eq_true rfl) dL_law_426 ⟨Nat.le_of_ble_eq_true rfl, Nat.le_of_ble_eq_true rfl⟩ (fun r2 w2 H locs hq2 hP hD hS => ?_)
      obtain ⟨he, hgo⟩ := et_agh (by omega) hIV hq1 hq2
      refine lv_icmp_eq (tgt := 457) hx hb dL_law_429 (by decide) (fun _ => ?_) (fun c9 => absurd he c9)
      refine lv_iinc (k := 3) (v := nI (3 + 7 * (t + 1))) hx hb dL_law_457 hl rfl ((nI_add (3 + 7 * t) 7).trans (congrArg nI (by omega))) (by decide) rfl (fun ls hl => ?_)
      have hl : lv_has ls 4 [(3, .int (nI (3 + 7 * (t + 1)))), (0, .ref b), (1, .ref (q 0)), (2, .ref (q2 0))] := hl
      refine lv_goto (tgt := 48) hx hb dL_law_460 (by decide) ?_
      obtain ⟨dv1, dm1, N1, ms1, B1, L1, hN1, hIV1, hsx1, hsm1⟩ := hgo
      exact hrec ls H locs (by omega) ⟨dv1, dm1, N1, ms1, B1, L1, w1, w2, lv_sub hl [1, 2, 3, 0] rfl, hP, hD, hS, hsx1, hsm1, hIV1, by omega⟩
    · refine eb_ti (nI 6) hjx ?_
      refine lv_tableIn (tgt := 434) hx hb dL_law_63 (by decide) (by decide) rfl (by decide) ?_
      refine lv_aload_n hx hb dL_law_434 rfl (lv_at hl 1 rfl) ?_
      refine lv_aload_n hx hb dL_law_435 rfl (lv_at hl 0 rfl) ?_
      refine lv_iload_n hx hb dL_law_436 rfl (lv_at hl 3 rfl) ?_
      refine lv_iconst (v := 1) hx hb dL_law_437 (by decide) ?_
      refine lv_iadd hx hb dL_law_438 ?_
      refine eb_ti (nI ((3 + 7 * t) + 1)) (nI_add (3 + 7 * t) 1) ?_
      refine e3_sld hx hb hXs hbl hbA hS hL31 ((3 + 7 * t) + 1) (by omega) dL_law_439 ?_
      obtain ⟨o, ord, nums, pris, pres, fins, vals, msks, hC, rfl⟩ := hsx
      refine e3_calll (As := [.int (xs ((3 + 7 * t) + 1))]) (rest := []) ⟨hx, hb, hml, hown, htsL⟩ (tX_count l D q cs hK3 o hC (xs ((3 + 7 * t) + 1))) (cwV 1 htsL gL_law_X0_count rfl rfl rfl (by decide +kernel) ⟨Nat.le_of_ble_eq_true rfl, Nat.le_of_ble_eq_true rfl⟩) hK hP hD hS hA rfl rfl rfl rfl hl.1 rfl (Nat.le_of_ble_eq_true rfl) dL_law_440 ⟨Nat.le_of_ble_eq_true rfl, Nat.le_of_ble_eq_true rfl⟩ (fun r1 w1 H locs hq1 hP hD hS => ?_)
      refine lv_aload_n hx hb dL_law_443 rfl (lv_at hl 2 rfl) ?_
      refine lv_aload_n hx hb dL_law_444 rfl (lv_at hl 0 rfl) ?_
      refine lv_iload_n hx hb dL_law_445 rfl (lv_at hl 3 rfl) ?_
      refine lv_iconst (v := 1) hx hb dL_law_446 (by decide) ?_
      refine lv_iadd hx hb dL_law_447 ?_
      refine eb_ti (nI ((3 + 7 * t) + 1)) (nI_add (3 + 7 * t) 1) ?_
      refine e3_sld hx hb hXs hbl hbA hS hL31 ((3 + 7 * t) + 1) (by omega) dL_law_448 ?_
      obtain ⟨num, pri, hit, val, msk, ask, hR, rfl⟩ := hsm
      refine e3_callr (As := [.int (xs ((3 + 7 * t) + 1))]) (rest := [.int r1]) ⟨hx, hb, hml, hown, hts⟩ (tM_count l D q2 cs2 hK3 hR (xs ((3 + 7 * t) + 1))) (cwV 1 hts gLM_count rfl rfl rfl (by decide +kernel) ⟨Nat.le_of_ble_eq_true rfl, Nat.le_of_ble_eq_true rfl⟩) hK hP hD hS hA rfl rfl rfl rfl hl.1 rfl (Nat.le_of_ble_eq_true rfl) dL_law_449 ⟨Nat.le_of_ble_eq_true rfl, Nat.le_of_ble_eq_true rfl⟩ (fun r2 w2 H locs hq2 hP hD hS => ?_)
      obtain ⟨he, hgo⟩ := et_agc hIV hq1 hq2
      refine lv_icmp_eq (tgt := 457) hx hb dL_law_452 (by decide) (fun _ => ?_) (fun c9 => absurd he c9)
      refine lv_iinc (k := 3) (v := nI (3 + 7 * (t + 1))) hx hb dL_law_457 hl rfl ((nI_add (3 + 7 * t) 7).trans (congrArg nI (by omega))) (by decide) rfl (fun ls hl => ?_)
      have hl : lv_has ls 4 [(3, .int (nI (3 + 7 * (t + 1)))), (0, .ref b), (1, .ref (q 0)), (2, .ref (q2 0))] := hl
      refine lv_goto (tgt := 48) hx hb dL_law_460 (by decide) ?_
      obtain ⟨dv1, dm1, N1, ms1, B1, L1, hN1, hIV1, hsx1, hsm1⟩ := hgo
      exact hrec ls H locs (by omega) ⟨dv1, dm1, N1, ms1, B1, L1, w1, w2, lv_sub hl [1, 2, 3, 0] rfl, hP, hD, hS, hsx1, hsm1, hIV1, by omega⟩
    · refine eb_ti (nI 7) hjx ?_
      refine lv_tableOut (tgt := 457) hx hb dL_law_63 (Or.inr (by decide)) (by decide) ?_
      have hgo : et_Go (et_SX q cs K w kd) (et_SM q2 cs2 K w kd) K w kd N wx wm := et_same hIV hsx hsm
      refine lv_iinc (k := 3) (v := nI (3 + 7 * (t + 1))) hx hb dL_law_457 hl rfl ((nI_add (3 + 7 * t) 7).trans (congrArg nI (by omega))) (by decide) rfl (fun ls hl => ?_)
      have hl : lv_has ls 4 [(3, .int (nI (3 + 7 * (t + 1)))), (0, .ref b), (1, .ref (q 0)), (2, .ref (q2 0))] := hl
      refine lv_goto (tgt := 48) hx hb dL_law_460 (by decide) ?_
      obtain ⟨dv1, dm1, N1, ms1, B1, L1, hN1, hIV1, hsx1, hsm1⟩ := hgo
      exact hrec ls H locs (by omega) ⟨dv1, dm1, N1, ms1, B1, L1, wx, wm, lv_sub hl [1, 2, 3, 0] rfl, hP, hD, hS, hsx1, hsm1, hIV1, by omega⟩
