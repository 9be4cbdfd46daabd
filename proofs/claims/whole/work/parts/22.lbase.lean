set_option maxRecDepth 100000 in
theorem MALL_in : ∀ w ∈ MALL, w ∈ lw_tbl := fun w h => (goodIn_p MALL [235, 239, 243, 247, 252, 256, 260, 264, 268, 272, 276, 280, 284, 288, 292] (by decide +kernel) (by decide +kernel) w h).1
theorem MALL_law {idx n : Nat} {y : MethodName} {cc : ByteArray} {ret : Option FieldType} (hc : Cond.code y cc n ret ∈ MALL) (h4 : GoodIn lw_tbl ([.methodLink RL idx y, .instanceMethod y, .selects RX1 y y, .initialized RX1] : List Cond)) : GoodIn lw_tbl (wsV RL idx RX1 y (Cond.code y cc n ret :: MALL)) := by
  intro w hw
  rcases List.mem_append.mp hw with h | h
  · exact h4 w h
  · rcases List.mem_cons.mp h with rfl | h
    · exact ⟨MALL_in _ hc, (MALL_good _ hc).2⟩
    · exact ⟨MALL_in _ h, (MALL_good _ h).2⟩
set_option maxRecDepth 100000 in
theorem gLM_match : GoodIn lw_tbl (wsV RL 27 RX1 yX1_match wsM_match) := MALL_law MALL_c_match (goodIn_of _ (by decide +kernel))
set_option maxRecDepth 100000 in
theorem gLM_insert : GoodIn lw_tbl (wsV RL 32 RX1 yX1_insert wsM_insert) := MALL_law MALL_c_insert (goodIn_of _ (by decide +kernel))
set_option maxRecDepth 100000 in
theorem gLM_remove : GoodIn lw_tbl (wsV RL 36 RX1 yX1_remove wsM_remove) := MALL_law MALL_c_remove (goodIn_of _ (by decide +kernel))
set_option maxRecDepth 100000 in
theorem gLM_find : GoodIn lw_tbl (wsV RL 41 RX1 yX1_find wsM_find) := MALL_law MALL_c_find (goodIn_of _ (by decide +kernel))
set_option maxRecDepth 100000 in
theorem gLM_nth : GoodIn lw_tbl (wsV RL 45 RX1 yX1_nth wsM_nth) := MALL_law MALL_c_nth (goodIn_of _ (by decide +kernel))
set_option maxRecDepth 100000 in
theorem gLM_hits : GoodIn lw_tbl (wsV RL 49 RX1 yX1_hits wsM_hits) := MALL_law MALL_c_hits (goodIn_of _ (by decide +kernel))
set_option maxRecDepth 100000 in
theorem gLM_count : GoodIn lw_tbl (wsV RL 53 RX1 yX1_count wsM_count) := MALL_law MALL_c_count (goodIn_of _ (by decide +kernel))

set_option maxHeartbeats 1000000 in
theorem tL_cell (l : Launch) (b L : Nat) (xs : Nat → Int32) (hL : L < 2 ^ 31) (j : Nat) (hj : j < 2 ^ 31) : ∀ sz : Nat, Met l yL_cell wsL_cell { frames := 0, cells := 0, slots := 0, locals := 0 } (va_Pc [.ref b, .int (nI j)] (fun U => U.heap.size = sz ∧ va_X b L xs U U.heap)) (va_Qi (fun r (_ : Unit) => r = if j < L then xs j else 0) (fun _ _ => True) (fun _ => False)) 0 0 (fun _ => False) := by
  intro sz
  refine Met.ofW (cc := cL_cell) (maxL := 2) (ret := (some .int)) (by decide +kernel) rfl ?_
  intro p e s m args below meth c s₁ B hml hv
  obtain ⟨rfl, hsz, hX⟩ := hv
  have hx := B.exec
  have hb := B.bytes
  have hr := B.returns
  have hlk := B.notSynchronized
  have hbl : b < s.heap.size := by
    obtain ⟨scr, h1, -⟩ := hX
    exact (Array.getElem?_eq_some_iff.mp h1).1
  have hS : va_S (fun _ => False) s.heap s.heap [] := va_S.rf
  have hl := lv_entry ([.ref b, .int (nI j)]) (n := 2) (Nat.le_of_ble_eq_true rfl)
  rw [lg_entry_eq]
  generalize (lg_sl ([.ref b, .int (nI j)]) ++ List.replicate (2 - (lg_sl ([.ref b, .int (nI j)])).length) Slot.unset).toArray = ls at hl ⊢
  have hl : lv_has ls 2 [(0, .ref b), (1, .int (nI j))] := hl
  refine lv_iload_n hx hb dL_cell_0 rfl (lv_at hl 1 rfl) ?_
  refine lv_aload_n hx hb dL_cell_1 rfl (lv_at hl 0 rfl) ?_
  refine va_slen hx hb hX hbl (fun h => h) hS dL_cell_2 ?_
  refine lv_icmp_ge (tgt := 12) hx hb dL_cell_3 (by decide) (fun c3 => ?_) (fun c3 => ?_)
  · have c3 : nI L ≤ nI j := c3
    rw [nI_leI hL hj] at c3
    refine lv_iconst (v := 0) hx hb dL_cell_12 (by decide) ?_
    exact W.iret (v := 0) hx hb hr (fun t ht hW => ⟨⟨0, (), rfl, by rw [if_neg (by omega)], trivial⟩, hS.F ht⟩) hS.2.2 dL_cell_13 hlk
  · have c3 : ¬ nI L ≤ nI j := c3
    rw [nI_leI hL hj] at c3
    refine lv_aload_n hx hb dL_cell_6 rfl (lv_at hl 0 rfl) ?_
    refine lv_iload_n hx hb dL_cell_7 rfl (lv_at hl 1 rfl) ?_
    refine va_sld hx hb hX hbl (fun h => h) hS (vp_in_nI (by omega) hL) dL_cell_8 ?_
    rw [nI_clamp hj]
    refine lv_goto (tgt := 13) hx hb dL_cell_9 (by decide) ?_
    exact W.iret (v := xs j) hx hb hr (fun t ht hW => ⟨⟨xs j, (), rfl, by rw [if_pos (by omega)], trivial⟩, hS.F ht⟩) hS.2.2 dL_cell_13 hlk
section EL
variable {p : Program} {l : Launch} {e : Env} {R : Room} {s : State} {m : MethodId} {args : Array Value} {below : List Frame} {meth : Method} {c : Code} {H : Heap} {locs : List Loc} {cells slots : Nat} {Q : State → Prop}
variable {cc : ByteArray} {pc : Nat} {ls : Array Slot} {rest st : List Value} {D : va_G} {cl : List vw_C} {A : Nat → Prop} {t1 : List (ClassId × FieldType)} {wx wm : va_W} {H0 : Heap}
variable {nL maxL index n b L mc ms : Nat} {Ts wsy : List Cond} {own : String} {y : MethodName} {bytes : ByteArray} {rm : Room} {As : List Value} {xs : Nat → Int32}
theorem e3_cell {w : va_W} (S : CallFix p m c cc nL s args Ts own) (hL : L < 2 ^ 31) (j : Nat) (hj : j < 2 ^ 31) (a : Int32) (ha : a = if j < L then xs j else 0) (cw : CallB R s args own index yL_cell bytes maxL (some .int) wsL_cell { frames := 0, cells := 0, slots := 0, locals := 0 } 0 0 2 ∧ (Cond.static yL_cell).before args s = true) (hXs : va_X b L xs s H0) (hbl : b < H0.size) (hbA : ¬ A b) (hP : va_P D cl w H) (hS : va_S A H0 H locs)
    (hsize : ls.size = nL) (hst : st = [Value.ref b, Value.int (nI j)].reverse ++ rest) (hW : (rest.map fun v => v.category).sum ≤ 8) (hdg : decode cc pc = .ok (.invokestatic index, 3)) (hf : cells ≤ R.cells ∧ slots ≤ R.slots)
    (kk : ∀ (H1 : Heap) (locs1 : List Loc), va_P D cl w H1 → va_S A H0 H1 locs1 → W p l e R s m args below meth c H1 locs1 cells slots Q (F0 m (pc + 3) ls (.int a :: rest))) : W p l e R s m args below meth c H locs cells slots Q (F0 m pc ls st) := by
  have hXH : va_X b L xs s H := va_X.kept hXs (hS.2.1 b hbl hbA)
  refine va_calli (va_runS (As := [.ref b, .int (nI j)]) (rest := rest) S (tL_cell l b L xs hL j hj H.size) cw ⟨fun a U g mk q => ?_, fun U hU hW => ⟨rfl, by rw [hU], by rw [hU]; exact va_X.moved hW.alike hXH⟩⟩ rfl rfl hsize hst (lv_room hW) hdg hf) hS (fun x _ h => h.elim) (fun x h => h.elim) (fun r u t H1 locs1 ht hvm hw hB hz1 hk1 hS1 => ?_)
  · obtain ⟨q0, q1, q2⟩ := q
    exact ⟨q0, q1, va_X.moved (u := U) (U := U.calling g mk a) (Vm.Alike.refl U.vm) q2⟩
  · have e1 : r = a := by rw [hw, ha]
    subst e1
    exact kk H1 locs1 (hP.kept (fun k q hk => hk1 q.1 ((hP k q hk).lt) (fun h => h))) hS1
theorem e3_sld (hx : p.tables.exec = Jvm.exec) (hb : c.code = cc) (hXs : va_X b L xs s H0) (hbl : b < H0.size) (hbA : ¬ A b) (hS : va_S A H0 H locs) (hL : L < 2 ^ 31) (j : Nat) (hj : j < L) (hdg : decode cc pc = .ok (.iaload, 1))
    (kk : W p l e R s m args below meth c H locs cells slots Q (F0 m (pc + 1) ls (.int (xs j) :: rest))) : W p l e R s m args below meth c H locs cells slots Q (F0 m pc ls (.int (nI j) :: .ref b :: rest)) := by
  refine va_sld hx hb hXs hbl hbA hS (vp_in_nI hj hL) hdg ?_
  rw [nI_clamp (by omega)]
  exact kk
/-- a constructor on the last part of the world -/
theorem e3_ctor {S' : Type} {post : S' → Prop} {wf : S' → va_W} {tf : S' → List (ClassId × FieldType)} (S : CallFix p m c cc nL s args Ts own) (hM : ∀ sz : Nat, Met l y wsy rm (va_Pc (.ref b :: As) (eb_pre D cl [] wm sz)) (va_Qv post (eb_endS D cl tf wf (va_A wm sz)) (va_A wm sz)) mc ms (va_A wm sz)) (cw : CallB R s args own index y bytes maxL none wsy rm mc ms n ∧ y.name = "<init>" ∧ (Cond.instanceMethod y).before args s = true) (hK : va_K D cl t1 s) (hP : va_P D cl (wx ++ wm) H) (hD : va_D A (wx ++ wm)) (hS : va_S A H0 H locs) (hA : ∀ q, H0.size ≤ q → A q)
    (hn : As.length = n) (hsize : ls.size = nL) (hst : st = As.reverse ++ .ref b :: rest) (hW : (rest.map fun v => v.category).sum ≤ 8) (hdg : decode cc pc = .ok (.invokespecial index, 3)) (hf : cells + mc ≤ R.cells ∧ slots + ms ≤ R.slots)
    (kk : ∀ (u : S') (H1 : Heap) (locs1 : List Loc), post u → va_K D cl (t1 ++ tf u) s → va_P D cl (wx ++ wf u) H1 → va_D A (wx ++ wf u) → va_S A H0 H1 locs1 → W p l e R s m args below meth c H1 locs1 (cells + mc) (slots + ms) Q (F0 m (pc + 3) ls rest)) : W p l e R s m args below meth c H locs cells slots Q (F0 m pc ls st) := by
  have hF := eb_freeA (e2_Dr hD) hS hA
  have hK0 : va_K D cl [] s := ⟨hK.1, fun k q hk => by simp at hk⟩
  refine va_callv (va_runI (As := As) (rest := rest) S (hM H.size) cw ⟨eb_blind, fun U hU hW => ⟨rfl, by rw [hU], by rw [hU]; exact e2_Pr hP, va_K.moved hW.alike hK0, (e2_Dr hD).weaken (fun _ _ _ _ => trivial)⟩⟩ rfl hn hsize hst (lv_room hW) hdg hf) hS (fun x _ h => hF x h) hF (fun u t H1 locs1 ht hvm hw hB hz1 hk1 hS1 => ?_)
  obtain ⟨hP1, hK1, hD1⟩ := hB
  rw [ht] at hP1
  obtain ⟨hP2, hD2⟩ := e2_jr hP hD hk1 hF hP1 hD1
  exact kk u H1 locs1 hw (hK.app (va_K.moved hvm.symm hK1)) hP2 hD2 hS1
end EL
theorem et_lc {L i : Nat} (hL : L < 2 ^ 30) (hi : i < 2 ^ 30) : nI L - nI 7 < nI i ↔ L < i + 7 := by
  rw [Int32.lt_iff_toInt_lt, pk_sub_toInt hL (by decide), nI_toInt (by omega)]
  omega
/-- a new class object, a new reference: no entry -/
theorem et_SX_new {q : Nat → Nat} {cs : Nat → ClassId} {K w : Nat} {kd : Nat → Int32} {ord : Nat → Int32} (ho : ∀ r, r < 24 → ord r = nI r) : et_SX q cs K w kd (fun _ => 0) (fun _ => 0) 0 0 [] (XW q cs (nI K) (nI w) (et_ab w) kd (fun _ => 0) (fun _ => 0) ord 0 0 0 (fun _ => 0) (fun _ => 0) (fun _ => 0) (fun _ => 0) (fun _ => 0) (fun _ => 0)) :=
  ⟨fun r => r, ord, _, _, _, _, _, _, ⟨fun r hr => ⟨ho r hr, hr⟩, fun _ _ _ _ h => h, Nat.zero_le _, fun r x h => by simp at h, fun _ _ _ _ _ => ⟨rfl, rfl⟩⟩, rfl⟩
theorem et_SM_new {q : Nat → Nat} {cs : Nat → ClassId} {K w : Nat} {kd : Nat → Int32} : et_SM q cs K w kd (fun _ => 0) (fun _ => 0) 0 0 [] (MW q cs (nI K) (nI w) kd (fun _ => 0) (fun _ => 0) (fun _ => 0) (fun _ => 0) (fun _ => 0) (fun _ => 0) (fun _ => 0) (fun _ => 0) 0 0 0) :=
  ⟨_, _, _, _, _, _, ⟨Nat.zero_le _, fun i x h => by simp at h⟩, rfl⟩
theorem et_IV_new {K w : Nat} {kd : Nat → Int32} : et_IV K w kd 0 [] [] := ⟨List.Perm.refl _, List.Pairwise.nil, List.Pairwise.nil, fun x h => by simp at h⟩
theorem et_K0 {s : State} {c0 c1 : ClassId} {i0 i1 : Nat → Nat} (h0 : u_Kn s RX0 TX0 16 c0 i0) (h1 : u_Kn s RX1 TX1 14 c1 i1) : va_K ((fun k => if k = 0 then c0 else c1), (fun k => if k = 0 then i0 else i1)) vwCl [] s := by
  refine ⟨fun k q hq => ?_, fun k q hk => by simp at hk⟩
  match k, hq with
  | 0, hq => cases hq; exact h0
  | 1, hq => cases hq; exact h1
  | k + 2, hq => simp at hq

