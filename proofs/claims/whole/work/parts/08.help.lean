/-! Small facts that the walks' ends need. -/
theorem et_ix {n : Nat} (hn : n < 2 ^ 31) {k : Int32} (h0 : ¬ k < 0) (h1 : k < nI n) : ∃ j : Nat, j < n ∧ k = nI j := by
  rcases pk_ix k hn with h | h | h
  · exact absurd h h0
  · exact absurd h1 (Int32.not_lt.mpr h)
  · exact h
theorem et_le2 {k : Int32} (h : ¬ (2 : Int32) < k) : k < nI 3 := by
  rw [Int32.lt_iff_toInt_lt] at *
  have h2 : (2 : Int32).toInt = 2 := by decide
  have h3 : (nI 3).toInt = 3 := by decide
  omega
theorem et_gt2 {k : Int32} (h : (2 : Int32) < k) : 3 ≤ k := by
  rw [Int32.lt_iff_toInt_lt] at h
  rw [Int32.le_iff_toInt_le]
  have h2 : (2 : Int32).toInt = 2 := by decide
  have h3 : (3 : Int32).toInt = 3 := by decide
  omega
theorem et_nm1 {j : Nat} (h : j < 2 ^ 31) : ¬ nI j = -1 := by
  intro e
  have h1 := nI_pos (n := j) h
  rw [e] at h1
  exact h1 (by decide)
theorem et_out {x : Int32} (h0 : ¬ x = 0) (h1 : ¬ x = 1) (h2 : ¬ x = 2) (h3 : ¬ x = 3) (h4 : ¬ x = 4) (h5 : ¬ x = 5) (h6 : ¬ x = 6) : x.toInt < 0 ∨ 6 < x.toInt := by
  have a0 := lv_neT h0 (a := 0) (by decide)
  have a1 := lv_neT h1 (a := 1) (by decide)
  have a2 := lv_neT h2 (a := 2) (by decide)
  have a3 := lv_neT h3 (a := 3) (by decide)
  have a4 := lv_neT h4 (a := 4) (by decide)
  have a5 := lv_neT h5 (a := 5) (by decide)
  have a6 := lv_neT h6 (a := 6) (by decide)
  omega
def et_fl (f f1 g : Nat → Int64) (b k : Nat) : Prop := (∀ i, (i < b ∨ b + k ≤ i) → f1 i = f i) ∧ ∀ j, j < k → f1 (b + j) = g j
theorem et_fl_0 {f g : Nat → Int64} {b : Nat} : et_fl f f g b 0 := ⟨fun _ _ => rfl, fun j hj => absurd hj (Nat.not_lt_zero j)⟩
theorem et_fl_s {f f1 g : Nat → Int64} {b k : Nat} {x : Int64} (h : et_fl f f1 g b k) (hx : x = g k) : et_fl f (vp_updL f1 (b + k) x) g b (k + 1) := by
  refine ⟨fun i hi => ?_, fun j hj => ?_⟩
  · rw [pk_uLn (by omega)]
    exact h.1 i (by omega)
  · by_cases e : j = k
    · subst e
      rw [pk_uLs, hx]
    · rw [pk_uLn (by omega)]
      exact h.2 j (by omega)
def et_k3 (a b c : Int64) : Nat → Int64 := fun k => match k with
  | 0 => a
  | 1 => b
  | _ => c
theorem et_ltx {L : List et_E} {P : et_E → Prop} {i : Nat} (h : ∀ j y, j < i → L[j]? = some y → ¬ P y) (hi : ∀ y, L[i]? = some y → ¬ P y) : ∀ j y, j < i + 1 → L[j]? = some y → ¬ P y := by
  intro j y hj hy
  by_cases e : j = i
  · subst e; exact hi y hy
  · exact h j y (by omega) hy
section EH
variable {K w : Nat} {kd : Nat → Int32} {L : List et_E} {o : Nat → Nat} {ord nums pris pres fins : Nat → Int32} {vals msks : Nat → Int64}
theorem et_mt_at {kf : Nat → Int64} (hC : et_CR K w kd L o ord nums pris pres fins vals msks) {i : Nat} {y : et_E} (hy : L[i]? = some y) (h : et_Xmt K (et_ab w) kd kf y) (k : Nat) (hk : k < 3) : kf k &&& msks (o i * 3 + k) = vals (o i * 3 + k) := by
  have hi := (List.getElem?_eq_some_iff.mp hy).1
  have h24 := hC.2.2.1
  by_cases hkK : k < K
  · obtain ⟨e1, e2⟩ := (hC.2.2.2.1 i y hy).2.2.2.2 k hkK
    rw [e1, e2]
    exact h k hkK
  · obtain ⟨e1, e2⟩ := hC.2.2.2.2 (o i) k (hC.1 i (by omega)).2 (by omega) hk
    rw [e1, e2]
    exact Int64.and_zero
theorem et_mt_of {kf : Nat → Int64} (hK3 : K ≤ 3) (hC : et_CR K w kd L o ord nums pris pres fins vals msks) {i : Nat} {y : et_E} (hy : L[i]? = some y) (h0 : kf 0 &&& msks (o i * 3 + 0) = vals (o i * 3 + 0)) (h1 : kf 1 &&& msks (o i * 3 + 1) = vals (o i * 3 + 1)) (h2 : kf 2 &&& msks (o i * 3 + 2) = vals (o i * 3 + 2)) : et_Xmt K (et_ab w) kd kf y := by
  intro k hk
  obtain ⟨e1, e2⟩ := (hC.2.2.2.1 i y hy).2.2.2.2 k hk
  rw [← e1, ← e2]
  rcases (show k = 0 ∨ k = 1 ∨ k = 2 by omega) with rfl | rfl | rfl
  · exact h0
  · exact h1
  · exact h2
theorem et_th_of {pp : Int32} {dv dm : Nat → Int64} (hC : et_CR K w kd L o ord nums pris pres fins vals msks) {j : Nat} (hj : j < L.length) (h1 : pris (o j) = pp) (h2 : ∀ k, k < K → vals (o j * 3 + k) = dv k ∧ msks (o j * 3 + k) = et_db (et_ab w) (kd k) (dm k)) : ∃ x ∈ L, et_XT K (et_ab w) kd pp dv dm x := by
  have hx : L[j]? = some L[j] := List.getElem?_eq_getElem hj
  obtain ⟨-, a2, -, -, a5⟩ := hC.2.2.2.1 j L[j] hx
  refine ⟨L[j], List.mem_of_getElem? hx, a2.symm.trans h1, fun k hk => ?_⟩
  obtain ⟨e1, e2⟩ := a5 k hk
  rw [← e1, ← e2]
  exact h2 k hk
theorem et_th_no {pp : Int32} {dv dm : Nat → Int64} (hC : et_CR K w kd L o ord nums pris pres fins vals msks) (h : ¬ ∃ j, j < L.length ∧ pris (o j) = pp ∧ ∀ k, k < K → vals (o j * 3 + k) = dv k ∧ msks (o j * 3 + k) = et_db (et_ab w) (kd k) (dm k)) : ∀ x ∈ L, ¬ et_XT K (et_ab w) kd pp dv dm x := by
  intro x hx ht
  obtain ⟨j, hj⟩ := List.getElem?_of_mem hx
  obtain ⟨-, a2, -, -, a5⟩ := hC.2.2.2.1 j x hj
  refine h ⟨j, (List.getElem?_eq_some_iff.mp hj).1, a2.trans ht.1, fun k hk => ?_⟩
  obtain ⟨e1, e2⟩ := a5 k hk
  rw [e1, e2]
  exact ht.2 k hk
theorem et_lo_no {pp : Int32} {dm : Nat → Int64} {j : Nat} (hC : et_CR K w kd L o ord nums pris pres fins vals msks) (h : ∀ i, i < j → ¬ (pres (o i) < (et_pf K kd dm).toInt32 ∨ (pres (o i) = (et_pf K kd dm).toInt32 ∧ pris (o i) < pp))) : ∀ i x, i < j → L[i]? = some x → ¬ et_Xlo K kd pp dm x := by
  intro i x hi hx
  obtain ⟨-, a2, a3, -, -⟩ := hC.2.2.2.1 i x hx
  have := h i hi
  rw [a2, a3] at this
  exact this
theorem et_lo_at {pp : Int32} {dm : Nat → Int64} {j : Nat} (hC : et_CR K w kd L o ord nums pris pres fins vals msks) (h : j < L.length → (pres (o j) < (et_pf K kd dm).toInt32 ∨ (pres (o j) = (et_pf K kd dm).toInt32 ∧ pris (o j) < pp))) : ∀ x, L[j]? = some x → et_Xlo K kd pp dm x := by
  intro x hx
  obtain ⟨-, a2, a3, -, -⟩ := hC.2.2.2.1 j x hx
  have := h (List.getElem?_eq_some_iff.mp hx).1
  rw [a2, a3] at this
  exact this
end EH
section EC
variable {p : Program} {l : Launch} {e : Env} {R : Room} {s : State} {m : MethodId} {args : Array Value} {below : List Frame} {meth : Method} {c : Code} {H : Heap} {locs : List Loc} {cells slots : Nat} {Q : State → Prop}
variable {cc : ByteArray} {pc : Nat} {ls : Array Slot} {rest : List Value} {D : va_G} {cl : List vw_C} {A : Nat → Prop} {a : Nat} {tys : List (ClassId × FieldType)} {ws : va_W} {H0 : Heap}
theorem eb_copyi (hexec : p.tables.exec = Jvm.exec) (hb : c.code = cc) (hml : c.maxLocals = ls.size) {own : String} {index : Nat} (hown : s.vm.findClass own = some m.cls) (hlink : (Cond.methodLink own index arraycopyName).before args s = true) (hnat : (Cond.native arraycopyName).before args s = true) (hstat : (Cond.static arraycopyName).before args s = true) (hini : (Cond.initialized "java/lang/System").before args s = true)
    (hK : va_K D cl tys s) (hP : va_P D cl ws H) (hD : va_D A ws) (hS : va_S A H0 H locs) (q0 t0 : Nat) {c0 : ClassId} {n0 : Nat} {f : Nat → Int32} (ha0 : ws[q0]? = some (a, .inl (c0, n0, .inl f))) (ht0 : tys[t0]? = some (c0, .int))
    (sp dp n : Nat) (h4 : sp + n ≤ n0) (h5 : dp + n ≤ n0) (hn0 : n0 < 2 ^ 31)
    (hframes : 1 ≤ R.frames) (hlocals : (rest.map fun v => v.category).sum + (nativeFrameWords "java/lang/System" "arraycopy" 5 + 11) ≤ R.locals) (hdg : decode cc pc = .ok (.invokestatic index, 3))
    (kk : ∀ (H1 : Heap) (locs1 : List Loc), va_P D cl (ws.set q0 (a, .inl (c0, n0, .inl (va_cpy f f sp dp n)))) H1 → va_D A (ws.set q0 (a, .inl (c0, n0, .inl (va_cpy f f sp dp n)))) → va_S A H0 H1 locs1 → W p l e R s m args below meth c H1 locs1 cells slots Q (F0 m (pc + 3) ls rest)) : W p l e R s m args below meth c H locs cells slots Q (F0 m pc ls (.int (nI n) :: .int (nI dp) :: .ref a :: .int (nI sp) :: .ref a :: rest)) := by
  have e1 : (nI sp).toNatClampNeg = sp := nI_clamp (by omega)
  have e2 : (nI dp).toNatClampNeg = dp := nI_clamp (by omega)
  have e3 : (nI n).toNatClampNeg = n := nI_clamp (by omega)
  refine va_copyi hexec hb hml hown hlink hnat hstat hini hK hP hD hS q0 q0 t0 t0 ha0 ha0 ht0 ht0 rfl (nI_pos (by omega)) (nI_pos (by omega)) (nI_pos (by omega)) (by rw [e1, e3]; exact h4) (by rw [e2, e3]; exact h5) (fun _ _ => rfl) hframes hlocals hdg (fun H1 locs1 g1 g2 g3 => ?_)
  rw [e1, e2, e3] at g1 g2
  exact kk H1 locs1 g1 g2 g3
end EC
