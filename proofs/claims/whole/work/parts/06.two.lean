/-! Two worlds side by side: a call on the one leaves the other. -/
section E2
variable {D : va_G} {cl : List vw_C} {A : Nat → Prop} {wx wm w1 : va_W} {H H1 : Heap} {t1 t2 : List (ClassId × FieldType)} {U : State}
theorem e2_l {k : Nat} {q : Nat × va_E} (h : wx[k]? = some q) : (wx ++ wm)[k]? = some q := by
  rw [List.getElem?_append_left (List.getElem?_eq_some_iff.mp h).1]; exact h
theorem e2_r {k : Nat} {q : Nat × va_E} (h : wm[k]? = some q) : (wx ++ wm)[wx.length + k]? = some q := by
  rw [List.getElem?_append_right (by omega), show wx.length + k - wx.length = k by omega]; exact h
theorem e2_Pl (h : va_P D cl (wx ++ wm) H) : va_P D cl wx H := fun k q hk => h k q (e2_l hk)
theorem e2_Pr (h : va_P D cl (wx ++ wm) H) : va_P D cl wm H := fun k q hk => h (wx.length + k) q (e2_r hk)
theorem e2_Dl (h : va_D A (wx ++ wm)) : va_D A wx := ⟨fun i j p q hi hj e => h.1 i j p q (e2_l hi) (e2_l hj) e, fun k q hk => h.2 k q (e2_l hk)⟩
theorem e2_Dr (h : va_D A (wx ++ wm)) : va_D A wm := ⟨fun i j p q hi hj e => by have := h.1 _ _ p q (e2_r (wx := wx) hi) (e2_r (wx := wx) hj) e; omega, fun k q hk => h.2 _ q (e2_r hk)⟩
theorem e2_ap (h : va_D A (wx ++ wm)) {i j : Nat} {p q : Nat × va_E} (hi : wx[i]? = some p) (hj : wm[j]? = some q) : p.1 ≠ q.1 := fun e => by
  have := h.1 _ _ p q (e2_l hi) (e2_r (wx := wx) hj) e
  have := (List.getElem?_eq_some_iff.mp hi).1
  omega
theorem e2_Kl (h : va_K D cl (t1 ++ t2) U) : va_K D cl t1 U := ⟨h.1, fun k q hk => h.2 k q (by rw [List.getElem?_append_left (List.getElem?_eq_some_iff.mp hk).1]; exact hk)⟩
theorem e2_Kr (h : va_K D cl (t1 ++ t2) U) : va_K D cl t2 U := ⟨h.1, fun k q hk => h.2 (t1.length + k) q (by rw [List.getElem?_append_right (by omega), show t1.length + k - t1.length = k by omega]; exact hk)⟩
theorem e2_jl (hP : va_P D cl (wx ++ wm) H) (hD : va_D A (wx ++ wm)) (hk : ∀ q : Nat, q < H.size → ¬ va_A wx H.size q → H1[q]? = H[q]?) (hF : ∀ x, va_A wx H.size x → A x) (hP1 : va_P D cl w1 H1) (hD1 : va_D (va_A wx H.size) w1) : va_P D cl (w1 ++ wm) H1 ∧ va_D A (w1 ++ wm) := by
  have ap : ∀ (j : Nat) (q : Nat × va_E), wm[j]? = some q → q.1 < H.size ∧ ¬ va_A wx H.size q.1 := by
    intro j q hj
    have hl := (e2_Pr hP j q hj).lt
    refine ⟨hl, fun h => ?_⟩
    rcases h with ⟨k, ee, h⟩ | h
    · exact e2_ap hD h hj rfl
    · omega
  refine ⟨hP1.app (fun j q hj => (e2_Pr hP j q hj).kept (hk q.1 (ap j q hj).1 (ap j q hj).2)), va_D.app (hD1.weaken (fun k q _ h => hF q.1 h)) (e2_Dr hD) (fun i j p q hi hj e => ?_)⟩
  exact (ap j q hj).2 (by rw [← e]; exact hD1.2 i p hi)
theorem e2_jr (hP : va_P D cl (wx ++ wm) H) (hD : va_D A (wx ++ wm)) (hk : ∀ q : Nat, q < H.size → ¬ va_A wm H.size q → H1[q]? = H[q]?) (hF : ∀ x, va_A wm H.size x → A x) (hP1 : va_P D cl w1 H1) (hD1 : va_D (va_A wm H.size) w1) : va_P D cl (wx ++ w1) H1 ∧ va_D A (wx ++ w1) := by
  have ap : ∀ (j : Nat) (q : Nat × va_E), wx[j]? = some q → q.1 < H.size ∧ ¬ va_A wm H.size q.1 := by
    intro j q hj
    have hl := (e2_Pl hP j q hj).lt
    refine ⟨hl, fun h => ?_⟩
    rcases h with ⟨k, ee, h⟩ | h
    · exact e2_ap hD hj h rfl
    · omega
  refine ⟨va_P.app (fun j q hj => (e2_Pl hP j q hj).kept (hk q.1 (ap j q hj).1 (ap j q hj).2)) hP1, va_D.app (e2_Dl hD) (hD1.weaken (fun k q _ h => hF q.1 h)) (fun i j p q hi hj e => ?_)⟩
  exact (ap i p hi).2 (by rw [e]; exact hD1.2 j q hj)
end E2
section E3
variable {p : Program} {l : Launch} {e : Env} {R : Room} {s : State} {m : MethodId} {args : Array Value} {below : List Frame} {meth : Method} {c : Code} {H : Heap} {locs : List Loc} {cells slots : Nat} {Q : State → Prop}
variable {cc : ByteArray} {pc : Nat} {ls : Array Slot} {rest st : List Value} {D : va_G} {cl : List vw_C} {A : Nat → Prop} {t1 t2 : List (ClassId × FieldType)} {wx wm : va_W} {H0 : Heap}
variable {nL maxL index n ci b : Nat} {Ts wsy : List Cond} {own C : String} {y : MethodName} {bytes : ByteArray} {ret : Option FieldType} {rm : Room} {As : List Value} {q : vw_C} {fs : List Value}
theorem e3_calll {post : Int32 → va_W → Prop} (S : CallFix p m c cc nL s args Ts own) (hM : eb_MI l D cl t1 y wsy rm (.ref b :: As) wx post) (cw : CallW R s args own C index y bytes maxL ret wsy rm 0 0 n) (hK : va_K D cl (t1 ++ t2) s) (hP : va_P D cl (wx ++ wm) H) (hD : va_D A (wx ++ wm)) (hS : va_S A H0 H locs) (hA : ∀ q, H0.size ≤ q → A q) (hc : cl[ci]? = some q) (hCq : q.1 = C) (he : wx[0]? = some (b, .inr (ci, fs)))
    (hn : As.length = n) (hsize : ls.size = nL) (hst : st = As.reverse ++ .ref b :: rest) (hW : (rest.map fun v => v.category).sum ≤ 8) (hdg : decode cc pc = .ok (.invokevirtual index, 3)) (hf : cells ≤ R.cells ∧ slots ≤ R.slots)
    (kk : ∀ (r : Int32) (w1 : va_W) (H1 : Heap) (locs1 : List Loc), post r w1 → va_P D cl (w1 ++ wm) H1 → va_D A (w1 ++ wm) → va_S A H0 H1 locs1 → W p l e R s m args below meth c H1 locs1 cells slots Q (F0 m (pc + 3) ls (.int r :: rest))) : W p l e R s m args below meth c H locs cells slots Q (F0 m pc ls st) := by
  have hF := eb_freeA (e2_Dl hD) hS hA
  refine va_calli (va_runV (As := As) (rest := rest) S (hM H.size) cw (eb_preV (e2_Kl hK) (e2_Pl hP) (e2_Dl hD) hc hCq he) rfl hn hsize hst (lv_room hW) hdg hf) hS (fun x _ h => hF x h) hF (fun r u t H1 locs1 ht hvm hw hB hz1 hk1 hS1 => ?_)
  obtain ⟨hP1, hK1, hD1⟩ := hB
  rw [ht] at hP1
  obtain ⟨hP2, hD2⟩ := e2_jl hP hD hk1 hF hP1 hD1
  exact kk r u H1 locs1 hw hP2 hD2 hS1
theorem e3_callr {post : Int32 → va_W → Prop} (S : CallFix p m c cc nL s args Ts own) (hM : eb_MI l D cl t2 y wsy rm (.ref b :: As) wm post) (cw : CallW R s args own C index y bytes maxL ret wsy rm 0 0 n) (hK : va_K D cl (t1 ++ t2) s) (hP : va_P D cl (wx ++ wm) H) (hD : va_D A (wx ++ wm)) (hS : va_S A H0 H locs) (hA : ∀ q, H0.size ≤ q → A q) (hc : cl[ci]? = some q) (hCq : q.1 = C) (he : wm[0]? = some (b, .inr (ci, fs)))
    (hn : As.length = n) (hsize : ls.size = nL) (hst : st = As.reverse ++ .ref b :: rest) (hW : (rest.map fun v => v.category).sum ≤ 8) (hdg : decode cc pc = .ok (.invokevirtual index, 3)) (hf : cells ≤ R.cells ∧ slots ≤ R.slots)
    (kk : ∀ (r : Int32) (w1 : va_W) (H1 : Heap) (locs1 : List Loc), post r w1 → va_P D cl (wx ++ w1) H1 → va_D A (wx ++ w1) → va_S A H0 H1 locs1 → W p l e R s m args below meth c H1 locs1 cells slots Q (F0 m (pc + 3) ls (.int r :: rest))) : W p l e R s m args below meth c H locs cells slots Q (F0 m pc ls st) := by
  have hF := eb_freeA (e2_Dr hD) hS hA
  refine va_calli (va_runV (As := As) (rest := rest) S (hM H.size) cw (eb_preV (e2_Kr hK) (e2_Pr hP) (e2_Dr hD) hc hCq he) rfl hn hsize hst (lv_room hW) hdg hf) hS (fun x _ h => hF x h) hF (fun r u t H1 locs1 ht hvm hw hB hz1 hk1 hS1 => ?_)
  obtain ⟨hP1, hK1, hD1⟩ := hB
  rw [ht] at hP1
  obtain ⟨hP2, hD2⟩ := e2_jr hP hD hk1 hF hP1 hD1
  exact kk r u H1 locs1 hw hP2 hD2 hS1
end E3
