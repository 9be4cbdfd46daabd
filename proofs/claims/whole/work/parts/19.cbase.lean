/-! Constructors: how they begin and end; the numbers that both sides make of their arguments. -/
theorem eb_openC {l : Launch} {D : va_G} {cl : List vw_C} {tys : List (ClassId × FieldType)} {y : MethodName} {ws ws' : List Cond} {rm : Room} {cc : ByteArray} {maxL : Nat} {ret : Option FieldType} {av : List Value} {w0 : va_W} {mc ms : Nat} {Qc : (Nat → Prop) → Array Value → State → Outcome → State → Prop} (hy : plainName y.cls = true) (hi : y.name = "<init>") (hw : ws = Cond.code y cc maxL ret :: ws') (hnl : (lg_sl av).length ≤ maxL)
    (body : ∀ (p : Program) (e : Env) (s : State) (m : MethodId) (below : List Frame) (meth : Method) (c : Code) (A : Nat → Prop) (ls : Array Slot) (H : Heap) (locs : List Loc), p.tables.exec = Jvm.exec → c.code = cc → meth.sig.returnType = ret → (∀ w ∈ ws, w.before av.toArray s = true) → s.vm.findClass y.cls = some m.cls → meth.locks = false → c.maxLocals = maxL → meth.name = "<init>" → va_P D cl w0 H → va_K D cl tys s → va_D A w0 → (∀ q : Nat, s.heap.size ≤ q → A q) → va_S A s.heap H locs → lv_has ls maxL (lv_args 0 av) → W p l e rm s m av.toArray below meth c H locs 0 0 (MQ below (Qc A) av.toArray s mc ms A) (F0 m 0 ls [])) : ∀ sz : Nat, Met l y ws rm (va_Pc av (eb_pre D cl tys w0 sz)) (Qc (va_A w0 sz)) mc ms (va_A w0 sz) := by
  intro sz
  refine Met.ofW (cc := cc) (maxL := maxL) (ret := ret) hy hw ?_
  intro p e s m args below meth c s₁ B hml hv
  obtain ⟨rfl, hsz, hP, hK, hD0⟩ := hv
  subst hsz
  have hl := lv_entry av (n := maxL) hnl
  have hin : meth.name = y.name := (name_of_methodNamed B.named B.method).1
  rw [lg_entry_eq]
  exact body p e s m below meth c (va_A w0 s.heap.size) _ _ _ B.exec B.bytes B.returns (atoms_spec (ws := ws) B.pre) (findClass_of_methodNamed B.named) B.notSynchronized hml (hin.trans hi) hP hK (hD0.self (sz := s.heap.size)) (fun q h => Or.inr h) va_S.rf hl
section EK
variable {p : Program} {l : Launch} {e : Env} {R : Room} {s : State} {m : MethodId} {args : Array Value} {below : List Frame} {meth : Method} {c : Code} {H : Heap} {locs : List Loc} {cells slots : Nat} {Q : State → Prop}
variable {cc : ByteArray} {pc : Nat} {ls : Array Slot} {st : List Value} {D : va_G} {cl : List vw_C} {A : Nat → Prop} {H0 : Heap}
abbrev eb_endS {S : Type} (D : va_G) (cl : List vw_C) (tf : S → List (ClassId × FieldType)) (wf : S → va_W) (A : Nat → Prop) : S → State → Prop := fun u t => va_P D cl (wf u) t.heap ∧ va_K D cl (tf u) t ∧ va_D A (wf u)
theorem eb_vretC {S : Type} {post : S → Prop} {wf : S → va_W} {tf : S → List (ClassId × FieldType)} (u : S) (hx : p.tables.exec = Jvm.exec) (hb : c.code = cc) (hr : meth.sig.returnType = none) (hlk : meth.locks = false) (hK : va_K D cl (tf u) s) (hP : va_P D cl (wf u) H) (hD : va_D A (wf u)) (hS : va_S A s.heap H locs) (hdg : decode cc pc = .ok (.return_, 1)) (hpost : post u) :
    W p l e R s m args below meth c H locs cells slots (MQ below (va_Qv post (eb_endS D cl tf wf A) A) args s cells slots A) (F0 m pc ls []) :=
  W.vret hx hb hr (fun t ht hW => ⟨⟨u, rfl, hpost, by rw [ht]; exact hP, va_K.moved hW.alike hK, hD⟩, hS.F ht⟩) hS.2.2 hdg hlk
theorem eb_ji (w : va_W) (hP : va_P D cl w H) (hS : va_S A H0 H locs) (pc2 : Nat) (y : Int32) (k1 : (∀ (x : Int32) (H1 : Heap) (locs1 : List Loc), x = y → va_P D cl w H1 → va_S A H0 H1 locs1 → W p l e R s m args below meth c H1 locs1 cells slots Q (F0 m pc2 ls (.int x :: st))) → W p l e R s m args below meth c H locs cells slots Q (F0 m pc ls st)) (k2 : ∀ (H1 : Heap) (locs1 : List Loc), va_P D cl w H1 → va_S A H0 H1 locs1 → W p l e R s m args below meth c H1 locs1 cells slots Q (F0 m pc2 ls (.int y :: st))) : W p l e R s m args below meth c H locs cells slots Q (F0 m pc ls st) := k1 (fun x H1 locs1 h => by rw [h]; exact k2 H1 locs1)
end EK
/-- a number held between 1 and h -/
def et_cl (h : Nat) (x : Int32) : Nat := if x.toInt < 1 then 1 else if (h : Int) < x.toInt then h else x.toInt.toNat
theorem et_cl_in {h : Nat} (hh : 1 ≤ h) (x : Int32) : 1 ≤ et_cl h x ∧ et_cl h x ≤ h := by
  unfold et_cl
  split
  · omega
  · split <;> omega
theorem et_cl_lo {h : Nat} {x : Int32} (hx : x < 1) : (1 : Int32) = nI (et_cl h x) := by
  rw [Int32.lt_iff_toInt_lt] at hx
  have h1 : (1 : Int32).toInt = 1 := by decide
  unfold et_cl
  rw [if_pos (by omega)]
  rfl
theorem et_cl_hi {h : Nat} (hb : h < 2 ^ 31) {x : Int32} (h0 : ¬ x < 1) (hx : nI h < x) : nI h = nI (et_cl h x) := by
  rw [Int32.lt_iff_toInt_lt] at hx h0
  rw [nI_toInt hb] at hx
  have h1 : (1 : Int32).toInt = 1 := by decide
  unfold et_cl
  rw [if_neg (by omega), if_pos hx]
theorem et_cl_mid {h : Nat} (hb : h < 2 ^ 31) {x : Int32} (h0 : ¬ x < 1) (hx : ¬ nI h < x) : x = nI (et_cl h x) := by
  rw [Int32.lt_iff_toInt_lt] at hx h0
  rw [nI_toInt hb] at hx
  have h1 : (1 : Int32).toInt = 1 := by decide
  unfold et_cl
  rw [if_neg (by omega), if_neg hx]
  apply Int32.toInt_inj.mp
  rw [nI_toInt (by omega)]
  omega
theorem et_cl_X {h : Nat} (h1 : 1 ≤ h) (hb : h < 2 ^ 31) (x : Int32) : (if (1 : Int32) < (if x < nI h then x else nI h) then (if x < nI h then x else nI h) else 1) = nI (et_cl h x) := by
  have e1 : (1 : Int32).toInt = 1 := by decide
  have eh : (nI h).toInt = h := nI_toInt hb
  by_cases a : x < nI h
  · rw [if_pos a]
    by_cases b : (1 : Int32) < x
    · rw [if_pos b]
      rw [Int32.lt_iff_toInt_lt] at a b
      exact et_cl_mid hb (by rw [Int32.lt_iff_toInt_lt]; omega) (by rw [Int32.lt_iff_toInt_lt]; omega)
    · rw [if_neg b]
      by_cases d : x < 1
      · exact et_cl_lo d
      · have : x = 1 := by
          apply Int32.toInt_inj.mp
          rw [Int32.lt_iff_toInt_lt] at b d
          omega
        subst this
        exact et_cl_mid hb d (by rw [Int32.lt_iff_toInt_lt] at a ⊢; omega)
  · rw [if_neg a]
    rw [Int32.lt_iff_toInt_lt] at a
    by_cases b : (1 : Int32) < nI h
    · rw [if_pos b]
      rw [Int32.lt_iff_toInt_lt] at b
      by_cases d : nI h < x
      · exact et_cl_hi hb (by rw [Int32.lt_iff_toInt_lt]; omega) d
      · have : x = nI h := by
          apply Int32.toInt_inj.mp
          rw [Int32.lt_iff_toInt_lt] at d
          omega
        subst this
        exact et_cl_mid hb (by rw [Int32.lt_iff_toInt_lt]; omega) d
    · rw [if_neg b]
      rw [Int32.lt_iff_toInt_lt] at b
      have hh : h = 1 := by omega
      subst hh
      by_cases d : nI 1 < x
      · exact et_cl_hi hb (by rw [Int32.lt_iff_toInt_lt]; omega) d
      · have : x = nI 1 := by
          apply Int32.toInt_inj.mp
          rw [Int32.lt_iff_toInt_lt] at d
          omega
        subst this
        exact et_cl_mid hb (by decide) d
def et_d0 (x : Int32) : Nat := x.toInt.toNat
theorem et_d0_lt (x : Int32) : et_d0 x < 2 ^ 31 := by
  have := Int32.toInt_lt x
  unfold et_d0
  omega
theorem et_d0_pos {x : Int32} (h : ¬ x < 0) : x = nI (et_d0 x) := by
  have h0 : (0 : Int32).toInt = 0 := by decide
  rw [Int32.lt_iff_toInt_lt] at h
  apply Int32.toInt_inj.mp
  rw [nI_toInt (et_d0_lt x)]
  unfold et_d0
  omega
theorem et_d0_neg {x : Int32} (h : ¬ 0 < x) : (0 : Int32) = nI (et_d0 x) := by
  have h0 : (0 : Int32).toInt = 0 := by decide
  rw [Int32.lt_iff_toInt_lt] at h
  have : et_d0 x = 0 := by unfold et_d0; omega
  rw [this]
  rfl
theorem et_d0_X (x : Int32) : (if (0 : Int32) < x then x else 0) = nI (et_d0 x) := by
  by_cases h : (0 : Int32) < x
  · rw [if_pos h]
    refine et_d0_pos ?_
    rw [Int32.lt_iff_toInt_lt] at h ⊢
    omega
  · rw [if_neg h]
    exact et_d0_neg h
/-- the kinds: digits to the base 3; a second 1 is a 0 -/
def et_hp (n i : Nat) : Prop := ∃ j, j < i ∧ n / 3 ^ j % 3 = 1
noncomputable def et_kv (n i : Nat) : Int32 := @ite Int32 (n / 3 ^ i % 3 = 1 ∧ et_hp n i) (Classical.propDecidable _) 0 (nI (n / 3 ^ i % 3))
noncomputable def et_kf (n i : Nat) : Nat → Int32 := fun j => if j < i then et_kv n j else 0
theorem et_kf_0 {n : Nat} : (fun _ => 0) = et_kf n 0 := by
  funext j; unfold et_kf; rw [if_neg (Nat.not_lt_zero j)]
theorem et_kf_s {n i : Nat} {v : Int32} (hv : v = et_kv n i) : upd (et_kf n i) i v = et_kf n (i + 1) := by
  funext j
  unfold upd et_kf
  by_cases h : j = i
  · subst h
    rw [if_pos rfl, if_pos (by omega), hv]
  · rw [if_neg h]
    by_cases h2 : j < i
    · rw [if_pos h2, if_pos (by omega)]
    · rw [if_neg h2, if_neg (by omega)]
theorem et_kv_1 {n i : Nat} (h1 : n / 3 ^ i % 3 = 1) (h2 : et_hp n i) : (0 : Int32) = et_kv n i := by
  unfold et_kv; rw [if_pos ⟨h1, h2⟩]
theorem et_kv_2 {n i : Nat} (h1 : ¬ n / 3 ^ i % 3 = 1) : nI (n / 3 ^ i % 3) = et_kv n i := by
  unfold et_kv; rw [if_neg (fun h => h1 h.1)]
theorem et_kv_3 {n i : Nat} (h2 : ¬ et_hp n i) : nI (n / 3 ^ i % 3) = et_kv n i := by
  unfold et_kv; rw [if_neg (fun h => h2 h.2)]
theorem et_hp_0 {n : Nat} : ¬ et_hp n 0 := fun ⟨j, h, _⟩ => Nat.not_lt_zero j h
theorem et_hp_k {n i : Nat} (h : et_hp n i) : et_hp n (i + 1) := by
  obtain ⟨j, h1, h2⟩ := h
  exact ⟨j, by omega, h2⟩
theorem et_hp_1 {n i : Nat} (h : n / 3 ^ i % 3 = 1) : et_hp n (i + 1) := ⟨i, Nat.lt_succ_self i, h⟩
theorem et_hp_n {n i : Nat} (h : ¬ et_hp n i) (h1 : ¬ n / 3 ^ i % 3 = 1) : ¬ et_hp n (i + 1) := by
  rintro ⟨j, h2, h3⟩
  by_cases e : j = i
  · subst e; exact h1 h3
  · exact h ⟨j, by omega, h3⟩
theorem et_dg_s {n i : Nat} : n / 3 ^ i / 3 = n / 3 ^ (i + 1) := by
  rw [Nat.div_div_eq_div_mul, Nat.pow_succ]
theorem et_kf_kk (n : Nat) : ∀ k, et_kk (et_kf n 3 k) := by
  intro k
  unfold et_kf
  split
  · unfold et_kv
    by_cases h : (n / 3 ^ k % 3 = 1 ∧ et_hp n k)
    · rw [if_pos h]; exact Or.inl rfl
    · rw [if_neg h]
      have h3 : n / 3 ^ k % 3 < 3 := Nat.mod_lt _ (by decide)
      generalize n / 3 ^ k % 3 = x at h3
      rcases (show x = 0 ∨ x = 1 ∨ x = 2 by omega) with rfl | rfl | rfl
      · exact Or.inl rfl
      · exact Or.inr (Or.inl rfl)
      · exact Or.inr (Or.inr rfl)
  · exact Or.inl rfl
theorem et_d0_neg' {x : Int32} (h : x < 0) : (0 : Int32) = nI (et_d0 x) := by
  refine et_d0_neg ?_
  rw [Int32.lt_iff_toInt_lt] at h ⊢
  omega
theorem et_uu {f : Nat → Int32} {k : Nat} {v w : Int32} : upd (upd f k v) k w = upd f k w := by
  funext j
  unfold upd
  by_cases h : j = k
  · rw [if_pos h, if_pos h]
  · rw [if_neg h, if_neg h, if_neg h]
