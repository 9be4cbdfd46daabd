/-! What a table IS, without the machine: entries as lists, in the order of their making (the reference) and in the order in which they count (the class). -/
/-- an entry: number, priority, hits, values and masks as they were told -/
abbrev et_E : Type := Nat × Int32 × Int32 × (Nat → Int64) × (Nat → Int64)
abbrev et_n (x : et_E) : Nat := x.1
abbrev et_p (x : et_E) : Int32 := x.2.1
abbrev et_h (x : et_E) : Int32 := x.2.2.1
abbrev et_v (x : et_E) : Nat → Int64 := x.2.2.2.1
abbrev et_m (x : et_E) : Nat → Int64 := x.2.2.2.2
/-- the mask told of the first key, from i on, n of them, that is a PREFIX; else 0 -/
def et_pg (kd : Nat → Int32) (f : Nat → Int64) : Nat → Nat → Int64
  | _, 0 => 0
  | i, n + 1 => if kd i = 1 then f i else et_pg kd f (i + 1) n
abbrev et_pf (K : Nat) (kd : Nat → Int32) (f : Nat → Int64) : Int64 := et_pg kd f 0 K
/-- the bits that a key looks at, by kind, as the class has them -/
def et_db (ab : Int64) (kk : Int32) (m : Int64) : Int64 := if kk = 0 then ab else if kk = 1 then ab ^^^ (ab.toUInt64 >>> (m.toInt32.toInt64.toUInt64 &&& Int64.toUInt64 63)).toInt64 else m
def et_num (ab x : Int64) : Prop := 0 ≤ x ∧ x ≤ ab
/-- a key of the entry that is made up is sound, as the class asks -/
def et_ks (ab : Int64) (W : Int32) (kk : Int32) (v m : Int64) : Prop := et_num ab v ∧ (kk = 0 ∨ ((if kk = 1 then 0 ≤ m ∧ m ≤ W.toInt64 else et_num ab m) ∧ v &&& (et_db ab kk m ^^^ (-1)) = 0))
def et_snd (K : Nat) (ab : Int64) (W : Int32) (kd : Nat → Int32) (v m : Nat → Int64) : Prop := ∀ k, k < K → et_ks ab W (kd k) (v k) (m k)
def et_ab (w : Nat) : Int64 := lN (2 ^ w - 1)
/-- x counts before y -/
abbrev et_bf (K : Nat) (kd : Nat → Int32) (x y : et_E) : Prop := et_pf K kd (et_m y) < et_pf K kd (et_m x) ∨ (et_pf K kd (et_m x) = et_pf K kd (et_m y) ∧ (et_p y < et_p x ∨ (et_p x = et_p y ∧ et_n x < et_n y)))
theorem et_bf_irr {K : Nat} {kd : Nat → Int32} {x : et_E} : ¬ et_bf K kd x x := by
  rintro (h | ⟨-, h | ⟨-, h⟩⟩)
  · rw [Int64.lt_iff_toInt_lt] at h; omega
  · rw [Int32.lt_iff_toInt_lt] at h; omega
  · omega
theorem et_bf_tr {K : Nat} {kd : Nat → Int32} {x y z : et_E} (h1 : et_bf K kd x y) (h2 : et_bf K kd y z) : et_bf K kd x z := by
  unfold et_bf at *
  rw [Int64.lt_iff_toInt_lt, Int32.lt_iff_toInt_lt, ← Int64.toInt_inj, ← Int32.toInt_inj] at *
  omega
theorem et_bf_as {K : Nat} {kd : Nat → Int32} {x y : et_E} (h1 : et_bf K kd x y) : ¬ et_bf K kd y x := fun h2 => et_bf_irr (et_bf_tr h1 h2)
/-- an entry's rank is the number of those before it -/
theorem et_rank {K : Nat} {kd : Nat → Int32} : ∀ {L : List et_E} {r : Nat} {x : et_E}, L.Pairwise (et_bf K kd) → L[r]? = some x → L.countP (fun z => decide (et_bf K kd z x)) = r
  | [], r, x, _, h => by simp at h
  | y :: t, 0, x, hp, h => by
    rw [List.getElem?_cons_zero] at h
    cases h
    rw [List.pairwise_cons] at hp
    rw [List.countP_cons]
    have h0 : t.countP (fun z => decide (et_bf K kd z y)) = 0 := by
      rw [List.countP_eq_zero]
      intro z hz
      simp only [decide_eq_true_eq]
      exact et_bf_as (hp.1 z hz)
    rw [h0]
    simp only [decide_eq_true_eq]
    rw [if_neg et_bf_irr]
  | y :: t, r + 1, x, hp, h => by
    rw [List.getElem?_cons_succ] at h
    rw [List.pairwise_cons] at hp
    rw [List.countP_cons, et_rank hp.2 h]
    simp only [decide_eq_true_eq]
    rw [if_pos (hp.1 x (List.mem_of_getElem? h))]
/-- what both sides keep of each other -/
def et_IV (K w : Nat) (kd : Nat → Int32) (N : Nat) (A L : List et_E) : Prop :=
  A.Perm L ∧ A.Pairwise (fun x y => et_n x < et_n y) ∧ L.Pairwise (et_bf K kd) ∧ ∀ x ∈ A, et_n x < N ∧ et_snd K (et_ab w) (nI w) kd (et_v x) (et_m x)
theorem et_uniq {A : List et_E} (h : A.Pairwise (fun x y => et_n x < et_n y)) {x y : et_E} (hx : x ∈ A) (hy : y ∈ A) (e : et_n x = et_n y) : x = y := by
  induction A with
  | nil => cases hx
  | cons a t ih =>
    rw [List.pairwise_cons] at h
    rcases List.mem_cons.mp hx with rfl | hx1 <;> rcases List.mem_cons.mp hy with rfl | hy1
    · rfl
    · exact absurd (h.1 y hy1) (by omega)
    · exact absurd (h.1 x hx1) (by omega)
    · exact ih h.2 hx1 hy1
theorem et_perm_erase {α : Type} : ∀ {l : List α} {i : Nat} {x : α}, l[i]? = some x → l.Perm (x :: l.eraseIdx i)
  | [], i, x, h => by simp at h
  | y :: t, 0, x, h => by
    rw [List.getElem?_cons_zero] at h
    cases h
    exact List.Perm.refl _
  | y :: t, i + 1, x, h => by
    rw [List.getElem?_cons_succ] at h
    rw [List.eraseIdx_cons_succ]
    exact ((et_perm_erase h).cons y).trans (List.Perm.swap x y _)
theorem et_perm_set {α : Type} : ∀ {l : List α} {i : Nat} {x : α} (z : α), l[i]? = some x → (l.set i z).Perm (z :: l.eraseIdx i)
  | [], i, x, z, h => by simp at h
  | y :: t, 0, x, z, h => by
    rw [List.set_cons_zero]
    exact List.Perm.refl _
  | y :: t, i + 1, x, z, h => by
    rw [List.getElem?_cons_succ] at h
    rw [List.eraseIdx_cons_succ, List.set_cons_succ]
    exact ((et_perm_set z h).cons y).trans (List.Perm.swap z y _)
theorem et_IV_del {K w : Nat} {kd : Nat → Int32} {N : Nat} {A L : List et_E} (h : et_IV K w kd N A L) {i j : Nat} {x : et_E} (hi : A[i]? = some x) (hj : L[j]? = some x) : et_IV K w kd N (A.eraseIdx i) (L.eraseIdx j) := by
  obtain ⟨h1, h2, h3, h4⟩ := h
  refine ⟨List.Perm.cons_inv ((et_perm_erase hi).symm.trans (h1.trans (et_perm_erase hj))), h2.eraseIdx i, h3.eraseIdx j, fun x hx => h4 x (List.mem_of_mem_eraseIdx hx)⟩
/-- a pair of places of a list with one entry changed in what no order looks at -/
theorem et_pw_set {α : Type} {Rl : α → α → Prop} {l : List α} {i : Nat} {x z : α} (h : l.Pairwise Rl) (hi : l[i]? = some x) (h1 : ∀ y, Rl x y → Rl z y) (h2 : ∀ y, Rl y x → Rl y z) : (l.set i z).Pairwise Rl := by
  induction l generalizing i with
  | nil => simp at hi
  | cons a t ih =>
    rw [List.pairwise_cons] at h
    cases i with
    | zero =>
      rw [List.getElem?_cons_zero] at hi
      cases hi
      rw [List.set_cons_zero, List.pairwise_cons]
      exact ⟨fun y hy => h1 y (h.1 y hy), h.2⟩
    | succ i =>
      rw [List.getElem?_cons_succ] at hi
      rw [List.set_cons_succ, List.pairwise_cons]
      refine ⟨fun y hy => ?_, ih h.2 hi⟩
      rcases List.mem_or_eq_of_mem_set hy with hy | rfl
      · exact h.1 y hy
      · exact h2 a (h.1 x (List.mem_of_getElem? hi))
abbrev et_hit (x : et_E) : et_E := (et_n x, et_p x, et_h x + 1, et_v x, et_m x)
theorem et_IV_hit {K w : Nat} {kd : Nat → Int32} {N : Nat} {A L : List et_E} (h : et_IV K w kd N A L) {i j : Nat} {x : et_E} (hi : A[i]? = some x) (hj : L[j]? = some x) : et_IV K w kd N (A.set i (et_hit x)) (L.set j (et_hit x)) := by
  obtain ⟨h1, h2, h3, h4⟩ := h
  have e1 := List.Perm.cons_inv ((et_perm_erase hi).symm.trans (h1.trans (et_perm_erase hj)))
  refine ⟨(et_perm_set _ hi).trans ((e1.cons _).trans (et_perm_set _ hj).symm), et_pw_set h2 hi (fun y hy => hy) (fun y hy => hy), et_pw_set h3 hj (fun y hy => hy) (fun y hy => hy), fun y hy => ?_⟩
  rcases List.mem_or_eq_of_mem_set hy with hy | rfl
  · exact h4 y hy
  · exact h4 x (List.mem_of_getElem? hi)
/-- where a new entry goes: behind all that are no lower, before the first that is lower -/
def et_lo (K : Nat) (kd : Nat → Int32) (p : Int32) (m : Nat → Int64) (x : et_E) : Prop := et_pf K kd (et_m x) < et_pf K kd m ∨ (et_pf K kd (et_m x) = et_pf K kd m ∧ et_p x < p)
theorem et_IV_ins {K w : Nat} {kd : Nat → Int32} {N : Nat} {A L : List et_E} (h : et_IV K w kd N A L) {j : Nat} {p hh : Int32} {v m : Nat → Int64} (hj : j ≤ L.length) (hs : et_snd K (et_ab w) (nI w) kd v m) (hlt : ∀ i x, i < j → L[i]? = some x → ¬ et_lo K kd p m x) (hge : ∀ x, L[j]? = some x → et_lo K kd p m x) :
    et_IV K w kd (N + 1) (A ++ [(N, p, hh, v, m)]) (L.insertIdx j (N, p, hh, v, m)) := by
  obtain ⟨h1, h2, h3, h4⟩ := h
  have hnL : ∀ x ∈ L, et_n x < N := fun x hx => (h4 x (h1.mem_iff.mpr hx)).1
  refine ⟨?_, ?_, ?_, ?_⟩
  · exact (List.perm_append_singleton _ _).trans ((h1.cons _).trans (List.perm_insertIdx _ L hj).symm)
  · rw [List.pairwise_append]
    refine ⟨h2, List.pairwise_singleton _ _, fun a ha b hb => ?_⟩
    rw [List.mem_singleton] at hb
    subst hb
    exact (h4 a ha).1
  · rw [List.pairwise_iff_getElem] at h3 ⊢
    have key : ∀ (i : Nat) (x : et_E), L[i]? = some x → (i < j → et_bf K kd x (N, p, hh, v, m)) ∧ (j ≤ i → et_bf K kd (N, p, hh, v, m) x) := by
      intro i x hx
      have hN := hnL x (List.mem_of_getElem? hx)
      refine ⟨fun hij => ?_, fun hij => ?_⟩
      · have := hlt i x hij hx
        unfold et_lo at this
        unfold et_bf
        dsimp only [et_m, et_p, et_n] at *
        rw [Int64.lt_iff_toInt_lt, Int32.lt_iff_toInt_lt, ← Int64.toInt_inj] at *
        rw [← Int32.toInt_inj]
        omega
      · have hjl : j < L.length := by have := (List.getElem?_eq_some_iff.mp hx).1; omega
        have hxj := hge L[j] (List.getElem?_eq_getElem hjl)
        have hb : et_bf K kd (N, p, hh, v, m) L[j] := by
          unfold et_lo at hxj
          unfold et_bf
          dsimp only [et_m, et_p, et_n] at *
          rcases hxj with hxj | ⟨e1, e2⟩
          · exact Or.inl hxj
          · exact Or.inr ⟨e1.symm, Or.inl e2⟩
        by_cases e : j = i
        · subst e
          rw [List.getElem?_eq_getElem hjl] at hx
          cases hx
          exact hb
        · obtain ⟨hil, rfl⟩ := List.getElem?_eq_some_iff.mp hx
          exact et_bf_tr hb (h3 j i hjl hil (by omega))
    intro a b ha hb hab
    have la : (L.insertIdx j (N, p, hh, v, m)).length = L.length + 1 := List.length_insertIdx_of_le_length hj _
    rcases Nat.lt_trichotomy b j with hbj | hbj | hbj
    · rw [List.getElem_insertIdx_of_lt (by omega), List.getElem_insertIdx_of_lt hbj]
      exact h3 a b (by omega) (by omega) hab
    · subst hbj
      rw [List.getElem_insertIdx_of_lt hab, List.getElem_insertIdx_self]
      exact (key a _ (List.getElem?_eq_getElem (by omega))).1 hab
    · rcases Nat.lt_trichotomy a j with haj | haj | haj
      · rw [List.getElem_insertIdx_of_lt haj, List.getElem_insertIdx_of_gt hbj]
        exact h3 a (b - 1) (by omega) (by omega) (by omega)
      · subst haj
        rw [List.getElem_insertIdx_self, List.getElem_insertIdx_of_gt hbj]
        exact (key (b - 1) _ (List.getElem?_eq_getElem (by omega))).2 (by omega)
      · rw [List.getElem_insertIdx_of_gt haj, List.getElem_insertIdx_of_gt hbj]
        exact h3 (a - 1) (b - 1) (by omega) (by omega) (by omega)
  · intro x hx
    rcases List.mem_append.mp hx with hx | hx
    · exact ⟨Nat.lt_succ_of_lt (h4 x hx).1, (h4 x hx).2⟩
    · rw [List.mem_singleton] at hx
      subst hx
      exact ⟨Nat.lt_succ_self N, hs⟩
