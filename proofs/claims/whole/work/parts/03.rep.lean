/-! How the class's rows, and the reference's, hold lists of entries. -/
def et_CR (K w : Nat) (kd : Nat → Int32) (L : List et_E) (o : Nat → Nat) (ord nums pris pres fins : Nat → Int32) (vals msks : Nat → Int64) : Prop :=
  (∀ r, r < 24 → ord r = nI (o r) ∧ o r < 24) ∧ (∀ i j, i < 24 → j < 24 → o i = o j → i = j) ∧ L.length ≤ 24 ∧
  (∀ r x, L[r]? = some x → nums (o r) = nI (et_n x) ∧ pris (o r) = et_p x ∧ pres (o r) = (et_pf K kd (et_m x)).toInt32 ∧ fins (o r) = et_h x ∧ ∀ k, k < K → vals (o r * 3 + k) = et_v x k ∧ msks (o r * 3 + k) = et_db (et_ab w) (kd k) (et_m x k)) ∧
  (∀ i k, i < 24 → K ≤ k → k < 3 → vals (i * 3 + k) = 0 ∧ msks (i * 3 + k) = 0)
def et_RR (A : List et_E) (num pri hit : Nat → Int32) (val msk : Nat → Int64) : Prop :=
  A.length ≤ 24 ∧ ∀ i x, A[i]? = some x → num i = nI (et_n x) ∧ pri i = et_p x ∧ hit i = et_h x ∧ ∀ k, k < 3 → val (3 * i + k) = et_v x k ∧ msk (3 * i + k) = et_m x k
def et_i1 (j E r : Nat) : Nat := if r = j then E else if j < r ∧ r ≤ E then r - 1 else r
def et_i2 (j E r : Nat) : Nat := if r = E - 1 then j else if j ≤ r ∧ r < E - 1 then r + 1 else r
theorem et_i1_inj {j E a b : Nat} (hj : j ≤ E) (h : et_i1 j E a = et_i1 j E b) : a = b := by
  unfold et_i1 at h
  split at h <;> split at h <;> (try split at h) <;> (try split at h) <;> omega
theorem et_i2_inj {j E a b : Nat} (hj : j < E) (h : et_i2 j E a = et_i2 j E b) : a = b := by
  unfold et_i2 at h
  split at h <;> split at h <;> (try split at h) <;> (try split at h) <;> omega
theorem et_o1 {ord : Nat → Int32} {j E r : Nat} (hj : j ≤ E) : upd (va_cpy ord ord j (j + 1) (E - j)) j (ord E) r = ord (et_i1 j E r) := by
  unfold upd va_cpy et_i1
  by_cases h1 : r = j
  · rw [if_pos h1, if_pos h1]
  · rw [if_neg h1, if_neg h1]
    by_cases h2 : j < r ∧ r ≤ E
    · rw [if_pos h2, if_pos (by omega)]
      congr 1; omega
    · rw [if_neg h2, if_neg (by omega)]
theorem et_o2 {ord : Nat → Int32} {j E r : Nat} (hj : j < E) : upd (va_cpy ord ord (j + 1) j (E - 1 - j)) (E - 1) (ord j) r = ord (et_i2 j E r) := by
  unfold upd va_cpy et_i2
  by_cases h1 : r = E - 1
  · rw [if_pos h1, if_pos h1]
  · rw [if_neg h1, if_neg h1]
    by_cases h2 : j ≤ r ∧ r < E - 1
    · rw [if_pos h2, if_pos (by omega)]
      congr 1; omega
    · rw [if_neg h2, if_neg (by omega)]
theorem et_CR_ins {K w : Nat} {kd : Nat → Int32} {L : List et_E} {o : Nat → Nat} {ord nums pris pres fins : Nat → Int32} {vals msks vals' msks' : Nat → Int64} (h : et_CR K w kd L o ord nums pris pres fins vals msks) (hK : K ≤ 3) {E j N : Nat} (hE : L.length = E) (hE2 : E < 24) (hj : j ≤ E) {p : Int32} {v m : Nat → Int64}
    (ho : ∀ i, (i < o E * 3 ∨ o E * 3 + K ≤ i) → vals' i = vals i ∧ msks' i = msks i) (hi : ∀ k, k < K → vals' (o E * 3 + k) = v k ∧ msks' (o E * 3 + k) = et_db (et_ab w) (kd k) (m k)) :
    et_CR K w kd (L.insertIdx j (N, p, 0, v, m)) (fun r => o (et_i1 j E r)) (upd (va_cpy ord ord j (j + 1) (E - j)) j (ord E)) (upd nums (o E) (nI N)) (upd pris (o E) p) (upd pres (o E) (et_pf K kd m).toInt32) (upd fins (o E) 0) vals' msks' := by
  obtain ⟨h1, h2, h3, h4, h5⟩ := h
  have hlt : ∀ r, r < 24 → et_i1 j E r < 24 := by
    intro r hr
    unfold et_i1
    split
    · omega
    · split <;> omega
  have ap : ∀ r x, L[r]? = some x → upd nums (o E) (nI N) (o r) = nI (et_n x) ∧ upd pris (o E) p (o r) = et_p x ∧ upd pres (o E) (et_pf K kd m).toInt32 (o r) = (et_pf K kd (et_m x)).toInt32 ∧ upd fins (o E) 0 (o r) = et_h x ∧ ∀ k, k < K → vals' (o r * 3 + k) = et_v x k ∧ msks' (o r * 3 + k) = et_db (et_ab w) (kd k) (et_m x k) := by
    intro r x hx
    have hr : r < L.length := (List.getElem?_eq_some_iff.mp hx).1
    have hne : o r ≠ o E := fun q => by have := h2 r E (by omega) hE2 q; omega
    obtain ⟨a1, a2, a3, a4, a5⟩ := h4 r x hx
    refine ⟨by rw [pk_un hne]; exact a1, by rw [pk_un hne]; exact a2, by rw [pk_un hne]; exact a3, by rw [pk_un hne]; exact a4, fun k hk => ?_⟩
    obtain ⟨b1, b2⟩ := ho (o r * 3 + k) (by omega)
    rw [b1, b2]
    exact a5 k hk
  refine ⟨fun r hr => ?_, fun a b ha hb hab => ?_, ?_, fun r x hx => ?_, fun i k hi2 hk1 hk2 => ?_⟩
  · rw [et_o1 hj]
    exact h1 _ (hlt r hr)
  · exact et_i1_inj hj (h2 _ _ (hlt a ha) (hlt b hb) hab)
  · rw [List.length_insertIdx_of_le_length (by omega)]
    omega
  · rcases Nat.lt_trichotomy r j with hrj | hrj | hrj
    · rw [List.getElem?_insertIdx_of_lt hrj] at hx
      have e : et_i1 j E r = r := by unfold et_i1; rw [if_neg (by omega), if_neg (by omega)]
      dsimp only
      rw [e]
      exact ap r x hx
    · subst hrj
      rw [List.getElem?_insertIdx_self, if_pos (by omega)] at hx
      cases hx
      have e : et_i1 r E r = E := by unfold et_i1; rw [if_pos rfl]
      dsimp only
      rw [e]
      exact ⟨pk_us, pk_us, pk_us, pk_us, hi⟩
    · rw [List.getElem?_insertIdx_of_gt hrj] at hx
      have hr : r - 1 < L.length := (List.getElem?_eq_some_iff.mp hx).1
      have e : et_i1 j E r = r - 1 := by unfold et_i1; rw [if_neg (by omega), if_pos (by omega)]
      dsimp only
      rw [e]
      exact ap (r - 1) x hx
  · obtain ⟨b1, b2⟩ := ho (i * 3 + k) (by omega)
    rw [b1, b2]
    exact h5 i k hi2 hk1 hk2
theorem et_CR_del {K w : Nat} {kd : Nat → Int32} {L : List et_E} {o : Nat → Nat} {ord nums pris pres fins : Nat → Int32} {vals msks : Nat → Int64} (h : et_CR K w kd L o ord nums pris pres fins vals msks) {E j : Nat} (hE : L.length = E) (hj : j < E) :
    et_CR K w kd (L.eraseIdx j) (fun r => o (et_i2 j E r)) (upd (va_cpy ord ord (j + 1) j (E - 1 - j)) (E - 1) (ord j)) nums pris pres fins vals msks := by
  obtain ⟨h1, h2, h3, h4, h5⟩ := h
  have hlt : ∀ r, r < 24 → et_i2 j E r < 24 := by
    intro r hr
    unfold et_i2
    split
    · omega
    · split <;> omega
  refine ⟨fun r hr => ?_, fun a b ha hb hab => ?_, ?_, fun r x hx => ?_, h5⟩
  · rw [et_o2 hj]
    exact h1 _ (hlt r hr)
  · exact et_i2_inj hj (h2 _ _ (hlt a ha) (hlt b hb) hab)
  · exact Nat.le_trans (List.length_eraseIdx_le L j) h3
  · by_cases hrj : r < j
    · rw [List.getElem?_eraseIdx_of_lt hrj] at hx
      have e : et_i2 j E r = r := by unfold et_i2; rw [if_neg (by omega), if_neg (by omega)]
      dsimp only
      rw [e]
      exact h4 r x hx
    · rw [List.getElem?_eraseIdx_of_ge (by omega)] at hx
      have hr : r + 1 < L.length := (List.getElem?_eq_some_iff.mp hx).1
      have e : et_i2 j E r = r + 1 := by unfold et_i2; rw [if_neg (by omega), if_pos (by omega)]
      dsimp only
      rw [e]
      exact h4 (r + 1) x hx
theorem et_CR_hit {K w : Nat} {kd : Nat → Int32} {L : List et_E} {o : Nat → Nat} {ord nums pris pres fins : Nat → Int32} {vals msks : Nat → Int64} (h : et_CR K w kd L o ord nums pris pres fins vals msks) {j : Nat} {x : et_E} (hj : L[j]? = some x) :
    et_CR K w kd (L.set j (et_hit x)) o ord nums pris pres (upd fins (o j) (fins (o j) + 1)) vals msks := by
  obtain ⟨h1, h2, h3, h4, h5⟩ := h
  have hjl : j < L.length := (List.getElem?_eq_some_iff.mp hj).1
  refine ⟨h1, h2, by rw [List.length_set]; exact h3, fun r y hy => ?_, h5⟩
  by_cases e : r = j
  · subst e
    rw [List.getElem?_set_self hjl] at hy
    cases hy
    obtain ⟨a1, a2, a3, a4, a5⟩ := h4 r x hj
    exact ⟨a1, a2, a3, by rw [pk_us, a4], a5⟩
  · rw [List.getElem?_set_ne (Ne.symm e)] at hy
    have hr : r < L.length := (List.getElem?_eq_some_iff.mp hy).1
    obtain ⟨a1, a2, a3, a4, a5⟩ := h4 r y hy
    exact ⟨a1, a2, a3, by rw [pk_un (fun q => e (h2 r j (by omega) (by omega) q))]; exact a4, a5⟩
theorem et_RR_ins {A : List et_E} {num pri hit num' pri' hit' : Nat → Int32} {val msk val' msk' : Nat → Int64} (h : et_RR A num pri hit val msk) {x : et_E} (hC : A.length < 24) (h1 : ∀ i, i < A.length → num' i = num i ∧ pri' i = pri i ∧ hit' i = hit i) (h2 : ∀ i, i < 3 * A.length → val' i = val i ∧ msk' i = msk i)
    (h3 : num' A.length = nI (et_n x) ∧ pri' A.length = et_p x ∧ hit' A.length = et_h x) (h4 : ∀ k, k < 3 → val' (3 * A.length + k) = et_v x k ∧ msk' (3 * A.length + k) = et_m x k) : et_RR (A ++ [x]) num' pri' hit' val' msk' := by
  refine ⟨by rw [List.length_append]; exact hC, fun i y hy => ?_⟩
  by_cases hi : i < A.length
  · rw [List.getElem?_append_left hi] at hy
    obtain ⟨a1, a2, a3, a4⟩ := h.2 i y hy
    obtain ⟨b1, b2, b3⟩ := h1 i hi
    refine ⟨by rw [b1]; exact a1, by rw [b2]; exact a2, by rw [b3]; exact a3, fun k hk => ?_⟩
    obtain ⟨c1, c2⟩ := h2 (3 * i + k) (by omega)
    rw [c1, c2]
    exact a4 k hk
  · rw [List.getElem?_append_right (by omega)] at hy
    have hz : i - A.length < 1 := (List.getElem?_eq_some_iff.mp hy).1
    have e : i = A.length := by omega
    subst e
    rw [Nat.sub_self] at hy
    cases hy
    exact ⟨h3.1, h3.2.1, h3.2.2, h4⟩
theorem et_RR_del {A : List et_E} {num pri hit num' pri' hit' : Nat → Int32} {val msk val' msk' : Nat → Int64} (h : et_RR A num pri hit val msk) {j : Nat} (hj : j < A.length) (h1 : ∀ i, i < j → num' i = num i ∧ pri' i = pri i ∧ hit' i = hit i) (h2 : ∀ i, i < 3 * j → val' i = val i ∧ msk' i = msk i)
    (h3 : ∀ i, j ≤ i → i + 1 < A.length → num' i = num (i + 1) ∧ pri' i = pri (i + 1) ∧ hit' i = hit (i + 1)) (h4 : ∀ i, j ≤ i → i + 1 < A.length → ∀ k, k < 3 → val' (3 * i + k) = val (3 * i + 3 + k) ∧ msk' (3 * i + k) = msk (3 * i + 3 + k)) : et_RR (A.eraseIdx j) num' pri' hit' val' msk' := by
  refine ⟨Nat.le_trans (List.length_eraseIdx_le A j) h.1, fun i y hy => ?_⟩
  by_cases hi : i < j
  · rw [List.getElem?_eraseIdx_of_lt hi] at hy
    obtain ⟨a1, a2, a3, a4⟩ := h.2 i y hy
    obtain ⟨b1, b2, b3⟩ := h1 i hi
    refine ⟨by rw [b1]; exact a1, by rw [b2]; exact a2, by rw [b3]; exact a3, fun k hk => ?_⟩
    obtain ⟨c1, c2⟩ := h2 (3 * i + k) (by omega)
    rw [c1, c2]
    exact a4 k hk
  · rw [List.getElem?_eraseIdx_of_ge (by omega)] at hy
    have hr : i + 1 < A.length := (List.getElem?_eq_some_iff.mp hy).1
    obtain ⟨a1, a2, a3, a4⟩ := h.2 (i + 1) y hy
    obtain ⟨b1, b2, b3⟩ := h3 i (by omega) hr
    refine ⟨by rw [b1]; exact a1, by rw [b2]; exact a2, by rw [b3]; exact a3, fun k hk => ?_⟩
    obtain ⟨c1, c2⟩ := h4 i (by omega) hr k hk
    rw [c1, c2]
    exact a4 k hk
theorem et_RR_hit {A : List et_E} {num pri hit : Nat → Int32} {val msk : Nat → Int64} (h : et_RR A num pri hit val msk) {j : Nat} {x : et_E} (hj : A[j]? = some x) : et_RR (A.set j (et_hit x)) num pri (upd hit j (hit j + 1)) val msk := by
  have hjl : j < A.length := (List.getElem?_eq_some_iff.mp hj).1
  refine ⟨by rw [List.length_set]; exact h.1, fun i y hy => ?_⟩
  by_cases e : i = j
  · subst e
    rw [List.getElem?_set_self hjl] at hy
    cases hy
    obtain ⟨a1, a2, a3, a4⟩ := h.2 i x hj
    exact ⟨a1, a2, by rw [pk_us, a3], a4⟩
  · rw [List.getElem?_set_ne (Ne.symm e)] at hy
    obtain ⟨a1, a2, a3, a4⟩ := h.2 i y hy
    exact ⟨a1, a2, by rw [pk_un e]; exact a3, a4⟩
