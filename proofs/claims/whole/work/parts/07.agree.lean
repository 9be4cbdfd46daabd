/-! What each call says of both sides, in lists; and that the two then agree. StX, StM: what is left of the two worlds (draft, next number, misses, list). -/
abbrev et_F : Type := Nat → Int64
abbrev et_St : Type := et_F → et_F → Nat → Int32 → List et_E → va_W → Prop
abbrev et_z (f : et_F) : et_F := et_zz f 3
def et_Qm (St : et_St) (dv dm : et_F) (N : Nat) (ms : Int32) (L : List et_E) (k : Int32) (v m : Int64) (r : Int32) (w1 : va_W) : Prop :=
  ((k < 0 ∨ 3 ≤ k) ∧ r = -1 ∧ St dv dm N ms L w1) ∨ (∃ j : Nat, j < 3 ∧ k = nI j ∧ r = k ∧ St (vp_updL dv j v) (vp_updL dm j m) N ms L w1)
/-- the class's insert -/
def et_XT (K : Nat) (ab : Int64) (kd : Nat → Int32) (p : Int32) (dv dm : et_F) (x : et_E) : Prop := et_p x = p ∧ ∀ k, k < K → et_v x k = dv k ∧ et_db ab (kd k) (et_m x k) = et_db ab (kd k) (dm k)
def et_Xlo (K : Nat) (kd : Nat → Int32) (p : Int32) (dm : et_F) (x : et_E) : Prop := (et_pf K kd (et_m x)).toInt32 < (et_pf K kd dm).toInt32 ∨ ((et_pf K kd (et_m x)).toInt32 = (et_pf K kd dm).toInt32 ∧ et_p x < p)
def et_QXi (St : et_St) (K w : Nat) (kd : Nat → Int32) (dv dm : et_F) (N : Nat) (ms : Int32) (L : List et_E) (p : Int32) (r : Int32) (w1 : va_W) : Prop :=
  (¬ et_snd K (et_ab w) (nI w) kd dv dm ∧ r = -1 ∧ St dv dm N ms L w1) ∨
  (et_snd K (et_ab w) (nI w) kd dv dm ∧ (∃ x ∈ L, et_XT K (et_ab w) kd p dv dm x) ∧ r = -4 ∧ St dv dm N ms L w1) ∨
  (et_snd K (et_ab w) (nI w) kd dv dm ∧ (∀ x ∈ L, ¬ et_XT K (et_ab w) kd p dv dm x) ∧ 24 ≤ L.length ∧ r = -3 ∧ St dv dm N ms L w1) ∨
  (et_snd K (et_ab w) (nI w) kd dv dm ∧ (∀ x ∈ L, ¬ et_XT K (et_ab w) kd p dv dm x) ∧ L.length < 24 ∧ r = nI N ∧ ∃ j, j ≤ L.length ∧ (∀ i x, i < j → L[i]? = some x → ¬ et_Xlo K kd p dm x) ∧ (∀ x, L[j]? = some x → et_Xlo K kd p dm x) ∧ St (et_z dv) (et_z dm) (N + 1) ms (L.insertIdx j (N, p, 0, dv, dm)) w1)
/-- the reference's insert -/
def et_MT (K : Nat) (kd : Nat → Int32) (p : Int32) (dv dm : et_F) (x : et_E) : Prop := et_p x = p ∧ ∀ k, k < K → et_v x k = dv k ∧ (kd k = 0 ∨ et_m x k = dm k)
def et_Msnd (K : Nat) (W : Int32) (kd : Nat → Int32) (v m : et_F) : Prop := ∀ k, k < K → et_rs W (kd k) (v k) (m k)
def et_QMi (St : et_St) (K w : Nat) (kd : Nat → Int32) (dv dm : et_F) (N : Nat) (ms : Int32) (A : List et_E) (p : Int32) (r : Int32) (w1 : va_W) : Prop :=
  (¬ et_Msnd K (nI w) kd dv dm ∧ r = -1 ∧ St dv dm N ms A w1) ∨
  (et_Msnd K (nI w) kd dv dm ∧ (∃ x ∈ A, et_MT K kd p dv dm x) ∧ r = -4 ∧ St dv dm N ms A w1) ∨
  (et_Msnd K (nI w) kd dv dm ∧ (∀ x ∈ A, ¬ et_MT K kd p dv dm x) ∧ 24 ≤ A.length ∧ r = -3 ∧ St dv dm N ms A w1) ∨
  (et_Msnd K (nI w) kd dv dm ∧ (∀ x ∈ A, ¬ et_MT K kd p dv dm x) ∧ A.length < 24 ∧ r = nI N ∧ St (et_z dv) (et_z dm) (N + 1) ms (A ++ [(N, p, 0, dv, dm)]) w1)
def et_Qr (St : et_St) (dv dm : et_F) (N : Nat) (ms : Int32) (L : List et_E) (e : Int32) (r : Int32) (w1 : va_W) : Prop :=
  ((∀ x ∈ L, ¬ nI (et_n x) = e) ∧ r = -2 ∧ St dv dm N ms L w1) ∨ (∃ (j : Nat) (x : et_E), L[j]? = some x ∧ nI (et_n x) = e ∧ r = nI (L.length - 1) ∧ St dv dm N ms (L.eraseIdx j) w1)
def et_Xmt (K : Nat) (ab : Int64) (kd : Nat → Int32) (kf : et_F) (x : et_E) : Prop := ∀ k, k < K → kf k &&& et_db ab (kd k) (et_m x k) = et_v x k
def et_QXf (St : et_St) (K w : Nat) (kd : Nat → Int32) (dv dm : et_F) (N : Nat) (ms : Int32) (L : List et_E) (kf : et_F) (r : Int32) (w1 : va_W) : Prop :=
  ((∀ x ∈ L, ¬ et_Xmt K (et_ab w) kd kf x) ∧ r = -2 ∧ St dv dm N (ms + 1) L w1) ∨ (∃ (j : Nat) (x : et_E), L[j]? = some x ∧ et_Xmt K (et_ab w) kd kf x ∧ (∀ i y, i < j → L[i]? = some y → ¬ et_Xmt K (et_ab w) kd kf y) ∧ r = nI (et_n x) ∧ St dv dm N ms (L.set j (et_hit x)) w1)
def et_Mmt (K w : Nat) (kd : Nat → Int32) (kf : et_F) (x : et_E) : Prop := ∀ k, k < K → (kf k &&& et_ab w) &&& et_rm (nI w) (kd k) (et_m x k) = et_v x k
def et_QMf (St : et_St) (K w : Nat) (kd : Nat → Int32) (dv dm : et_F) (N : Nat) (ms : Int32) (A : List et_E) (kf : et_F) (r : Int32) (w1 : va_W) : Prop :=
  ((∀ x ∈ A, ¬ et_Mmt K w kd kf x) ∧ r = -2 ∧ St dv dm N (ms + 1) A w1) ∨ (∃ (i : Nat) (x : et_E), A[i]? = some x ∧ et_Mmt K w kd kf x ∧ (∀ y ∈ A, et_Mmt K w kd kf y → ¬ et_bf K kd y x) ∧ r = nI (et_n x) ∧ St dv dm N ms (A.set i (et_hit x)) w1)
def et_QXn (St : et_St) (dv dm : et_F) (N : Nat) (ms : Int32) (L : List et_E) (k : Int32) (r : Int32) (w1 : va_W) : Prop :=
  St dv dm N ms L w1 ∧ (((∀ j, j < L.length → ¬ k = nI j) ∧ r = -2) ∨ (∃ (j : Nat) (x : et_E), L[j]? = some x ∧ k = nI j ∧ r = nI (et_n x)))
def et_QMn (St : et_St) (K : Nat) (kd : Nat → Int32) (dv dm : et_F) (N : Nat) (ms : Int32) (A : List et_E) (k : Int32) (r : Int32) (w1 : va_W) : Prop :=
  St dv dm N ms A w1 ∧ (((∀ x ∈ A, ¬ k = nI (A.countP (fun z => decide (et_bf K kd z x)))) ∧ r = -2) ∨ (∃ x ∈ A, k = nI (A.countP (fun z => decide (et_bf K kd z x))) ∧ r = nI (et_n x)))
def et_Qh (St : et_St) (dv dm : et_F) (N : Nat) (ms : Int32) (L : List et_E) (e : Int32) (r : Int32) (w1 : va_W) : Prop :=
  St dv dm N ms L w1 ∧ (((∀ x ∈ L, ¬ nI (et_n x) = e) ∧ r = -2) ∨ (∃ x ∈ L, nI (et_n x) = e ∧ r = et_h x))
def et_cnt (K w : Nat) (kd : Nat → Int32) (ms : Int32) (n : Nat) (what : Int32) : Int32 := if what = 0 then nI K else if what = 1 then nI w else if what = 2 then nI n else if what = 3 then ms else if what = 4 then kd 0 else if what = 5 then kd 1 else if what = 6 then kd 2 else -1
def et_Qc (St : et_St) (K w : Nat) (kd : Nat → Int32) (dv dm : et_F) (N : Nat) (ms : Int32) (L : List et_E) (what : Int32) (r : Int32) (w1 : va_W) : Prop :=
  St dv dm N ms L w1 ∧ r = et_cnt K w kd ms L.length what
/-- both sides behind a call -/
def et_Go (StX StM : et_St) (K w : Nat) (kd : Nat → Int32) (N : Nat) (w1 w2 : va_W) : Prop :=
  ∃ (dv dm : et_F) (N' : Nat) (ms : Int32) (A L : List et_E), N' ≤ N + 1 ∧ et_IV K w kd N' A L ∧ StX dv dm N' ms L w1 ∧ StM dv dm N' ms A w2
section AG
variable {StX StM : et_St} {K w : Nat} {kd : Nat → Int32} {dv dm : et_F} {N : Nat} {ms : Int32} {A L : List et_E} {w1 w2 : va_W} {r1 r2 : Int32}
theorem et_same (h : et_IV K w kd N A L) (hx : StX dv dm N ms L w1) (hm : StM dv dm N ms A w2) : et_Go StX StM K w kd N w1 w2 := ⟨dv, dm, N, ms, A, L, Nat.le_succ N, h, hx, hm⟩
theorem et_agm {k : Int32} {v m : Int64} (h : et_IV K w kd N A L) (hx : et_Qm StX dv dm N ms L k v m r1 w1) (hm : et_Qm StM dv dm N ms A k v m r2 w2) : r1 = r2 ∧ et_Go StX StM K w kd N w1 w2 := by
  have no : ∀ j : Nat, j < 3 → k = nI j → ¬ (k < 0 ∨ 3 ≤ k) := by
    rintro j hj rfl (q | q)
    · exact nI_pos (by omega) q
    · exact nI_ge hj (by decide) q
  rcases hx with ⟨a1, a2, a3⟩ | ⟨j, a1, a2, a3, a4⟩ <;> rcases hm with ⟨b1, b2, b3⟩ | ⟨i, b1, b2, b3, b4⟩
  · exact ⟨by rw [a2, b2], et_same h a3 b3⟩
  · exact absurd a1 (no i b1 b2)
  · exact absurd b1 (no j a1 a2)
  · have e : j = i := (nI_eq (by omega) (by omega)).mp (a2.symm.trans b2)
    subst e
    exact ⟨by rw [a3, b3], et_same h a4 b4⟩
theorem et_agi {p : Int32} (hK : K ≤ 3) (hw : w < 49) (hkd : ∀ k, k < 3 → et_kk (kd k)) (h : et_IV K w kd N A L) (hx : et_QXi StX K w kd dv dm N ms L p r1 w1) (hm : et_QMi StM K w kd dv dm N ms A p r2 w2) : r1 = r2 ∧ et_Go StX StM K w kd N w1 w2 := by
  have hsm : et_snd K (et_ab w) (nI w) kd dv dm ↔ et_Msnd K (nI w) kd dv dm := by
    constructor
    · intro q k hk; exact (et_ks_iff hw (hkd k (by omega)) _ _).mp (q k hk)
    · intro q k hk; exact (et_ks_iff hw (hkd k (by omega)) _ _).mpr (q k hk)
  have hlen : A.length = L.length := h.1.length_eq
  have hT : et_snd K (et_ab w) (nI w) kd dv dm → ∀ x ∈ A, (et_XT K (et_ab w) kd p dv dm x ↔ et_MT K kd p dv dm x) := by
    intro hs x hx
    have hsx := (h.2.2.2 x hx).2
    unfold et_XT et_MT
    constructor
    · rintro ⟨q1, q2⟩
      exact ⟨q1, fun k hk => ⟨(q2 k hk).1, (et_db_inj hw (hkd k (by omega)) (hsx k hk) (hs k hk)).mp (q2 k hk).2⟩⟩
    · rintro ⟨q1, q2⟩
      exact ⟨q1, fun k hk => ⟨(q2 k hk).1, (et_db_inj hw (hkd k (by omega)) (hsx k hk) (hs k hk)).mpr (q2 k hk).2⟩⟩
  rcases hx with ⟨a1, a2, a3⟩ | ⟨a1, ⟨x, a2, a3⟩, a4, a5⟩ | ⟨a1, a2, a3, a4, a5⟩ | ⟨a1, a2, a3, a4, j, a5, a6, a7, a8⟩
  · rcases hm with ⟨b1, b2, b3⟩ | ⟨b1, -⟩ | ⟨b1, -⟩ | ⟨b1, -⟩
    · exact ⟨by rw [a2, b2], et_same h a3 b3⟩
    · exact absurd (hsm.mpr b1) a1
    · exact absurd (hsm.mpr b1) a1
    · exact absurd (hsm.mpr b1) a1
  · have hxA : x ∈ A := h.1.mem_iff.mpr a2
    rcases hm with ⟨b1, -⟩ | ⟨b1, b2, b3, b4⟩ | ⟨b1, b2, -⟩ | ⟨b1, b2, -⟩
    · exact absurd (hsm.mp a1) b1
    · exact ⟨by rw [a4, b3], et_same h a5 b4⟩
    · exact absurd ((hT a1 x hxA).mp a3) (b2 x hxA)
    · exact absurd ((hT a1 x hxA).mp a3) (b2 x hxA)
  · rcases hm with ⟨b1, -⟩ | ⟨b1, ⟨x, b2, b3⟩, -⟩ | ⟨b1, b2, b3, b4, b5⟩ | ⟨b1, b2, b3, -⟩
    · exact absurd (hsm.mp a1) b1
    · exact absurd ((hT a1 x b2).mpr b3) (a2 x (h.1.mem_iff.mp b2))
    · exact ⟨by rw [a4, b4], et_same h a5 b5⟩
    · omega
  · rcases hm with ⟨b1, -⟩ | ⟨b1, ⟨x, b2, b3⟩, -⟩ | ⟨b1, b2, b3, -⟩ | ⟨b1, b2, b3, b4, b5⟩
    · exact absurd (hsm.mp a1) b1
    · exact absurd ((hT a1 x b2).mpr b3) (a2 x (h.1.mem_iff.mp b2))
    · omega
    · have hlo : ∀ x ∈ L, (et_Xlo K kd p dm x ↔ et_lo K kd p dm x) := by
        intro x hx
        obtain ⟨q1, q2⟩ := et_pf_lt (et_pf_small hw (h.2.2.2 x (h.1.mem_iff.mpr hx)).2) (et_pf_small hw a1)
        unfold et_Xlo et_lo
        rw [q1, q2]
      refine ⟨by rw [a4, b4], et_z dv, et_z dm, N + 1, ms, _, _, Nat.le_refl _, et_IV_ins h a5 a1 (fun i x hi hx q => a6 i x hi hx ((hlo x (List.mem_of_getElem? hx)).mpr q)) (fun x hx => (hlo x (List.mem_of_getElem? hx)).mp (a7 x hx)), a8, b5⟩
theorem et_nE {x y : et_E} {e : Int32} (hx : et_n x < 2 ^ 31) (hy : et_n y < 2 ^ 31) (h1 : nI (et_n x) = e) (h2 : nI (et_n y) = e) : et_n x = et_n y := (nI_eq hx hy).mp (h1.trans h2.symm)
theorem et_agr {e : Int32} (hN : N ≤ 2 ^ 31) (h : et_IV K w kd N A L) (hx : et_Qr StX dv dm N ms L e r1 w1) (hm : et_Qr StM dv dm N ms A e r2 w2) : r1 = r2 ∧ et_Go StX StM K w kd N w1 w2 := by
  have hlen : A.length = L.length := h.1.length_eq
  rcases hx with ⟨a1, a2, a3⟩ | ⟨j, x, a1, a2, a3, a4⟩ <;> rcases hm with ⟨b1, b2, b3⟩ | ⟨i, y, b1, b2, b3, b4⟩
  · exact ⟨by rw [a2, b2], et_same h a3 b3⟩
  · exact absurd b2 (a1 y (h.1.mem_iff.mp (List.mem_of_getElem? b1)))
  · exact absurd a2 (b1 x (h.1.mem_iff.mpr (List.mem_of_getElem? a1)))
  · have hxA := h.1.mem_iff.mpr (List.mem_of_getElem? a1)
    have hyA := List.mem_of_getElem? b1
    have e1 : x = y := et_uniq h.2.1 hxA hyA (et_nE (Nat.lt_of_lt_of_le (h.2.2.2 x hxA).1 hN) (Nat.lt_of_lt_of_le (h.2.2.2 y hyA).1 hN) a2 b2)
    subst e1
    exact ⟨by rw [a3, b3, hlen], dv, dm, N, ms, _, _, Nat.le_succ N, et_IV_del h b1 a1, a4, b4⟩
theorem et_agf {kf : et_F} (hK : K ≤ 3) (hw : w < 49) (hkd : ∀ k, k < 3 → et_kk (kd k)) (h : et_IV K w kd N A L) (hx : et_QXf StX K w kd dv dm N ms L kf r1 w1) (hm : et_QMf StM K w kd dv dm N ms A kf r2 w2) : r1 = r2 ∧ et_Go StX StM K w kd N w1 w2 := by
  have hT : ∀ x ∈ A, (et_Xmt K (et_ab w) kd kf x ↔ et_Mmt K w kd kf x) := by
    intro x hx
    have hsx := (h.2.2.2 x hx).2
    unfold et_Xmt et_Mmt
    constructor
    · intro q k hk; rw [← et_mt_iff hw (hkd k (by omega)) (hsx k hk)]; exact q k hk
    · intro q k hk; rw [et_mt_iff hw (hkd k (by omega)) (hsx k hk)]; exact q k hk
  rcases hx with ⟨a1, a2, a3⟩ | ⟨j, x, a1, a2, a3, a4, a5⟩ <;> rcases hm with ⟨b1, b2, b3⟩ | ⟨i, y, b1, b2, b3, b4, b5⟩
  · exact ⟨by rw [a2, b2], dv, dm, N, ms + 1, A, L, Nat.le_succ N, h, a3, b3⟩
  · have hyA := List.mem_of_getElem? b1
    exact absurd ((hT y hyA).mpr b2) (a1 y (h.1.mem_iff.mp hyA))
  · have hxA := h.1.mem_iff.mpr (List.mem_of_getElem? a1)
    exact absurd ((hT x hxA).mp a2) (b1 x hxA)
  · have hxA := h.1.mem_iff.mpr (List.mem_of_getElem? a1)
    have hyA := List.mem_of_getElem? b1
    have n1 := b3 x hxA ((hT x hxA).mp a2)
    obtain ⟨t, ht⟩ := List.getElem?_of_mem (h.1.mem_iff.mp hyA)
    have e1 : y = x := by
      rcases Nat.lt_trichotomy t j with q | q | q
      · exact absurd ((hT y hyA).mpr b2) (a3 t y q ht)
      · subst q
        rw [a1] at ht
        exact (Option.some.inj ht).symm
      · obtain ⟨hj, ej⟩ := List.getElem?_eq_some_iff.mp a1
        obtain ⟨htl, et⟩ := List.getElem?_eq_some_iff.mp ht
        have := (List.pairwise_iff_getElem.mp h.2.2.1) j t hj htl q
        rw [ej, et] at this
        exact absurd this n1
    subst e1
    exact ⟨by rw [a4, b4], dv, dm, N, ms, _, _, Nat.le_succ N, et_IV_hit h b1 a1, a5, b5⟩
theorem et_agn {k : Int32} (hA : A.length ≤ 24) (h : et_IV K w kd N A L) (hx : et_QXn StX dv dm N ms L k r1 w1) (hm : et_QMn StM K kd dv dm N ms A k r2 w2) : r1 = r2 ∧ et_Go StX StM K w kd N w1 w2 := by
  have hlen : A.length = L.length := h.1.length_eq
  have rk : ∀ (j : Nat) (x : et_E), L[j]? = some x → A.countP (fun z => decide (et_bf K kd z x)) = j := fun j x hj => by
    rw [h.1.countP_eq]
    exact et_rank h.2.2.1 hj
  obtain ⟨sx, hx⟩ := hx
  obtain ⟨sm, hm⟩ := hm
  refine ⟨?_, et_same h sx sm⟩
  rcases hx with ⟨a1, a2⟩ | ⟨j, x, a1, a2, a3⟩ <;> rcases hm with ⟨b1, b2⟩ | ⟨y, b1, b2, b3⟩
  · rw [a2, b2]
  · obtain ⟨t, ht⟩ := List.getElem?_of_mem (h.1.mem_iff.mp b1)
    rw [rk t y ht] at b2
    exact absurd b2 (a1 t (List.getElem?_eq_some_iff.mp ht).1)
  · have hxA := h.1.mem_iff.mpr (List.mem_of_getElem? a1)
    have := b1 x hxA
    rw [rk j x a1] at this
    exact absurd a2 this
  · obtain ⟨t, ht⟩ := List.getElem?_of_mem (h.1.mem_iff.mp b1)
    rw [rk t y ht] at b2
    have hj := (List.getElem?_eq_some_iff.mp a1).1
    have htl := (List.getElem?_eq_some_iff.mp ht).1
    have e : j = t := (nI_eq (by omega) (by omega)).mp (a2.symm.trans b2)
    subst e
    rw [a1] at ht
    cases ht
    rw [a3, b3]
theorem et_agh {e : Int32} (hN : N ≤ 2 ^ 31) (h : et_IV K w kd N A L) (hx : et_Qh StX dv dm N ms L e r1 w1) (hm : et_Qh StM dv dm N ms A e r2 w2) : r1 = r2 ∧ et_Go StX StM K w kd N w1 w2 := by
  obtain ⟨sx, hx⟩ := hx
  obtain ⟨sm, hm⟩ := hm
  refine ⟨?_, et_same h sx sm⟩
  rcases hx with ⟨a1, a2⟩ | ⟨x, a1, a2, a3⟩ <;> rcases hm with ⟨b1, b2⟩ | ⟨y, b1, b2, b3⟩
  · rw [a2, b2]
  · exact absurd b2 (a1 y (h.1.mem_iff.mp b1))
  · exact absurd a2 (b1 x (h.1.mem_iff.mpr a1))
  · have hxA := h.1.mem_iff.mpr a1
    have e1 : x = y := et_uniq h.2.1 hxA b1 (et_nE (Nat.lt_of_lt_of_le (h.2.2.2 x hxA).1 hN) (Nat.lt_of_lt_of_le (h.2.2.2 y b1).1 hN) a2 b2)
    subst e1
    rw [a3, b3]
theorem et_agc {what : Int32} (h : et_IV K w kd N A L) (hx : et_Qc StX K w kd dv dm N ms L what r1 w1) (hm : et_Qc StM K w kd dv dm N ms A what r2 w2) : r1 = r2 ∧ et_Go StX StM K w kd N w1 w2 := by
  have hlen : A.length = L.length := h.1.length_eq
  exact ⟨by rw [hx.2, hm.2, hlen], et_same h hx.1 hm.1⟩
end AG
