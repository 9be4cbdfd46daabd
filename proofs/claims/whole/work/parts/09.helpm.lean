/-! Small facts for the reference's walks. -/
def et_mb (K : Nat) (kd num pri : Nat → Int32) (msk : Nat → Int64) (e t : Nat) : Prop := et_pf K kd (fun k => msk (3 * t + k)) < et_pf K kd (fun k => msk (3 * e + k)) ∨ (et_pf K kd (fun k => msk (3 * e + k)) = et_pf K kd (fun k => msk (3 * t + k)) ∧ (pri t < pri e ∨ (pri e = pri t ∧ num e < num t)))
/-- cells moved down by d, from lo up to hi -/
def et_sh {α : Type} (d : Nat) (f f1 : Nat → α) (lo hi : Nat) : Prop := (∀ t, (t < lo ∨ hi ≤ t) → f1 t = f t) ∧ ∀ t, lo ≤ t → t < hi → f1 t = f (t + d)
theorem et_sh_0 {α : Type} {d lo : Nat} {f : Nat → α} : et_sh d f f lo lo := ⟨fun _ _ => rfl, fun t h1 h2 => absurd h1 (by omega)⟩
theorem et_sh_i {d lo hi : Nat} {f f1 : Nat → Int32} {x : Int32} (h : et_sh d f f1 lo hi) (hlh : lo ≤ hi) (hd : 0 < d) (hx : x = f1 (hi + d)) : et_sh d f (upd f1 hi x) lo (hi + 1) := by
  refine ⟨fun t ht => ?_, fun t h1 h2 => ?_⟩
  · by_cases e : t = hi
    · omega
    · rw [pk_un e]; exact h.1 t (by omega)
  · by_cases e : t = hi
    · subst e; rw [pk_us, hx]; exact h.1 _ (by omega)
    · rw [pk_un e]; exact h.2 t h1 (by omega)
theorem et_sh_l {d lo hi : Nat} {f f1 : Nat → Int64} {x : Int64} (h : et_sh d f f1 lo hi) (hlh : lo ≤ hi) (hd : 0 < d) (hx : x = f1 (hi + d)) : et_sh d f (vp_updL f1 hi x) lo (hi + 1) := by
  refine ⟨fun t ht => ?_, fun t h1 h2 => ?_⟩
  · by_cases e : t = hi
    · omega
    · rw [pk_uLn e]; exact h.1 t (by omega)
  · by_cases e : t = hi
    · subst e; rw [pk_uLs, hx]; exact h.1 _ (by omega)
    · rw [pk_uLn e]; exact h.2 t h1 (by omega)
theorem et_pg_congr {kd : Nat → Int32} {f g : Nat → Int64} : ∀ (n i : Nat), (∀ k, i ≤ k → k < i + n → f k = g k) → et_pg kd f i n = et_pg kd g i n
  | 0, _, _ => rfl
  | n + 1, i, h => by
    unfold et_pg
    rw [h i (Nat.le_refl _) (by omega), et_pg_congr n (i + 1) (fun k h1 h2 => h k (by omega) (by omega))]
section EM
variable {K w : Nat} {kd : Nat → Int32} {B : List et_E} {num pri hit : Nat → Int32} {val msk : Nat → Int64}
theorem et_RR_pf (hK3 : K ≤ 3) (hR : et_RR B num pri hit val msk) {i : Nat} {x : et_E} (hx : B[i]? = some x) : et_pf K kd (fun k => msk (3 * i + k)) = et_pf K kd (et_m x) := et_pg_congr K 0 (fun k _ h2 => ((hR.2 i x hx).2.2.2 k (by omega)).2)
theorem et_mb_iff (hK3 : K ≤ 3) (hR : et_RR B num pri hit val msk) (hn : ∀ x ∈ B, et_n x < 2 ^ 31) {i j : Nat} {x y : et_E} (hx : B[i]? = some x) (hy : B[j]? = some y) : et_mb K kd num pri msk i j ↔ et_bf K kd x y := by
  unfold et_mb et_bf
  rw [et_RR_pf hK3 hR hx, et_RR_pf hK3 hR hy, (hR.2 i x hx).1, (hR.2 j y hy).1, (hR.2 i x hx).2.1, (hR.2 j y hy).2.1, nI_ltI (hn x (List.mem_of_getElem? hx)) (hn y (List.mem_of_getElem? hy))]
theorem et_like_iff (hK3 : K ≤ 3) (hR : et_RR B num pri hit val msk) {pp : Int32} {mv mm : Nat → Int64} {i : Nat} {x : et_E} (hx : B[i]? = some x) : (pri i = pp ∧ ∀ k, k < K → val (3 * i + k) = mv k ∧ (kd k = 0 ∨ msk (3 * i + k) = mm k)) ↔ et_MT K kd pp mv mm x := by
  obtain ⟨-, a2, -, a4⟩ := hR.2 i x hx
  unfold et_MT
  rw [a2]
  constructor
  · rintro ⟨h1, h2⟩
    refine ⟨h1, fun k hk => ?_⟩
    have := h2 k hk
    rw [(a4 k (by omega)).1, (a4 k (by omega)).2] at this
    exact this
  · rintro ⟨h1, h2⟩
    refine ⟨h1, fun k hk => ?_⟩
    rw [(a4 k (by omega)).1, (a4 k (by omega)).2]
    exact h2 k hk
theorem et_Mmt_iff (hK3 : K ≤ 3) (hR : et_RR B num pri hit val msk) {kf ask : Nat → Int64} (ha : ∀ k, k < 3 → ask k = kf k &&& et_ab w) {i : Nat} {x : et_E} (hx : B[i]? = some x) : (∀ k, k < K → ask k &&& et_rm (nI w) (kd k) (msk (3 * i + k)) = val (3 * i + k)) ↔ et_Mmt K w kd kf x := by
  obtain ⟨-, -, -, a4⟩ := hR.2 i x hx
  unfold et_Mmt
  constructor
  · intro h k hk
    have := h k hk
    rw [(a4 k (by omega)).1, (a4 k (by omega)).2, ha k (by omega)] at this
    exact this
  · intro h k hk
    rw [(a4 k (by omega)).1, (a4 k (by omega)).2, ha k (by omega)]
    exact h k hk
end EM
theorem et_ct_s {B : List et_E} {t : Nat} {x : et_E} {f : et_E → Bool} (hx : B[t]? = some x) : (B.take (t + 1)).countP f = (B.take t).countP f + (if f x = true then 1 else 0) := by
  rw [List.take_add_one, hx, List.countP_append]
  simp [List.countP_cons]
/-- the best so far of the first i: none, or one that matches and that no other of them is before -/
def et_fd (K : Nat) (kd : Nat → Int32) (P : et_E → Prop) (B : List et_E) (i : Nat) (bs : Int32) : Prop := (bs = -1 ∧ ∀ j y, j < i → B[j]? = some y → ¬ P y) ∨ (∃ (b0 : Nat) (x : et_E), B[b0]? = some x ∧ bs = nI b0 ∧ P x ∧ ∀ j y, j < i → B[j]? = some y → P y → ¬ et_bf K kd y x)
section FD
variable {K : Nat} {kd : Nat → Int32} {P : et_E → Prop} {B : List et_E} {i : Nat} {bs : Int32}
theorem et_fd_n (h : et_fd K kd P B i bs) (hi : ∀ y, B[i]? = some y → ¬ P y) : et_fd K kd P B (i + 1) bs := by
  rcases h with ⟨h1, h2⟩ | ⟨b0, x, h1, h2, h3, h4⟩
  · exact Or.inl ⟨h1, et_ltx h2 hi⟩
  · refine Or.inr ⟨b0, x, h1, h2, h3, fun j y hj hy hp => ?_⟩
    by_cases e : j = i
    · subst e; exact absurd hp (hi y hy)
    · exact h4 j y (by omega) hy hp
theorem et_fd_1 {x : et_E} (h : ∀ j y, j < i → B[j]? = some y → ¬ P y) (hx : B[i]? = some x) (hp : P x) : et_fd K kd P B (i + 1) (nI i) := by
  refine Or.inr ⟨i, x, hx, rfl, hp, fun j y hj hy hq => ?_⟩
  by_cases e : j = i
  · subst e
    rw [hx] at hy
    cases hy
    exact et_bf_irr
  · exact absurd hq (h j y (by omega) hy)
theorem et_fd_k {b0 : Nat} {x z : et_E} (h1 : B[b0]? = some x) (h2 : P x) (h3 : ∀ j y, j < i → B[j]? = some y → P y → ¬ et_bf K kd y x) (hz : B[i]? = some z) (hb : ¬ et_bf K kd z x) : et_fd K kd P B (i + 1) (nI b0) := by
  refine Or.inr ⟨b0, x, h1, rfl, h2, fun j y hj hy hq => ?_⟩
  by_cases e : j = i
  · subst e
    rw [hz] at hy
    cases hy
    exact hb
  · exact h3 j y (by omega) hy hq
theorem et_fd_b {x z : et_E} (h3 : ∀ j y, j < i → B[j]? = some y → P y → ¬ et_bf K kd y x) (hz : B[i]? = some z) (hp : P z) (hb : et_bf K kd z x) : et_fd K kd P B (i + 1) (nI i) := by
  refine Or.inr ⟨i, z, hz, rfl, hp, fun j y hj hy hq => ?_⟩
  by_cases e : j = i
  · subst e
    rw [hz] at hy
    cases hy
    exact et_bf_irr
  · exact fun g => h3 j y (by omega) hy hq (et_bf_tr g hb)
end FD
