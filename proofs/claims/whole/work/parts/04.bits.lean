/-! Numbers of w bits, prefixes and masks: class and reference ask the same. -/
/-- the reference's words -/
def et_rn (W : Int32) (v : Int64) : Prop := 0 ≤ v ∧ v >>> (W.toInt64 &&& 63) = 0
def et_rb (W : Int32) (p : Int64) : Int64 := if p = 0 then 0 else (((1 : Int64) <<< (W.toInt64 &&& 63)) - 1) >>> ((W.toInt64 - p).toInt32.toInt64 &&& 63) <<< ((W.toInt64 - p).toInt32.toInt64 &&& 63)
def et_rs (W : Int32) (kk : Int32) (v m : Int64) : Prop := et_rn W v ∧ (kk = 0 ∨ (¬ kk = 0 ∧ kk = 2 ∧ et_rn W m ∧ v &&& (m ^^^ (-1)) = 0) ∨ (¬ kk = 0 ∧ ¬ kk = 2 ∧ (0 ≤ m ∧ m ≤ W.toInt64) ∧ v &&& (et_rb W m ^^^ (-1)) = 0))
/-- what the reference lays over the number asked -/
def et_rm (W : Int32) (kk : Int32) (m : Int64) : Int64 := if kk = 0 then (-1) else if kk = 1 then et_rb W m else m
def et_kk (kk : Int32) : Prop := kk = 0 ∨ kk = 1 ∨ kk = 2
theorem et_abW : ∀ w, w < 49 → ((1 : Int64) <<< ((nI w).toInt64 &&& 63)) - 1 = et_ab w := by decide +kernel
theorem et_dbW : ∀ w, w < 49 → ∀ i, i < w + 1 → et_db (et_ab w) 1 (lN i) = lN (2 ^ w - 2 ^ (w - i)) := by decide +kernel
theorem et_rbW : ∀ w, w < 49 → ∀ i, i < w + 1 → et_rb (nI w) (lN i) = lN (2 ^ w - 2 ^ (w - i)) := by decide +kernel
theorem et_anW : ∀ w, w < 49 → ∀ i, i < w + 1 → et_ab w &&& lN (2 ^ w - 2 ^ (w - i)) = lN (2 ^ w - 2 ^ (w - i)) := by decide +kernel
theorem et_smW : ∀ w, w < 49 → (((nI w).toInt64 &&& 63).toBitVec.smod 64).toNat = w := by decide +kernel
theorem et_p48 {w : Nat} (h : w < 49) : 2 ^ w ≤ 2 ^ 48 := Nat.pow_le_pow_right (by decide) (by omega)
theorem et_num_iff {w : Nat} (hw : w < 49) (x : Int64) : et_num (et_ab w) x ↔ ∃ n, n < 2 ^ w ∧ x = lN n := by
  have h48 := et_p48 hw
  have hp : 0 < 2 ^ w := Nat.two_pow_pos w
  unfold et_num et_ab
  constructor
  · rintro ⟨h1, h2⟩
    obtain ⟨k, hk, rfl⟩ := pk_lOf (x := x) (by rw [Int64.lt_iff_toInt_lt]; rw [Int64.le_iff_toInt_le] at h1; omega)
    rw [pk_lLE hk (by omega)] at h2
    exact ⟨k, by omega, rfl⟩
  · rintro ⟨n, hn, rfl⟩
    exact ⟨(pk_lLE (a := 0) (by omega) (by omega)).mpr (Nat.zero_le _), (pk_lLE (by omega) (by omega)).mpr (by omega)⟩
theorem et_rn_iff {w : Nat} (hw : w < 49) (x : Int64) : et_rn (nI w) x ↔ ∃ n, n < 2 ^ w ∧ x = lN n := by
  have h48 := et_p48 hw
  have key : ∀ k : Nat, k < 2 ^ 63 → (lN k >>> ((nI w).toInt64 &&& 63) = 0 ↔ k < 2 ^ w) := by
    intro k hk
    have e : (lN k >>> ((nI w).toInt64 &&& 63)).toInt = (lN k).toInt >>> w := by
      have hs := et_smW w hw
      show ((lN k).toBitVec.sshiftRight (((nI w).toInt64 &&& 63).toBitVec.smod 64).toNat).toInt = _
      rw [hs, BitVec.toInt_sshiftRight]
      rfl
    rw [← Int64.toInt_inj, e, pk_lT hk, Int.shiftRight_eq_div_pow]
    have h0 : (0 : Int64).toInt = 0 := by decide
    rw [h0]
    have e2 : ((k : Int) / ((2 ^ w : Nat) : Int)) = ((k / 2 ^ w : Nat) : Int) := (Int.natCast_ediv k (2 ^ w)).symm
    rw [e2]
    have hp : 0 < 2 ^ w := Nat.two_pow_pos w
    constructor
    · intro h
      have h3 : k / 2 ^ w = 0 := by omega
      rcases Nat.div_eq_zero_iff.mp h3 with h4 | h4
      · omega
      · exact h4
    · intro h
      rw [Nat.div_eq_of_lt h]; rfl
  unfold et_rn
  constructor
  · rintro ⟨h1, h2⟩
    obtain ⟨k, hk, rfl⟩ := pk_lOf (x := x) (by rw [Int64.lt_iff_toInt_lt]; rw [Int64.le_iff_toInt_le] at h1; omega)
    exact ⟨k, (key k hk).mp h2, rfl⟩
  · rintro ⟨n, hn, rfl⟩
    exact ⟨(pk_lLE (a := 0) (by omega) (by omega)).mpr (Nat.zero_le _), (key n (by omega)).mpr hn⟩
theorem et_pre_iff {w : Nat} (hw : w < 49) (x : Int64) : (0 ≤ x ∧ x ≤ (nI w).toInt64) ↔ ∃ i, i < w + 1 ∧ x = lN i := by
  rw [nI_l (show w < 2 ^ 31 by omega)]
  constructor
  · rintro ⟨h1, h2⟩
    obtain ⟨k, hk, rfl⟩ := pk_lOf (x := x) (by rw [Int64.lt_iff_toInt_lt]; rw [Int64.le_iff_toInt_le] at h1; omega)
    rw [pk_lLE hk (by omega)] at h2
    exact ⟨k, by omega, rfl⟩
  · rintro ⟨n, hn, rfl⟩
    exact ⟨(pk_lLE (a := 0) (by omega) (by omega)).mpr (Nat.zero_le _), (pk_lLE (by omega) (by omega)).mpr (by omega)⟩
theorem et_01 : ¬ (1 : Int32) = 0 := by decide
theorem et_20 : ¬ (2 : Int32) = 0 := by decide
theorem et_21 : ¬ (2 : Int32) = 1 := by decide
theorem et_12 : ¬ (1 : Int32) = 2 := by decide
theorem et_ks_iff {w : Nat} (hw : w < 49) {kk : Int32} (hk : et_kk kk) (v m : Int64) : et_ks (et_ab w) (nI w) kk v m ↔ et_rs (nI w) kk v m := by
  unfold et_ks et_rs
  rw [et_num_iff hw v, et_rn_iff hw v]
  rcases hk with rfl | rfl | rfl
  · simp
  · simp only [et_01, et_12, if_true, false_or, not_false_eq_true, true_and, false_and]
    constructor
    · rintro ⟨h1, h2, h3⟩
      obtain ⟨i, hi, rfl⟩ := (et_pre_iff hw m).mp h2
      rw [et_dbW w hw i hi] at h3
      rw [et_rbW w hw i hi]
      exact ⟨h1, h2, h3⟩
    · rintro ⟨h1, h2, h3⟩
      obtain ⟨i, hi, rfl⟩ := (et_pre_iff hw m).mp h2
      rw [et_rbW w hw i hi] at h3
      rw [et_dbW w hw i hi]
      exact ⟨h1, h2, h3⟩
  · simp only [et_20, et_21, if_false, false_or, not_false_eq_true, true_and, not_true_eq_false, false_and, or_false]
    rw [et_num_iff hw m, et_rn_iff hw m]
    have e : et_db (et_ab w) 2 m = m := by unfold et_db; rw [if_neg et_20, if_neg et_21]
    rw [e]
theorem et_db_inj {w : Nat} (hw : w < 49) {kk : Int32} (hk : et_kk kk) {v m v' m' : Int64} (h : et_ks (et_ab w) (nI w) kk v m) (h' : et_ks (et_ab w) (nI w) kk v' m') : et_db (et_ab w) kk m = et_db (et_ab w) kk m' ↔ (kk = 0 ∨ m = m') := by
  have h48 := et_p48 hw
  rcases hk with rfl | rfl | rfl
  · simp [et_db]
  · obtain ⟨-, h2⟩ := h
    obtain ⟨-, h2'⟩ := h'
    simp only [et_01, if_true, false_or] at h2 h2' ⊢
    obtain ⟨i, hi, rfl⟩ := (et_pre_iff hw m).mp h2.1
    obtain ⟨i', hi', rfl⟩ := (et_pre_iff hw m').mp h2'.1
    rw [et_dbW w hw i hi, et_dbW w hw i' hi']
    have a1 : 2 ^ (w - i) ≤ 2 ^ w := Nat.pow_le_pow_right (by decide) (by omega)
    have a2 : 2 ^ (w - i') ≤ 2 ^ w := Nat.pow_le_pow_right (by decide) (by omega)
    have b1 : 2 ^ w - 2 ^ (w - i) < 2 ^ 63 := Nat.lt_of_le_of_lt (Nat.sub_le _ _) (by omega)
    have b2 : 2 ^ w - 2 ^ (w - i') < 2 ^ 63 := Nat.lt_of_le_of_lt (Nat.sub_le _ _) (by omega)
    rw [pk_lEQ b1 b2, pk_lEQ (by omega) (by omega)]
    constructor
    · intro e
      have e2 : 2 ^ (w - i) = 2 ^ (w - i') := by omega
      rcases Nat.lt_trichotomy (w - i) (w - i') with q | q | q
      · have := Nat.pow_lt_pow_right (a := 2) (by decide) q
        omega
      · omega
      · have := Nat.pow_lt_pow_right (a := 2) (by decide) q
        omega
    · rintro rfl
      rfl
  · simp [et_db]
theorem et_mt_iff {w : Nat} (hw : w < 49) {kk : Int32} (hk : et_kk kk) {v m : Int64} (h : et_ks (et_ab w) (nI w) kk v m) (key : Int64) : key &&& et_db (et_ab w) kk m = (key &&& et_ab w) &&& et_rm (nI w) kk m := by
  have h48 := et_p48 hw
  rw [Int64.and_assoc]
  congr 1
  unfold et_rm
  rcases hk with rfl | rfl | rfl
  · unfold et_db
    rw [if_pos rfl, if_pos rfl, Int64.and_neg_one]
  · obtain ⟨-, h2⟩ := h
    simp only [et_01, if_true, false_or] at h2
    obtain ⟨i, hi, rfl⟩ := (et_pre_iff hw m).mp h2.1
    rw [if_neg et_01, if_pos rfl, et_dbW w hw i hi, et_rbW w hw i hi, et_anW w hw i hi]
  · obtain ⟨-, h2⟩ := h
    simp only [et_20, et_21, if_false, false_or] at h2
    obtain ⟨n, hn, rfl⟩ := (et_num_iff hw m).mp h2.1
    rw [if_neg et_20, if_neg et_21]
    unfold et_db et_ab
    rw [if_neg et_20, if_neg et_21, Int64.and_comm]
    apply Int64.toBitVec_inj.mp
    rw [Int64.toBitVec_and]
    show BitVec.ofNat 64 n = BitVec.ofNat 64 n &&& BitVec.ofNat 64 (2 ^ w - 1)
    apply BitVec.eq_of_toNat_eq
    rw [BitVec.toNat_and, BitVec.toNat_ofNat, BitVec.toNat_ofNat, Nat.mod_eq_of_lt (by omega), Nat.mod_eq_of_lt (by omega), Nat.and_two_pow_sub_one_eq_mod, Nat.mod_eq_of_lt hn]
/-- a sound entry's prefix is a small number -/
theorem et_pg_small {w : Nat} (hw : w < 49) {kd : Nat → Int32} {v m : Nat → Int64} : ∀ (n i : Nat), (∀ k, i ≤ k → k < i + n → et_ks (et_ab w) (nI w) (kd k) (v k) (m k)) → ∃ t, t < 49 ∧ et_pg kd m i n = lN t
  | 0, i, _ => ⟨0, by decide, rfl⟩
  | n + 1, i, h => by
    unfold et_pg
    by_cases hk : kd i = 1
    · rw [if_pos hk]
      obtain ⟨-, h2⟩ := h i (Nat.le_refl _) (by omega)
      rw [hk] at h2
      simp only [et_01, if_true, false_or] at h2
      obtain ⟨t, ht, e⟩ := (et_pre_iff hw (m i)).mp h2.1
      exact ⟨t, by omega, e⟩
    · rw [if_neg hk]
      exact et_pg_small hw n (i + 1) (fun k h1 h2 => h k (by omega) (by omega))
theorem et_pf_small {w K : Nat} (hw : w < 49) {kd : Nat → Int32} {v m : Nat → Int64} (h : et_snd K (et_ab w) (nI w) kd v m) : ∃ t, t < 49 ∧ et_pf K kd m = lN t := et_pg_small hw K 0 (fun k _ h2 => h k (by omega))
theorem et_pf_lt {a b : Int64} (ha : ∃ t, t < 49 ∧ a = lN t) (hb : ∃ t, t < 49 ∧ b = lN t) : (a.toInt32 < b.toInt32 ↔ a < b) ∧ (a.toInt32 = b.toInt32 ↔ a = b) := by
  obtain ⟨t, ht, rfl⟩ := ha
  obtain ⟨u, hu, rfl⟩ := hb
  rw [lN_i, lN_i]
  exact ⟨by rw [nI_ltI (by omega) (by omega), pk_lLT (by omega) (by omega)], by rw [nI_eq (by omega) (by omega), pk_lEQ (by omega) (by omega)]⟩
