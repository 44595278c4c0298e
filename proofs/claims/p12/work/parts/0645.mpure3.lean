/-! ===== longs shifted with their sign; bits and takes of the reference ===== -/
theorem wb_sar {n s j : Nat} (h : s + j ≤ 64) (hs : s < 64) : (lN n >>> ((nI s).toInt64 &&& 63)) &&& lN (2 ^ j - 1) = lN (n % 2 ^ 64 / 2 ^ s % 2 ^ j) := by
  rw [wb_c s hs]
  apply wb_inj
  rw [Int64.toBitVec_and, Int64.toBitVec_shiftRight, wb_tb, wb_tb, wb_tb, wb_tb, wb_sm s hs]
  apply BitVec.eq_of_getLsbD_eq
  intro i hi
  rw [BitVec.getLsbD_and, BitVec.sshiftRight_eq', BitVec.getLsbD_sshiftRight, BitVec.toNat_ofNat, Nat.mod_eq_of_lt (show s < 2 ^ 64 by omega), BitVec.getLsbD_ofNat, BitVec.getLsbD_ofNat, BitVec.getLsbD_ofNat, Nat.testBit_two_pow_sub_one, Nat.testBit_mod_two_pow, Nat.testBit_div_two_pow, Nat.testBit_mod_two_pow]
  by_cases hij : i < j
  · have h2 : s + i < 64 := by omega
    have h3 : i + s < 64 := by omega
    have h4 : ¬ 64 ≤ i := by omega
    simp [hi, hij, h2, h3, h4, Nat.add_comm]
  · simp [hij]
theorem wby_valS (v : Int64) {k : Nat} (hk : k < 8) : ((v >>> ((nI (8 * k)).toInt64 &&& 63)) &&& 255).toInt32 = nI (wby v k) := by
  unfold wby
  obtain ⟨n, hn, e⟩ := wb_of v
  rw [e, show (255 : Int64) = lN (2 ^ 8 - 1) from rfl, wb_sar (by omega) (by omega), lN_i, wb_tn hn, Nat.mod_eq_of_lt hn]
theorem wbt_valS (v : Int64) {k : Nat} (hk : k < 64) : ((v >>> ((nI k).toInt64 &&& 63)) &&& 1).toInt32 = nI (wbt v k) := by
  unfold wbt
  obtain ⟨n, hn, e⟩ := wb_of v
  rw [e, show (1 : Int64) = lN (2 ^ 1 - 1) from rfl, wb_sar (by omega) (by omega), lN_i, Nat.mod_eq_of_lt hn, wb_tb, BitVec.getLsbD_ofNat]
  simp only [hk, decide_true, Bool.true_and]
  rw [pu_tb]
theorem sub50 {t kk : Nat} (ht : t < 100000) (hk : kk < 2 ^ 31) : nI t - nI 50 ≤ nI kk ↔ t ≤ kk + 50 := by
  rw [Int32.le_iff_toInt_le, pk_sub_toInt (by omega) (by omega), nI_toInt hk]
  omega
def mbts (A : md_S) (ed : Nat) (v : Int64) : Nat → md_S
  | 0 => A
  | k + 1 => mbit (mbts A ed v k) ed (wbt v k)
theorem mbts_o (A : md_S) (ed : Nat) (v : Int64) (k : Nat) {j : Nat} (h2 : j ≠ 2) (h3 : j ≠ 3) : mbts A ed v k j = A j := by
  induction k with
  | zero => rfl
  | succ k ih => rw [mbts, mbit_o _ _ _ h2 h3, ih]
theorem mbts_2 (A : md_S) (ed : Nat) (v : Int64) (k : Nat) : mbts A ed v k 2 (40 * ed + A 1 ed - 1) = A 2 (40 * ed + A 1 ed - 1) + k := by
  induction k with
  | zero => rfl
  | succ k ih =>
    have h := mbit_2 (mbts A ed v k) ed (wbt v k)
    rw [mbts_o A ed v k (j := 1) (by decide) (by decide), ih] at h
    exact h
/-- the waits behind the first, one place down -/
def shf (g : Nat → Nat) (b k : Nat) : Nat → Nat := fun j => if b ≤ j ∧ j < b + k then g (j + 1) else g j
theorem shf_0 (g : Nat → Nat) (b : Nat) : shf g b 0 = g := by
  funext j
  unfold shf
  rw [if_neg (by omega)]
theorem shf_s (g : Nat → Nat) (b k : Nat) : va_up (shf g b k) (b + k) (g (b + k + 1)) = shf g b (k + 1) := by
  funext j
  by_cases h : j = b + k
  · rw [h, va_up_self]; unfold shf; rw [if_pos (by omega)]
  · rw [va_up_ne _ _ h]
    unfold shf
    by_cases h2 : b ≤ j ∧ j < b + k
    · rw [if_pos h2, if_pos (by omega)]
    · rw [if_neg h2, if_neg (by omega)]
theorem shf_r (g : Nat → Nat) (b k : Nat) : shf g b k (b + k + 1) = g (b + k + 1) := by
  unfold shf
  rw [if_neg (by omega)]
