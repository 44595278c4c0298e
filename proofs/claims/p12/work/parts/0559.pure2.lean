/-! ===== more of reading ===== -/
theorem rdT_lt {f : Nat → Int64} {g : Nat → Nat} (hg : ∀ i, i < 277 → g i < 256) (q n : Nat) : ∀ i, i < 277 → (rdT f q g n).2.2 i < 256 := by
  intro i hi
  have h1 := rbs_lt f g hg (q - 16) i hi
  have h2 := hg i hi
  unfold rdT
  split
  · exact h2
  · split
    · exact h2
    · split
      · exact h1
      · split
        · exact h1
        · split <;> exact h1
theorem rdT_ok {f : Nat → Int64} {g : Nat → Nat} {q n : Nat} (h : (rdT f q g n).1 = 0) : 5 ≤ (rdT f q g n).2.1 ∧ (rdT f q g n).2.1 ≤ 277 := by
  unfold rdT at h ⊢
  split at h
  · exact absurd h (by simp)
  · rename_i h1
    rw [if_neg h1]
    split at h
    · exact absurd h (by simp)
    · rename_i h2
      rw [if_neg h2]
      split at h
      · exact absurd h (by simp)
      · rename_i h3
        rw [if_neg h3]
        split at h
        · exact absurd h (by simp)
        · rename_i h4
          rw [if_neg h4]
          split at h
          · rename_i h5
            rw [if_pos h5]
            simp only
            omega
          · exact absurd h (by simp)
theorem rdT_le {f : Nat → Int64} {g : Nat → Nat} (q n : Nat) : (rdT f q g n).1 ≤ 5 := by
  unfold rdT
  split
  · simp
  · split
    · simp
    · split
      · simp
      · split
        · simp
        · split <;> simp
/-! ===== bits out of a long ===== -/
def wbt (v : Int64) (k : Nat) : Nat := (v.toBitVec.getLsbD k).toNat
theorem wbt_le (v : Int64) (k : Nat) : wbt v k ≤ 1 := Bool.toNat_le _
theorem wbt_val (v : Int64) {k : Nat} (hk : k < 64) : (v.toUInt64 >>> ((nI k).toInt64.toUInt64 &&& Int64.toUInt64 63)).toInt64.toInt32 &&& nI 1 = nI (wbt v k) := by
  unfold wbt
  obtain ⟨n, hn, e⟩ := wb_of v
  rw [e, wb_shr hn hk, lN_i, pu_and1, wb_tb, BitVec.getLsbD_ofNat]
  simp only [hk, decide_true, Bool.true_and]
  rw [pu_tb]
def bts (f : Nat → Int64) (n : Nat) (v : Int64) : Nat → (Nat → Int64)
  | 0 => f
  | k + 1 => fadd (bts f n v k) (n + k) (wbt v k)
/-- byte k of a long -/
def wby (v : Int64) (k : Nat) : Nat := v.toBitVec.toNat / 2 ^ (8 * k) % 256
theorem wby_lt (v : Int64) (k : Nat) : wby v k < 256 := by unfold wby; omega
theorem pu_and255 (m : Nat) : nI m &&& nI 255 = nI (m % 256) := by
  rw [pk_and (nI m) (m := nI 255) 8 (by decide)]
  congr 1
  show (BitVec.ofNat 32 m).toNat % 2 ^ 8 = m % 256
  rw [BitVec.toNat_ofNat]
  omega
theorem wby_val (v : Int64) {k : Nat} (hk : k < 8) : (v.toUInt64 >>> ((nI (8 * k)).toInt64.toUInt64 &&& Int64.toUInt64 63)).toInt64.toInt32 &&& nI 255 = nI (wby v k) := by
  unfold wby
  obtain ⟨n, hn, e⟩ := wb_of v
  rw [e, wb_shr hn (by omega), lN_i, pu_and255, wb_tn hn]
def ckl (v : Int64) : Nat → Nat
  | 0 => 65535
  | k + 1 => rst (ckl v k) (wby v k) 8
theorem ckl_lt (v : Int64) (k : Nat) : ckl v k < 65536 := by
  induction k with
  | zero => exact (by decide : 65535 < 65536)
  | succ k ih => exact rst_lt ih 8
