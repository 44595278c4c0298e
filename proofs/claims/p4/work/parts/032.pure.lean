theorem wb_tb (n : Nat) : (lN n).toBitVec = BitVec.ofNat 64 n := rfl
theorem wb_inj {a b : Int64} (h : a.toBitVec = b.toBitVec) : a = b := Int64.toBitVec_inj.mp h
theorem wb_tn {n : Nat} (h : n < 2 ^ 64) : (lN n).toBitVec.toNat = n := by rw [wb_tb, BitVec.toNat_ofNat, Nat.mod_eq_of_lt h]
theorem wb_of (x : Int64) : ∃ n, n < 2 ^ 64 ∧ x = lN n := ⟨x.toBitVec.toNat, x.toBitVec.isLt, wb_inj (by rw [wb_tb]; simp)⟩
theorem wb_of32 (x : Int32) : ∃ n, n < 2 ^ 32 ∧ x = nI n := ⟨x.toBitVec.toNat, x.toBitVec.isLt, Int32.toBitVec_inj.mp (by show _ = BitVec.ofNat 32 _; simp)⟩
theorem wb_c : ∀ k, k < 64 → ((nI k).toInt64 &&& 63) = lN k := by decide +kernel
theorem wb_cu : ∀ k, k < 64 → ((nI k).toInt64.toUInt64 &&& Int64.toUInt64 63) = UInt64.ofNat k := by decide +kernel
theorem wb_sm : ∀ k, k < 64 → (BitVec.ofNat 64 k).smod 64 = BitVec.ofNat 64 k := by decide +kernel
theorem wb_pw {a b : Nat} (h : a ≤ b) : 2 ^ b = 2 ^ a * 2 ^ (b - a) := by rw [← Nat.pow_add]; congr 1; omega
theorem wb_lt2 {a b : Nat} (h : a < b) : 2 ^ a < 2 ^ b := Nat.pow_lt_pow_right (by decide) h
theorem wb_mod (n : Nat) : lN n = lN (n % 2 ^ 64) := wb_inj (by rw [wb_tb, wb_tb]; apply BitVec.eq_of_toNat_eq; rw [BitVec.toNat_ofNat, BitVec.toNat_ofNat, Nat.mod_mod])
theorem wb_shr {n k : Nat} (hn : n < 2 ^ 64) (hk : k < 64) : ((lN n).toUInt64 >>> ((nI k).toInt64.toUInt64 &&& Int64.toUInt64 63)).toInt64 = lN (n / 2 ^ k) := by
  rw [wb_cu k hk]
  apply wb_inj
  apply BitVec.eq_of_toNat_eq
  show ((lN n).toUInt64 >>> UInt64.ofNat k).toNat = (BitVec.ofNat 64 _).toNat
  have h1 : (UInt64.ofNat k).toNat = k := by
    show (BitVec.ofNat 64 k).toNat = k
    rw [BitVec.toNat_ofNat, Nat.mod_eq_of_lt (by omega)]
  have h2 : (lN n).toUInt64.toNat = n := wb_tn hn
  rw [UInt64.toNat_shiftRight, h1, h2, Nat.mod_eq_of_lt hk, Nat.shiftRight_eq_div_pow, BitVec.toNat_ofNat, Nat.mod_eq_of_lt (Nat.lt_of_le_of_lt (Nat.div_le_self _ _) hn)]
theorem wb_shl (n : Nat) {k : Nat} (hk : k < 64) : lN n <<< ((nI k).toInt64 &&& 63) = lN (n * 2 ^ k) := by
  rw [wb_c k hk]
  apply wb_inj
  rw [Int64.toBitVec_shiftLeft, wb_tb, wb_tb, wb_tb, wb_sm k hk]
  apply BitVec.eq_of_toNat_eq
  rw [BitVec.shiftLeft_eq', BitVec.toNat_shiftLeft, BitVec.toNat_ofNat, BitVec.toNat_ofNat, BitVec.toNat_ofNat, Nat.mod_eq_of_lt (show k < 2 ^ 64 by omega), Nat.shiftLeft_eq, Nat.mul_mod, Nat.mod_mod, ← Nat.mul_mod]
theorem wb_and {a b : Nat} (ha : a < 2 ^ 64) (hb : b < 2 ^ 64) : lN a &&& lN b = lN (a &&& b) := by
  apply wb_inj
  rw [Int64.toBitVec_and, wb_tb, wb_tb, wb_tb]
  apply BitVec.eq_of_toNat_eq
  rw [BitVec.toNat_and, BitVec.toNat_ofNat, BitVec.toNat_ofNat, BitVec.toNat_ofNat, Nat.mod_eq_of_lt ha, Nat.mod_eq_of_lt hb, Nat.mod_eq_of_lt (Nat.and_lt_two_pow _ hb)]
theorem wb_or {a b : Nat} (ha : a < 2 ^ 64) (hb : b < 2 ^ 64) : lN a ||| lN b = lN (a ||| b) := by
  apply wb_inj
  rw [Int64.toBitVec_or, wb_tb, wb_tb, wb_tb]
  apply BitVec.eq_of_toNat_eq
  rw [BitVec.toNat_or, BitVec.toNat_ofNat, BitVec.toNat_ofNat, BitVec.toNat_ofNat, Nat.mod_eq_of_lt ha, Nat.mod_eq_of_lt hb, Nat.mod_eq_of_lt (Nat.or_lt_two_pow ha hb)]
theorem wb_mask {n k : Nat} (hn : n < 2 ^ 64) (hk : k < 64) : lN n &&& lN (2 ^ k - 1) = lN (n % 2 ^ k) := by
  rw [wb_and hn (by have := wb_lt2 hk; omega), Nat.and_two_pow_sub_one_eq_mod]
theorem wb_a1 {n : Nat} (hn : n < 2 ^ 64) : lN n &&& 1 = lN (n % 2) := wb_mask (k := 1) hn (by decide)
theorem wb_bit {n k : Nat} (hn : n < 2 ^ 64) (hk : k < 64) : ((lN n).toUInt64 >>> ((nI k).toInt64.toUInt64 &&& Int64.toUInt64 63)).toInt64 &&& 1 = lN (n / 2 ^ k % 2) := by
  rw [wb_shr hn hk, wb_a1 (Nat.lt_of_le_of_lt (Nat.div_le_self _ _) hn)]
/-! ===== bits of a frame's words ===== -/
/-- bit i of the words f -/
def fb (f : Nat → Int64) (i : Nat) : Nat := ((f (i / 64)).toBitVec.getLsbD (i % 64)).toNat
theorem fb_le (f : Nat → Int64) (i : Nat) : fb f i ≤ 1 := Bool.toNat_le _
/-- the words with bit i turned -/
def ft (f : Nat → Int64) (i : Nat) : Nat → Int64 := vp_updL f (i / 64) (f (i / 64) ^^^ ((1 : Int64) <<< ((nI (i % 64)).toInt64 &&& 63)))
/-- the words with the bit v put at place n -/
def fadd (f : Nat → Int64) (n v : Nat) : Nat → Int64 := if fb f n = v then f else ft f n
theorem pu_one : ∀ k, k < 64 → ((1 : Int64) <<< ((nI k).toInt64 &&& 63)).toBitVec = BitVec.twoPow 64 k := by decide +kernel
theorem pu_and1 (m : Nat) : nI m &&& nI 1 = nI (m % 2) := by
  rw [pk_and (nI m) (m := nI 1) 1 (by decide)]
  congr 1
  show (BitVec.ofNat 32 m).toNat % 2 ^ 1 = m % 2
  rw [BitVec.toNat_ofNat]
  omega
theorem pu_tb (n k : Nat) : (n.testBit k).toNat = n / 2 ^ k % 2 := by
  rw [Nat.testBit_eq_decide_div_mod_eq]
  rcases Nat.mod_two_eq_zero_or_one (n / 2 ^ k) with h | h <;> simp [h]
theorem fb_val (f : Nat → Int64) (i : Nat) : ((f (i / 64)).toUInt64 >>> ((nI (i % 64)).toInt64.toUInt64 &&& Int64.toUInt64 63)).toInt64.toInt32 &&& nI 1 = nI (fb f i) := by
  have hk : i % 64 < 64 := Nat.mod_lt _ (by decide)
  unfold fb
  obtain ⟨n, hn, e⟩ := wb_of (f (i / 64))
  rw [e, wb_shr hn hk, lN_i, pu_and1, wb_tb, BitVec.getLsbD_ofNat]
  simp only [hk, decide_true, Bool.true_and]
  rw [pu_tb]
theorem fb_ft (f : Nat → Int64) (i j : Nat) : fb (ft f i) j = if j = i then 1 - fb f i else fb f j := by
  have hk : i % 64 < 64 := Nat.mod_lt _ (by decide)
  unfold fb ft
  by_cases hd : j / 64 = i / 64
  · rw [hd, pk_uLs, Int64.toBitVec_xor, BitVec.getLsbD_xor, pu_one _ hk, BitVec.getLsbD_twoPow]
    by_cases hj : j = i
    · subst hj
      cases h : (f (j / 64)).toBitVec.getLsbD (j % 64) <;> simp [hk]
    · have hm : ¬ i % 64 = j % 64 := by omega
      have hm2 : ¬ j % 64 = i % 64 := by omega
      rw [if_neg hj]
      simp [hm, hm2]
  · have hj : ¬ j = i := fun e => hd (by rw [e])
    rw [pk_uLn hd, if_neg hj]
theorem fb_fadd (f : Nat → Int64) (n v : Nat) (hv : v ≤ 1) (j : Nat) : fb (fadd f n v) j = if j = n then v else fb f j := by
  unfold fadd
  by_cases h : fb f n = v
  · rw [if_pos h]
    by_cases hj : j = n
    · rw [if_pos hj, hj, h]
    · rw [if_neg hj]
  · rw [if_neg h, fb_ft]
    by_cases hj : j = n
    · rw [if_pos hj, if_pos hj]
      have := fb_le f n
      omega
    · rw [if_neg hj, if_neg hj]
/-- the flag's bits -/
def flg (k : Nat) : Nat := 126 / 2 ^ k % 2
theorem flg_val : ∀ k, k < 8 → (nI 126 >>> (nI k &&& 31)) &&& nI 1 = nI (flg k) := by decide +kernel
theorem flg_le (k : Nat) : flg k ≤ 1 := by unfold flg; omega
def ffl (f : Nat → Int64) (n : Nat) : Nat → (Nat → Int64)
  | 0 => f
  | k + 1 => fadd (ffl f n k) (n + k) (flg k)
/-- whether the first k bits from a on are the flag's -/
def isfl (f : Nat → Int64) (a : Nat) : Nat → Bool
  | 0 => true
  | k + 1 => isfl f a k && decide (fb f (a + k) = flg k)
/-- ones in a row up to place i, counted from 8 on; six seen: none -/
def b2n (b : Bool) : Nat := if b then 1 else 0
theorem b2n_le (b : Bool) : b2n b ≤ 1 := by cases b <;> decide
/-- how many ones stand one behind the other just ahead of place 8 + k, where no six were met -/
def onesAt (f : Nat → Int64) : Nat → Nat
  | 0 => 0
  | k + 1 => if fb f (8 + k) = 1 then onesAt f k + 1 else 0
/-- six ones one behind the other among the first k places from 8 on -/
def sixIn (f : Nat → Int64) : Nat → Bool
  | 0 => false
  | k + 1 => sixIn f k || decide (5 < onesAt f (k + 1))
theorem onesAt_le (f : Nat → Int64) (k : Nat) : onesAt f k ≤ k := by
  induction k with
  | zero => exact Nat.le_refl _
  | succ k ih => simp only [onesAt]; split <;> omega
theorem sixIn_up {f : Nat → Int64} {k : Nat} (h : sixIn f k = true) (d : Nat) : sixIn f (k + d) = true := by
  induction d with
  | zero => exact h
  | succ d ih => show (sixIn f (k + d) || _) = true; rw [ih]; rfl
theorem sixIn_hit {f : Nat → Int64} {k m : Nat} (h1 : fb f (8 + k) = 1) (h2 : 5 < onesAt f k + 1) (h : k < m) : sixIn f m = true := by
  have h3 : sixIn f (k + 1) = true := by
    show (sixIn f k || decide (5 < onesAt f (k + 1))) = true
    have h4 : onesAt f (k + 1) = onesAt f k + 1 := if_pos h1
    rw [h4, decide_eq_true h2, Bool.or_true]
  have h5 := sixIn_up h3 (m - (k + 1))
  rw [show k + 1 + (m - (k + 1)) = m by omega] at h5
  exact h5
/-! ===== the frames' row with one taken out ===== -/
def lsh (fr : Nat → Option Nat) (f k : Nat) : Nat → Option Nat := fun j => if f ≤ j ∧ j < k then fr (j + 1) else fr j
theorem lsh_0 (fr : Nat → Option Nat) (f : Nat) : lsh fr f f = fr := by
  funext j
  simp only [lsh]
  rw [if_neg (by omega)]
theorem lsh_hi (fr : Nat → Option Nat) (f : Nat) {k j : Nat} (h : k ≤ j) : lsh fr f k j = fr j := by
  simp only [lsh]
  rw [if_neg (by omega)]
theorem lsh_s (fr : Nat → Option Nat) {f k : Nat} (h : f ≤ k) : va_up (lsh fr f k) k (fr (k + 1)) = lsh fr f (k + 1) := by
  funext j
  by_cases hj : j = k
  · subst hj
    simp only [va_up_self, lsh]
    rw [if_pos (by omega)]
  · rw [va_up_ne _ _ hj]
    simp only [lsh]
    by_cases h1 : f ≤ j ∧ j < k
    · rw [if_pos h1, if_pos (by omega)]
    · rw [if_neg h1, if_neg (by omega)]
/-! ===== the check's register ===== -/
def rs1 (r v i : Nat) : Nat := if r % 2 = v / 2 ^ i % 2 then r / 2 else (r / 2) ^^^ 33800
def rst (r v : Nat) : Nat → Nat
  | 0 => r
  | k + 1 => rs1 (rst r v k) v k
theorem rs1_lt {r v i : Nat} (h : r < 65536) : rs1 r v i < 65536 := by
  unfold rs1
  split
  · omega
  · exact Nat.xor_lt_two_pow (n := 16) (by omega) (by decide)
theorem rst_lt {r v : Nat} (h : r < 65536) (k : Nat) : rst r v k < 65536 := by
  induction k with
  | zero => exact h
  | succ k ih => exact rs1_lt ih
theorem nx_xor (a b : Nat) : nI a ^^^ nI b = nI (a ^^^ b) := by
  apply Int32.toBitVec_inj.mp
  rw [Int32.toBitVec_xor]
  show BitVec.ofNat 32 a ^^^ BitVec.ofNat 32 b = BitVec.ofNat 32 (a ^^^ b)
  rw [BitVec.ofNat_xor]
theorem nx_or (a b : Nat) : nI a ||| nI b = nI (a ||| b) := by
  apply Int32.toBitVec_inj.mp
  rw [Int32.toBitVec_or]
  show BitVec.ofNat 32 a ||| BitVec.ofNat 32 b = BitVec.ofNat 32 (a ||| b)
  rw [BitVec.ofNat_or]
theorem sh_l : ∀ n, n < 32 → ((nI n &&& 31).toBitVec.smod 32).toNat = n := by decide +kernel
/-- a byte's bit -/
theorem sh_bit {v k : Nat} (hv : v < 2 ^ 31) (hk : k < 32) : nI v >>> (nI k &&& 31) = nI (v / 2 ^ k) := pk_shrN hv _ k (sh_l k hk)
def cdu (g : Nat → Nat) : Nat → Nat
  | 0 => 65535
  | k + 1 => rst (cdu g k) (g k) 8
theorem cdu_lt (g : Nat → Nat) (k : Nat) : cdu g k < 65536 := by
  induction k with
  | zero => exact (by decide : 65535 < 65536)
  | succ k ih => exact rst_lt ih 8
def bod (g : Nat → Nat) (s : Nat) : Nat → (Nat → Nat)
  | 0 => g
  | k + 1 => va_up (bod g s k) (3 + k) ((s + 37 * k + k / 8) % 256)
def gbit (g : Nat → Nat) (k : Nat) : Nat := g (k / 8) / 2 ^ (k % 8) % 2
theorem gbit_le (g : Nat → Nat) (k : Nat) : gbit g k ≤ 1 := by unfold gbit; omega
abbrev wtT : Type := (Nat → Int64) × Nat × Nat
def wt1 (b : Nat) (S : wtT) : wtT :=
  if b = 1 then (if S.2.2 + 1 = 5 then (fadd (fadd S.1 S.2.1 b) (S.2.1 + 1) 0, S.2.1 + 1 + 1, 0) else (fadd S.1 S.2.1 b, S.2.1 + 1, S.2.2 + 1)) else (fadd S.1 S.2.1 b, S.2.1 + 1, 0)
def wts (g : Nat → Nat) (f : Nat → Int64) (n : Nat) : Nat → wtT
  | 0 => (f, n, 0)
  | k + 1 => wt1 (gbit g k) (wts g f n k)
theorem wts_le (g : Nat → Nat) (f : Nat → Int64) (n k : Nat) : (wts g f n k).2.2 ≤ 4 ∧ 5 * (wts g f n k).2.1 + (wts g f n k).2.2 ≤ 5 * n + 6 * k := by
  induction k with
  | zero => simp [wts]
  | succ k ih =>
    simp only [wts, wt1]
    split
    · split
      · simp only; omega
      · simp only; omega
    · simp only; omega
