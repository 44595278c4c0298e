theorem wb_tb (n : Nat) : (lN n).toBitVec = BitVec.ofNat 64 n := rfl
theorem wb_inj {a b : Int64} (h : a.toBitVec = b.toBitVec) : a = b := Int64.toBitVec_inj.mp h
theorem wb_tn {n : Nat} (h : n < 2 ^ 64) : (lN n).toBitVec.toNat = n := by rw [wb_tb, BitVec.toNat_ofNat, Nat.mod_eq_of_lt h]
theorem wb_of (x : Int64) : ∃ n, n < 2 ^ 64 ∧ x = lN n := ⟨x.toBitVec.toNat, x.toBitVec.isLt, wb_inj (by rw [wb_tb]; simp)⟩
theorem wb_of32 (x : Int32) : ∃ n, n < 2 ^ 32 ∧ x = nI n := ⟨x.toBitVec.toNat, x.toBitVec.isLt, Int32.toBitVec_inj.mp (by show _ = BitVec.ofNat 32 _; simp)⟩
theorem wb_c : ∀ k, k < 64 → ((nI k).toInt64 &&& 63) = lN k := by decide +kernel
theorem wb_cu : ∀ k, k < 64 → ((nI k).toInt64.toUInt64 &&& Int64.toUInt64 63) = UInt64.ofNat k := by decide +kernel
theorem wb_sm : ∀ k, k < 64 → (BitVec.ofNat 64 k).smod 64 = BitVec.ofNat 64 k := by decide +kernel
theorem wb_pw {a b : Nat} (h : a ≤ b) : 2 ^ b = 2 ^ a * 2 ^ (b - a) := by rw [← Nat.pow_add]; congr 1; omega
theorem wb_lt2 {a b : Nat} (h : a < b) : 2 ^ a < 2 ^ b := Nat.pow_lt_pow_right (by decide) h
theorem wb_mod (n : Nat) : lN n = lN (n % 2 ^ 64) := wb_inj (by rw [wb_tb, wb_tb]; apply BitVec.eq_of_toNat_eq; rw [BitVec.toNat_ofNat, BitVec.toNat_ofNat, Nat.mod_mod])
theorem wb_shr {n k : Nat} (hn : n < 2 ^ 64) (hk : k < 64) : ((lN n).toUInt64 >>> ((nI k).toInt64.toUInt64 &&& Int64.toUInt64 63)).toInt64 = lN (n / 2 ^ k) := by
  rw [wb_cu k hk]
  apply wb_inj
  apply BitVec.eq_of_toNat_eq
  show ((lN n).toUInt64 >>> UInt64.ofNat k).toNat = (BitVec.ofNat 64 _).toNat
  have h1 : (UInt64.ofNat k).toNat = k := by
    show (BitVec.ofNat 64 k).toNat = k
    rw [BitVec.toNat_ofNat, Nat.mod_eq_of_lt (by omega)]
  have h2 : (lN n).toUInt64.toNat = n := wb_tn hn
  rw [UInt64.toNat_shiftRight, h1, h2, Nat.mod_eq_of_lt hk, Nat.shiftRight_eq_div_pow, BitVec.toNat_ofNat, Nat.mod_eq_of_lt (Nat.lt_of_le_of_lt (Nat.div_le_self _ _) hn)]
theorem wb_shl (n : Nat) {k : Nat} (hk : k < 64) : lN n <<< ((nI k).toInt64 &&& 63) = lN (n * 2 ^ k) := by
  rw [wb_c k hk]
  apply wb_inj
  rw [Int64.toBitVec_shiftLeft, wb_tb, wb_tb, wb_tb, wb_sm k hk]
  apply BitVec.eq_of_toNat_eq
  rw [BitVec.shiftLeft_eq', BitVec.toNat_shiftLeft, BitVec.toNat_ofNat, BitVec.toNat_ofNat, BitVec.toNat_ofNat, Nat.mod_eq_of_lt (show k < 2 ^ 64 by omega), Nat.shiftLeft_eq, Nat.mul_mod, Nat.mod_mod, ← Nat.mul_mod]
theorem wb_and {a b : Nat} (ha : a < 2 ^ 64) (hb : b < 2 ^ 64) : lN a &&& lN b = lN (a &&& b) := by
  apply wb_inj
  rw [Int64.toBitVec_and, wb_tb, wb_tb, wb_tb]
  apply BitVec.eq_of_toNat_eq
  rw [BitVec.toNat_and, BitVec.toNat_ofNat, BitVec.toNat_ofNat, BitVec.toNat_ofNat, Nat.mod_eq_of_lt ha, Nat.mod_eq_of_lt hb, Nat.mod_eq_of_lt (Nat.and_lt_two_pow _ hb)]
theorem wb_or {a b : Nat} (ha : a < 2 ^ 64) (hb : b < 2 ^ 64) : lN a ||| lN b = lN (a ||| b) := by
  apply wb_inj
  rw [Int64.toBitVec_or, wb_tb, wb_tb, wb_tb]
  apply BitVec.eq_of_toNat_eq
  rw [BitVec.toNat_or, BitVec.toNat_ofNat, BitVec.toNat_ofNat, BitVec.toNat_ofNat, Nat.mod_eq_of_lt ha, Nat.mod_eq_of_lt hb, Nat.mod_eq_of_lt (Nat.or_lt_two_pow ha hb)]
theorem wb_mask {n k : Nat} (hn : n < 2 ^ 64) (hk : k < 64) : lN n &&& lN (2 ^ k - 1) = lN (n % 2 ^ k) := by
  rw [wb_and hn (by have := wb_lt2 hk; omega), Nat.and_two_pow_sub_one_eq_mod]
theorem wb_a1 {n : Nat} (hn : n < 2 ^ 64) : lN n &&& 1 = lN (n % 2) := wb_mask (k := 1) hn (by decide)
theorem wb_bit {n k : Nat} (hn : n < 2 ^ 64) (hk : k < 64) : ((lN n).toUInt64 >>> ((nI k).toInt64.toUInt64 &&& Int64.toUInt64 63)).toInt64 &&& 1 = lN (n / 2 ^ k % 2) := by
  rw [wb_shr hn hk, wb_a1 (Nat.lt_of_le_of_lt (Nat.div_le_self _ _) hn)]
/-! ===== bits of a frame's words ===== -/
/-- bit i of the words f -/
def fb (f : Nat → Int64) (i : Nat) : Nat := ((f (i / 64)).toBitVec.getLsbD (i % 64)).toNat
theorem fb_le (f : Nat → Int64) (i : Nat) : fb f i ≤ 1 := Bool.toNat_le _
/-- the words with bit i turned -/
def ft (f : Nat → Int64) (i : Nat) : Nat → Int64 := vp_updL f (i / 64) (f (i / 64) ^^^ ((1 : Int64) <<< ((nI (i % 64)).toInt64 &&& 63)))
/-- the words with the bit v put at place n -/
def fadd (f : Nat → Int64) (n v : Nat) : Nat → Int64 := if fb f n = v then f else ft f n
theorem pu_one : ∀ k, k < 64 → ((1 : Int64) <<< ((nI k).toInt64 &&& 63)).toBitVec = BitVec.twoPow 64 k := by decide +kernel
theorem pu_and1 (m : Nat) : nI m &&& nI 1 = nI (m % 2) := by
  rw [pk_and (nI m) (m := nI 1) 1 (by decide)]
  congr 1
  show (BitVec.ofNat 32 m).toNat % 2 ^ 1 = m % 2
  rw [BitVec.toNat_ofNat]
  omega
theorem pu_tb (n k : Nat) : (n.testBit k).toNat = n / 2 ^ k % 2 := by
  rw [Nat.testBit_eq_decide_div_mod_eq]
  rcases Nat.mod_two_eq_zero_or_one (n / 2 ^ k) with h | h <;> simp [h]
theorem fb_val (f : Nat → Int64) (i : Nat) : ((f (i / 64)).toUInt64 >>> ((nI (i % 64)).toInt64.toUInt64 &&& Int64.toUInt64 63)).toInt64.toInt32 &&& nI 1 = nI (fb f i) := by
  have hk : i % 64 < 64 := Nat.mod_lt _ (by decide)
  unfold fb
  obtain ⟨n, hn, e⟩ := wb_of (f (i / 64))
  rw [e, wb_shr hn hk, lN_i, pu_and1, wb_tb, BitVec.getLsbD_ofNat]
  simp only [hk, decide_true, Bool.true_and]
  rw [pu_tb]
theorem fb_ft (f : Nat → Int64) (i j : Nat) : fb (ft f i) j = if j = i then 1 - fb f i else fb f j := by
  have hk : i % 64 < 64 := Nat.mod_lt _ (by decide)
  unfold fb ft
  by_cases hd : j / 64 = i / 64
  · rw [hd, pk_uLs, Int64.toBitVec_xor, BitVec.getLsbD_xor, pu_one _ hk, BitVec.getLsbD_twoPow]
    by_cases hj : j = i
    · subst hj
      cases h : (f (j / 64)).toBitVec.getLsbD (j % 64) <;> simp [hk]
    · have hm : ¬ i % 64 = j % 64 := by omega
      have hm2 : ¬ j % 64 = i % 64 := by omega
      rw [if_neg hj]
      simp [hm, hm2]
  · have hj : ¬ j = i := fun e => hd (by rw [e])
    rw [pk_uLn hd, if_neg hj]
theorem fb_fadd (f : Nat → Int64) (n v : Nat) (hv : v ≤ 1) (j : Nat) : fb (fadd f n v) j = if j = n then v else fb f j := by
  unfold fadd
  by_cases h : fb f n = v
  · rw [if_pos h]
    by_cases hj : j = n
    · rw [if_pos hj, hj, h]
    · rw [if_neg hj]
  · rw [if_neg h, fb_ft]
    by_cases hj : j = n
    · rw [if_pos hj, if_pos hj]
      have := fb_le f n
      omega
    · rw [if_neg hj, if_neg hj]
/-- the flag's bits -/
def flg (k : Nat) : Nat := 126 / 2 ^ k % 2
theorem flg_val : ∀ k, k < 8 → (nI 126 >>> (nI k &&& 31)) &&& nI 1 = nI (flg k) := by decide +kernel
theorem flg_le (k : Nat) : flg k ≤ 1 := by unfold flg; omega
def ffl (f : Nat → Int64) (n : Nat) : Nat → (Nat → Int64)
  | 0 => f
  | k + 1 => fadd (ffl f n k) (n + k) (flg k)
/-- whether the first k bits from a on are the flag's -/
def isfl (f : Nat → Int64) (a : Nat) : Nat → Bool
  | 0 => true
  | k + 1 => isfl f a k && decide (fb f (a + k) = flg k)
/-- ones in a row up to place i, counted from 8 on; six seen: none -/
def b2n (b : Bool) : Nat := if b then 1 else 0
theorem b2n_le (b : Bool) : b2n b ≤ 1 := by cases b <;> decide
/-- how many ones stand one behind the other just ahead of place 8 + k, where no six were met -/
def onesAt (f : Nat → Int64) : Nat → Nat
  | 0 => 0
  | k + 1 => if fb f (8 + k) = 1 then onesAt f k + 1 else 0
/-- six ones one behind the other among the first k places from 8 on -/
def sixIn (f : Nat → Int64) : Nat → Bool
  | 0 => false
  | k + 1 => sixIn f k || decide (5 < onesAt f (k + 1))
theorem onesAt_le (f : Nat → Int64) (k : Nat) : onesAt f k ≤ k := by
  induction k with
  | zero => exact Nat.le_refl _
  | succ k ih => simp only [onesAt]; split <;> omega
theorem sixIn_up {f : Nat → Int64} {k : Nat} (h : sixIn f k = true) (d : Nat) : sixIn f (k + d) = true := by
  induction d with
  | zero => exact h
  | succ d ih => show (sixIn f (k + d) || _) = true; rw [ih]; rfl
theorem sixIn_hit {f : Nat → Int64} {k m : Nat} (h1 : fb f (8 + k) = 1) (h2 : 5 < onesAt f k + 1) (h : k < m) : sixIn f m = true := by
  have h3 : sixIn f (k + 1) = true := by
    show (sixIn f k || decide (5 < onesAt f (k + 1))) = true
    have h4 : onesAt f (k + 1) = onesAt f k + 1 := if_pos h1
    rw [h4, decide_eq_true h2, Bool.or_true]
  have h5 := sixIn_up h3 (m - (k + 1))
  rw [show k + 1 + (m - (k + 1)) = m by omega] at h5
  exact h5
/-! ===== the frames' row with one taken out ===== -/
def lsh (fr : Nat → Option Nat) (f k : Nat) : Nat → Option Nat := fun j => if f ≤ j ∧ j < k then fr (j + 1) else fr j
theorem lsh_0 (fr : Nat → Option Nat) (f : Nat) : lsh fr f f = fr := by
  funext j
  simp only [lsh]
  rw [if_neg (by omega)]
theorem lsh_hi (fr : Nat → Option Nat) (f : Nat) {k j : Nat} (h : k ≤ j) : lsh fr f k j = fr j := by
  simp only [lsh]
  rw [if_neg (by omega)]
theorem lsh_s (fr : Nat → Option Nat) {f k : Nat} (h : f ≤ k) : va_up (lsh fr f k) k (fr (k + 1)) = lsh fr f (k + 1) := by
  funext j
  by_cases hj : j = k
  · subst hj
    simp only [va_up_self, lsh]
    rw [if_pos (by omega)]
  · rw [va_up_ne _ _ hj]
    simp only [lsh]
    by_cases h1 : f ≤ j ∧ j < k
    · rw [if_pos h1, if_pos (by omega)]
    · rw [if_neg h1, if_neg (by omega)]
/-! ===== the check's register ===== -/
def rs1 (r v i : Nat) : Nat := if r % 2 = v / 2 ^ i % 2 then r / 2 else (r / 2) ^^^ 33800
def rst (r v : Nat) : Nat → Nat
  | 0 => r
  | k + 1 => rs1 (rst r v k) v k
theorem rs1_lt {r v i : Nat} (h : r < 65536) : rs1 r v i < 65536 := by
  unfold rs1
  split
  · omega
  · exact Nat.xor_lt_two_pow (n := 16) (by omega) (by decide)
theorem rst_lt {r v : Nat} (h : r < 65536) (k : Nat) : rst r v k < 65536 := by
  induction k with
  | zero => exact h
  | succ k ih => exact rs1_lt ih
theorem nx_xor (a b : Nat) : nI a ^^^ nI b = nI (a ^^^ b) := by
  apply Int32.toBitVec_inj.mp
  rw [Int32.toBitVec_xor]
  show BitVec.ofNat 32 a ^^^ BitVec.ofNat 32 b = BitVec.ofNat 32 (a ^^^ b)
  rw [BitVec.ofNat_xor]
theorem nx_or (a b : Nat) : nI a ||| nI b = nI (a ||| b) := by
  apply Int32.toBitVec_inj.mp
  rw [Int32.toBitVec_or]
  show BitVec.ofNat 32 a ||| BitVec.ofNat 32 b = BitVec.ofNat 32 (a ||| b)
  rw [BitVec.ofNat_or]
theorem sh_l : ∀ n, n < 32 → ((nI n &&& 31).toBitVec.smod 32).toNat = n := by decide +kernel
/-- a byte's bit -/
theorem sh_bit {v k : Nat} (hv : v < 2 ^ 31) (hk : k < 32) : nI v >>> (nI k &&& 31) = nI (v / 2 ^ k) := pk_shrN hv _ k (sh_l k hk)
def cdu (g : Nat → Nat) : Nat → Nat
  | 0 => 65535
  | k + 1 => rst (cdu g k) (g k) 8
theorem cdu_lt (g : Nat → Nat) (k : Nat) : cdu g k < 65536 := by
  induction k with
  | zero => exact (by decide : 65535 < 65536)
  | succ k ih => exact rst_lt ih 8
def bod (g : Nat → Nat) (s : Nat) : Nat → (Nat → Nat)
  | 0 => g
  | k + 1 => va_up (bod g s k) (3 + k) ((s + 37 * k + k / 8) % 256)
def gbit (g : Nat → Nat) (k : Nat) : Nat := g (k / 8) / 2 ^ (k % 8) % 2
theorem gbit_le (g : Nat → Nat) (k : Nat) : gbit g k ≤ 1 := by unfold gbit; omega
abbrev wtT : Type := (Nat → Int64) × Nat × Nat
def wt1 (b : Nat) (S : wtT) : wtT :=
  if b = 1 then (if S.2.2 + 1 = 5 then (fadd (fadd S.1 S.2.1 b) (S.2.1 + 1) 0, S.2.1 + 1 + 1, 0) else (fadd S.1 S.2.1 b, S.2.1 + 1, S.2.2 + 1)) else (fadd S.1 S.2.1 b, S.2.1 + 1, 0)
def wts (g : Nat → Nat) (f : Nat → Int64) (n : Nat) : Nat → wtT
  | 0 => (f, n, 0)
  | k + 1 => wt1 (gbit g k) (wts g f n k)
theorem wts_le (g : Nat → Nat) (f : Nat → Int64) (n k : Nat) : (wts g f n k).2.2 ≤ 4 ∧ 5 * (wts g f n k).2.1 + (wts g f n k).2.2 ≤ 5 * n + 6 * k := by
  induction k with
  | zero => simp [wts]
  | succ k ih =>
    simp only [wts, wt1]
    split
    · split
      · simp only; omega
      · simp only; omega
    · simp only; omega
/-! ===== reading a frame ===== -/
theorem sh_shl {v k : Nat} (hv : v ≤ 1) (hk : k < 8) : nI v <<< (nI k &&& 31) = nI (v * 2 ^ k) := by
  refine pk_shlN _ k (sh_l k (by omega)) ?_
  have h1 : 2 ^ k ≤ 2 ^ 7 := Nat.pow_le_pow_right (by decide) (by omega)
  have h2 : v * 2 ^ k ≤ 1 * 2 ^ k := Nat.mul_le_mul_right _ hv
  omega
def wbv (g : Nat → Nat) (i v : Nat) : Nat := (if i % 8 = 0 then 0 else g (i / 8)) ||| v * 2 ^ (i % 8)
theorem wbv_lt {g : Nat → Nat} {i v : Nat} (hg : g (i / 8) < 256) (hv : v ≤ 1) : wbv g i v < 256 := by
  unfold wbv
  have h1 : 2 ^ (i % 8) ≤ 2 ^ 7 := Nat.pow_le_pow_right (by decide) (by omega)
  have h2 : v * 2 ^ (i % 8) ≤ 1 * 2 ^ (i % 8) := Nat.mul_le_mul_right _ hv
  refine Nat.or_lt_two_pow (n := 8) ?_ (by omega)
  split <;> omega
abbrev rbT : Type := Nat × Nat × (Nat → Nat)
def rb1 (b : Nat) (S : rbT) : rbT := if S.2.1 = 5 then (S.1, 0, S.2.2) else (S.1 + 1, if b = 1 then S.2.1 + 1 else 0, if S.1 < 2216 then va_up S.2.2 (S.1 / 8) (wbv S.2.2 S.1 b) else S.2.2)
def rbs (f : Nat → Int64) (g : Nat → Nat) : Nat → rbT
  | 0 => (0, 0, g)
  | k + 1 => rb1 (fb f (8 + k)) (rbs f g k)
theorem rbs_le (f : Nat → Int64) (g : Nat → Nat) (k : Nat) : (rbs f g k).1 ≤ k ∧ (rbs f g k).2.1 ≤ 5 := by
  induction k with
  | zero => simp [rbs]
  | succ k ih =>
    simp only [rbs, rb1]
    split
    · simp only; omega
    · simp only; split <;> omega
theorem rbs_lt (f : Nat → Int64) (g : Nat → Nat) (hg : ∀ i, i < 277 → g i < 256) (k : Nat) : ∀ i, i < 277 → (rbs f g k).2.2 i < 256 := by
  induction k with
  | zero => exact hg
  | succ k ih =>
    intro i hi
    simp only [rbs, rb1]
    split
    · exact ih i hi
    · simp only
      split
      · by_cases h : i = (rbs f g k).1 / 8
        · rw [h, va_up_self]
          exact wbv_lt (ih _ (by omega)) (fb_le f (8 + k))
        · rw [va_up_ne _ _ h]
          exact ih i hi
      · exact ih i hi
def rdok (f : Nat → Int64) (q : Nat) : Bool := decide (16 ≤ q) && isfl f 0 8 && isfl f (q - 8) 8
abbrev rdB (f : Nat → Int64) (g : Nat → Nat) (q : Nat) : rbT := rbs f g (q - 16)
/-- what reading a frame of q bits gives: the fault, the unit's count, its bytes -/
def rdT (f : Nat → Int64) (q : Nat) (g : Nat → Nat) (n : Nat) : Nat × Nat × (Nat → Nat) :=
  if rdok f q = false then (1, n, g) else if sixIn f (q - 16) = true then (2, n, g) else
  if (rdB f g q).1 % 8 ≠ 0 ∨ (rdB f g q).1 < 40 ∨ 2216 < (rdB f g q).1 then (3, n, (rdB f g q).2.2) else
  if (rdB f g q).2.2 ((rdB f g q).1 / 8 - 2) + 256 * (rdB f g q).2.2 ((rdB f g q).1 / 8 - 1) ≠ 65535 - cdu (rdB f g q).2.2 ((rdB f g q).1 / 8 - 2) then (4, (rdB f g q).1 / 8, (rdB f g q).2.2) else
  if (rdB f g q).2.2 2 = min ((rdB f g q).1 / 8 - 5) 63 then (0, (rdB f g q).1 / 8, (rdB f g q).2.2) else (5, (rdB f g q).1 / 8, (rdB f g q).2.2)
/-! ===== the store ===== -/
def kee (bg g : Nat → Nat) (r : Nat) : Nat → (Nat → Nat)
  | 0 => bg
  | k + 1 => va_up (kee bg g r k) (r * 272 + k) (g (3 + k))
theorem st_lt {k t : Nat} (hk : k < 2 ^ 30) (ht : t < 2 ^ 30) : nI k < nI t - nI 50 ↔ k + 50 < t := by
  rw [Int32.lt_iff_toInt_lt, nI_toInt (by omega), pk_sub_toInt ht (by decide)]
  omega
theorem sb_255 {c : Nat} (h : c < 256) : sb_b c &&& nI 255 = nI c := (sb_byte c h).1
/-! ===== numbers and booleans ===== -/
theorem nar_b (b : Bool) : narrow .boolean (.int (nI (b2n b))) = .int (nI (b2n b)) := by cases b <;> rfl
theorem fit_b (b : Bool) : fits .boolean (.int (nI (b2n b))) = true := by cases b <;> rfl
theorem nI_big (a : Nat) : nI (a + 4294967296) = nI a := by
  apply Int32.toBitVec_inj.mp
  show BitVec.ofNat 32 _ = BitVec.ofNat 32 _
  apply BitVec.eq_of_toNat_eq
  rw [BitVec.toNat_ofNat, BitVec.toNat_ofNat]
  omega
theorem nI_and127 (m : Nat) : nI m &&& nI 127 = nI (m % 128) := by
  rw [pk_and (nI m) (m := nI 127) 7 (by decide)]
  congr 1
  show (BitVec.ofNat 32 m).toNat % 2 ^ 7 = m % 128
  rw [BitVec.toNat_ofNat]
  omega
theorem nm_sub {a b : Nat} (ha : a < 128) (hb : b ≤ 128) : (nI a - nI b) &&& nI 127 = nI ((a + 128 - b) % 128) := by
  rw [← nI_big a, pk_sub (by omega), nI_and127]
  congr 1
  omega
theorem tb_val {b s u : Nat} (hb : b < 128) (hs : s < 128) (hu : u ≤ 127) : (nI b - (nI s - nI u)) &&& nI 127 = nI ((b + u + 128 - s) % 128) := by
  have e : nI b - (nI s - nI u) = nI b + nI u - nI s := by
    rw [Int32.sub_eq_add_neg, Int32.neg_sub, Int32.sub_eq_add_neg (nI u), Int32.sub_eq_add_neg (nI b + nI u), Int32.add_assoc]
  rw [e, nI_add, ← nI_big (b + u), pk_sub (by omega), nI_and127]
  congr 1
  omega
/-- the bytes of a unit with its check -/
def ubs (g : Nat → Nat) (b f ln se : Nat) : Nat → Nat :=
  let g2 := bod (va_up (va_up (va_up g 0 b) 1 f) 2 (min ln 63)) se (5 + ln - 5)
  va_up (va_up g2 (5 + ln - 2) ((65535 - cdu g2 (5 + ln - 2)) % 256)) (5 + ln - 1) ((65535 - cdu g2 (5 + ln - 2)) / 256)
theorem bod_lt {g : Nat → Nat} (hg : ∀ i, i < 277 → g i < 256) (s k : Nat) : ∀ i, i < 277 → bod g s k i < 256 := by
  induction k with
  | zero => exact hg
  | succ k ih =>
    intro i hi
    simp only [bod]
    by_cases h : i = 3 + k
    · rw [h, va_up_self]; omega
    · rw [va_up_ne _ _ h]; exact ih i hi
theorem up_lt {g : Nat → Nat} (hg : ∀ i, i < 277 → g i < 256) {k v : Nat} (hv : v < 256) : ∀ i, i < 277 → va_up g k v i < 256 := by
  intro i hi
  by_cases h : i = k
  · rw [h, va_up_self]; exact hv
  · rw [va_up_ne _ _ h]; exact hg i hi
def ufr (g : Nat → Nat) (f : Nat → Int64) (n : Nat) : wtT := wts g (ffl f 0 8) (0 + 8) (8 * n)
/-- the bucket leaks -/
def lk (er un : Nat) : Nat := if (un + 1) % 256 = 0 ∧ 0 < er then er - 1 else er
theorem ubs_lt {g : Nat → Nat} (hg : ∀ i, i < 277 → g i < 256) {b f ln : Nat} (hb : b < 256) (hf : f < 256) (hln : ln ≤ 272) (se : Nat) : ∀ i, i < 277 → ubs g b f ln se i < 256 := by
  have hg1 : ∀ i, i < 277 → va_up (va_up (va_up g 0 b) 1 f) 2 (min ln 63) i < 256 := up_lt (up_lt (up_lt hg hb) hf) (by omega)
  have hg2 := bod_lt hg1 se (5 + ln - 5)
  have hcd := cdu_lt (bod (va_up (va_up (va_up g 0 b) 1 f) 2 (min ln 63)) se (5 + ln - 5)) (5 + ln - 2)
  exact up_lt (up_lt hg2 (by omega)) (by omega)
