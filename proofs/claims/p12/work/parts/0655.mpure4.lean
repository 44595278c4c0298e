/-! ===== send, bits, forwards of the reference: the state behind them ===== -/
theorem va_upi {X : md_S} {k : Nat} {g : Nat → Nat} (h : X k = g) : X = va_up X k g := by
  funext j
  by_cases hj : j = k
  · rw [hj, va_up_self, h]
  · rw [va_up_ne _ _ hj]
theorem va_upc {X : md_S} {k k2 : Nat} {f f' g : Nat → Nat} (h : k ≠ k2) : va_up (va_up (va_up X k f) k2 g) k f' = va_up (va_up X k f') k2 g := by
  funext j
  by_cases h1 : j = k
  · rw [h1, va_up_self, va_up_ne _ _ h, va_up_self]
  · rw [va_up_ne _ _ h1]
    by_cases h2 : j = k2
    · rw [h2, va_up_self, va_up_self]
    · rw [va_up_ne _ _ h2, va_up_ne _ _ h1, va_up_ne _ _ h2, va_up_ne _ _ h1]
theorem md_uw2 {X : md_S} {k k2 i v : Nat} {f g : Nat → Nat} (h : k ≠ k2) : md_u (va_up (va_up X k f) k2 g) k i v = va_up (va_up X k (va_up f i v)) k2 g := by
  unfold md_u
  rw [va_up_ne _ _ h, va_up_self, va_upc h]
theorem ms_w0 {X : md_S} {g g' : Nat → Nat} {k k2 b : Nat} (h : k ≠ k2) (hk : X k = g) (hk2 : X k2 = g') : X = va_up (va_up X k (shf g b 0)) k2 (shf g' b 0) := by
  rw [shf_0, shf_0, ← va_upi hk, ← va_upi hk2]
theorem ms_ws {X : md_S} {g g' : Nat → Nat} {k k2 b i : Nat} (h : k ≠ k2) : md_u (md_u (va_up (va_up X k (shf g b i)) k2 (shf g' b i)) k (b + i) (shf g b i (b + i + 1))) k2 (b + i) (shf g' b i (b + i + 1)) = va_up (va_up X k (shf g b (i + 1))) k2 (shf g' b (i + 1)) := by
  rw [md_uw2 h, md_uw, shf_r, shf_r, shf_s, shf_s]
theorem shf_at (g : Nat → Nat) (b i : Nat) : shf g b (i + 1) (b + i) = g (b + i + 1) := by
  unfold shf
  rw [if_pos (by omega)]
/-- a message goes out for the first time: the state ahead of its frame -/
def ms1 (A : md_S) (ed : Nat) : md_S := md_u (md_u (md_u (va_up (va_up (md_u (md_u (md_u (md_u A 6 ed ((A 6 ed + 1) % 128)) 13 (127 * ed + A 12 ed) ((A 6 ed + 1) % 128)) 14 (127 * ed + A 12 ed) (A 10 (60 * ed))) 15 (127 * ed + A 12 ed) (A 11 (60 * ed))) 10 (shf (A 10) (60 * ed) (A 9 ed - 1))) 11 (shf (A 11) (60 * ed) (A 9 ed - 1))) 9 ed (A 9 ed - 1)) 12 ed (A 12 ed + 1)) 16 ed (A 12 ed + 1)
theorem ms1_1 (A : md_S) (ed : Nat) : ms1 A ed 1 = A 1 := rfl
theorem ms1_4 (A : md_S) (ed : Nat) : ms1 A ed 4 = A 4 := rfl
theorem ms1_5 (A : md_S) (ed : Nat) : ms1 A ed 5 = A 5 := rfl
theorem ms1_7 (A : md_S) (ed : Nat) : ms1 A ed 7 = A 7 := rfl
theorem ms1_24 (A : md_S) (ed : Nat) : ms1 A ed 24 = A 24 := rfl
theorem mopen_1 (A : md_S) (ed : Nat) : mopen A ed 1 ed = A 1 ed + 1 := by
  unfold mopen
  rw [md_u_s]
theorem mopen_2 (A : md_S) (ed : Nat) : mopen A ed 2 (40 * ed + A 1 ed) = 0 := by
  unfold mopen
  rw [md_u_k (by decide), md_u_s]
/-- the bytes of a message come to place b -/
def mke (g h : Nat → Nat) (b : Nat) : Nat → (Nat → Nat)
  | 0 => g
  | k + 1 => va_up (mke g h b k) (b + k) (h (3 + k))
/-- the bits of frame f + 1 come to frame f, n of them -/
def mcp (g : Nat → Nat) (f n : Nat) : Nat → Nat := fun j => if 3000 * f ≤ j ∧ j < 3000 * f + n then g (j + 3000) else g j
theorem mcp_0 (g : Nat → Nat) (f : Nat) : mcp g f 0 = g := by
  funext j
  unfold mcp
  rw [if_neg (by omega)]
theorem mcp_s (g : Nat → Nat) (f k : Nat) (hk : k ≤ 3000) : va_up (mcp g f k) (3000 * f + k) (mcp g f k (3000 * f + 3000 + k)) = mcp g f (k + 1) := by
  funext j
  by_cases h : j = 3000 * f + k
  · rw [h, va_up_self]; unfold mcp; rw [if_neg (by omega), if_pos (by omega)]; congr 1; omega
  · rw [va_up_ne _ _ h]
    unfold mcp
    by_cases h2 : 3000 * f ≤ j ∧ j < 3000 * f + k
    · rw [if_pos h2, if_pos (by omega)]
    · rw [if_neg h2, if_neg (by omega)]
/-- the bits, i frames from b on moved one place down; L their lengths at first -/
def mgo (L g : Nat → Nat) (b : Nat) : Nat → (Nat → Nat)
  | 0 => g
  | i + 1 => mcp (mgo L g b i) (b + i) (L (b + i + 1))
theorem mg_in {X : md_S} {L : Nat → Nat} {B : Nat → Nat} {b i : Nat} : md_u (va_up (va_up X 2 (shf L b i)) 3 B) 2 (b + i) (shf L b i (b + i + 1)) = va_up (va_up X 2 (shf L b (i + 1))) 3 (mcp B (b + i) 0) := by
  rw [md_uw2 (by decide), shf_r, shf_s, mcp_0]
theorem mg_w0 {X : md_S} {b : Nat} : X = va_up (va_up X 2 (shf (X 2) b 0)) 3 (mgo (X 2) (X 3) b 0) := by
  rw [shf_0, ← va_upi rfl, mgo, ← va_upi rfl]
