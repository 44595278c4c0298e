/-! ===== reading a frame: the reference's side ===== -/
def lvl (o : Nat) : Nat := if o = 5 then 1 else 0
def fs2 (v o : Nat) (S : Nat × Nat × (Nat → Nat)) : Nat × Nat × (Nat → Nat) := if S.2.1 = 0 then (S.1 + 1, lvl o, va_up S.2.2 S.1 v) else (S.1, lvl o, S.2.2)
/-- a bit v read: ones, all, leaves, plain; six ones: it stops -/
def fs1 (v : Nat) (S : Nat × Nat × Nat × (Nat → Nat)) : Nat × Nat × Nat × (Nat → Nat) := if S.1 = 6 then S else if v = 1 then (if S.1 + 1 = 6 then (6, S.2) else (S.1 + 1, fs2 v (S.1 + 1) S.2)) else (0, fs2 v 0 S.2)
def mT (A : md_S) (fr : Nat) : Nat → Nat × Nat × Nat × (Nat → Nat)
  | 0 => (0, 0, 0, A 26)
  | k + 1 => fs1 (A 3 (3000 * fr + (8 + k))) (mT A fr k)
theorem fs2_le (v o : Nat) (S : Nat × Nat × (Nat → Nat)) : (fs2 v o S).1 ≤ S.1 + 1 ∧ (fs2 v o S).2.1 ≤ 1 := by
  unfold fs2 lvl
  split <;> split <;> simp
theorem mT_le (A : md_S) (fr k : Nat) : (mT A fr k).1 ≤ 6 ∧ (mT A fr k).2.1 ≤ k ∧ (mT A fr k).2.2.1 ≤ 1 := by
  induction k with
  | zero => simp [mT]
  | succ k ih =>
    obtain ⟨h1, h2, h3⟩ := ih
    simp only [mT, fs1]
    split
    · exact ⟨h1, by omega, h3⟩
    · split
      · split
        · exact ⟨Nat.le_refl 6, Nat.le_succ_of_le h2, h3⟩
        · have h := fs2_le (A 3 (3000 * fr + (8 + k))) ((mT A fr k).1 + 1) (mT A fr k).2
          exact ⟨by show (mT A fr k).1 + 1 ≤ 6; omega, by show (fs2 _ _ _).1 ≤ k + 1; omega, h.2⟩
      · have h := fs2_le (A 3 (3000 * fr + (8 + k))) 0 (mT A fr k).2
        exact ⟨Nat.zero_le 6, by show (fs2 _ _ _).1 ≤ k + 1; omega, h.2⟩
theorem mT_stay {A : md_S} {fr k : Nat} (h : (mT A fr k).1 = 6) (n : Nat) : mT A fr (k + n) = mT A fr k := by
  induction n with
  | zero => rfl
  | succ n ih => rw [← Nat.add_assoc, mT, ih, fs1, if_pos h]
theorem mT_hit {A : md_S} {fr k m : Nat} (h6 : ¬ (mT A fr k).1 = 6) (hv : A 3 (3000 * fr + (8 + k)) = 1) (ho : (mT A fr k).1 + 1 = 6) (hk : k < m) : mT A fr m = (6, (mT A fr k).2) := by
  have h1 : mT A fr (k + 1) = (6, (mT A fr k).2) := by
    rw [mT, fs1, if_neg h6, if_pos hv, if_pos ho]
  have h2 := mT_stay (A := A) (fr := fr) (k := k + 1) (by rw [h1]) (m - (k + 1))
  rw [show k + 1 + (m - (k + 1)) = m by omega, h1] at h2
  exact h2
theorem fs2_b {v o : Nat} {S : Nat × Nat × (Nat → Nat)} (hv : v ≤ 1) (h : ∀ i, i < S.1 → S.2.2 i ≤ 1) : ∀ i, i < (fs2 v o S).1 → (fs2 v o S).2.2 i ≤ 1 := by
  unfold fs2
  split
  · intro i hi
    show va_up S.2.2 S.1 v i ≤ 1
    by_cases e : i = S.1
    · rw [e, va_up_self]; exact hv
    · rw [va_up_ne _ _ e]; exact h i (by have hi : i < S.1 + 1 := hi; omega)
  · exact h
theorem mT_b {A : md_S} {fr n : Nat} (hb : ∀ i, i < n → A 3 (3000 * fr + i) ≤ 1) (k : Nat) (hk : 8 + k ≤ n) : ∀ i, i < (mT A fr k).2.1 → (mT A fr k).2.2.2 i ≤ 1 := by
  induction k with
  | zero => intro i hi; exact absurd hi (Nat.not_lt_zero _)
  | succ k ih =>
    have ih := ih (by omega)
    have hv := hb (8 + k) (by omega)
    simp only [mT, fs1]
    split
    · exact ih
    · split
      · split
        · exact ih
        · exact fs2_b hv ih
      · exact fs2_b hv ih
/-- byte j of the plain bits, z of its bits -/
def byt (p : Nat → Nat) (j : Nat) : Nat → Nat
  | 0 => 0
  | z + 1 => byt p j z + p (8 * j + z) * 2 ^ z
def mun (g p : Nat → Nat) : Nat → (Nat → Nat)
  | 0 => g
  | j + 1 => va_up (mun g p j) j (byt p j 8)
theorem byt_lt {p : Nat → Nat} {j : Nat} (h : ∀ i, i < 8 → p (8 * j + i) ≤ 1) (z : Nat) (hz : z ≤ 8) : byt p j z < 2 ^ z := by
  induction z with
  | zero => exact (by decide : 0 < 1)
  | succ z ih =>
    have h1 := ih (by omega)
    have h2 := h z (by omega)
    have h3 : p (8 * j + z) * 2 ^ z ≤ 1 * 2 ^ z := Nat.mul_le_mul_right _ h2
    simp only [byt, Nat.pow_succ]
    omega
theorem mun_lt {g p : Nat → Nat} {n N : Nat} (hg : ∀ i, i < N → g i < 256) (hp : ∀ i, i < 8 * n → p i ≤ 1) (j : Nat) (hj : j ≤ n) : ∀ i, i < N → mun g p j i < 256 := by
  induction j with
  | zero => exact hg
  | succ j ih => exact upN (ih (by omega)) (byt_lt (fun i hi => hp _ (by omega)) 8 (Nat.le_refl 8))
theorem sh_l8 : ∀ z, z < 8 → ((nI z &&& 31).toBitVec.smod 32).toNat = z := by decide +kernel
theorem shl_b {x z : Nat} (hz : z < 8) (hx : x ≤ 1) : nI x <<< (nI z &&& 31) = nI (x * 2 ^ z) := by
  refine pk_shlN _ z (sh_l8 z hz) ?_
  have h1 : 2 ^ z < 2 ^ 8 := Nat.pow_lt_pow_right (by decide) hz
  have h2 : x * 2 ^ z ≤ 1 * 2 ^ z := Nat.mul_le_mul_right _ hx
  omega
/-- the last two faults of a unit U of n bytes -/
def mrt (U : Nat → Nat) (n : Nat) : Nat := if 65535 - cdu U (n - 2) = U (n - 2) + 256 * U (n - 1) then (if U 2 = min (n - 5) 63 then 0 else 5) else 4
def mfT (A : md_S) (fr : Nat) : Nat × Nat × Nat × (Nat → Nat) := mT A fr (A 2 fr - 16)
def mfU (A : md_S) (fr : Nat) : Nat → Nat := mun (A 24) (mfT A fr).2.2.2 ((mfT A fr).2.1 / 8)
abbrev mf1 (A : md_S) (fr : Nat) : Prop := 16 ≤ A 2 fr ∧ ifl A (3000 * fr) 8 = 126 ∧ ifl A (3000 * fr + A 2 fr - 8) 8 = 126
abbrev mf3 (A : md_S) (fr : Nat) : Prop := (mfT A fr).2.1 % 8 = 0 ∧ 40 ≤ (mfT A fr).2.1 ∧ (mfT A fr).2.1 ≤ 2216
/-- the reference's fault, the unit's length and the state behind it -/
def mft (A : md_S) (fr : Nat) : Nat := if mf1 A fr then (if (mfT A fr).1 = 6 then 2 else if mf3 A fr then mrt (mfU A fr) ((mfT A fr).2.1 / 8) else 3) else 1
def mfu (A : md_S) (fr u : Nat) : Nat := if mf1 A fr then (if (mfT A fr).1 = 6 then u else if mf3 A fr then (mfT A fr).2.1 / 8 else u) else u
def mfA (A : md_S) (fr : Nat) : md_S := if mf1 A fr then (if (mfT A fr).1 = 6 then va_up A 26 (mfT A fr).2.2.2 else if mf3 A fr then va_up (va_up A 26 (mfT A fr).2.2.2) 24 (mfU A fr) else va_up A 26 (mfT A fr).2.2.2) else A
theorem mfA_o (A : md_S) (fr : Nat) {j : Nat} (h1 : j ≠ 24) (h2 : j ≠ 26) : mfA A fr j = A j := by
  unfold mfA
  split
  · split
    · rw [va_up_ne _ _ h2]
    · split
      · rw [va_up_ne _ _ h1, va_up_ne _ _ h2]
      · rw [va_up_ne _ _ h2]
  · rfl
