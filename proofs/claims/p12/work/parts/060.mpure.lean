/-! ===== the reference's pure side ===== -/
theorem md_w_s {A : md_S} {k i : Nat} {g : Nat → Nat} : va_up A k g k i = g i := by rw [va_up_self]
theorem md_w_k {A : md_S} {k k2 j : Nat} {g : Nat → Nat} (h : k ≠ k2) : va_up A k2 g k j = A k j := by rw [va_up_ne _ _ h]
theorem md_uw {A : md_S} {k i v : Nat} {g : Nat → Nat} : md_u (va_up A k g) k i v = va_up A k (va_up g i v) := by
  unfold md_u
  rw [va_up_self, bx_uu]
def mbit (A : md_S) (ed v : Nat) : md_S := md_u (md_u A 3 (3000 * (40 * ed + A 1 ed - 1) + A 2 (40 * ed + A 1 ed - 1)) v) 2 (40 * ed + A 1 ed - 1) (A 2 (40 * ed + A 1 ed - 1) + 1)
theorem mbit_o (A : md_S) (ed v : Nat) {k : Nat} (h2 : k ≠ 2) (h3 : k ≠ 3) : mbit A ed v k = A k := by
  unfold mbit md_u
  rw [va_up_ne _ _ h2, va_up_ne _ _ h3]
theorem mbit_2 (A : md_S) (ed v : Nat) : mbit A ed v 2 (40 * ed + A 1 ed - 1) = A 2 (40 * ed + A 1 ed - 1) + 1 := by
  unfold mbit
  rw [md_u_s]
def mfl (A : md_S) (ed : Nat) : Nat → md_S
  | 0 => A
  | k + 1 => mbit (mfl A ed k) ed (flg k)
theorem mfl_o (A : md_S) (ed k : Nat) {j : Nat} (h2 : j ≠ 2) (h3 : j ≠ 3) : mfl A ed k j = A j := by
  induction k with
  | zero => rfl
  | succ k ih => rw [mfl, mbit_o _ _ _ h2 h3, ih]
theorem mfl_2 (A : md_S) (ed k : Nat) : mfl A ed k 2 (40 * ed + A 1 ed - 1) = A 2 (40 * ed + A 1 ed - 1) + k := by
  induction k with
  | zero => rfl
  | succ k ih =>
    have h := mbit_2 (mfl A ed k) ed (flg k)
    rw [mfl_o A ed k (j := 1) (by decide) (by decide), ih] at h
    exact h
def mw1 (b ed : Nat) (S : md_S × Nat) : md_S × Nat := if b = 1 then (if S.2 + 1 = 5 then (mbit (mbit S.1 ed b) ed 0, 0) else (mbit S.1 ed b, S.2 + 1)) else (mbit S.1 ed b, 0)
def mws (g : Nat → Nat) (A : md_S) (ed : Nat) : Nat → md_S × Nat
  | 0 => (A, 0)
  | k + 1 => mw1 (gbit g k) ed (mws g A ed k)
theorem mws_o (g : Nat → Nat) (A : md_S) (ed k : Nat) {j : Nat} (h2 : j ≠ 2) (h3 : j ≠ 3) : (mws g A ed k).1 j = A j := by
  induction k with
  | zero => rfl
  | succ k ih =>
    simp only [mws, mw1]
    split
    · split
      · simp only [mbit_o _ _ _ h2 h3, ih]
      · simp only [mbit_o _ _ _ h2 h3, ih]
    · simp only [mbit_o _ _ _ h2 h3, ih]
theorem mws_le (g : Nat → Nat) (A : md_S) (ed k : Nat) : (mws g A ed k).2 ≤ 4 ∧ 5 * (mws g A ed k).1 2 (40 * ed + A 1 ed - 1) + (mws g A ed k).2 ≤ 5 * A 2 (40 * ed + A 1 ed - 1) + 6 * k := by
  induction k with
  | zero => simp [mws]
  | succ k ih =>
    have h1 := mws_o g A ed k (j := 1) (by decide) (by decide)
    have h2 : ∀ v, mbit (mws g A ed k).1 ed v 2 (40 * ed + A 1 ed - 1) = (mws g A ed k).1 2 (40 * ed + A 1 ed - 1) + 1 := fun v => by
      have h := mbit_2 (mws g A ed k).1 ed v
      rw [h1] at h
      exact h
    have h3 : ∀ v w, mbit (mbit (mws g A ed k).1 ed v) ed w 2 (40 * ed + A 1 ed - 1) = (mws g A ed k).1 2 (40 * ed + A 1 ed - 1) + 1 + 1 := fun v w => by
      have h := mbit_2 (mbit (mws g A ed k).1 ed v) ed w
      rw [mbit_o _ _ _ (k := 1) (by decide) (by decide), h1, h2] at h
      exact h
    simp only [mws, mw1]
    split
    · split
      · simp only [h3]; omega
      · simp only [h2]; omega
    · simp only [h2]; omega
def ifl (A : md_S) (fm : Nat) : Nat → Nat
  | 0 => 0
  | k + 1 => 2 * ifl A fm k + A 3 (fm + k)
theorem ifl_lt (A : md_S) (fm k : Nat) (h : ∀ i, i < k → A 3 (fm + i) ≤ 1) : ifl A fm k < 2 ^ k := by
  induction k with
  | zero => exact (by decide : 0 < 1)
  | succ k ih =>
    have h1 := ih (fun i hi => h i (by omega))
    have h2 := h k (by omega)
    simp only [ifl, Nat.pow_succ]
    omega
