theorem bodN {N : Nat} {g : Nat → Nat} (hg : ∀ i, i < N → g i < 256) (s k : Nat) : ∀ i, i < N → bod g s k i < 256 := by
  induction k with
  | zero => exact hg
  | succ k ih =>
    intro i hi
    simp only [bod]
    by_cases h : i = 3 + k
    · rw [h, va_up_self]; omega
    · rw [va_up_ne _ _ h]; exact ih i hi
theorem upN {N : Nat} {g : Nat → Nat} (hg : ∀ i, i < N → g i < 256) {k v : Nat} (hv : v < 256) : ∀ i, i < N → va_up g k v i < 256 := by
  intro i hi
  by_cases h : i = k
  · rw [h, va_up_self]; exact hv
  · rw [va_up_ne _ _ h]; exact hg i hi
def mg1 (A : md_S) (ed nu ln : Nat) : Nat → Nat := va_up (va_up (va_up (A 24) 0 (A 7 ed + 128 * A 5 ed)) 1 (nu + 128 * A 4 ed)) 2 (min ln 63)
def mgu (A : md_S) (ed nu ln se : Nat) : Nat → Nat := va_up (va_up (bod (mg1 A ed nu ln) se ln) (3 + ln) ((65535 - cdu (bod (mg1 A ed nu ln) se ln) (3 + ln)) % 256)) (4 + ln) ((65535 - cdu (bod (mg1 A ed nu ln) se ln) (3 + ln)) / 256)
def mopen (A : md_S) (ed : Nat) : md_S := md_u (md_u A 2 (40 * ed + A 1 ed) 0) 1 ed (A 1 ed + 1)
def mfr0 (A : md_S) (ed nu ln se : Nat) : md_S := mopen (va_up A 24 (mgu A ed nu ln se)) ed
theorem mfr0_1 (A : md_S) (ed nu ln se : Nat) : mfr0 A ed nu ln se 1 ed = A 1 ed + 1 := by
  unfold mfr0 mopen
  rw [md_u_s, va_up_ne _ _ (by decide)]
theorem mfr0_2 (A : md_S) (ed nu ln se : Nat) : mfr0 A ed nu ln se 2 (40 * ed + A 1 ed) = 0 := by
  unfold mfr0 mopen
  rw [md_u_k (by decide), va_up_ne (k := 24) (j := 1) _ _ (by decide), md_u_s]
theorem mfr0_24 (A : md_S) (ed nu ln se : Nat) : mfr0 A ed nu ln se 24 = mgu A ed nu ln se := by
  unfold mfr0 mopen md_u
  rw [va_up_ne _ _ (by decide), va_up_ne _ _ (by decide), va_up_self]
/-- a frame of a unit: the reference's state behind it -/
def mfrm (A : md_S) (ed nu ln se : Nat) : md_S := mfl (mws (mgu A ed nu ln se) (mfl (mfr0 A ed nu ln se) ed 8) ed (8 * (5 + ln))).1 ed 8
