/-! ===== the class and the reference: the same bits, messages, frames, store ===== -/
/-! ===== frames: the class's bits and the reference's ===== -/
/-- A' is A but for frame F, which holds the q bits of f -/
def Fw (A A' : md_S) (F : Nat) (f : Nat → Int64) (q : Nat) : Prop :=
  (∀ j, j ≠ 2 → j ≠ 3 → A' j = A j) ∧ (∀ K, K ≠ F → A' 2 K = A 2 K) ∧ (∀ p, (p < 3000 * F ∨ 3000 * F + 3000 ≤ p) → A' 3 p = A 3 p) ∧ A' 2 F = q ∧ ∀ i, i < q → A' 3 (3000 * F + i) = fb f i
theorem Fw.bit {A A' : md_S} {F : Nat} {f : Nat → Int64} {q : Nat} (h : Fw A A' F f q) {ed v : Nat} (hF : 40 * ed + A' 1 ed - 1 = F) (hq : q < 3000) (hv : v ≤ 1) : Fw A (mbit A' ed v) F (fadd f q v) (q + 1) := by
  obtain ⟨h1, h2, h3, h4, h5⟩ := h
  unfold mbit
  rw [hF, h4]
  refine ⟨fun j a b => ?_, fun K a => ?_, fun p a => ?_, ?_, fun i a => ?_⟩
  · rw [md_u, va_up_ne _ _ a, md_u, va_up_ne _ _ b]; exact h1 j a b
  · rw [md_u, va_up_self, va_up_ne _ _ a, md_u, va_up_ne _ _ (by decide)]; exact h2 K a
  · rw [md_u, va_up_ne _ _ (by decide), md_u, va_up_self, va_up_ne _ _ (by omega)]; exact h3 p a
  · rw [md_u, va_up_self, va_up_self]
  · rw [md_u, va_up_ne _ _ (by decide), md_u, va_up_self, fb_fadd _ _ _ hv]
    by_cases e : i = q
    · rw [if_pos e, e, va_up_self]
    · rw [if_neg e, va_up_ne _ _ (by omega)]; exact h5 i (by omega)
theorem Fw.flag {A A' : md_S} {F : Nat} {f : Nat → Int64} {q : Nat} (h : Fw A A' F f q) {ed : Nat} (hF : 40 * ed + A 1 ed - 1 = F) : ∀ k, q + k ≤ 3000 → Fw A (mfl A' ed k) F (ffl f q k) (q + k) := by
  intro k
  induction k with
  | zero => intro _; exact h
  | succ k ih =>
    intro hk
    have h2 := ih (by omega)
    exact h2.bit (by rw [h2.1 1 (by decide) (by decide)]; exact hF) (by omega) (flg_le k)
theorem Fw.bits {A A' : md_S} {F : Nat} {f : Nat → Int64} {q : Nat} (h : Fw A A' F f q) {ed : Nat} (hF : 40 * ed + A 1 ed - 1 = F) (v : Int64) : ∀ k, q + k ≤ 3000 → Fw A (mbts A' ed v k) F (bts f q v k) (q + k) := by
  intro k
  induction k with
  | zero => intro _; exact h
  | succ k ih =>
    intro hk
    have h2 := ih (by omega)
    exact h2.bit (by rw [h2.1 1 (by decide) (by decide)]; exact hF) (by omega) (wbt_le v k)
theorem Fw.writ {A A' : md_S} {F : Nat} {f : Nat → Int64} {q : Nat} (h : Fw A A' F f q) {ed : Nat} (hF : 40 * ed + A 1 ed - 1 = F) (g : Nat → Nat) : ∀ k, 5 * q + 6 * k < 15000 → Fw A (mws g A' ed k).1 F (wts g f q k).1 (wts g f q k).2.1 ∧ (mws g A' ed k).2 = (wts g f q k).2.2 := by
  intro k
  induction k with
  | zero => intro _; exact ⟨h, rfl⟩
  | succ k ih =>
    intro hk
    obtain ⟨h2, h3⟩ := ih (by omega)
    have hl := wts_le g f q k
    have hF2 : ∀ A9 f9 q9, Fw A A9 F f9 q9 → 40 * ed + A9 1 ed - 1 = F := fun A9 f9 q9 h => by rw [h.1 1 (by decide) (by decide)]; exact hF
    have hb := gbit_le g k
    rw [mws, wts, mw1, wt1, h3]
    by_cases e1 : gbit g k = 1
    · rw [if_pos e1, if_pos e1]
      by_cases e2 : (wts g f q k).2.2 + 1 = 5
      · rw [if_pos e2, if_pos e2]
        have h4 := h2.bit (hF2 _ _ _ h2) (by omega) hb
        exact ⟨h4.bit (hF2 _ _ _ h4) (by omega) (by omega), rfl⟩
      · rw [if_neg e2, if_neg e2]
        exact ⟨h2.bit (hF2 _ _ _ h2) (by omega) hb, rfl⟩
    · rw [if_neg e1, if_neg e1]
      exact ⟨h2.bit (hF2 _ _ _ h2) (by omega) hb, rfl⟩
/-- only the bytes that are read count -/
theorem gbit_congr {g h : Nat → Nat} {n : Nat} (e : ∀ i, i < n → g i = h i) {k : Nat} (hk : k < 8 * n) : gbit g k = gbit h k := by
  unfold gbit
  rw [e (k / 8) (by omega)]
theorem wts_congr {g h : Nat → Nat} {n : Nat} (e : ∀ i, i < n → g i = h i) (f : Nat → Int64) (q : Nat) : ∀ k, k ≤ 8 * n → wts g f q k = wts h f q k := by
  intro k
  induction k with
  | zero => intro _; rfl
  | succ k ih => intro hk; rw [wts, wts, ih (by omega), gbit_congr e (by omega)]
theorem cdu_congr {g h : Nat → Nat} {n : Nat} (e : ∀ i, i < n → g i = h i) : ∀ k, k ≤ n → cdu g k = cdu h k := by
  intro k
  induction k with
  | zero => intro _; rfl
  | succ k ih => intro hk; rw [cdu, cdu, ih (by omega), e k (by omega)]
theorem bod_congr {g h : Nat → Nat} (e : ∀ i, i < 3 → g i = h i) (s : Nat) : ∀ k i, i < 3 + k → bod g s k i = bod h s k i := by
  intro k
  induction k with
  | zero => intro i hi; exact e i hi
  | succ k ih =>
    intro i hi
    rw [bod, bod]
    by_cases c : i = 3 + k
    · rw [c, va_up_self, va_up_self]
    · rw [va_up_ne _ _ c, va_up_ne _ _ c]; exact ih i (by omega)
theorem ubs_mgu (g : Nat → Nat) (A : md_S) {ed nu ln se b f : Nat} (hb : b = A 7 ed + 128 * A 5 ed) (hf : f = nu + 128 * A 4 ed) : ∀ i, i < 5 + ln → ubs g b f ln se i = mgu A ed nu ln se i := by
  intro i hi
  unfold ubs mgu mg1
  have e0 : ∀ i, i < 3 → va_up (va_up (va_up g 0 b) 1 f) 2 (min ln 63) i = va_up (va_up (va_up (A 24) 0 (A 7 ed + 128 * A 5 ed)) 1 (nu + 128 * A 4 ed)) 2 (min ln 63) i := by
    intro i hi
    rw [← hb, ← hf]
    rcases (show i = 0 ∨ i = 1 ∨ i = 2 by omega) with rfl | rfl | rfl <;> simp [va_up]
  have e1 : ∀ i, i < 3 + ln → bod (va_up (va_up (va_up g 0 b) 1 f) 2 (min ln 63)) se (5 + ln - 5) i = bod (va_up (va_up (va_up (A 24) 0 (A 7 ed + 128 * A 5 ed)) 1 (nu + 128 * A 4 ed)) 2 (min ln 63)) se ln i := by
    intro i hi
    rw [show 5 + ln - 5 = ln by omega]
    exact bod_congr e0 se ln i hi
  have e2 := cdu_congr e1 (3 + ln) (Nat.le_refl _)
  rw [show 5 + ln - 2 = 3 + ln by omega, show 5 + ln - 1 = 4 + ln by omega, e2]
  by_cases c1 : i = 4 + ln
  · rw [c1, va_up_self, va_up_self]
  · rw [va_up_ne _ _ c1, va_up_ne _ _ c1]
    by_cases c2 : i = 3 + ln
    · rw [c2, va_up_self, va_up_self]
    · rw [va_up_ne _ _ c2, va_up_ne _ _ c2]; exact e1 i (by omega)
theorem Fw.rf (A : md_S) {F : Nat} (f : Nat → Int64) (h : A 2 F = 0) : Fw A A F f 0 := ⟨fun _ _ _ => rfl, fun _ _ => rfl, fun _ _ => rfl, h, fun i hi => absurd hi (Nat.not_lt_zero _)⟩
theorem mfrm_Fw {A : md_S} {ed nu ln se : Nat} (hln : ln ≤ 272) {G : Nat → Nat} (hG : ∀ i, i < 5 + ln → G i = mgu A ed nu ln se i) (f : Nat → Int64) : Fw (mfr0 A ed nu ln se) (mfrm A ed nu ln se) (40 * ed + A 1 ed) (ffl (ufr G f (5 + ln)).1 (ufr G f (5 + ln)).2.1 8) ((ufr G f (5 + ln)).2.1 + 8) := by
  have h1 : mfr0 A ed nu ln se 1 ed = A 1 ed + 1 := by
    unfold mfr0 mopen; simp [md_u, va_up]
  have h2 : mfr0 A ed nu ln se 2 (40 * ed + A 1 ed) = 0 := by
    unfold mfr0 mopen; simp [md_u, va_up]
  have hF : 40 * ed + mfr0 A ed nu ln se 1 ed - 1 = 40 * ed + A 1 ed := by rw [h1]; omega
  have a1 := (Fw.rf (mfr0 A ed nu ln se) f h2).flag hF 8 (by omega)
  have a2 := (a1.writ hF (mgu A ed nu ln se) (8 * (5 + ln)) (by omega)).1
  have hl := wts_le (mgu A ed nu ln se) (ffl f 0 8) (0 + 8) (8 * (5 + ln))
  have a3 := a2.flag hF 8 (by omega)
  unfold ufr mfrm
  rw [wts_congr hG (ffl f 0 8) (0 + 8) (8 * (5 + ln)) (Nat.le_refl _)]
  exact a3
/-! ===== reading a frame ===== -/
/-- frame F of the reference holds the q bits of f -/
def Fr (A : md_S) (F : Nat) (f : Nat → Int64) (q : Nat) : Prop := A 2 F = q ∧ ∀ i, i < q → A 3 (3000 * F + i) = fb f i
theorem Fw.fr {A A' : md_S} {F : Nat} {f : Nat → Int64} {q : Nat} (h : Fw A A' F f q) : Fr A' F f q := ⟨h.2.2.2.1, h.2.2.2.2⟩
theorem ifl_isfl {A : md_S} {F : Nat} {f : Nat → Int64} {q : Nat} (h : Fr A F f q) {a : Nat} (ha : a + 8 ≤ q) : ifl A (3000 * F + a) 8 = 126 ↔ isfl f a 8 = true := by
  have e : ∀ k, k < 8 → A 3 (3000 * F + a + k) = fb f (a + k) := fun k hk => by rw [Nat.add_assoc]; exact h.2 (a + k) (by omega)
  have l : ∀ k, fb f (a + k) ≤ 1 := fun k => fb_le f _
  have l0 := l 0; have l1 := l 1; have l2 := l 2; have l3 := l 3; have l4 := l 4; have l5 := l 5; have l6 := l 6; have l7 := l 7
  have w : isfl f a 8 = true ↔ (fb f (a + 0) = 0 ∧ fb f (a + 1) = 1 ∧ fb f (a + 2) = 1 ∧ fb f (a + 3) = 1 ∧ fb f (a + 4) = 1 ∧ fb f (a + 5) = 1 ∧ fb f (a + 6) = 1 ∧ fb f (a + 7) = 0) := by
    simp only [isfl, Bool.true_and, Bool.and_eq_true, decide_eq_true_eq, show flg 0 = 0 by decide, show flg 1 = 1 by decide, show flg 2 = 1 by decide, show flg 3 = 1 by decide, show flg 4 = 1 by decide, show flg 5 = 1 by decide, show flg 6 = 1 by decide, show flg 7 = 0 by decide, and_assoc]
  rw [w]
  simp only [ifl, e 0 (by omega), e 1 (by omega), e 2 (by omega), e 3 (by omega), e 4 (by omega), e 5 (by omega), e 6 (by omega), e 7 (by omega)]
  generalize fb f (a + 0) = b0 at *
  generalize fb f (a + 1) = b1 at *
  generalize fb f (a + 2) = b2 at *
  generalize fb f (a + 3) = b3 at *
  generalize fb f (a + 4) = b4 at *
  generalize fb f (a + 5) = b5 at *
  generalize fb f (a + 6) = b6 at *
  generalize fb f (a + 7) = b7 at *
  clear e l w
  omega
theorem mf1_iff {A : md_S} {F : Nat} {f : Nat → Int64} {q : Nat} (h : Fr A F f q) : mf1 A F ↔ rdok f q = true := by
  unfold mf1 rdok
  rw [h.1]
  by_cases c : 16 ≤ q
  · have e1 := ifl_isfl h (a := 0) (by omega)
    have e2 := ifl_isfl h (a := q - 8) (by omega)
    rw [Nat.add_zero] at e1
    rw [show 3000 * F + (q - 8) = 3000 * F + q - 8 by omega] at e2
    simp [c, e1, e2]
  · simp [c]
/-- the class's reading and the reference's, k bits read and no six ones -/
theorem rd_sim {A : md_S} {F : Nat} {f : Nat → Int64} {q : Nat} (h : Fr A F f q) (g : Nat → Nat) : ∀ k, 8 + k ≤ q → (sixIn f k = true → (mT A F k).1 = 6) ∧ (sixIn f k = false → (mT A F k).1 = onesAt f k ∧ onesAt f k ≤ 5 ∧ (rbs f g k).2.1 = onesAt f k ∧ (mT A F k).2.1 = (rbs f g k).1 ∧ (mT A F k).2.2.1 = lvl (onesAt f k)) := by
  intro k
  induction k with
  | zero => intro _; exact ⟨fun h => by simp [sixIn] at h, fun _ => ⟨rfl, by simp [onesAt], rfl, rfl, rfl⟩⟩
  | succ k ih =>
    intro hk
    obtain ⟨i1, i2⟩ := ih (by omega)
    have hv : A 3 (3000 * F + (8 + k)) = fb f (8 + k) := h.2 (8 + k) (by omega)
    have hb := fb_le f (8 + k)
    by_cases c6 : sixIn f k = true
    · have := i1 c6
      refine ⟨fun _ => ?_, fun h9 => ?_⟩
      · rw [mT, fs1, if_pos this]; exact this
      · simp [sixIn, c6] at h9
    · have c6 : sixIn f k = false := by simpa using c6
      obtain ⟨j1, j2, j3, j4, j5⟩ := i2 c6
      have n6 : ¬ (mT A F k).1 = 6 := by omega
      rw [mT, fs1, if_neg n6, hv, j1]
      by_cases c1 : fb f (8 + k) = 1
      · have ho : onesAt f (k + 1) = onesAt f k + 1 := by rw [onesAt, if_pos c1]
        rw [if_pos c1, ho]
        by_cases c5 : onesAt f k + 1 = 6
        · rw [if_pos c5]
          refine ⟨fun _ => rfl, fun h9 => ?_⟩
          have : sixIn f (k + 1) = true := by simp [sixIn, ho, c5]
          rw [this] at h9; cases h9
        · rw [if_neg c5]
          have hs : sixIn f (k + 1) = false := by simp [sixIn, c6, ho]; omega
          refine ⟨fun h9 => (by rw [hs] at h9; cases h9), fun _ => ⟨rfl, by omega, ?_, ?_, ?_⟩⟩
          · rw [rbs, rb1, j3, if_neg (by omega)]; simp [c1]
          · rw [rbs, rb1, j3, if_neg (by omega)]
            simp only [fs2]
            rw [if_pos (by rw [j5]; unfold lvl; rw [if_neg (by omega)])]
            simp [j4]
          · simp only [fs2]; split <;> rfl
      · have ho : onesAt f (k + 1) = 0 := by rw [onesAt, if_neg c1]
        have hs : sixIn f (k + 1) = false := by simp [sixIn, c6, ho]
        rw [if_neg c1, ho]
        refine ⟨fun h9 => (by rw [hs] at h9; cases h9), fun _ => ⟨rfl, by omega, ?_, ?_, ?_⟩⟩
        · rw [rbs, rb1, j3]
          by_cases c5 : onesAt f k = 5
          · rw [if_pos c5]
          · rw [if_neg c5]; simp [c1]
        · rw [rbs, rb1, j3]
          simp only [fs2]
          by_cases c5 : onesAt f k = 5
          · rw [if_pos c5, if_neg (by rw [j5]; unfold lvl; rw [if_pos c5]; decide)]; exact j4
          · rw [if_neg c5, if_pos (by rw [j5]; unfold lvl; rw [if_neg c5])]; simp [j4]
        · simp only [fs2]; split <;> rfl
theorem byt_congr {p p' : Nat → Nat} {j : Nat} : ∀ z, (∀ i, i < z → p (8 * j + i) = p' (8 * j + i)) → byt p j z = byt p' j z := by
  intro z
  induction z with
  | zero => intro _; rfl
  | succ z ih => intro h; rw [byt, byt, ih (fun i hi => h i (by omega)), h z (by omega)]
theorem byt_lt1 {p : Nat → Nat} {j : Nat} : ∀ z, (∀ i, i < z → p (8 * j + i) ≤ 1) → byt p j z < 2 ^ z := by
  intro z
  induction z with
  | zero => intro _; exact (by decide : 0 < 1)
  | succ z ih =>
    intro h
    have h1 := ih (fun i hi => h i (by omega))
    have h2 := h z (by omega)
    have h3 : p (8 * j + z) * 2 ^ z ≤ 1 * 2 ^ z := Nat.mul_le_mul_right _ h2
    rw [byt, Nat.pow_succ]
    omega
theorem or_add {a v r : Nat} (h : a < 2 ^ r) : a ||| v * 2 ^ r = a + v * 2 ^ r := by
  rw [Nat.or_comm, Nat.mul_comm, ← Nat.two_pow_add_eq_or_of_lt h, Nat.add_comm]
/-- the bytes that the class has built of n bits p -/
def Bys (G p : Nat → Nat) (n : Nat) : Prop := (∀ j, 8 * j + 8 ≤ n → G j = byt p j 8) ∧ (n % 8 ≠ 0 → G (n / 8) = byt p (n / 8) (n % 8)) ∧ ∀ i, i < n → p i ≤ 1
theorem Bys.step {G p : Nat → Nat} {n v : Nat} (h : Bys G p n) (hv : v ≤ 1) : Bys (va_up G (n / 8) (wbv G n v)) (va_up p n v) (n + 1) := by
  obtain ⟨h1, h2, h3⟩ := h
  have hp : ∀ i, i < n + 1 → va_up p n v i ≤ 1 := by
    intro i hi
    by_cases c : i = n
    · rw [c, va_up_self]; exact hv
    · rw [va_up_ne _ _ c]; exact h3 i (by omega)
  have hlo : ∀ j z, 8 * j + z ≤ n → byt (va_up p n v) j z = byt p j z := fun j z hz => byt_congr z (fun i hi => va_up_ne _ _ (by omega))
  have hw : wbv G n v = byt (va_up p n v) (n / 8) (n % 8 + 1) := by
    have e1 : va_up p n v (8 * (n / 8) + n % 8) = v := by rw [show 8 * (n / 8) + n % 8 = n by omega, va_up_self]
    rw [byt, e1, hlo (n / 8) (n % 8) (by omega), wbv]
    by_cases c : n % 8 = 0
    · rw [if_pos c, c]; simp [byt]
    · rw [if_neg c, h2 c]
      exact or_add (byt_lt1 _ (fun i hi => h3 _ (by omega)))
  refine ⟨fun j hj => ?_, fun hr => ?_, hp⟩
  · by_cases c : j = n / 8
    · rw [c, va_up_self, hw, show n % 8 + 1 = 8 by omega]
    · rw [va_up_ne _ _ c, hlo j 8 (by omega)]; exact h1 j (by omega)
  · rw [show (n + 1) / 8 = n / 8 by omega, va_up_self, hw, show (n + 1) % 8 = n % 8 + 1 by omega]
theorem rd_bys {A : md_S} {F : Nat} {f : Nat → Int64} {q : Nat} (h : Fr A F f q) (g : Nat → Nat) : ∀ k, 8 + k ≤ q → sixIn f k = false → (rbs f g k).1 ≤ 2216 → Bys (rbs f g k).2.2 (mT A F k).2.2.2 (rbs f g k).1 := by
  intro k
  induction k with
  | zero => intro _ _ _; exact ⟨fun j hj => by simp [rbs] at hj, fun h => by simp [rbs] at h, fun i hi => by simp [rbs] at hi⟩
  | succ k ih =>
    intro hk h6 hs
    have c6 : sixIn f k = false := by
      cases c : sixIn f k with
      | false => rfl
      | true => simp [sixIn, c] at h6
    obtain ⟨j1, j2, j3, j4, j5⟩ := (rd_sim h g k (by omega)).2 c6
    have hv : A 3 (3000 * F + (8 + k)) = fb f (8 + k) := h.2 (8 + k) (by omega)
    have hb := fb_le f (8 + k)
    have n6 : ¬ (mT A F k).1 = 6 := by omega
    have hm : (rbs f g k).1 ≤ (rbs f g (k + 1)).1 := by
      rw [rbs, rb1]; split <;> simp
    have i1 := ih (by omega) c6 (by omega)
    have key : ∀ o, (fs2 (fb f (8 + k)) o (mT A F k).2).2.2 = if onesAt f k = 5 then (mT A F k).2.2.2 else va_up (mT A F k).2.2.2 (rbs f g k).1 (fb f (8 + k)) := by
      intro o
      unfold fs2
      rw [j5, j4]
      unfold lvl
      by_cases c5 : onesAt f k = 5
      · rw [if_pos c5, if_pos c5, if_neg (by decide)]
      · rw [if_neg c5, if_neg c5, if_pos rfl]
    have hP : (mT A F (k + 1)).2.2.2 = if onesAt f k = 5 then (mT A F k).2.2.2 else va_up (mT A F k).2.2.2 (rbs f g k).1 (fb f (8 + k)) := by
      rw [mT, fs1, if_neg n6, hv, j1]
      by_cases c1 : fb f (8 + k) = 1
      · rw [if_pos c1]
        by_cases c5 : onesAt f k + 1 = 6
        · exfalso
          have : sixIn f (k + 1) = true := by simp [sixIn, onesAt, c1, c5]
          rw [this] at h6; cases h6
        · rw [if_neg c5]; exact key _
      · rw [if_neg c1]; exact key _
    rw [hP]
    rw [rbs, rb1, j3] at hs ⊢
    by_cases c5 : onesAt f k = 5
    · rw [if_pos c5, if_pos c5]; exact i1
    · rw [if_neg c5] at hs
      rw [if_neg c5, if_neg c5]
      simp only [] at hs ⊢
      rw [if_pos (by omega)]
      exact i1.step hb
theorem mun_at (g p : Nat → Nat) : ∀ n j, j < n → mun g p n j = byt p j 8 := by
  intro n
  induction n with
  | zero => intro j hj; exact absurd hj (Nat.not_lt_zero _)
  | succ n ih =>
    intro j hj
    rw [mun]
    by_cases c : j = n
    · rw [c, va_up_self]
    · rw [va_up_ne _ _ c]; exact ih j (by omega)
/-- reading: the same fault; without one, the same bytes -/
theorem rd_eq {A : md_S} {F : Nat} {f : Nat → Int64} {q : Nat} (h : Fr A F f q) (g : Nat → Nat) (n u : Nat) : (rdT f q g n).1 = mft A F ∧ ((rdT f q g n).1 = 0 → (rdT f q g n).2.1 = mfu A F u ∧ 5 ≤ (rdT f q g n).2.1 ∧ (rdT f q g n).2.1 ≤ 277 ∧ ∀ i, i < (rdT f q g n).2.1 → (rdT f q g n).2.2 i = mfA A F 24 i) := by
  unfold rdT mft mfu mfA
  by_cases c1 : rdok f q = true
  · have m1 : mf1 A F := (mf1_iff h).mpr c1
    have hq : 16 ≤ q := by have := m1.1; rw [h.1] at this; exact this
    rw [if_neg (by rw [c1]; decide), if_pos m1, if_pos m1, if_pos m1]
    have hs := rd_sim h g (q - 16) (by omega)
    have hT : mfT A F = mT A F (q - 16) := by unfold mfT; rw [h.1]
    rw [← hT] at hs
    by_cases c6 : sixIn f (q - 16) = true
    · have m6 := hs.1 c6
      rw [if_pos c6, if_pos m6, if_pos m6, if_pos m6]
      exact ⟨rfl, fun h9 => by cases h9⟩
    · have c6' : sixIn f (q - 16) = false := by simpa using c6
      obtain ⟨j1, j2, j3, j4, j5⟩ := hs.2 c6'
      have n6 : ¬ (mfT A F).1 = 6 := by omega
      rw [if_neg c6, if_neg n6, if_neg n6, if_neg n6]
      have e3 : mf3 A F ↔ ¬ ((rdB f g q).1 % 8 ≠ 0 ∨ (rdB f g q).1 < 40 ∨ 2216 < (rdB f g q).1) := by
        unfold mf3 rdB
        rw [j4]
        omega
      by_cases c3 : (rdB f g q).1 % 8 ≠ 0 ∨ (rdB f g q).1 < 40 ∨ 2216 < (rdB f g q).1
      · have m3 : ¬ mf3 A F := fun h9 => (e3.mp h9) c3
        rw [if_pos c3, if_neg m3, if_neg m3, if_neg m3]
        exact ⟨rfl, fun h9 => by cases h9⟩
      · have m3 : mf3 A F := e3.mpr c3
        rw [if_neg c3, if_pos m3, if_pos m3, if_pos m3]
        have hb := rd_bys h g (q - 16) (by omega) c6' (by unfold rdB at c3; omega)
        have hn : (mfT A F).2.1 = (rdB f g q).1 := j4
        rw [hn]
        rw [← hT] at hb
        have hU : ∀ i, i < (rdB f g q).1 / 8 → (rdB f g q).2.2 i = mfU A F i := by
          intro i hi
          unfold mfU
          rw [hn, mun_at _ _ _ i hi]
          exact hb.1 i (by unfold rdB at hi; omega)
        have u1 := hU ((rdB f g q).1 / 8 - 2) (by omega)
        have u2 := hU ((rdB f g q).1 / 8 - 1) (by omega)
        have u3 := hU 2 (by omega)
        have u4 := cdu_congr hU ((rdB f g q).1 / 8 - 2) (by omega)
        unfold mrt
        rw [u1, u2, u3, u4]
        by_cases c4 : mfU A F ((rdB f g q).1 / 8 - 2) + 256 * mfU A F ((rdB f g q).1 / 8 - 1) = 65535 - cdu (mfU A F) ((rdB f g q).1 / 8 - 2)
        · rw [if_neg (by simpa using c4), if_pos c4.symm]
          by_cases c5 : mfU A F 2 = min ((rdB f g q).1 / 8 - 5) 63
          · rw [if_pos c5, if_pos c5]
            refine ⟨rfl, fun _ => ⟨rfl, by show 5 ≤ (rdB f g q).1 / 8; omega, by show (rdB f g q).1 / 8 ≤ 277; omega, fun i hi => ?_⟩⟩
            rw [va_up_self]
            exact hU i hi
          · rw [if_neg c5, if_neg c5]
            exact ⟨rfl, fun h9 => by cases h9⟩
        · rw [if_pos c4, if_neg (fun e => c4 e.symm)]
          exact ⟨rfl, fun h9 => by cases h9⟩
  · have m1 : ¬ mf1 A F := fun h9 => c1 ((mf1_iff h).mp h9)
    have c1 : rdok f q = false := by simpa using c1
    rw [if_pos c1, if_neg m1, if_neg m1, if_neg m1]
    exact ⟨rfl, fun h9 => by cases h9⟩
/-! ===== messages ===== -/
def Rms (A : md_S) (e sn mf mu ma mw : Nat) (lg sd : Nat → Nat) : Prop :=
  A 8 e = (sn + 128 - mu) % 128 ∧ A 9 e = mw ∧ A 12 e = mu ∧ A 16 e = mu - ma ∧ (∀ j, j < mw → A 10 (60 * e + j) = lg ((mf + (mu + j)) % 187) ∧ A 11 (60 * e + j) = sd ((mf + (mu + j)) % 187)) ∧
  ∀ j, j < mu → A 13 (127 * e + j) = (sn + 129 - mu + j) % 128 ∧ A 14 (127 * e + j) = lg ((mf + j) % 187) ∧ A 15 (127 * e + j) = sd ((mf + j) % 187)
theorem Rms.of {A A' : md_S} {e sn mf mu ma mw : Nat} {lg sd : Nat → Nat} (h : Rms A e sn mf mu ma mw lg sd) (h8 : A' 8 e = A 8 e) (h9 : A' 9 e = A 9 e) (h12 : A' 12 e = A 12 e) (h16 : A' 16 e = A 16 e) (h10 : ∀ j, j < 60 → A' 10 (60 * e + j) = A 10 (60 * e + j)) (h11 : ∀ j, j < 60 → A' 11 (60 * e + j) = A 11 (60 * e + j)) (h13 : ∀ j, j < 127 → A' 13 (127 * e + j) = A 13 (127 * e + j)) (h14 : ∀ j, j < 127 → A' 14 (127 * e + j) = A 14 (127 * e + j)) (h15 : ∀ j, j < 127 → A' 15 (127 * e + j) = A 15 (127 * e + j)) (hw : mw ≤ 60) (hu : mu ≤ 127) : Rms A' e sn mf mu ma mw lg sd := by
  obtain ⟨a, b, c, d, f, g⟩ := h
  exact ⟨h8.trans a, h9.trans b, h12.trans c, h16.trans d, fun j hj => ⟨(h10 j (by omega)).trans (f j hj).1, (h11 j (by omega)).trans (f j hj).2⟩, fun j hj => ⟨(h13 j (by omega)).trans (g j hj).1, (h14 j (by omega)).trans (g j hj).2.1, (h15 j (by omega)).trans (g j hj).2.2⟩⟩
theorem ring_ne {a b c : Nat} (h : b ≠ c) (hb : b < 187) (hc : c < 187) : (a + b) % 187 ≠ (a + c) % 187 := by omega
theorem Rms.put {A : md_S} {e sn mf mu ma mw : Nat} {lg sd : Nat → Nat} (h : Rms A e sn mf mu ma mw lg sd) (hu : mu ≤ 127) (hw : mw < 60) (ln se : Nat) :
    Rms (md_u (md_u (md_u A 10 (60 * e + A 9 e) ln) 11 (60 * e + A 9 e) se) 9 e (A 9 e + 1)) e sn mf mu ma (mw + 1) (va_up lg ((mf + (mu + mw)) % 187) ln) (va_up sd ((mf + (mu + mw)) % 187) se) := by
  obtain ⟨a, b, c, d, f, g⟩ := h
  rw [b]
  refine ⟨?_, ?_, ?_, ?_, fun j hj => ?_, fun j hj => ?_⟩
  · simp [md_u, va_up]; exact a
  · simp [md_u, va_up]
  · simp [md_u, va_up]; exact c
  · simp [md_u, va_up]; exact d
  · by_cases k : j = mw
    · rw [k]; simp [md_u, va_up]
    · have hne := ring_ne (a := mf) (b := mu + j) (c := mu + mw) (by omega) (by omega) (by omega)
      have k2 : 60 * e + j ≠ 60 * e + mw := by omega
      simp only [md_u, va_up, hne, k2, if_false, show (10 : Nat) ≠ 9 by decide, show (11 : Nat) ≠ 9 by decide, show (10 : Nat) ≠ 11 by decide, show (11 : Nat) ≠ 10 by decide, if_true]
      exact f j (by omega)
  · have hne := ring_ne (a := mf) (b := j) (c := mu + mw) (by omega) (by omega) (by omega)
    simp only [md_u, va_up, hne, if_false, show (13 : Nat) ≠ 9 by decide, show (13 : Nat) ≠ 10 by decide, show (13 : Nat) ≠ 11 by decide, show (14 : Nat) ≠ 9 by decide, show (14 : Nat) ≠ 10 by decide, show (14 : Nat) ≠ 11 by decide, show (15 : Nat) ≠ 9 by decide, show (15 : Nat) ≠ 10 by decide, show (15 : Nat) ≠ 11 by decide]
    exact g j hj
theorem Rms.again {A : md_S} {e sn mf mu ma mw : Nat} {lg sd : Nat → Nat} (h : Rms A e sn mf mu ma mw lg sd) (h0 : 0 < ma) (hm : ma ≤ mu) : Rms (md_u A 16 e (A 16 e + 1)) e sn mf mu (ma - 1) mw lg sd := by
  obtain ⟨a, b, c, d, f, g⟩ := h
  refine ⟨?_, ?_, ?_, ?_, fun j hj => ?_, fun j hj => ?_⟩
  · simp [md_u, va_up]; exact a
  · simp [md_u, va_up]; exact b
  · simp [md_u, va_up]; exact c
  · simp [md_u, va_up]; omega
  · simp [md_u, va_up]; exact f j hj
  · simp [md_u, va_up]; exact g j hj
theorem Rms.first {A : md_S} {e sn mf mu mw : Nat} {lg sd : Nat → Nat} (h : Rms A e sn mf mu 0 mw lg sd) (h6 : A 6 e = sn) (hs : sn < 128) (hu : mu < 127) (h0 : 0 < mw) : Rms (ms1 A e) e ((sn + 1) % 128) mf (mu + 1) 0 (mw - 1) lg sd := by
  obtain ⟨a, b, c, d, f, g⟩ := h
  unfold ms1
  rw [h6, b, c]
  refine ⟨?_, ?_, ?_, ?_, fun j hj => ?_, fun j hj => ?_⟩
  · simp [md_u, va_up]; omega
  · simp [md_u, va_up]
  · simp [md_u, va_up]
  · simp [md_u, va_up]
  · have e1 : shf (A 10) (60 * e) (mw - 1) (60 * e + j) = A 10 (60 * e + (j + 1)) := by unfold shf; rw [if_pos (by omega)]; rfl
    have e2 : shf (A 11) (60 * e) (mw - 1) (60 * e + j) = A 11 (60 * e + (j + 1)) := by unfold shf; rw [if_pos (by omega)]; rfl
    have e3 := f (j + 1) (by omega)
    simp [md_u, va_up]
    rw [e1, e2, e3.1, e3.2, show mu + 1 + j = mu + (j + 1) by omega]
    exact ⟨rfl, rfl⟩
  · by_cases k : j = mu
    · have e3 := f 0 (by omega)
      rw [k]
      simp [md_u, va_up]
      rw [Nat.add_zero] at e3
      rw [e3.1, e3.2]
      exact ⟨by omega, rfl, rfl⟩
    · have e3 := g j (by omega)
      simp [md_u, va_up, k]
      rw [e3.1, e3.2.1, e3.2.2]
      exact ⟨by omega, rfl, rfl⟩
/-- how many are told -/
theorem tl_eq {A : md_S} {e sn mf mu ma mw : Nat} {lg sd : Nat → Nat} (h : Rms A e sn mf mu ma mw lg sd) (hs : sn < 128) (hu : mu ≤ 127) {b : Nat} (hb : b < 128) : tl A e b mu = if (b + mu + 128 - sn) % 128 ≤ mu then (b + mu + 128 - sn) % 128 + 1 else 0 := by
  have key : ∀ k, k ≤ mu → tl A e b k = if (b + mu + 128 - sn) % 128 ≤ k then (b + mu + 128 - sn) % 128 + 1 else 0 := by
    intro k
    induction k with
    | zero =>
      intro _
      rw [tl, h.1]
      by_cases c : b = (sn + 128 - mu) % 128
      · rw [if_pos c, if_pos (by omega)]; omega
      · rw [if_neg c, if_neg (by omega)]
    | succ k ih =>
      intro hk
      rw [tl, (h.2.2.2.2.2 k (by omega)).1, ih (by omega)]
      by_cases c : (sn + 129 - mu + k) % 128 = b
      · rw [if_pos c, if_pos (by omega)]; omega
      · rw [if_neg c]
        by_cases c2 : (b + mu + 128 - sn) % 128 ≤ k
        · rw [if_pos c2, if_pos (by omega)]
        · rw [if_neg c2, if_neg (by omega)]
  exact key mu (Nat.le_refl _)
theorem mt2_o (A : md_S) (e t : Nat) {j : Nat} (h : j ∉ [1, 2, 3, 8, 12, 13, 14, 15, 16, 17, 18, 19, 24, 26]) : mt2 A e t j = A j := by
  simp at h
  have h2 := mtk_o A e (j := j) (by simp; omega)
  unfold mt2
  simp [md_u, va_up, h, h2]
theorem Rms.told {A : md_S} {e sn mf mu ma mw : Nat} {lg sd : Nat → Nat} (h : Rms A e sn mf mu ma mw lg sd) (hs : sn < 128) (hu : mu ≤ 127) (hma : ma ≤ mu) {t : Nat} (ht : t = (mtk A e 24 0 % 128 + mu + 128 - sn) % 128) (htm : t ≤ mu) :
    Rms (mto A e t) e sn ((mf + t) % 187) (mu - t) (if mtk A e 24 0 / 128 = A 4 e then min ma (mu - t) else mu - t) mw lg sd := by
  obtain ⟨a, b, c, d, f, g⟩ := h
  have o9 : mtk A e 9 = A 9 := mtk_o A e (by decide)
  have o10 : mtk A e 10 = A 10 := mtk_o A e (by decide)
  have o11 : mtk A e 11 = A 11 := mtk_o A e (by decide)
  have o8 : mtk A e 8 = A 8 := mtk_o A e (by decide)
  have o12 : mtk A e 12 = A 12 := mtk_o A e (by decide)
  have o16 : mtk A e 16 = A 16 := mtk_o A e (by decide)
  have hb : mtk A e 24 0 % 128 < 128 := Nat.mod_lt _ (by decide)
  have key : Rms (mt2 A e t) e sn ((mf + t) % 187) (mu - t) (min ma (mu - t)) mw lg sd := by
    unfold mt2
    rw [c]
    refine ⟨?_, ?_, ?_, ?_, fun j hj => ?_, fun j hj => ?_⟩
    · simp only [md_u, va_up_self]
      omega
    · simp [md_u, va_up, o9, b]
    · simp [md_u, va_up]
    · simp [md_u, va_up, d]; omega
    · simp [md_u, va_up, o10, o11]
      rw [(f j hj).1, (f j hj).2, show (mf + t + (mu - t + j)) % 187 = (mf + (mu + j)) % 187 by omega]
      exact ⟨rfl, rfl⟩
    · have e1 : ∀ B : Nat → Nat, sht B (127 * e) t (mu - t) (127 * e + j) = B (127 * e + (j + t)) := by
        intro B; unfold sht; rw [if_pos (by omega), Nat.add_assoc]
      have e3 := g (j + t) (by omega)
      simp [md_u, va_up]
      rw [e1, e1, e1, e3.1, e3.2.1, e3.2.2, show (mf + (j + t)) % 187 = (mf + t + j) % 187 by omega]
      exact ⟨by omega, rfl, rfl⟩
  unfold mto
  split
  · exact key
  · obtain ⟨k1, k2, k3, k4, k5, k6⟩ := key
    refine ⟨?_, ?_, ?_, ?_, fun j hj => ?_, fun j hj => ?_⟩
    · rw [md_u, va_up_ne _ _ (by decide), md_u, va_up_ne _ _ (by decide)]; exact k1
    · rw [md_u, va_up_ne _ _ (by decide), md_u, va_up_ne _ _ (by decide)]; exact k2
    · rw [md_u, va_up_ne _ _ (by decide), md_u, va_up_ne _ _ (by decide)]; exact k3
    · rw [md_u, va_up_self, va_up_self]; omega
    · rw [md_u, va_up_ne _ _ (by decide), va_up_ne _ _ (by decide), md_u, va_up_ne _ _ (by decide), va_up_ne _ _ (by decide)]; exact k5 j hj
    · rw [md_u, va_up_ne _ _ (by decide), va_up_ne _ _ (by decide), va_up_ne _ _ (by decide), md_u, va_up_ne _ _ (by decide), va_up_ne _ _ (by decide), va_up_ne _ _ (by decide)]; exact k6 j hj
/-! ===== lines ===== -/
def Rln (A : md_S) (e n : Nat) (q : Nat → Nat) (f : Nat → Nat → Int64) : Prop := A 1 e = n ∧ ∀ k, k < n → Fr A (40 * e + k) (f k) (q k) ∧ q k ≤ 3000
theorem Rln.keep {A A' : md_S} {e n : Nat} {q : Nat → Nat} {f : Nat → Nat → Int64} (h : Rln A e n q f) (h1 : A' 1 e = A 1 e) (h2 : ∀ k, k < n → A' 2 (40 * e + k) = A 2 (40 * e + k)) (h3 : ∀ k, k < n → ∀ i, i < 3000 → A' 3 (3000 * (40 * e + k) + i) = A 3 (3000 * (40 * e + k) + i)) : Rln A' e n q f := by
  refine ⟨h1.trans h.1, fun k hk => ?_⟩
  obtain ⟨⟨a, b⟩, c⟩ := h.2 k hk
  exact ⟨⟨(h2 k hk).trans a, fun i hi => (h3 k hk i (by omega)).trans (b i hi)⟩, c⟩
theorem Rln.same {A A' : md_S} {e n : Nat} {q : Nat → Nat} {f : Nat → Nat → Int64} (h : Rln A e n q f) (h1 : A' 1 e = A 1 e) (h2 : A' 2 = A 2) (h3 : A' 3 = A 3) : Rln A' e n q f := h.keep h1 (fun _ _ => by rw [h2]) (fun _ _ _ _ => by rw [h3])
/-- a frame more, written -/
theorem Rln.more {A B A' : md_S} {e n q' : Nat} {q : Nat → Nat} {f : Nat → Nat → Int64} {f' : Nat → Int64} (h : Rln A e n q f) (b1 : B 1 e = n + 1) (b2 : ∀ K, K ≠ 40 * e + n → B 2 K = A 2 K) (b3 : B 3 = A 3) (hw : Fw B A' (40 * e + n) f' q') (hq : q' ≤ 3000) : Rln A' e (n + 1) (va_up q n q') (va_up f n f') := by
  obtain ⟨w1, w2, w3, w4, w5⟩ := hw
  refine ⟨by rw [w1 1 (by decide) (by decide)]; exact b1, fun k hk => ?_⟩
  by_cases c : k = n
  · rw [c, va_up_self, va_up_self]; exact ⟨⟨w4, w5⟩, hq⟩
  · rw [va_up_ne _ _ c, va_up_ne _ _ c]
    obtain ⟨⟨a, b⟩, d⟩ := h.2 k (by omega)
    refine ⟨⟨by rw [w2 _ (by omega), b2 _ (by omega)]; exact a, fun i hi => ?_⟩, d⟩
    rw [w3 _ (by omega), b3]; exact b i hi
theorem Rln.moreO {A B A' : md_S} {e e' n n' q' : Nat} {q : Nat → Nat} {f : Nat → Nat → Int64} {f' : Nat → Int64} (h : Rln A e' n' q f) (he : e ≤ 1) (he' : e' ≤ 1) (hne : e' ≠ e) (hn : n < 40) (hn' : n' ≤ 40) (b1 : B 1 e' = A 1 e') (b2 : ∀ K, K ≠ 40 * e + n → B 2 K = A 2 K) (b3 : B 3 = A 3) (hw : Fw B A' (40 * e + n) f' q') : Rln A' e' n' q f := by
  obtain ⟨w1, w2, w3, w4, w5⟩ := hw
  refine h.keep (by rw [w1 1 (by decide) (by decide)]; exact b1) (fun k hk => by rw [w2 _ (by omega), b2 _ (by omega)]) (fun k hk i hi => by rw [w3 _ (by omega), b3])
/-- the last frame, written on -/
theorem Rln.last {A A' : md_S} {e n q' : Nat} {q : Nat → Nat} {f : Nat → Nat → Int64} {f' : Nat → Int64} (h : Rln A e n q f) (h0 : 0 < n) (hw : Fw A A' (40 * e + n - 1) f' q') (hq : q' ≤ 3000) : Rln A' e n (va_up q (n - 1) q') (va_up f (n - 1) f') := by
  obtain ⟨w1, w2, w3, w4, w5⟩ := hw
  refine ⟨by rw [w1 1 (by decide) (by decide)]; exact h.1, fun k hk => ?_⟩
  by_cases c : k = n - 1
  · rw [c, va_up_self, va_up_self, show 40 * e + (n - 1) = 40 * e + n - 1 by omega]; exact ⟨⟨w4, w5⟩, hq⟩
  · rw [va_up_ne _ _ c, va_up_ne _ _ c]
    obtain ⟨⟨a, b⟩, d⟩ := h.2 k (by omega)
    exact ⟨⟨by rw [w2 _ (by omega)]; exact a, fun i hi => by rw [w3 _ (by omega)]; exact b i hi⟩, d⟩
theorem Rln.lastO {A A' : md_S} {e e' n n' q' : Nat} {q : Nat → Nat} {f : Nat → Nat → Int64} {f' : Nat → Int64} (h : Rln A e' n' q f) (he : e ≤ 1) (he' : e' ≤ 1) (hne : e' ≠ e) (h0 : 0 < n) (hn : n ≤ 40) (hn' : n' ≤ 40) (hw : Fw A A' (40 * e + n - 1) f' q') : Rln A' e' n' q f := by
  obtain ⟨w1, w2, w3, w4, w5⟩ := hw
  exact h.keep (by rw [w1 1 (by decide) (by decide)]) (fun k hk => w2 _ (by omega)) (fun k hk i hi => w3 _ (by omega))
/-- a bit turns -/
theorem Rln.flip {A : md_S} {e n fx i : Nat} {q : Nat → Nat} {f : Nat → Nat → Int64} (h : Rln A e n q f) (hf : fx < n) (hi : i < q fx) : Rln (md_u A 3 (3000 * (40 * e + fx) + i) (1 - A 3 (3000 * (40 * e + fx) + i))) e n q (va_up f fx (ft (f fx) i)) := by
  refine ⟨h.1, fun k hk => ?_⟩
  obtain ⟨⟨a, b⟩, d⟩ := h.2 k hk
  refine ⟨⟨a, fun j hj => ?_⟩, d⟩
  by_cases c : k = fx
  · subst c
    rw [va_up_self, fb_ft, md_u, va_up_self]
    by_cases c2 : j = i
    · rw [c2, va_up_self, if_pos rfl, b i hi]
    · rw [va_up_ne _ _ (by omega), if_neg c2]; exact b j hj
  · rw [va_up_ne _ _ c, md_u, va_up_self, va_up_ne _ _ (by have := (h.2 fx hf).2; omega)]; exact b j hj
theorem Rln.flipO {A : md_S} {e e' n n' fx i v : Nat} {q q2 : Nat → Nat} {f f2 : Nat → Nat → Int64} (h : Rln A e' n' q f) (h2 : Rln A e n q2 f2) (he : e ≤ 1) (he' : e' ≤ 1) (hne : e' ≠ e) (hn : n ≤ 40) (hn' : n' ≤ 40) (hf : fx < n) (hi : i < q2 fx) : Rln (md_u A 3 (3000 * (40 * e + fx) + i) v) e' n' q f := by
  have := (h2.2 fx hf).2
  exact h.keep rfl (fun k hk => rfl) (fun k hk j hj => by rw [md_u, va_up_self, va_up_ne _ _ (by omega)])
/-! ===== a frame goes ===== -/
def ysh {α : Type} (y : Nat → α) (fx n : Nat) : Nat → α := fun k => if k = n - 1 then y fx else if fx ≤ k ∧ k < n - 1 then y (k + 1) else y k
theorem mgo_out {L g : Nat → Nat} {b : Nat} : ∀ m, (∀ i, i ≤ m → L (b + i) ≤ 3000) → ∀ p, (p < 3000 * b ∨ 3000 * (b + m) ≤ p) → mgo L g b m p = g p := by
  intro m
  induction m with
  | zero => intro _ p _; rfl
  | succ m ih =>
    intro hL p hp
    have h1 := hL (m + 1) (Nat.le_refl _)
    rw [← Nat.add_assoc] at h1
    rw [mgo, mcp, if_neg (by omega)]
    exact ih (fun i hi => hL i (by omega)) p (by omega)
theorem mgo_in {L g : Nat → Nat} {b : Nat} : ∀ m, (∀ i, i ≤ m → L (b + i) ≤ 3000) → ∀ i, i < m → ∀ p, p < L (b + i + 1) → mgo L g b m (3000 * (b + i) + p) = g (3000 * (b + i + 1) + p) := by
  intro m
  induction m with
  | zero => intro _ i hi; exact absurd hi (Nat.not_lt_zero _)
  | succ m ih =>
    intro hL i hi p hp
    have h1 := hL (i + 1) (by omega)
    rw [← Nat.add_assoc] at h1
    rw [mgo, mcp]
    by_cases c : i = m
    · subst c
      rw [if_pos (by omega), mgo_out i (fun k hk => hL k (by omega)) _ (by omega)]
      congr 1; omega
    · rw [if_neg (by omega)]
      exact ih (fun k hk => hL k (by omega)) i (by omega) p hp
theorem Rln.go {A A' : md_S} {e n fx : Nat} {q : Nat → Nat} {f : Nat → Nat → Int64} (h : Rln A e n q f) (hf : fx < n) (a1 : A' 1 e = n - 1) (a2 : A' 2 = shf (A 2) (40 * e + fx) (n - 1 - fx)) (a3 : A' 3 = mgo (A 2) (A 3) (40 * e + fx) (n - 1 - fx)) : Rln A' e (n - 1) (ysh q fx n) (ysh f fx n) := by
  have hL : ∀ i, i ≤ n - 1 - fx → A 2 (40 * e + fx + i) ≤ 3000 := by
    intro i hi
    obtain ⟨⟨a, b⟩, d⟩ := h.2 (fx + i) (by omega)
    rw [Nat.add_assoc, a]; exact d
  refine ⟨a1, fun k hk => ?_⟩
  by_cases c : fx ≤ k
  · have y1 : ∀ {α : Type} (y : Nat → α), ysh y fx n k = y (k + 1) := fun y => by unfold ysh; rw [if_neg (by omega), if_pos ⟨c, by omega⟩]
    rw [y1, y1]
    obtain ⟨⟨a, b⟩, d⟩ := h.2 (k + 1) (by omega)
    rw [← Nat.add_assoc] at a b
    refine ⟨⟨?_, fun i hi => ?_⟩, d⟩
    · rw [a2, shf, if_pos (by omega)]; exact a
    · have := mgo_in (L := A 2) (g := A 3) (b := 40 * e + fx) (n - 1 - fx) hL (k - fx) (by omega) i (by rw [show 40 * e + fx + (k - fx) + 1 = 40 * e + k + 1 by omega, a]; exact hi)
      rw [show 40 * e + fx + (k - fx) = 40 * e + k by omega] at this
      rw [a3, this]; exact b i hi
  · have y1 : ∀ {α : Type} (y : Nat → α), ysh y fx n k = y k := fun y => by unfold ysh; rw [if_neg (by omega), if_neg (by omega)]
    rw [y1, y1]
    obtain ⟨⟨a, b⟩, d⟩ := h.2 k (by omega)
    refine ⟨⟨?_, fun i hi => ?_⟩, d⟩
    · rw [a2, shf, if_neg (by omega)]; exact a
    · rw [a3, mgo_out _ hL _ (by omega)]; exact b i hi
theorem Rln.goO {A A' : md_S} {e e' n n' fx : Nat} {q q2 : Nat → Nat} {f f2 : Nat → Nat → Int64} (h : Rln A e' n' q f) (h2 : Rln A e n q2 f2) (he : e ≤ 1) (he' : e' ≤ 1) (hne : e' ≠ e) (hn : n ≤ 40) (hn' : n' ≤ 40) (hf : fx < n) (a1 : A' 1 e' = A 1 e') (a2 : A' 2 = shf (A 2) (40 * e + fx) (n - 1 - fx)) (a3 : A' 3 = mgo (A 2) (A 3) (40 * e + fx) (n - 1 - fx)) : Rln A' e' n' q f := by
  have hL : ∀ i, i ≤ n - 1 - fx → A 2 (40 * e + fx + i) ≤ 3000 := by
    intro i hi
    obtain ⟨⟨a, b⟩, d⟩ := h2.2 (fx + i) (by omega)
    rw [Nat.add_assoc, a]; exact d
  exact h.keep a1 (fun k hk => by rw [a2, shf, if_neg (by omega)]) (fun k hk i hi => by rw [a3, mgo_out _ hL _ (by omega)])
/-! ===== the store ===== -/
def Rsto (A : md_S) (e t : Nat) (bg ll : Nat → Nat) : Prop := A 21 e = t ∧ (∀ r, r < 50 → A 22 (50 * e + r) = ll r) ∧ ∀ r, r < 50 → ∀ i, i < ll r → A 23 (272 * (50 * e + r) + i) = bg (r * 272 + i)
theorem kee_at (bg g : Nat → Nat) (r : Nat) : ∀ k j, kee bg g r k j = if r * 272 ≤ j ∧ j < r * 272 + k then g (3 + (j - r * 272)) else bg j := by
  intro k
  induction k with
  | zero => intro j; rw [kee, if_neg (by omega)]
  | succ k ih =>
    intro j
    rw [kee]
    by_cases c : j = r * 272 + k
    · rw [c, va_up_self, if_pos (by omega)]; congr 1; omega
    · rw [va_up_ne _ _ c, ih]
      by_cases c2 : r * 272 ≤ j ∧ j < r * 272 + k
      · rw [if_pos c2, if_pos (by omega)]
      · rw [if_neg c2, if_neg (by omega)]
theorem mke_at (g h : Nat → Nat) (b : Nat) : ∀ k j, mke g h b k j = if b ≤ j ∧ j < b + k then h (3 + (j - b)) else g j := by
  intro k
  induction k with
  | zero => intro j; rw [mke, if_neg (by omega)]
  | succ k ih =>
    intro j
    rw [mke]
    by_cases c : j = b + k
    · rw [c, va_up_self, if_pos (by omega)]; congr 1; omega
    · rw [va_up_ne _ _ c, ih]
      by_cases c2 : b ≤ j ∧ j < b + k
      · rw [if_pos c2, if_pos (by omega)]
      · rw [if_neg c2, if_neg (by omega)]
theorem Rsto.same {A A' : md_S} {e t : Nat} {bg ll : Nat → Nat} (h : Rsto A e t bg ll) (h1 : A' 21 e = A 21 e) (h2 : A' 22 = A 22) (h3 : A' 23 = A 23) : Rsto A' e t bg ll := ⟨h1.trans h.1, fun r hr => by rw [h2]; exact h.2.1 r hr, fun r hr i hi => by rw [h3]; exact h.2.2 r hr i hi⟩
theorem Rsto.keep {A A' : md_S} {e t c : Nat} {bg ll g : Nat → Nat} (h : Rsto A e t bg ll) (hc : c ≤ 272) (h1 : A' 21 e = t + 1) (h2 : A' 22 = va_up (A 22) (50 * e + t % 50) c) {H : Nat → Nat} (h3 : A' 23 = mke (A 23) H (272 * (50 * e + t % 50)) c) (hg : ∀ i, i < 3 + c → g i = H i) (hl : ∀ r, r < 50 → ll r ≤ 272) : Rsto A' e (t + 1) (kee bg g (t % 50) c) (va_up ll (t % 50) c) := by
  have ht : t % 50 < 50 := Nat.mod_lt _ (by decide)
  refine ⟨h1, fun r hr => ?_, fun r hr i hi => ?_⟩
  · rw [h2]
    by_cases k : r = t % 50
    · rw [k, va_up_self, va_up_self]
    · rw [va_up_ne _ _ k, va_up_ne _ _ (by omega)]; exact h.2.1 r hr
  · rw [h3, mke_at, kee_at]
    by_cases k : r = t % 50
    · rw [k, va_up_self] at hi
      rw [k, if_pos (by omega), if_pos (by omega), hg _ (by omega)]
      congr 1; omega
    · rw [va_up_ne _ _ k] at hi
      have := hl r hr
      rw [if_neg (by omega), if_neg (by omega)]
      exact h.2.2 r hr i hi
theorem Rsto.keepO {A A' : md_S} {e e' t t' c : Nat} {bg ll : Nat → Nat} (h : Rsto A e' t' bg ll) (he : e ≤ 1) (he' : e' ≤ 1) (hne : e' ≠ e) (hc : c ≤ 272) (h1 : A' 21 e' = A 21 e') (h2 : A' 22 = va_up (A 22) (50 * e + t % 50) c) {H : Nat → Nat} (h3 : A' 23 = mke (A 23) H (272 * (50 * e + t % 50)) c) (hl : ∀ r, r < 50 → ll r ≤ 272) : Rsto A' e' t' bg ll := by
  have ht : t % 50 < 50 := Nat.mod_lt _ (by decide)
  refine ⟨h1.trans h.1, fun r hr => ?_, fun r hr i hi => ?_⟩
  · rw [h2, va_up_ne _ _ (by omega)]; exact h.2.1 r hr
  · have := hl r hr
    rw [h3, mke_at, if_neg (by omega)]; exact h.2.2 r hr i hi
