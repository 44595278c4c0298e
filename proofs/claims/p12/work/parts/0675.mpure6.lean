/-! ===== take: the reference's side ===== -/
theorem md_uu {X : md_S} {k i v w : Nat} : md_u (md_u X k i v) k i w = md_u X k i w := by
  unfold md_u
  rw [va_up_self, bx_uu, bx_uu]
theorem md_ui {X : md_S} {k i v : Nat} (h : X k i = v) : X = md_u X k i v := by
  unfold md_u
  refine va_upi ?_
  funext j
  by_cases e : j = i
  · rw [e, va_up_self, h]
  · rw [va_up_ne _ _ e]
theorem md_ua {X : md_S} {k i v j : Nat} (h : j ≠ k) : md_u X k i v j = X j := by
  unfold md_u
  rw [va_up_ne _ _ h]
theorem mfA_24 {A : md_S} {fr : Nat} (hu : ∀ i, i < 280 → A 24 i < 256) (hb : ∀ i, i < A 2 fr → A 3 (3000 * fr + i) ≤ 1) : ∀ i, i < 280 → mfA A fr 24 i < 256 := by
  unfold mfA
  split
  · split
    · rw [va_up_ne _ _ (by decide)]; exact hu
    · split
      · rename_i h1 h6 h3
        rw [va_up_self]
        obtain ⟨h16, _, _⟩ := h1
        exact mun_lt hu (fun i hi => mT_b hb (A 2 fr - 16) (by omega) i (by show i < (mfT A fr).2.1; omega)) _ (Nat.le_refl _)
      · rw [va_up_ne _ _ (by decide)]; exact hu
  · exact hu
theorem mfu_le {A : md_S} {fr u : Nat} (h : u ≤ 277) : mfu A fr u ≤ 277 := by
  unfold mfu
  split
  · split
    · exact h
    · split
      · rename_i h3; obtain ⟨_, _, h2⟩ := h3; omega
      · exact h
  · exact h
/-- the state behind fault and goes -/
def mtk (A : md_S) (ed : Nat) : md_S := md_u (va_up (va_up (mfA A (40 * (1 - ed))) 2 (shf (A 2) (40 * (1 - ed)) (A 1 (1 - ed) - 1))) 3 (mgo (A 2) (A 3) (40 * (1 - ed)) (A 1 (1 - ed) - 1))) 1 (1 - ed) (A 1 (1 - ed) - 1)
theorem mtk_o (A : md_S) (ed : Nat) {j : Nat} (h : j ∉ [1, 2, 3, 24, 26]) : mtk A ed j = A j := by
  simp only [List.mem_cons, List.not_mem_nil, or_false, not_or] at h
  obtain ⟨h1, h2, h3, h4, h5⟩ := h
  unfold mtk
  rw [md_ua h1, va_up_ne _ _ h3, va_up_ne _ _ h2, mfA_o _ _ h4 h5]
theorem mtk_24 (A : md_S) (ed : Nat) : mtk A ed 24 = mfA A (40 * (1 - ed)) 24 := by
  unfold mtk
  rw [md_ua (by decide), va_up_ne _ _ (by decide), va_up_ne _ _ (by decide)]
/-- the number told, one more than it (0: none) -/
def tl (A : md_S) (ed b : Nat) : Nat → Nat
  | 0 => if b = A 8 ed then 1 else 0
  | k + 1 => if A 13 (127 * ed + k) = b then k + 2 else tl A ed b k
theorem tl_le (A : md_S) (ed b k : Nat) : tl A ed b k ≤ k + 1 := by
  induction k with
  | zero => simp only [tl]; split <;> omega
  | succ k ih => simp only [tl]; split <;> omega
def tlv (x : Nat) : Int32 := nI x - nI 1
theorem tlv_n {x : Nat} (h : 1 ≤ x) : tlv x = nI (x - 1) := pk_sub h
theorem tlv_m {x : Nat} (hx : x < 1000) : tlv x = -1 ↔ x = 0 := by
  constructor
  · intro h
    by_cases h0 : x = 0
    · exact h0
    · rw [tlv_n (by omega)] at h
      have h2 := congrArg Int32.toInt h
      rw [nI_toInt (by omega)] at h2
      have h3 : (-1 : Int32).toInt = -1 := by decide
      rw [h3] at h2
      omega
  · intro h
    rw [h]
    decide
theorem ab_shl : ∀ x, x < 8 → nI x <<< (nI 1 &&& 31) = nI (x * 2) := by decide +kernel
theorem ab_or1 : ∀ x, x < 8 → nI (x * 2 % 8) ||| nI 1 = nI (x * 2 % 8 + 1) := by decide +kernel
theorem ab_or0 : ∀ x, x < 8 → nI (x * 2 % 8) ||| nI 0 = nI (x * 2 % 8) := by decide +kernel
/-- k places from b on, t places down -/
def sht (g : Nat → Nat) (b t k : Nat) : Nat → Nat := fun j => if b ≤ j ∧ j < b + k then g (j + t) else g j
theorem sht_0 (g : Nat → Nat) (b t : Nat) : sht g b t 0 = g := by
  funext j
  unfold sht
  rw [if_neg (by omega)]
theorem sht_s (g : Nat → Nat) (b t k : Nat) : va_up (sht g b t k) (b + k) (sht g b t k (b + k + t)) = sht g b t (k + 1) := by
  funext j
  by_cases h : j = b + k
  · rw [h, va_up_self]; unfold sht; rw [if_neg (by omega), if_pos (by omega)]
  · rw [va_up_ne _ _ h]
    unfold sht
    by_cases h2 : b ≤ j ∧ j < b + k
    · rw [if_pos h2, if_pos (by omega)]
    · rw [if_neg h2, if_neg (by omega)]
theorem m3_0 {X : md_S} {f g h : Nat → Nat} {b t : Nat} (h1 : X 13 = f) (h2 : X 14 = g) (h3 : X 15 = h) : X = va_up (va_up (va_up X 13 (sht f b t 0)) 14 (sht g b t 0)) 15 (sht h b t 0) := by
  rw [sht_0, sht_0, sht_0, ← va_upi h1, ← va_upi h2, ← va_upi h3]
theorem m3_s {X : md_S} {f g h : Nat → Nat} {b t k : Nat} : md_u (md_u (md_u (va_up (va_up (va_up X 13 (sht f b t k)) 14 (sht g b t k)) 15 (sht h b t k)) 13 (b + k) (sht f b t k (b + k + t))) 14 (b + k) (sht g b t k (b + k + t))) 15 (b + k) (sht h b t k (b + k + t)) = va_up (va_up (va_up X 13 (sht f b t (k + 1))) 14 (sht g b t (k + 1))) 15 (sht h b t (k + 1)) := by
  have e1 : ∀ (Y : md_S) (p q r p' : Nat → Nat), va_up (va_up (va_up (va_up Y 13 p) 14 q) 15 r) 13 p' = va_up (va_up (va_up Y 13 p') 14 q) 15 r := by
    intro Y p q r p'
    funext j
    by_cases j1 : j = 13
    · subst j1; rfl
    · by_cases j2 : j = 14
      · subst j2; rfl
      · by_cases j3 : j = 15
        · subst j3; rfl
        · simp only [va_up_ne _ _ j1, va_up_ne _ _ j2, va_up_ne _ _ j3]
  have e2 : ∀ (Y : md_S) (p q r q' : Nat → Nat), va_up (va_up (va_up (va_up Y 13 p) 14 q) 15 r) 14 q' = va_up (va_up (va_up Y 13 p) 14 q') 15 r := fun Y p q r q' => va_upc (by decide)
  rw [← sht_s f, ← sht_s g, ← sht_s h]
  unfold md_u
  rw [e1, e2, bx_uu]
  rfl
def fwr (A : md_S) (ed u : Nat) : Nat := if A 24 1 / 128 ≠ A 5 ed ∨ A 24 1 % 128 = A 7 ed then 0 else if 5 < u ∧ A 24 1 % 128 = (A 7 ed + 1) % 128 then 1 else 2
def fwA (A : md_S) (ed u : Nat) : md_S := if A 24 1 / 128 ≠ A 5 ed ∨ A 24 1 % 128 = A 7 ed then A else if 5 < u ∧ A 24 1 % 128 = (A 7 ed + 1) % 128 then md_u (va_up (md_u (md_u A 7 ed (A 24 1 % 128)) 22 (50 * ed + A 21 ed % 50) (u - 5)) 23 (mke (A 23) (A 24) (272 * (50 * ed + A 21 ed % 50)) (u - 5))) 21 ed (A 21 ed + 1) else md_u A 5 ed (1 - A 5 ed)
/-- the state ahead of forwards, a unit taken; t the messages told -/
def mt2 (A : md_S) (ed t : Nat) : md_S := md_u (md_u (md_u (va_up (va_up (va_up (md_u (md_u (md_u (mtk A ed) 18 ed (A 18 ed + 1)) 17 ed (lk (A 17 ed) (A 18 ed))) 19 ed (A 19 ed * 2 % 8)) 13 (sht (A 13) (127 * ed) t (A 12 ed - t))) 14 (sht (A 14) (127 * ed) t (A 12 ed - t))) 15 (sht (A 15) (127 * ed) t (A 12 ed - t))) 12 ed (A 12 ed - t)) 16 ed (A 16 ed - t)) 8 ed (mtk A ed 24 0 % 128)
def mto (A : md_S) (ed t : Nat) : md_S := if mtk A ed 24 0 / 128 = A 4 ed then mt2 A ed t else md_u (md_u (mt2 A ed t) 4 ed (1 - A 4 ed)) 16 ed 0
theorem mt2_24 (A : md_S) (ed t : Nat) : mt2 A ed t 24 = mtk A ed 24 := rfl
theorem mt2_7 (A : md_S) (ed t : Nat) : mt2 A ed t 7 = mtk A ed 7 := rfl
theorem mt2_5 (A : md_S) (ed t : Nat) : mt2 A ed t 5 = mtk A ed 5 := rfl
theorem mt2_21 (A : md_S) (ed t : Nat) : mt2 A ed t 21 = mtk A ed 21 := rfl
theorem mto_o (A : md_S) (ed t : Nat) {j : Nat} (h : j ≠ 4) (h2 : j ≠ 16) : mto A ed t j = mt2 A ed t j := by
  unfold mto
  split
  · rfl
  · rw [md_ua h2, md_ua h]
