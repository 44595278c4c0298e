/-! ===== the table, where frames move; what the reference and the law's own array leave alone ===== -/
def ysi (fx n k : Nat) : Nat := if k = n - 1 then fx else if fx ≤ k ∧ k < n - 1 then k + 1 else k
theorem ysh_pi {α : Type} (y : Nat → α) (fx n k : Nat) : ysh y fx n k = y (ysi fx n k) := by
  unfold ysi ysh
  split
  · rfl
  · split <;> rfl
theorem ysi_lt {fx n k : Nat} (hf : fx < n) (hn : n ≤ 40) (hk : k < 40) : ysi fx n k < 40 := by
  unfold ysi; split
  · omega
  · split <;> omega
theorem ysi_inj {fx n k k' : Nat} (hf : fx < n) (hn : n ≤ 40) (h : ysi fx n k = ysi fx n k') : k = k' := by
  unfold ysi at h
  split at h <;> split at h <;> (try split at h) <;> (try split at h) <;> omega
def adl (ad : Nat → Nat → Nat → Nat) (e fx n : Nat) (r e' k : Nat) : Nat := if (r = 13 ∨ r = 14) ∧ e' = e then ad r e (ysi fx n k) else ad r e' k
theorem adl_lo (ad : Nat → Nat → Nat → Nat) (e fx n : Nat) {r : Nat} (h : r ≤ 12) (e' k : Nat) : adl ad e fx n r e' k = ad r e' k := by
  unfold adl; rw [if_neg (by omega)]
section
variable {G : mw_G} {M : mw_M} {ad : Nat → Nat → Nat → Nat} {en : Nat → Option Nat} {v v' : Nat → Nat → Nat} {b b' : Nat → Nat → Bool} {w w' : Nat → Nat → Nat → Nat} {q q' : Nat → Nat → Nat} {f f' : Nat → Nat → Nat → Int64} {fr : Nat → Nat → Option Nat} {c9 c9' : Nat} {g g' : Nat → Nat}
theorem cw.of (h : cw G M ad en v b w q f fr c9 g) {M2 : mw_M} (he : ∀ r e k, cw_ok r e k → M2 (ad r e k) = M (ad r e k)) : cw G M2 ad en v b w q f fr c9 g := ⟨fun r e k hk => (he r e k hk).trans (h.1 r e k hk), h.2⟩
theorem cw_own (h : cw G M ad en v b w q f fr c9 g) {mh : Nat} {a : Nat → Nat} {c u : Nat} {A : md_S} (hm : md_at G M mh a c u A) {r e k : Nat} (hk : cw_ok r e k) {z : Nat} (hz : md_own mh a z) : z ≠ ad r e k := by
  have hc := h.1 r e k hk
  rcases cw_rs hk with rfl | rfl | rfl | rfl | rfl | rfl | rfl | rfl | rfl | rfl | rfl | rfl | rfl | rfl | rfl
  · exact md_far_ne hm hc rfl hz
  · intro hq
    subst hq
    rcases hz with hz | ⟨j, hj, hz⟩
    · rw [hz, hm.1] at hc
      simp [md_obj, cw_T] at hc
    · rw [hz, hm.2.1 j hj] at hc
      simp [md_arr, cw_T] at hc
  all_goals exact md_far_ne hm hc rfl hz
theorem cw_out (h : cw G M ad en v b w q f fr c9 g) {o : Nat} {ov : Nat → Int64} (eo : M o = some (.inl (G.2 2, 1, .inr (.inl (ov))))) {r e k : Nat} (hk : cw_ok r e k) : o ≠ ad r e k := by
  refine mw_ne eo (h.1 r e k hk) ?_
  rcases cw_rs hk with rfl | rfl | rfl | rfl | rfl | rfl | rfl | rfl | rfl | rfl | rfl | rfl | rfl | rfl | rfl <;> simp [cw_T]
/-- a frame goes: the others come up, its own row behind them -/
theorem cw.lose (h : cw G M ad en v b w q f fr c9 g) {e fx n : Nat} (he : e ≤ 1) (hf : fx < n) (hn : n ≤ 40) : cw G (va_up M (ad 6 e 0) (some (.inl (G.2 5, 40, .inr (.inr (.inr (.inr (va_up (lsh (fr e) fx (n - 1)) (n - 1) (some (ad 13 e fx)))))))))) (adl ad e fx n) en v b w (va_up q e (ysh (q e) fx n)) (va_up f e (ysh (f e) fx n)) (va_up fr e (va_up (lsh (fr e) fx (n - 1)) (n - 1) (some (ad 13 e fx)))) c9 g := by
  obtain ⟨h1, h2, h3, h4⟩ := h
  refine ⟨fun r1 e1 k1 hk1 => ?_, fun r e1 k r' e' k' hk hk' heq => ?_, fun e1 he1 => ?_, fun e1 k he1 hk => ?_⟩
  · rcases cw_rs hk1 with rfl | rfl | rfl | rfl | rfl | rfl | rfl | rfl | rfl | rfl | rfl | rfl | rfl | rfl | rfl
    · rw [adl_lo _ _ _ _ (by decide), mw_u1 (fun h9 => by have := (h2 _ _ _ _ _ _ hk1 (ok1 (by decide) (by decide) he) h9).1; omega) (h1 _ _ _ hk1)]
      simp [cw_T, adl_lo]
    · rw [adl_lo _ _ _ _ (by decide), mw_u1 (fun h9 => by have := (h2 _ _ _ _ _ _ hk1 (ok1 (by decide) (by decide) he) h9).1; omega) (h1 _ _ _ hk1)]
      simp [cw_T]
    · rw [adl_lo _ _ _ _ (by decide), mw_u1 (fun h9 => by have := (h2 _ _ _ _ _ _ hk1 (ok1 (by decide) (by decide) he) h9).1; omega) (h1 _ _ _ hk1)]
      simp [cw_T, adl_lo]
    · rw [adl_lo _ _ _ _ (by decide), mw_u1 (fun h9 => by have := (h2 _ _ _ _ _ _ hk1 (ok1 (by decide) (by decide) he) h9).1; omega) (h1 _ _ _ hk1)]
      simp [cw_T]
    · rw [adl_lo _ _ _ _ (by decide), mw_u1 (fun h9 => by have := (h2 _ _ _ _ _ _ hk1 (ok1 (by decide) (by decide) he) h9).1; omega) (h1 _ _ _ hk1)]
      simp [cw_T, adl_lo]
    · rw [adl_lo _ _ _ _ (by decide), mw_u1 (fun h9 => by have := (h2 _ _ _ _ _ _ hk1 (ok1 (by decide) (by decide) he) h9).1; omega) (h1 _ _ _ hk1)]
      simp [cw_T, adl_lo]
    · rw [adl_lo _ _ _ _ (by decide)]
      have hk0 : k1 = 0 := by unfold cw_ok at hk1; omega
      subst hk0
      by_cases c : e1 = e
      · subst c
        rw [mw_u0]; simp [cw_T, va_up_self]
      · rw [mw_u1 (fun h9 => c (h2 _ _ _ _ _ _ hk1 (ok1 (by decide) (by decide) he) h9).2.1) (h1 _ _ _ hk1)]
        simp [cw_T, va_up, c]
    · rw [adl_lo _ _ _ _ (by decide), mw_u1 (fun h9 => by have := (h2 _ _ _ _ _ _ hk1 (ok1 (by decide) (by decide) he) h9).1; omega) (h1 _ _ _ hk1)]
      simp [cw_T, adl_lo]
    · rw [adl_lo _ _ _ _ (by decide), mw_u1 (fun h9 => by have := (h2 _ _ _ _ _ _ hk1 (ok1 (by decide) (by decide) he) h9).1; omega) (h1 _ _ _ hk1)]
      simp [cw_T]
    · rw [adl_lo _ _ _ _ (by decide), mw_u1 (fun h9 => by have := (h2 _ _ _ _ _ _ hk1 (ok1 (by decide) (by decide) he) h9).1; omega) (h1 _ _ _ hk1)]
      simp [cw_T]
    · rw [adl_lo _ _ _ _ (by decide), mw_u1 (fun h9 => by have := (h2 _ _ _ _ _ _ hk1 (ok1 (by decide) (by decide) he) h9).1; omega) (h1 _ _ _ hk1)]
      simp [cw_T, adl_lo]
    · rw [adl_lo _ _ _ _ (by decide), mw_u1 (fun h9 => by have := (h2 _ _ _ _ _ _ hk1 (ok1 (by decide) (by decide) he) h9).1; omega) (h1 _ _ _ hk1)]
      simp [cw_T]
    · rw [adl_lo _ _ _ _ (by decide), mw_u1 (fun h9 => by have := (h2 _ _ _ _ _ _ hk1 (ok1 (by decide) (by decide) he) h9).1; omega) (h1 _ _ _ hk1)]
      simp [cw_T]
    · have hk40 : k1 < 40 ∧ e1 ≤ 1 := by unfold cw_ok at hk1; omega
      by_cases c : e1 = e
      · subst c
        have hp := ysi_lt hf hn hk40.1
        have e13 : adl ad e1 fx n 13 e1 k1 = ad 13 e1 (ysi fx n k1) := by unfold adl; rw [if_pos ⟨Or.inl rfl, rfl⟩]
        have e14 : adl ad e1 fx n 14 e1 k1 = ad 14 e1 (ysi fx n k1) := by unfold adl; rw [if_pos ⟨Or.inr rfl, rfl⟩]
        rw [e13, mw_u1 (fun h9 => by have := (h2 _ _ _ _ _ _ (ok2 (by decide) (by decide) he hp) (ok1 (by decide) (by decide) he) h9).1; omega) (h1 _ _ _ (ok2 (by decide) (by decide) he hp))]
        simp only [cw_T, va_up_self, e14, ysh_pi]
      · have e13 : adl ad e fx n 13 e1 k1 = ad 13 e1 k1 := by unfold adl; rw [if_neg (fun h9 => c h9.2)]
        have e14 : adl ad e fx n 14 e1 k1 = ad 14 e1 k1 := by unfold adl; rw [if_neg (fun h9 => c h9.2)]
        rw [e13, mw_u1 (fun h9 => by have := (h2 _ _ _ _ _ _ hk1 (ok1 (by decide) (by decide) he) h9).1; omega) (h1 _ _ _ hk1)]
        simp only [cw_T, va_up_ne _ _ c, e14]
    · have hk40 : k1 < 40 ∧ e1 ≤ 1 := by unfold cw_ok at hk1; omega
      by_cases c : e1 = e
      · subst c
        have hp := ysi_lt hf hn hk40.1
        have e14 : adl ad e1 fx n 14 e1 k1 = ad 14 e1 (ysi fx n k1) := by unfold adl; rw [if_pos ⟨Or.inr rfl, rfl⟩]
        rw [e14, mw_u1 (fun h9 => by have := (h2 _ _ _ _ _ _ (ok2 (by decide) (by decide) he hp) (ok1 (by decide) (by decide) he) h9).1; omega) (h1 _ _ _ (ok2 (by decide) (by decide) he hp))]
        simp only [cw_T, va_up_self, ysh_pi]
      · have e14 : adl ad e fx n 14 e1 k1 = ad 14 e1 k1 := by unfold adl; rw [if_neg (fun h9 => c h9.2)]
        rw [e14, mw_u1 (fun h9 => by have := (h2 _ _ _ _ _ _ hk1 (ok1 (by decide) (by decide) he) h9).1; omega) (h1 _ _ _ hk1)]
        simp only [cw_T, va_up_ne _ _ c]
  · unfold adl at heq
    by_cases c : (r = 13 ∨ r = 14) ∧ e1 = e
    · rw [if_pos c] at heq
      have hk2 : cw_ok r e (ysi fx n k) := ok2 (by omega) (by omega) he (ysi_lt hf hn (by unfold cw_ok at hk; omega))
      by_cases c' : (r' = 13 ∨ r' = 14) ∧ e' = e
      · rw [if_pos c'] at heq
        have hk3 : cw_ok r' e (ysi fx n k') := ok2 (by omega) (by omega) he (ysi_lt hf hn (by unfold cw_ok at hk'; omega))
        have := h2 _ _ _ _ _ _ hk2 hk3 heq
        exact ⟨this.1, by omega, ysi_inj hf hn this.2.2⟩
      · rw [if_neg c'] at heq
        have := h2 _ _ _ _ _ _ hk2 hk' heq
        exact absurd ⟨by omega, by omega⟩ c'
    · rw [if_neg c] at heq
      by_cases c' : (r' = 13 ∨ r' = 14) ∧ e' = e
      · rw [if_pos c'] at heq
        have hk3 : cw_ok r' e (ysi fx n k') := ok2 (by omega) (by omega) he (ysi_lt hf hn (by unfold cw_ok at hk'; omega))
        have := h2 _ _ _ _ _ _ hk hk3 heq
        exact absurd ⟨by omega, by omega⟩ c
      · rw [if_neg c'] at heq
        exact h2 _ _ _ _ _ _ hk hk' heq
  · rw [adl_lo _ _ _ _ (by decide)]; exact h3 e1 he1
  · by_cases c : e1 = e
    · subst c
      rw [va_up_self]
      have e13 : adl ad e1 fx n 13 e1 k = ad 13 e1 (ysi fx n k) := by unfold adl; rw [if_pos ⟨Or.inl rfl, rfl⟩]
      rw [e13]
      unfold ysi
      by_cases c2 : k = n - 1
      · rw [c2, va_up_self, if_pos rfl]
      · rw [va_up_ne _ _ c2, if_neg c2, lsh]
        by_cases c3 : fx ≤ k ∧ k < n - 1
        · rw [if_pos c3, if_pos c3]; exact h4 e1 (k + 1) he (by omega)
        · rw [if_neg c3, if_neg c3]; exact h4 e1 k he hk
    · rw [va_up_ne _ _ c]
      have e13 : adl ad e fx n 13 e1 k = ad 13 e1 k := by unfold adl; rw [if_neg (fun h9 => c h9.2)]
      rw [e13]; exact h4 e1 k he1 hk
end
/-- what holds at the law's head, N calls made -/
def inv (G : mw_G) (M : mw_M) (x mh o : Nat) (a : Nat → Nat) (N c u : Nat) (A : md_S) (ad : Nat → Nat → Nat → Nat) (en : Nat → Option Nat) (v : Nat → Nat → Nat) (b : Nat → Nat → Bool) (w : Nat → Nat → Nat → Nat) (q : Nat → Nat → Nat) (f : Nat → Nat → Nat → Int64) (fr : Nat → Nat → Option Nat) (c9 : Nat) (g : Nat → Nat) (ov : Nat → Int64) : Prop :=
  cw G M ad en v b w q f fr c9 g ∧ ad 0 0 0 = x ∧ md_at G M mh a c u A ∧ M o = some (.inl (G.2 2, 1, .inr (.inl (ov)))) ∧ (∀ i, i < 277 → g i < 256) ∧ u ≤ 277 ∧ Rmd A ∧ ∀ e, e ≤ 1 → Rex A e N (v e) (b e) (w e) (q e) (f e)
def Inv (G : mw_G) (M : mw_M) (x mh o : Nat) (a : Nat → Nat) (N : Nat) : Prop := ∃ c u A ad en v b w q f fr c9 g ov, inv G M x mh o a N c u A ad en v b w q f fr c9 g ov
