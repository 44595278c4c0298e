/-! ===== the object as a table of cells: r what, e which end, k which frame ===== -/
def cw_ok (r e k : Nat) : Prop := (r ≤ 3 ∧ e = 0 ∧ k = 0) ∨ (4 ≤ r ∧ r ≤ 12 ∧ e ≤ 1 ∧ k = 0) ∨ (13 ≤ r ∧ r ≤ 14 ∧ e ≤ 1 ∧ k < 40)
def cw_T (G : mw_G) (ad : Nat → Nat → Nat → Nat) (en : Nat → Option Nat) (v : Nat → Nat → Nat) (b : Nat → Nat → Bool) (w : Nat → Nat → Nat → Nat) (q : Nat → Nat → Nat) (f : Nat → Nat → Nat → Int64) (fr : Nat → Nat → Option Nat) (c9 : Nat) (g : Nat → Nat) (r e k : Nat) : va_E := match r with
  | 0 => .inr (6, [.ref (ad 1 0 0), .ref (ad 2 0 0)])
  | 1 => .inl (G.2 4, 2, .inr (.inr (.inr (.inr en))))
  | 2 => .inr (5, [.ref (ad 3 0 0), .int (nI (c9))])
  | 3 => .inl (G.2 1, 277, .inl (fun j => nI (g j)))
  | 4 => .inr (0, [.ref (ad 5 e 0), .ref (ad 7 e 0), .ref (ad 10 e 0), .int (nI (v e 0)), .int (nI (v e 1)), .int (nI (v e 2)), .int (nI (v e 3)), .int (nI (v e 4)), .int (nI (v e 5)), .int (nI (b2n (b e 0))), .int (nI (b2n (b e 1))), .int (nI (b2n (b e 2)))])
  | 5 => .inr (2, [.ref (ad 6 e 0), .int (nI (v e 6))])
  | 6 => .inl (G.2 5, 40, .inr (.inr (.inr (.inr (fr e)))))
  | 7 => .inr (3, [.ref (ad 8 e 0), .ref (ad 9 e 0), .int (nI (v e 7)), .int (nI (v e 8)), .int (nI (v e 9)), .int (nI (v e 10))])
  | 8 => .inl (G.2 1, 187, .inl (fun j => nI (w e 0 j)))
  | 9 => .inl (G.2 1, 187, .inl (fun j => nI (w e 1 j)))
  | 10 => .inr (4, [.ref (ad 11 e 0), .ref (ad 12 e 0), .int (nI (v e 11))])
  | 11 => .inl (G.2 0, 13600, .inl (fun j => sb_b (w e 2 j)))
  | 12 => .inl (G.2 1, 50, .inl (fun j => nI (w e 3 j)))
  | 13 => .inr (1, [.ref (ad 14 e k), .int (nI (q e k))])
  | _ => .inl (G.2 2, 47, .inr (.inl (f e k)))
def cw (G : mw_G) (M : mw_M) (ad : Nat → Nat → Nat → Nat) (en : Nat → Option Nat) (v : Nat → Nat → Nat) (b : Nat → Nat → Bool) (w : Nat → Nat → Nat → Nat) (q : Nat → Nat → Nat) (f : Nat → Nat → Nat → Int64) (fr : Nat → Nat → Option Nat) (c9 : Nat) (g : Nat → Nat) : Prop :=
  (∀ r e k, cw_ok r e k → M (ad r e k) = some (cw_T G ad en v b w q f fr c9 g r e k)) ∧ (∀ r e k r' e' k', cw_ok r e k → cw_ok r' e' k' → ad r e k = ad r' e' k' → r = r' ∧ e = e' ∧ k = k') ∧ (∀ e, e ≤ 1 → en e = some (ad 4 e 0)) ∧ ∀ e k, e ≤ 1 → k < 40 → fr e k = some (ad 13 e k)
theorem ok0 {r : Nat} (h : r ≤ 3) : cw_ok r 0 0 := Or.inl ⟨h, rfl, rfl⟩
theorem ok1 {r e : Nat} (h1 : 4 ≤ r) (h2 : r ≤ 12) (he : e ≤ 1) : cw_ok r e 0 := Or.inr (Or.inl ⟨h1, h2, he, rfl⟩)
theorem ok2 {r e k : Nat} (h1 : 13 ≤ r) (h2 : r ≤ 14) (he : e ≤ 1) (hk : k < 40) : cw_ok r e k := Or.inr (Or.inr ⟨h1, h2, he, hk⟩)
theorem cw_rs {r e k : Nat} (h : cw_ok r e k) : r = 0 ∨ r = 1 ∨ r = 2 ∨ r = 3 ∨ r = 4 ∨ r = 5 ∨ r = 6 ∨ r = 7 ∨ r = 8 ∨ r = 9 ∨ r = 10 ∨ r = 11 ∨ r = 12 ∨ r = 13 ∨ r = 14 := by
  unfold cw_ok at h; omega
section
variable {G : mw_G} {M : mw_M} {ad : Nat → Nat → Nat → Nat} {en : Nat → Option Nat} {v v' : Nat → Nat → Nat} {b b' : Nat → Nat → Bool} {w w' : Nat → Nat → Nat → Nat} {q q' : Nat → Nat → Nat} {f f' : Nat → Nat → Nat → Int64} {fr : Nat → Nat → Option Nat} {c9 c9' : Nat} {g g' : Nat → Nat}
theorem cw.set (h : cw G M ad en v b w q f fr c9 g) {r e k : Nat} (hk : cw_ok r e k) {c : va_E} (hc : c = cw_T G ad en v' b' w' q' f' fr c9' g' r e k) (ho : ∀ r1 e1 k1, cw_ok r1 e1 k1 → ¬ (r1 = r ∧ e1 = e ∧ k1 = k) → cw_T G ad en v' b' w' q' f' fr c9' g' r1 e1 k1 = cw_T G ad en v b w q f fr c9 g r1 e1 k1) : cw G (va_up M (ad r e k) (some c)) ad en v' b' w' q' f' fr c9' g' := by
  refine ⟨fun r1 e1 k1 hk1 => ?_, h.2.1, h.2.2⟩
  by_cases hx : r1 = r ∧ e1 = e ∧ k1 = k
  · obtain ⟨rfl, rfl, rfl⟩ := hx
    rw [hc]; exact mw_u0
  · rw [ho r1 e1 k1 hk1 hx]
    exact mw_u1 (fun h9 => hx (h.2.1 _ _ _ _ _ _ hk1 hk h9)) (h.1 r1 e1 k1 hk1)
/-- an end's record -/
theorem cw.s4 (h : cw G M ad en v b w q f fr c9 g) {e : Nat} (he : e ≤ 1) (x : Nat → Nat) (y : Nat → Bool) (hx : ∀ k, 6 ≤ k → x k = v e k) : cw G (va_up M (ad 4 e 0) (some (.inr (0, [.ref (ad 5 e 0), .ref (ad 7 e 0), .ref (ad 10 e 0), .int (nI (x 0)), .int (nI (x 1)), .int (nI (x 2)), .int (nI (x 3)), .int (nI (x 4)), .int (nI (x 5)), .int (nI (b2n (y 0))), .int (nI (b2n (y 1))), .int (nI (b2n (y 2)))])))) ad en (va_up v e x) (va_up b e y) w q f fr c9 g := by
  refine h.set (ok1 (by decide) (by decide) he) (by simp [cw_T, va_up]) (fun r1 e1 k1 hk1 hn => ?_)
  rcases cw_rs hk1 with rfl | rfl | rfl | rfl | rfl | rfl | rfl | rfl | rfl | rfl | rfl | rfl | rfl | rfl | rfl <;> by_cases c : e1 = e <;> simp [cw_T, va_up, c, hx]
  all_goals (unfold cw_ok at hk1; exact absurd ⟨rfl, c, by omega⟩ hn)
theorem cw.s5 (h : cw G M ad en v b w q f fr c9 g) {e : Nat} (he : e ≤ 1) (n : Nat) : cw G (va_up M (ad 5 e 0) (some (.inr (2, [.ref (ad 6 e 0), .int (nI (n))])))) ad en (va_up v e (va_up (v e) 6 n)) b w q f fr c9 g := by
  refine h.set (ok1 (by decide) (by decide) he) (by simp [cw_T, va_up]) (fun r1 e1 k1 hk1 hn => ?_)
  rcases cw_rs hk1 with rfl | rfl | rfl | rfl | rfl | rfl | rfl | rfl | rfl | rfl | rfl | rfl | rfl | rfl | rfl <;> by_cases c : e1 = e <;> simp [cw_T, va_up, c]
  all_goals (unfold cw_ok at hk1; exact absurd ⟨rfl, c, by omega⟩ hn)
theorem cw.s7 (h : cw G M ad en v b w q f fr c9 g) {e : Nat} (he : e ≤ 1) (x : Nat → Nat) (hx : ∀ k, k < 7 ∨ k = 11 → x k = v e k) : cw G (va_up M (ad 7 e 0) (some (.inr (3, [.ref (ad 8 e 0), .ref (ad 9 e 0), .int (nI (x 7)), .int (nI (x 8)), .int (nI (x 9)), .int (nI (x 10))])))) ad en (va_up v e x) b w q f fr c9 g := by
  refine h.set (ok1 (by decide) (by decide) he) (by simp [cw_T, va_up]) (fun r1 e1 k1 hk1 hn => ?_)
  rcases cw_rs hk1 with rfl | rfl | rfl | rfl | rfl | rfl | rfl | rfl | rfl | rfl | rfl | rfl | rfl | rfl | rfl <;> by_cases c : e1 = e <;> simp [cw_T, va_up, c, hx]
  all_goals (unfold cw_ok at hk1; exact absurd ⟨rfl, c, by omega⟩ hn)
theorem cw.s8 (h : cw G M ad en v b w q f fr c9 g) {e : Nat} (he : e ≤ 1) (u : Nat → Nat) : cw G (va_up M (ad 8 e 0) (some (.inl (G.2 1, 187, .inl (fun j => nI (u j)))))) ad en v b (va_up w e (va_up (w e) 0 u)) q f fr c9 g := by
  refine h.set (ok1 (by decide) (by decide) he) (by simp [cw_T, va_up]) (fun r1 e1 k1 hk1 hn => ?_)
  rcases cw_rs hk1 with rfl | rfl | rfl | rfl | rfl | rfl | rfl | rfl | rfl | rfl | rfl | rfl | rfl | rfl | rfl <;> by_cases c : e1 = e <;> simp [cw_T, va_up, c]
  all_goals (unfold cw_ok at hk1; exact absurd ⟨rfl, c, by omega⟩ hn)
theorem cw.s9 (h : cw G M ad en v b w q f fr c9 g) {e : Nat} (he : e ≤ 1) (u : Nat → Nat) : cw G (va_up M (ad 9 e 0) (some (.inl (G.2 1, 187, .inl (fun j => nI (u j)))))) ad en v b (va_up w e (va_up (w e) 1 u)) q f fr c9 g := by
  refine h.set (ok1 (by decide) (by decide) he) (by simp [cw_T, va_up]) (fun r1 e1 k1 hk1 hn => ?_)
  rcases cw_rs hk1 with rfl | rfl | rfl | rfl | rfl | rfl | rfl | rfl | rfl | rfl | rfl | rfl | rfl | rfl | rfl <;> by_cases c : e1 = e <;> simp [cw_T, va_up, c]
  all_goals (unfold cw_ok at hk1; exact absurd ⟨rfl, c, by omega⟩ hn)
theorem cw.s10 (h : cw G M ad en v b w q f fr c9 g) {e : Nat} (he : e ≤ 1) (n : Nat) : cw G (va_up M (ad 10 e 0) (some (.inr (4, [.ref (ad 11 e 0), .ref (ad 12 e 0), .int (nI (n))])))) ad en (va_up v e (va_up (v e) 11 n)) b w q f fr c9 g := by
  refine h.set (ok1 (by decide) (by decide) he) (by simp [cw_T, va_up]) (fun r1 e1 k1 hk1 hn => ?_)
  rcases cw_rs hk1 with rfl | rfl | rfl | rfl | rfl | rfl | rfl | rfl | rfl | rfl | rfl | rfl | rfl | rfl | rfl <;> by_cases c : e1 = e <;> simp [cw_T, va_up, c]
  all_goals (unfold cw_ok at hk1; exact absurd ⟨rfl, c, by omega⟩ hn)
theorem cw.s11 (h : cw G M ad en v b w q f fr c9 g) {e : Nat} (he : e ≤ 1) (u : Nat → Nat) : cw G (va_up M (ad 11 e 0) (some (.inl (G.2 0, 13600, .inl (fun j => sb_b (u j)))))) ad en v b (va_up w e (va_up (w e) 2 u)) q f fr c9 g := by
  refine h.set (ok1 (by decide) (by decide) he) (by simp [cw_T, va_up]) (fun r1 e1 k1 hk1 hn => ?_)
  rcases cw_rs hk1 with rfl | rfl | rfl | rfl | rfl | rfl | rfl | rfl | rfl | rfl | rfl | rfl | rfl | rfl | rfl <;> by_cases c : e1 = e <;> simp [cw_T, va_up, c]
  all_goals (unfold cw_ok at hk1; exact absurd ⟨rfl, c, by omega⟩ hn)
theorem cw.s12 (h : cw G M ad en v b w q f fr c9 g) {e : Nat} (he : e ≤ 1) (u : Nat → Nat) : cw G (va_up M (ad 12 e 0) (some (.inl (G.2 1, 50, .inl (fun j => nI (u j)))))) ad en v b (va_up w e (va_up (w e) 3 u)) q f fr c9 g := by
  refine h.set (ok1 (by decide) (by decide) he) (by simp [cw_T, va_up]) (fun r1 e1 k1 hk1 hn => ?_)
  rcases cw_rs hk1 with rfl | rfl | rfl | rfl | rfl | rfl | rfl | rfl | rfl | rfl | rfl | rfl | rfl | rfl | rfl <;> by_cases c : e1 = e <;> simp [cw_T, va_up, c]
  all_goals (unfold cw_ok at hk1; exact absurd ⟨rfl, c, by omega⟩ hn)
/-- a frame's length, its words -/
theorem cw.s13 (h : cw G M ad en v b w q f fr c9 g) {e k : Nat} (he : e ≤ 1) (hk : k < 40) (n : Nat) : cw G (va_up M (ad 13 e k) (some (.inr (1, [.ref (ad 14 e k), .int (nI (n))])))) ad en v b w (va_up q e (va_up (q e) k n)) f fr c9 g := by
  refine h.set (ok2 (by decide) (by decide) he hk) (by simp [cw_T, va_up]) (fun r1 e1 k1 hk1 hn => ?_)
  rcases cw_rs hk1 with rfl | rfl | rfl | rfl | rfl | rfl | rfl | rfl | rfl | rfl | rfl | rfl | rfl | rfl | rfl <;> by_cases c : e1 = e <;> by_cases c2 : k1 = k <;> simp [cw_T, va_up, c, c2]
  all_goals exact absurd ⟨rfl, c, c2⟩ hn
theorem cw.s14 (h : cw G M ad en v b w q f fr c9 g) {e k : Nat} (he : e ≤ 1) (hk : k < 40) (u : Nat → Int64) : cw G (va_up M (ad 14 e k) (some (.inl (G.2 2, 47, .inr (.inl (u)))))) ad en v b w q (va_up f e (va_up (f e) k u)) fr c9 g := by
  refine h.set (ok2 (by decide) (by decide) he hk) (by simp [cw_T, va_up]) (fun r1 e1 k1 hk1 hn => ?_)
  rcases cw_rs hk1 with rfl | rfl | rfl | rfl | rfl | rfl | rfl | rfl | rfl | rfl | rfl | rfl | rfl | rfl | rfl <;> by_cases c : e1 = e <;> by_cases c2 : k1 = k <;> simp [cw_T, va_up, c, c2]
  all_goals exact absurd ⟨rfl, c, c2⟩ hn
/-- the unit -/
theorem cw.s2 (h : cw G M ad en v b w q f fr c9 g) (n : Nat) : cw G (va_up M (ad 2 0 0) (some (.inr (5, [.ref (ad 3 0 0), .int (nI (n))])))) ad en v b w q f fr n g := by
  refine h.set (ok0 (by decide)) (by simp [cw_T]) (fun r1 e1 k1 hk1 hn => ?_)
  rcases cw_rs hk1 with rfl | rfl | rfl | rfl | rfl | rfl | rfl | rfl | rfl | rfl | rfl | rfl | rfl | rfl | rfl <;> simp [cw_T]
  all_goals (unfold cw_ok at hk1; exact absurd ⟨rfl, by omega, by omega⟩ hn)
theorem cw.s3 (h : cw G M ad en v b w q f fr c9 g) (u : Nat → Nat) : cw G (va_up M (ad 3 0 0) (some (.inl (G.2 1, 277, .inl (fun j => nI (u j)))))) ad en v b w q f fr c9 u := by
  refine h.set (ok0 (by decide)) (by simp [cw_T]) (fun r1 e1 k1 hk1 hn => ?_)
  rcases cw_rs hk1 with rfl | rfl | rfl | rfl | rfl | rfl | rfl | rfl | rfl | rfl | rfl | rfl | rfl | rfl | rfl <;> simp [cw_T]
  all_goals (unfold cw_ok at hk1; exact absurd ⟨rfl, by omega, by omega⟩ hn)
end
