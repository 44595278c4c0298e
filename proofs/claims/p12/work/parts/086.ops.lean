/-! ===== the table behind each call ===== -/
theorem va_up_up {α : Type} (f : Nat → α) (k : Nat) (x y : α) : va_up (va_up f k x) k y = va_up f k y := by
  funext j; unfold va_up; split <;> rfl
theorem va_up_id {α : Type} (f : Nat → α) (k : Nat) : va_up f k (f k) = f := by
  funext j; unfold va_up; split
  · rename_i h; rw [h]
  · rfl
section
variable {G : mw_G} {M : mw_M} {ad : Nat → Nat → Nat → Nat} {en : Nat → Option Nat} {v : Nat → Nat → Nat} {b : Nat → Nat → Bool} {w : Nat → Nat → Nat → Nat} {q : Nat → Nat → Nat} {f : Nat → Nat → Nat → Int64} {fr : Nat → Nat → Option Nat} {c9 : Nat} {g : Nat → Nat}
theorem cw_put (h : cw G M ad en v b w q f fr c9 g) {e : Nat} (he : e ≤ 1) (u0 u1 : Nat → Nat) : cw G (va_up (va_up (va_up M (ad 7 e 0) (some (.inr (3, [.ref (ad 8 e 0), .ref (ad 9 e 0), .int (nI (v e 7)), .int (nI (v e 8)), .int (nI (v e 9)), .int (nI (v e 10 + 1))])))) (ad 8 e 0) (some (.inl (G.2 1, 187, .inl (fun j => nI (u0 j)))))) (ad 9 e 0) (some (.inl (G.2 1, 187, .inl (fun j => nI (u1 j)))))) ad en (va_up v e (va_up (v e) 10 (v e 10 + 1))) b (va_up w e (va_up (va_up (w e) 0 u0) 1 u1)) q f fr c9 g := by
  have h1 := ((h.s7 he (va_up (v e) 10 (v e 10 + 1)) (fun k hk => va_up_ne _ _ (by omega))).s8 he u0).s9 he u1
  rw [show va_up w e (va_up (w e) 0 u0) e = va_up (w e) 0 u0 from va_up_self _ _ _, va_up_up] at h1
  exact h1
/-- a unit written onto a new frame -/
theorem cw_wr (h : cw G M ad en v b w q f fr c9 g) {e : Nat} (he : e ≤ 1) (hn : v e 6 < 40) (c n : Nat) (u : Nat → Nat) (d : Nat → Int64) : cw G (va_up (va_up (va_up (va_up (va_up M (ad 2 0 0) (some (.inr (5, [.ref (ad 3 0 0), .int (nI (c))])))) (ad 3 0 0) (some (.inl (G.2 1, 277, .inl (fun j => nI (u j)))))) (ad 5 e 0) (some (.inr (2, [.ref (ad 6 e 0), .int (nI (v e 6 + 1))])))) (ad 13 e (v e 6)) (some (.inr (1, [.ref (ad 14 e (v e 6)), .int (nI (n))])))) (ad 14 e (v e 6)) (some (.inl (G.2 2, 47, .inr (.inl (d)))))) ad en (va_up v e (va_up (v e) 6 (v e 6 + 1))) b w (va_up q e (va_up (q e) (v e 6) n)) (va_up f e (va_up (f e) (v e 6) d)) fr c u :=
  ((((h.s2 c).s3 u).s5 he (v e 6 + 1)).s13 he hn n).s14 he hn d
theorem cw_again (h : cw G M ad en v b w q f fr c9 g) {e : Nat} (he : e ≤ 1) (hn : v e 6 < 40) (c n : Nat) (u : Nat → Nat) (d : Nat → Int64) : cw G (va_up (va_up (va_up (va_up (va_up (va_up M (ad 7 e 0) (some (.inr (3, [.ref (ad 8 e 0), .ref (ad 9 e 0), .int (nI (v e 7)), .int (nI (v e 8)), .int (nI (v e 9 - 1)), .int (nI (v e 10))])))) (ad 2 0 0) (some (.inr (5, [.ref (ad 3 0 0), .int (nI (c))])))) (ad 3 0 0) (some (.inl (G.2 1, 277, .inl (fun j => nI (u j)))))) (ad 5 e 0) (some (.inr (2, [.ref (ad 6 e 0), .int (nI (v e 6 + 1))])))) (ad 13 e (v e 6)) (some (.inr (1, [.ref (ad 14 e (v e 6)), .int (nI (n))])))) (ad 14 e (v e 6)) (some (.inl (G.2 2, 47, .inr (.inl (d)))))) ad en (va_up v e (va_up (va_up (v e) 9 (v e 9 - 1)) 6 (v e 6 + 1))) b w (va_up q e (va_up (q e) (v e 6) n)) (va_up f e (va_up (f e) (v e 6) d)) fr c u := by
  have h8 : cw G (va_up M (ad 7 e 0) (some (.inr (3, [.ref (ad 8 e 0), .ref (ad 9 e 0), .int (nI (v e 7)), .int (nI (v e 8)), .int (nI (v e 9 - 1)), .int (nI (v e 10))])))) ad en (va_up v e (va_up (v e) 9 (v e 9 - 1))) b w q f fr c9 g := h.s7 he (va_up (v e) 9 (v e 9 - 1)) (fun k hk => va_up_ne _ _ (by omega))
  have h9 := ((((h8.s2 c).s3 u).s5 he (v e 6 + 1)).s13 he hn n).s14 he hn d
  rw [show va_up v e (va_up (v e) 9 (v e 9 - 1)) e = va_up (v e) 9 (v e 9 - 1) from va_up_self _ _ _, va_up_up] at h9
  exact h9
theorem cw_first (h : cw G M ad en v b w q f fr c9 g) {e : Nat} (he : e ≤ 1) (hn : v e 6 < 40) (c n : Nat) (u : Nat → Nat) (d : Nat → Int64) : cw G (va_up (va_up (va_up (va_up (va_up (va_up (va_up M (ad 4 e 0) (some (.inr (0, [.ref (ad 5 e 0), .ref (ad 7 e 0), .ref (ad 10 e 0), .int (nI (v e 0)), .int (nI (v e 1)), .int (nI ((v e 2 + 1) % 128)), .int (nI (v e 3)), .int (nI (v e 4)), .int (nI (v e 5)), .int (nI (b2n (b e 0))), .int (nI (b2n (b e 1))), .int (nI (b2n (b e 2)))])))) (ad 7 e 0) (some (.inr (3, [.ref (ad 8 e 0), .ref (ad 9 e 0), .int (nI (v e 7)), .int (nI (v e 8 + 1)), .int (nI (v e 9)), .int (nI (v e 10 - 1))])))) (ad 2 0 0) (some (.inr (5, [.ref (ad 3 0 0), .int (nI (c))])))) (ad 3 0 0) (some (.inl (G.2 1, 277, .inl (fun j => nI (u j)))))) (ad 5 e 0) (some (.inr (2, [.ref (ad 6 e 0), .int (nI (v e 6 + 1))])))) (ad 13 e (v e 6)) (some (.inr (1, [.ref (ad 14 e (v e 6)), .int (nI (n))])))) (ad 14 e (v e 6)) (some (.inl (G.2 2, 47, .inr (.inl (d)))))) ad en (va_up v e (va_up (va_up (va_up (va_up (v e) 2 ((v e 2 + 1) % 128)) 8 (v e 8 + 1)) 10 (v e 10 - 1)) 6 (v e 6 + 1))) b w (va_up q e (va_up (q e) (v e 6) n)) (va_up f e (va_up (f e) (v e 6) d)) fr c u := by
  have h7 : cw G (va_up M (ad 4 e 0) (some (.inr (0, [.ref (ad 5 e 0), .ref (ad 7 e 0), .ref (ad 10 e 0), .int (nI (v e 0)), .int (nI (v e 1)), .int (nI ((v e 2 + 1) % 128)), .int (nI (v e 3)), .int (nI (v e 4)), .int (nI (v e 5)), .int (nI (b2n (b e 0))), .int (nI (b2n (b e 1))), .int (nI (b2n (b e 2)))])))) ad en (va_up v e (va_up (v e) 2 ((v e 2 + 1) % 128))) (va_up b e (b e)) w q f fr c9 g := h.s4 he (va_up (v e) 2 ((v e 2 + 1) % 128)) (b e) (fun k hk => va_up_ne _ _ (by omega))
  rw [va_up_id] at h7
  have h8 : cw G (va_up (va_up M (ad 4 e 0) (some (.inr (0, [.ref (ad 5 e 0), .ref (ad 7 e 0), .ref (ad 10 e 0), .int (nI (v e 0)), .int (nI (v e 1)), .int (nI ((v e 2 + 1) % 128)), .int (nI (v e 3)), .int (nI (v e 4)), .int (nI (v e 5)), .int (nI (b2n (b e 0))), .int (nI (b2n (b e 1))), .int (nI (b2n (b e 2)))])))) (ad 7 e 0) (some (.inr (3, [.ref (ad 8 e 0), .ref (ad 9 e 0), .int (nI (v e 7)), .int (nI (v e 8 + 1)), .int (nI (v e 9)), .int (nI (v e 10 - 1))])))) ad en (va_up (va_up v e (va_up (v e) 2 ((v e 2 + 1) % 128))) e (va_up (va_up (va_up (v e) 2 ((v e 2 + 1) % 128)) 8 (v e 8 + 1)) 10 (v e 10 - 1))) b w q f fr c9 g := h7.s7 he (va_up (va_up (va_up (v e) 2 ((v e 2 + 1) % 128)) 8 (v e 8 + 1)) 10 (v e 10 - 1)) (fun k hk => by rw [va_up_self, va_up_ne _ _ (by omega), va_up_ne _ _ (by omega)])
  rw [va_up_up] at h8
  have h9 := ((((h8.s2 c).s3 u).s5 he (v e 6 + 1)).s13 he hn n).s14 he hn d
  rw [show va_up v e (va_up (va_up (va_up (v e) 2 ((v e 2 + 1) % 128)) 8 (v e 8 + 1)) 10 (v e 10 - 1)) e = va_up (va_up (va_up (v e) 2 ((v e 2 + 1) % 128)) 8 (v e 8 + 1)) 10 (v e 10 - 1) from va_up_self _ _ _, va_up_up] at h9
  exact h9
theorem cw_flip (h : cw G M ad en v b w q f fr c9 g) {e k : Nat} (he : e ≤ 1) (hk : k < 40) (d : Nat → Int64) : cw G (va_up M (ad 14 e k) (some (.inl (G.2 2, 47, .inr (.inl (d)))))) ad en v b w q (va_up f e (va_up (f e) k d)) fr c9 g := h.s14 he hk d
theorem cw_drop (h : cw G M ad en v b w q f fr c9 g) {e fx : Nat} (he : e ≤ 1) (hf : fx < v e 6) (hn : v e 6 ≤ 40) : cw G (va_up (va_up M (ad 5 e 0) (some (.inr (2, [.ref (ad 6 e 0), .int (nI (v e 6 - 1))])))) (ad 6 e 0) (some (.inl (G.2 5, 40, .inr (.inr (.inr (.inr (va_up (lsh (fr e) fx (v e 6 - 1)) (v e 6 - 1) (some (ad 13 e fx)))))))))) (adl ad e fx (v e 6)) en (va_up v e (va_up (v e) 6 (v e 6 - 1))) b w (va_up q e (ysh (q e) fx (v e 6))) (va_up f e (ysh (f e) fx (v e 6))) (va_up fr e (va_up (lsh (fr e) fx (v e 6 - 1)) (v e 6 - 1) (some (ad 13 e fx)))) c9 g := (h.s5 he (v e 6 - 1)).lose he hf hn
theorem cw_fresh (h : cw G M ad en v b w q f fr c9 g) {e : Nat} (he : e ≤ 1) (hn : v e 6 < 40) (n : Nat) (d : Nat → Int64) : cw G (va_up (va_up (va_up M (ad 5 e 0) (some (.inr (2, [.ref (ad 6 e 0), .int (nI (v e 6 + 1))])))) (ad 13 e (v e 6)) (some (.inr (1, [.ref (ad 14 e (v e 6)), .int (nI (n))])))) (ad 14 e (v e 6)) (some (.inl (G.2 2, 47, .inr (.inl (d)))))) ad en (va_up v e (va_up (v e) 6 (v e 6 + 1))) b w (va_up q e (va_up (q e) (v e 6) n)) (va_up f e (va_up (f e) (v e 6) d)) fr c9 g := ((h.s5 he (v e 6 + 1)).s13 he hn n).s14 he hn d
theorem cw_app (h : cw G M ad en v b w q f fr c9 g) {e k : Nat} (he : e ≤ 1) (hk : k < 40) (n : Nat) (d : Nat → Int64) : cw G (va_up (va_up M (ad 13 e k) (some (.inr (1, [.ref (ad 14 e k), .int (nI (n))])))) (ad 14 e k) (some (.inl (G.2 2, 47, .inr (.inl (d)))))) ad en v b w (va_up q e (va_up (q e) k n)) (va_up f e (va_up (f e) k d)) fr c9 g := (h.s13 he hk n).s14 he hk d
theorem cw_res (h : cw G M ad en v b w q f fr c9 g) {e : Nat} (he : e ≤ 1) : cw G (va_up (va_up (va_up M (ad 4 e 0) (some (.inr (0, [.ref (ad 5 e 0), .ref (ad 7 e 0), .ref (ad 10 e 0), .int (nI (1)), .int (nI (1)), .int (nI (127)), .int (nI (127)), .int (nI (0)), .int (nI (0)), .int (nI (0)), .int (nI (0)), .int (nI (0))])))) (ad 5 e 0) (some (.inr (2, [.ref (ad 6 e 0), .int (nI (0))])))) (ad 7 e 0) (some (.inr (3, [.ref (ad 8 e 0), .ref (ad 9 e 0), .int (nI (v e 7)), .int (nI (0)), .int (nI (0)), .int (nI (0))])))) ad en (va_up v e (xres (v e))) (va_up b e (yres (b e))) w q f fr c9 g := by
  have h1 := h.s4 he (va_up (va_up (va_up (va_up (va_up (va_up (v e) 0 1) 1 1) 2 127) 3 127) 4 0) 5 0) (yres (b e)) (fun k hk => by rw [va_up_ne _ _ (by omega), va_up_ne _ _ (by omega), va_up_ne _ _ (by omega), va_up_ne _ _ (by omega), va_up_ne _ _ (by omega), va_up_ne _ _ (by omega)])
  have h2 := h1.s5 he 0
  rw [show va_up v e (va_up (va_up (va_up (va_up (va_up (va_up (v e) 0 1) 1 1) 2 127) 3 127) 4 0) 5 0) e = va_up (va_up (va_up (va_up (va_up (va_up (v e) 0 1) 1 1) 2 127) 3 127) 4 0) 5 0 from va_up_self _ _ _, va_up_up] at h2
  have h3 := h2.s7 he (xres (v e)) (fun k hk => by
    rw [va_up_self]
    rcases (show k = 0 ∨ k = 1 ∨ k = 2 ∨ k = 3 ∨ k = 4 ∨ k = 5 ∨ k = 6 ∨ k = 11 by omega) with rfl | rfl | rfl | rfl | rfl | rfl | rfl | rfl <;> rfl)
  rw [va_up_up] at h3
  exact h3
theorem md_at.up1 {G : mw_G} {M : mw_M} {mh : Nat} {a : Nat → Nat} {c u : Nat} {A : md_S} (hm : md_at G M mh a c u A) {q : Nat} {x : Option va_E} (h : ∀ z, md_own mh a z → z ≠ q) : md_at G (va_up M q x) mh a c u A := hm.eq (fun z hz => va_up_ne _ _ (h z hz))
/-- the law's own array -/
theorem cw_o (h : cw G M ad en v b w q f fr c9 g) {o : Nat} {ov : Nat → Int64} (eo : M o = some (.inl (G.2 2, 1, .inr (.inl (ov))))) {c : Option va_E} : cw G (va_up M o c) ad en v b w q f fr c9 g := h.of (fun r e k hk => va_up_ne _ _ (Ne.symm (cw_out h eo hk)))
/-- behind the reference's call -/
theorem inv_end {M1 M2 : mw_M} {x mh o N c1 u1 c2 u2 : Nat} {a : Nat → Nat} {A1 A2 : md_S} {ov : Nat → Int64} (h : cw G M1 ad en v b w q f fr c9 g) (hx : ad 0 0 0 = x) (hmd : md_at G M1 mh a c1 u1 A1) (eo : M1 o = some (.inl (G.2 2, 1, .inr (.inl (ov))))) (hm2 : md_at G M2 mh a c2 u2 A2) (hf : md_fr mh a M1 M2) (hg : ∀ i, i < 277 → g i < 256) (hu : u2 ≤ 277) (hR : Rmd A2) (hE : ∀ e, e ≤ 1 → Rex A2 e N (v e) (b e) (w e) (q e) (f e)) : Inv G M2 x mh o a N := by
  refine ⟨c2, u2, A2, ad, en, v, b, w, q, f, fr, c9, g, ov, h.of (fun r e k hk => ?_), hx, hm2, ?_, hg, hu, hR, hE⟩
  · exact hf _ (Ne.symm (cw_own h hmd hk (Or.inl rfl))) (fun j hj => Ne.symm (cw_own h hmd hk (Or.inr ⟨j, hj, rfl⟩)))
  · exact (hf o (mw_ne eo hmd.1 (by intro h9; cases h9)) (fun j hj => mw_ne eo (hmd.2.1 j hj) (by simp [md_arr]))).trans eo
/-- both ends -/
theorem rex2 {A : md_S} {e N : Nat} {x : Nat → Nat} {y : Nat → Bool} {z : Nat → Nat → Nat} {Q : Nat → Nat} {F : Nat → Nat → Int64} (hn : Rex A e N x y z Q F) (hf : ∀ e1, e1 ≤ 1 → e1 ≠ e → Rex A e1 N (v e1) (b e1) (w e1) (q e1) (f e1)) : ∀ e1, e1 ≤ 1 → Rex A e1 N (va_up v e x e1) (va_up b e y e1) (va_up w e z e1) (va_up q e Q e1) (va_up f e F e1) := by
  intro e1 he1
  by_cases c : e1 = e
  · subst c; rw [va_up_self, va_up_self, va_up_self, va_up_self, va_up_self]; exact hn
  · rw [va_up_ne _ _ c, va_up_ne _ _ c, va_up_ne _ _ c, va_up_ne _ _ c, va_up_ne _ _ c]; exact hf e1 he1 c
theorem rex_vqf {A : md_S} {e N : Nat} {x : Nat → Nat} {Q : Nat → Nat} {F : Nat → Nat → Int64} (hn : Rex A e N x (b e) (w e) Q F) (hf : ∀ e1, e1 ≤ 1 → e1 ≠ e → Rex A e1 N (v e1) (b e1) (w e1) (q e1) (f e1)) : ∀ e1, e1 ≤ 1 → Rex A e1 N (va_up v e x e1) (b e1) (w e1) (va_up q e Q e1) (va_up f e F e1) := by
  intro e1 he1
  by_cases c : e1 = e
  · subst c; rw [va_up_self, va_up_self, va_up_self]; exact hn
  · rw [va_up_ne _ _ c, va_up_ne _ _ c, va_up_ne _ _ c]; exact hf e1 he1 c
/-- the two ends of a take: one takes, the other's line loses a frame -/
theorem rex3 {A : md_S} {e o N : Nat} (he : e ≤ 1) (ho : o = 1 - e) {x x2 : Nat → Nat} {y : Nat → Bool} {z : Nat → Nat → Nat} {Q : Nat → Nat} {F : Nat → Nat → Int64} (hn : Rex A e N x y z (q e) (f e)) (hf : Rex A o N x2 (b o) (w o) Q F) : ∀ e1, e1 ≤ 1 → Rex A e1 N (va_up (va_up v o x2) e x e1) (va_up b e y e1) (va_up w e z e1) (va_up q o Q e1) (va_up f o F e1) := by
  intro e1 he1
  have hne : e ≠ o := by omega
  by_cases c : e1 = e
  · subst c; rw [va_up_self, va_up_self, va_up_self, va_up_ne _ _ hne, va_up_ne _ _ hne]; exact hn
  · obtain rfl : e1 = o := by omega
    rw [va_up_ne _ _ c, va_up_self, va_up_ne _ _ c, va_up_ne _ _ c, va_up_self, va_up_self]; exact hf
end
