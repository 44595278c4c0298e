/-! ===== the relation between the class and the reference, call by call ===== -/
/-! ===== the relation between the class's state and the reference's, one end ===== -/
/-- x: 0 fi, 1 bi, 2 sent, 3 taken, 4 errors, 5 units, 6 frames, 7 first, 8 untold, 9 again, 10 waiting, 11 total; y: 0 failed, 1 abnormal last, 2 last but one; z: 0 lengths, 1 seeds, 2 store, 3 its lengths -/
def Rbx (N : Nat) (x : Nat → Nat) (y : Nat → Bool) (z : Nat → Nat → Nat) : Prop :=
  x 0 ≤ 1 ∧ x 1 ≤ 1 ∧ x 2 < 128 ∧ x 3 < 128 ∧ x 4 ≤ 64 ∧ (y 0 = false → x 4 ≤ 63) ∧ x 5 ≤ N ∧ x 6 ≤ 40 ∧ x 7 < 187 ∧ x 8 ≤ 127 ∧ x 9 ≤ x 8 ∧ x 10 ≤ 60 ∧ x 11 ≤ N ∧ (∀ i, z 0 i ≤ 272) ∧ (∀ i, z 1 i < 256) ∧ (∀ r, z 2 r < 256) ∧ ∀ r, r < 50 → z 3 r ≤ 272
def Rsx (A : md_S) (e : Nat) (x : Nat → Nat) (y : Nat → Bool) : Prop :=
  A 4 e = x 0 ∧ A 5 e = x 1 ∧ A 6 e = x 2 ∧ A 7 e = x 3 ∧ A 17 e = x 4 ∧ A 18 e = x 5 ∧ A 20 e = b2n (y 0) ∧ A 19 e % 4 = b2n (y 1) + 2 * b2n (y 2) ∧ A 19 e < 8
def Rex (A : md_S) (e N : Nat) (x : Nat → Nat) (y : Nat → Bool) (z : Nat → Nat → Nat) (Q : Nat → Nat) (F : Nat → Nat → Int64) : Prop :=
  Rbx N x y z ∧ Rsx A e x y ∧ Rms A e (x 2) (x 7) (x 8) (x 9) (x 10) (z 0) (z 1) ∧ Rln A e (x 6) Q F ∧ Rsto A e (x 11) (z 2) (z 3)
def Rmd (A : md_S) : Prop := (∀ i, i < 280 → A 24 i < 256) ∧ (∀ j, j < 80 → A 2 j ≤ 3000) ∧ ∀ i, i < 254 → A 13 i < 128
theorem Rbx.more {N : Nat} {x : Nat → Nat} {y : Nat → Bool} {z : Nat → Nat → Nat} (h : Rbx N x y z) : Rbx (N + 1) x y z := by
  obtain ⟨a1, a2, a3, a4, a5, a6, a7, a8, a9, a10, a11, a12, a13, a14, a15, a16, a17⟩ := h
  exact ⟨a1, a2, a3, a4, a5, a6, by omega, a8, a9, a10, a11, a12, by omega, a14, a15, a16, a17⟩
theorem Rsx.of {A A' : md_S} {e : Nat} {x : Nat → Nat} {y : Nat → Bool} (h : Rsx A e x y) (hs : ∀ k, k ∈ [4, 5, 6, 7, 17, 18, 19, 20] → A' k e = A k e) : Rsx A' e x y := by
  unfold Rsx at *
  rw [hs 4 (by decide), hs 5 (by decide), hs 6 (by decide), hs 7 (by decide), hs 17 (by decide), hs 18 (by decide), hs 19 (by decide), hs 20 (by decide)]
  exact h
/-- nothing that concerns this end has changed -/
theorem Rex.far {A A' : md_S} {e N : Nat} {x : Nat → Nat} {y : Nat → Bool} {z : Nat → Nat → Nat} {Q : Nat → Nat} {F : Nat → Nat → Int64} (h : Rex A e N x y z Q F) (hs : ∀ k, k ∈ [4, 5, 6, 7, 17, 18, 19, 20] → A' k e = A k e) (hm : Rms A' e (x 2) (x 7) (x 8) (x 9) (x 10) (z 0) (z 1)) (hl : Rln A' e (x 6) Q F) (ht : Rsto A' e (x 11) (z 2) (z 3)) : Rex A' e (N + 1) x y z Q F := ⟨h.1.more, h.2.1.of hs, hm, hl, ht⟩
theorem Rex.idle {A : md_S} {e N : Nat} {x : Nat → Nat} {y : Nat → Bool} {z : Nat → Nat → Nat} {Q : Nat → Nat} {F : Nat → Nat → Int64} (h : Rex A e N x y z Q F) : Rex A e (N + 1) x y z Q F := ⟨h.1.more, h.2⟩
section
variable {A : md_S} {e e' N : Nat} {x : Nat → Nat} {y : Nat → Bool} {z : Nat → Nat → Nat} {Q : Nat → Nat} {F : Nat → Nat → Int64}
/-! put -/
def Aput (A : md_S) (e ln se : Nat) : md_S := md_u (md_u (md_u A 10 (60 * e + A 9 e) ln) 11 (60 * e + A 9 e) se) 9 e (A 9 e + 1)
theorem up_le {g : Nat → Nat} {n : Nat} (h : ∀ i, g i ≤ n) {k c : Nat} (hc : c ≤ n) : ∀ i, va_up g k c i ≤ n := by
  intro i; unfold va_up; split
  · exact hc
  · exact h i
theorem X_put (h : Rex A e N x y z Q F) (hw : x 10 < 60) {ln se : Nat} (hln : ln ≤ 272) (hse : se ≤ 255) : Rex (Aput A e ln se) e (N + 1) (va_up x 10 (x 10 + 1)) y (va_up (va_up z 0 (va_up (z 0) ((x 7 + (x 8 + x 10)) % 187) ln)) 1 (va_up (z 1) ((x 7 + (x 8 + x 10)) % 187) se)) Q F := by
  obtain ⟨hb, hs, hm, hl, ht⟩ := h
  obtain ⟨a1, a2, a3, a4, a5, a6, a7, a8, a9, a10, a11, a12, a13, a14, a15, a16, a17⟩ := hb.more
  refine ⟨⟨a1, a2, a3, a4, a5, a6, a7, a8, a9, a10, a11, show x 10 + 1 ≤ 60 by omega, a13, up_le a14 hln, fun i => Nat.lt_succ_of_le (up_le (n := 255) (fun i => Nat.le_of_lt_succ (a15 i)) hse i), a16, a17⟩, hs, hm.put a10 hw ln se, hl.same rfl rfl rfl, ht.same rfl rfl rfl⟩
theorem X_putO (h : Rex A e' N x y z Q F) (h9 : A 9 e < 60) (he : e ≤ 1) (he' : e' ≤ 1) (hne : e' ≠ e) (ln se : Nat) : Rex (Aput A e ln se) e' (N + 1) x y z Q F := by
  have hb := h.1
  refine h.far (fun k hk => ?_) (h.2.2.1.of rfl (by simp [Aput, md_u, va_up, hne]) rfl rfl (fun j hj => ?_) (fun j hj => ?_) (fun j hj => rfl) (fun j hj => rfl) (fun j hj => rfl) hb.2.2.2.2.2.2.2.2.2.2.2.1 hb.2.2.2.2.2.2.2.2.2.1) (h.2.2.2.1.same rfl rfl rfl) (h.2.2.2.2.same rfl rfl rfl)
  · simp at hk; rcases hk with rfl | rfl | rfl | rfl | rfl | rfl | rfl | rfl <;> rfl
  · have : 60 * e' + j ≠ 60 * e + A 9 e := by omega
    simp [Aput, md_u, va_up, this]
  · have : 60 * e' + j ≠ 60 * e + A 9 e := by omega
    simp [Aput, md_u, va_up, this]
theorem M_put (h : Rmd A) (e ln se : Nat) : Rmd (Aput A e ln se) := h
end
section
variable {A B : md_S} {e e' N : Nat} {x : Nat → Nat} {y : Nat → Bool} {z : Nat → Nat → Nat} {Q : Nat → Nat} {F : Nat → Nat → Int64}
/-! ===== send ===== -/
theorem mfr0_o (A : md_S) (e nu ln se : Nat) {j : Nat} (h : j ≠ 1 ∧ j ≠ 2 ∧ j ≠ 24) : mfr0 A e nu ln se j = A j := by
  unfold mfr0 mopen
  simp [md_u, va_up, h]
theorem mfr0_1o (A : md_S) {e e' : Nat} (nu ln se : Nat) (h : e' ≠ e) : mfr0 A e nu ln se 1 e' = A 1 e' := by
  unfold mfr0 mopen
  simp [md_u, va_up, h]
theorem mfr0_2o (A : md_S) (e nu ln se : Nat) {K : Nat} (h : K ≠ 40 * e + A 1 e) : mfr0 A e nu ln se 2 K = A 2 K := by
  unfold mfr0 mopen
  simp [md_u, va_up, h]
theorem mfrm_o (A : md_S) (e nu ln se : Nat) {j : Nat} (h : j ≠ 1 ∧ j ≠ 2 ∧ j ≠ 3 ∧ j ≠ 24) : mfrm A e nu ln se j = A j := by
  unfold mfrm
  rw [mfl_o _ _ _ h.2.1 h.2.2.1, mws_o _ _ _ _ h.2.1 h.2.2.1, mfl_o _ _ _ h.2.1 h.2.2.1]
  exact mfr0_o A e nu ln se ⟨h.1, h.2.1, h.2.2.2⟩
theorem ufr_le (G : Nat → Nat) (f : Nat → Int64) {ln : Nat} (h : ln ≤ 272) : (ufr G f (5 + ln)).2.1 + 8 ≤ 3000 := by
  have := wts_le G (ffl f 0 8) (0 + 8) (8 * (5 + ln))
  unfold ufr
  omega
def fsnd (G : Nat → Nat) (f : Nat → Int64) (ln : Nat) : Nat → Int64 := ffl (ufr G f (5 + ln)).1 (ufr G f (5 + ln)).2.1 8
def qsnd (G : Nat → Nat) (f : Nat → Int64) (ln : Nat) : Nat := (ufr G f (5 + ln)).2.1 + 8
/-- a unit is written onto a new frame -/
theorem X_wr (hb : Rbx (N + 1) x y z) (hs : Rsx B e x y) (hm : Rms B e (x 2) (x 7) (x 8) (x 9) (x 10) (z 0) (z 1)) (hl : Rln B e (x 6) Q F) (ht : Rsto B e (x 11) (z 2) (z 3)) (hn : x 6 < 40) {nu ln se : Nat} (hln : ln ≤ 272) {G : Nat → Nat} (hG : ∀ i, i < 5 + ln → G i = mgu B e nu ln se i) (f0 : Nat → Int64) :
    Rex (mfrm B e nu ln se) e (N + 1) (va_up x 6 (x 6 + 1)) y z (va_up Q (x 6) (qsnd G f0 ln)) (va_up F (x 6) (fsnd G f0 ln)) := by
  have hw := mfrm_Fw hln hG f0
  rw [hl.1] at hw
  obtain ⟨a1, a2, a3, a4, a5, a6, a7, a8, a9, a10, a11, a12, a13, a14, a15, a16, a17⟩ := hb
  have o : ∀ {j : Nat}, j ≠ 1 ∧ j ≠ 2 ∧ j ≠ 3 ∧ j ≠ 24 → mfrm B e nu ln se j = B j := fun h => mfrm_o B e nu ln se h
  refine ⟨⟨a1, a2, a3, a4, a5, a6, a7, show x 6 + 1 ≤ 40 by omega, a9, a10, a11, a12, a13, a14, a15, a16, a17⟩, hs.of (fun k hk => ?_), ?_, ?_, ht.same (by rw [o (by decide)]) (o (by decide)) (o (by decide))⟩
  · simp at hk; rw [o (by omega)]
  · exact hm.of (by rw [o (by decide)]) (by rw [o (by decide)]) (by rw [o (by decide)]) (by rw [o (by decide)]) (fun j _ => by rw [o (by decide)]) (fun j _ => by rw [o (by decide)]) (fun j _ => by rw [o (by decide)]) (fun j _ => by rw [o (by decide)]) (fun j _ => by rw [o (by decide)]) a12 a10
  · exact hl.more (B := mfr0 B e nu ln se) (by rw [mfr0_1, hl.1]) (fun K hK => mfr0_2o B e nu ln se (by rw [hl.1]; exact hK)) (mfr0_o B e nu ln se (by decide)) hw (ufr_le G f0 hln)
theorem X_wrO (hb : Rbx (N + 1) x y z) (hs : Rsx B e' x y) (hm : Rms B e' (x 2) (x 7) (x 8) (x 9) (x 10) (z 0) (z 1)) (hl : Rln B e' (x 6) Q F) (ht : Rsto B e' (x 11) (z 2) (z 3)) (he : e ≤ 1) (he' : e' ≤ 1) (hne : e' ≠ e) (hn : B 1 e < 40) {nu ln se : Nat} (hln : ln ≤ 272) :
    Rex (mfrm B e nu ln se) e' (N + 1) x y z Q F := by
  have hw := mfrm_Fw (A := B) (ed := e) (nu := nu) (se := se) hln (fun _ _ => rfl) (fun _ => 0)
  obtain ⟨a1, a2, a3, a4, a5, a6, a7, a8, a9, a10, a11, a12, a13, a14, a15, a16, a17⟩ := hb
  have o : ∀ {j : Nat}, j ≠ 1 ∧ j ≠ 2 ∧ j ≠ 3 ∧ j ≠ 24 → mfrm B e nu ln se j = B j := fun h => mfrm_o B e nu ln se h
  refine ⟨⟨a1, a2, a3, a4, a5, a6, a7, a8, a9, a10, a11, a12, a13, a14, a15, a16, a17⟩, hs.of (fun k hk => ?_), ?_, ?_, ht.same (by rw [o (by decide)]) (o (by decide)) (o (by decide))⟩
  · simp at hk; rw [o (by omega)]
  · exact hm.of (by rw [o (by decide)]) (by rw [o (by decide)]) (by rw [o (by decide)]) (by rw [o (by decide)]) (fun j _ => by rw [o (by decide)]) (fun j _ => by rw [o (by decide)]) (fun j _ => by rw [o (by decide)]) (fun j _ => by rw [o (by decide)]) (fun j _ => by rw [o (by decide)]) a12 a10
  · exact hl.moreO he he' hne hn a8 (mfr0_1o B nu ln se hne) (fun K hK => mfr0_2o B e nu ln se hK) (mfr0_o B e nu ln se (by decide)) hw
theorem mgu_lt (hu : ∀ i, i < 280 → B 24 i < 256) {nu ln : Nat} (se : Nat) (h5 : B 5 e ≤ 1) (h4 : B 4 e ≤ 1) (h7 : B 7 e < 128) (hnu : nu < 128) (hln : ln ≤ 272) : ∀ i, i < 280 → mgu B e nu ln se i < 256 := by
  have up : ∀ {g : Nat → Nat} {k c : Nat}, (∀ i, i < 280 → g i < 256) → c < 256 → ∀ i, i < 280 → va_up g k c i < 256 := by
    intro g k c hg hc i hi
    unfold va_up; split
    · exact hc
    · exact hg i hi
  have bd : ∀ {g : Nat → Nat} (k : Nat), (∀ i, i < 280 → g i < 256) → ∀ i, i < 280 → bod g se k i < 256 := by
    intro g k hg
    induction k with
    | zero => exact hg
    | succ k ih => rw [bod]; exact up ih (Nat.mod_lt _ (by decide))
  have h1 : ∀ i, i < 280 → mg1 B e nu ln i < 256 := up (up (up hu (by omega)) (by omega)) (by omega)
  have hc := cdu_lt (bod (mg1 B e nu ln) se ln) (3 + ln)
  unfold mgu
  exact up (up (bd ln h1) (Nat.mod_lt _ (by decide))) (by omega)
theorem M_wr (h : Rmd B) (hn : B 1 e < 40) (he : e ≤ 1) {nu ln : Nat} (se : Nat) (h5 : B 5 e ≤ 1) (h4 : B 4 e ≤ 1) (h7 : B 7 e < 128) (hnu : nu < 128) (hln : ln ≤ 272) : Rmd (mfrm B e nu ln se) := by
  have hw := mfrm_Fw (A := B) (ed := e) (nu := nu) (se := se) hln (fun _ _ => rfl) (fun _ => 0)
  have hq := ufr_le (mgu B e nu ln se) (fun _ => 0) hln
  obtain ⟨w1, w2, w3, w4, w5⟩ := hw
  refine ⟨fun i hi => ?_, fun j hj => ?_, fun i hi => ?_⟩
  · rw [w1 24 (by decide) (by decide), mfr0_24]; exact mgu_lt h.1 se h5 h4 h7 hnu hln i hi
  · by_cases c : j = 40 * e + B 1 e
    · rw [c, w4]; exact hq
    · rw [w2 j c, mfr0_2o B e nu ln se c]; exact h.2.1 j hj
  · rw [mfrm_o B e nu ln se (by decide)]; exact h.2.2 i hi
end
section
variable {A B : md_S} {e e' N : Nat} {x : Nat → Nat} {y : Nat → Bool} {z : Nat → Nat → Nat} {Q : Nat → Nat} {F : Nat → Nat → Int64}
/-! ===== what is sent ===== -/
theorem X_again (h : Rex A e N x y z Q F) (h0 : 0 < x 9) : Rbx (N + 1) (va_up x 9 (x 9 - 1)) y z ∧ Rsx (md_u A 16 e (A 16 e + 1)) e (va_up x 9 (x 9 - 1)) y ∧ Rms (md_u A 16 e (A 16 e + 1)) e (x 2) (x 7) (x 8) (x 9 - 1) (x 10) (z 0) (z 1) ∧ Rln (md_u A 16 e (A 16 e + 1)) e (x 6) Q F ∧ Rsto (md_u A 16 e (A 16 e + 1)) e (x 11) (z 2) (z 3) := by
  obtain ⟨hb, hs, hm, hl, ht⟩ := h
  obtain ⟨a1, a2, a3, a4, a5, a6, a7, a8, a9, a10, a11, a12, a13, a14, a15, a16, a17⟩ := hb.more
  exact ⟨⟨a1, a2, a3, a4, a5, a6, a7, a8, a9, a10, show x 9 - 1 ≤ x 8 by omega, a12, a13, a14, a15, a16, a17⟩, hs, hm.again h0 a11, hl.same rfl rfl rfl, ht.same rfl rfl rfl⟩
theorem X_againO (h : Rex A e' N x y z Q F) (hne : e' ≠ e) (c : Nat) : Rex (md_u A 16 e c) e' (N + 1) x y z Q F := by
  have hb := h.1
  refine h.far (fun k hk => ?_) (h.2.2.1.of rfl rfl rfl (by simp [md_u, va_up, hne]) (fun j hj => rfl) (fun j hj => rfl) (fun j hj => rfl) (fun j hj => rfl) (fun j hj => rfl) hb.2.2.2.2.2.2.2.2.2.2.2.1 hb.2.2.2.2.2.2.2.2.2.1) (h.2.2.2.1.same rfl rfl rfl) (h.2.2.2.2.same rfl rfl rfl)
  simp at hk; rcases hk with rfl | rfl | rfl | rfl | rfl | rfl | rfl | rfl <;> rfl
theorem ms1_o (A : md_S) (e : Nat) {j : Nat} (h : j ∉ [6, 9, 10, 11, 12, 13, 14, 15, 16]) : ms1 A e j = A j := by
  simp at h
  unfold ms1
  simp [md_u, va_up, h]
theorem X_first (h : Rex A e N x y z Q F) (h9 : x 9 = 0) (h0 : 0 < x 10) (hu : x 8 < 127) : Rbx (N + 1) (va_up (va_up (va_up x 2 ((x 2 + 1) % 128)) 8 (x 8 + 1)) 10 (x 10 - 1)) y z ∧ Rsx (ms1 A e) e (va_up (va_up (va_up x 2 ((x 2 + 1) % 128)) 8 (x 8 + 1)) 10 (x 10 - 1)) y ∧ Rms (ms1 A e) e ((x 2 + 1) % 128) (x 7) (x 8 + 1) (x 9) (x 10 - 1) (z 0) (z 1) ∧ Rln (ms1 A e) e (x 6) Q F ∧ Rsto (ms1 A e) e (x 11) (z 2) (z 3) := by
  obtain ⟨hb, hs, hm, hl, ht⟩ := h
  obtain ⟨a1, a2, a3, a4, a5, a6, a7, a8, a9, a10, a11, a12, a13, a14, a15, a16, a17⟩ := hb.more
  have o : ∀ {j : Nat}, j ∉ [6, 9, 10, 11, 12, 13, 14, 15, 16] → ms1 A e j = A j := fun h => ms1_o A e h
  obtain ⟨c1, c2, c3, c4, c5, c6, c7, c8, c9⟩ := hs
  refine ⟨⟨a1, a2, Nat.mod_lt _ (by decide), a4, a5, a6, a7, a8, a9, show x 8 + 1 ≤ 127 by omega, show x 9 ≤ x 8 + 1 by omega, show x 10 - 1 ≤ 60 by omega, a13, a14, a15, a16, a17⟩, ⟨?_, ?_, ?_, ?_, ?_, ?_, ?_, ?_, ?_⟩, ?_, hl.same (by rw [o (by decide)]) (o (by decide)) (o (by decide)), ht.same (by rw [o (by decide)]) (o (by decide)) (o (by decide))⟩
  · rw [o (by decide)]; exact c1
  · rw [o (by decide)]; exact c2
  · show ms1 A e 6 e = (x 2 + 1) % 128
    rw [← c3]; unfold ms1; simp [md_u, va_up]
  · rw [o (by decide)]; exact c4
  · rw [o (by decide)]; exact c5
  · rw [o (by decide)]; exact c6
  · rw [o (by decide)]; exact c7
  · rw [o (by decide)]; exact c8
  · rw [o (by decide)]; exact c9
  · rw [h9] at hm ⊢
    exact hm.first c3 a3 hu h0
theorem shfO (g : Nat → Nat) {e e' n j : Nat} (he : e ≤ 1) (he' : e' ≤ 1) (hne : e' ≠ e) (hn : n ≤ 60) (hj : j < 60) : shf g (60 * e) (n - 1) (60 * e' + j) = g (60 * e' + j) := by
  unfold shf; rw [if_neg (by omega)]
theorem X_firstO (h : Rex A e' N x y z Q F) (he : e ≤ 1) (he' : e' ≤ 1) (hne : e' ≠ e) (h9 : A 9 e ≤ 60) (h12 : A 12 e < 127) : Rex (ms1 A e) e' (N + 1) x y z Q F := by
  have hb := h.1
  have o : ∀ {j : Nat}, j ∉ [6, 9, 10, 11, 12, 13, 14, 15, 16] → ms1 A e j = A j := fun h => ms1_o A e h
  have hi : ∀ j, j < 127 → 127 * e' + j ≠ 127 * e + A 12 e := fun j hj => by omega
  refine h.far (fun k hk => ?_) (h.2.2.1.of (by rw [o (by decide)]) (by unfold ms1; simp [md_u, va_up, hne]) (by unfold ms1; simp [md_u, va_up, hne]) (by unfold ms1; simp [md_u, va_up, hne]) (fun j hj => ?_) (fun j hj => ?_) (fun j hj => ?_) (fun j hj => ?_) (fun j hj => ?_) hb.2.2.2.2.2.2.2.2.2.2.2.1 hb.2.2.2.2.2.2.2.2.2.1) (h.2.2.2.1.same (by rw [o (by decide)]) (o (by decide)) (o (by decide))) (h.2.2.2.2.same (by rw [o (by decide)]) (o (by decide)) (o (by decide)))
  · simp at hk
    rcases hk with rfl | rfl | rfl | rfl | rfl | rfl | rfl | rfl
    · rw [o (by decide)]
    · rw [o (by decide)]
    · unfold ms1; simp [md_u, va_up, hne]
    · rw [o (by decide)]
    · rw [o (by decide)]
    · rw [o (by decide)]
    · rw [o (by decide)]
    · rw [o (by decide)]
  · have := shfO (A 10) he he' hne h9 hj
    unfold ms1; simp [md_u, va_up]; exact this
  · have := shfO (A 11) he he' hne h9 hj
    unfold ms1; simp [md_u, va_up]; exact this
  · unfold ms1; simp [md_u, va_up, hi j hj]
  · unfold ms1; simp [md_u, va_up, hi j hj]
  · unfold ms1; simp [md_u, va_up, hi j hj]
theorem M_first (h : Rmd A) (e : Nat) : Rmd (ms1 A e) := by
  refine ⟨fun i hi => ?_, fun j hj => ?_, fun i hi => ?_⟩
  · rw [ms1_o A e (by decide)]; exact h.1 i hi
  · rw [ms1_o A e (by decide)]; exact h.2.1 j hj
  · unfold ms1; simp [md_u, va_up]
    split
    · exact Nat.mod_lt _ (by decide)
    · exact h.2.2 i hi
theorem M_again (h : Rmd A) (e c : Nat) : Rmd (md_u A 16 e c) := h
/-! ===== flip, drop ===== -/
theorem X_flip (h : Rex A e N x y z Q F) {fx i : Nat} (hf : fx < x 6) (hi : i < Q fx) : Rex (md_u A 3 (3000 * (40 * e + fx) + i) (1 - A 3 (3000 * (40 * e + fx) + i))) e (N + 1) x y z Q (va_up F fx (ft (F fx) i)) := ⟨h.1.more, h.2.1, h.2.2.1, h.2.2.2.1.flip hf hi, h.2.2.2.2⟩
theorem X_flipO (h : Rex A e' N x y z Q F) {x2 : Nat → Nat} {Q2 : Nat → Nat} {F2 : Nat → Nat → Int64} (h2 : Rln A e (x2 6) Q2 F2) (he : e ≤ 1) (he' : e' ≤ 1) (hne : e' ≠ e) (hn : x2 6 ≤ 40) {fx i : Nat} (hf : fx < x2 6) (hi : i < Q2 fx) (c : Nat) : Rex (md_u A 3 (3000 * (40 * e + fx) + i) c) e' (N + 1) x y z Q F := ⟨h.1.more, h.2.1, h.2.2.1, h.2.2.2.1.flipO h2 he he' hne hn h.1.2.2.2.2.2.2.2.1 hf hi, h.2.2.2.2⟩
def Adrop (A : md_S) (e fx : Nat) : md_S := md_u (va_up (va_up A 2 (shf (A 2) (40 * e + fx) (A 1 e - 1 - fx))) 3 (mgo (A 2) (A 3) (40 * e + fx) (A 1 e - 1 - fx))) 1 e (A 1 e - 1)
theorem X_drop (h : Rex A e N x y z Q F) {fx : Nat} (hf : fx < x 6) : Rex (Adrop A e fx) e (N + 1) (va_up x 6 (x 6 - 1)) y z (ysh Q fx (x 6)) (ysh F fx (x 6)) := by
  obtain ⟨hb, hs, hm, hl, ht⟩ := h
  obtain ⟨a1, a2, a3, a4, a5, a6, a7, a8, a9, a10, a11, a12, a13, a14, a15, a16, a17⟩ := hb.more
  refine ⟨⟨a1, a2, a3, a4, a5, a6, a7, show x 6 - 1 ≤ 40 by omega, a9, a10, a11, a12, a13, a14, a15, a16, a17⟩, hs, hm, ?_, ht⟩
  have e1 := hl.1
  refine hl.go hf ?_ ?_ ?_
  · unfold Adrop; rw [md_u, va_up_self, va_up_self, e1]
  · unfold Adrop; rw [← e1]; rfl
  · unfold Adrop; rw [← e1]; rfl
theorem X_dropO (h : Rex A e' N x y z Q F) {x2 : Nat → Nat} {Q2 : Nat → Nat} {F2 : Nat → Nat → Int64} (h2 : Rln A e (x2 6) Q2 F2) (he : e ≤ 1) (he' : e' ≤ 1) (hne : e' ≠ e) (hn : x2 6 ≤ 40) {fx : Nat} (hf : fx < x2 6) : Rex (Adrop A e fx) e' (N + 1) x y z Q F := by
  have e1 := h2.1
  refine ⟨h.1.more, h.2.1, h.2.2.1, h.2.2.2.1.goO h2 he he' hne hn h.1.2.2.2.2.2.2.2.1 hf ?_ ?_ ?_, h.2.2.2.2⟩
  · unfold Adrop; rw [md_u, va_up_self, va_up_ne _ _ hne]; rfl
  · unfold Adrop; rw [← e1]; rfl
  · unfold Adrop; rw [← e1]; rfl
theorem M_drop (h : Rmd A) (he : e ≤ 1) {fx : Nat} (h1 : A 1 e ≤ 40) : Rmd (Adrop A e fx) := by
  refine ⟨h.1, fun j hj => ?_, h.2.2⟩
  show shf (A 2) (40 * e + fx) (A 1 e - 1 - fx) j ≤ 3000
  unfold shf; split
  · exact h.2.1 _ (by omega)
  · exact h.2.1 j hj
/-! ===== bits ===== -/
theorem X_fresh (h : Rex A e N x y z Q F) (hn : x 6 < 40) (wv : Int64) {nb : Nat} (hnb : nb ≤ 64) (f0 : Nat → Int64) : Rex (mbts (mopen A e) e wv nb) e (N + 1) (va_up x 6 (x 6 + 1)) y z (va_up Q (x 6) (0 + nb)) (va_up F (x 6) (bts f0 0 wv nb)) := by
  obtain ⟨hb, hs, hm, hl, ht⟩ := h
  obtain ⟨a1, a2, a3, a4, a5, a6, a7, a8, a9, a10, a11, a12, a13, a14, a15, a16, a17⟩ := hb.more
  have e1 := hl.1
  have o : ∀ {j : Nat}, j ≠ 1 ∧ j ≠ 2 ∧ j ≠ 3 → mbts (mopen A e) e wv nb j = A j := fun {j} h => by
    rw [mbts_o _ _ _ _ h.2.1 h.2.2]; unfold mopen; simp [md_u, va_up, h]
  have b1 : mopen A e 1 e = x 6 + 1 := by rw [mopen_1, e1]
  have hw := (Fw.rf (mopen A e) f0 (mopen_2 A e)).bits (ed := e) (by rw [mopen_1]; omega) wv nb (by omega)
  rw [e1] at hw
  refine ⟨⟨a1, a2, a3, a4, a5, a6, a7, show x 6 + 1 ≤ 40 by omega, a9, a10, a11, a12, a13, a14, a15, a16, a17⟩, hs.of (fun k hk => ?_), ?_, hl.more b1 (fun K hK => by unfold mopen; simp [md_u, va_up, e1, hK]) (by unfold mopen; simp [md_u, va_up]) hw (by omega), ht.same (by rw [o (by decide)]) (o (by decide)) (o (by decide))⟩
  · simp at hk; rw [o (by omega)]
  · exact hm.of (by rw [o (by decide)]) (by rw [o (by decide)]) (by rw [o (by decide)]) (by rw [o (by decide)]) (fun j _ => by rw [o (by decide)]) (fun j _ => by rw [o (by decide)]) (fun j _ => by rw [o (by decide)]) (fun j _ => by rw [o (by decide)]) (fun j _ => by rw [o (by decide)]) a12 a10
theorem X_freshO (h : Rex A e' N x y z Q F) (he : e ≤ 1) (he' : e' ≤ 1) (hne : e' ≠ e) (hn : A 1 e < 40) (wv : Int64) {nb : Nat} (hnb : nb ≤ 64) : Rex (mbts (mopen A e) e wv nb) e' (N + 1) x y z Q F := by
  obtain ⟨hb, hs, hm, hl, ht⟩ := h
  have hb2 := hb.more
  obtain ⟨a1, a2, a3, a4, a5, a6, a7, a8, a9, a10, a11, a12, a13, a14, a15, a16, a17⟩ := hb
  have o : ∀ {j : Nat}, j ≠ 1 ∧ j ≠ 2 ∧ j ≠ 3 → mbts (mopen A e) e wv nb j = A j := fun {j} h => by
    rw [mbts_o _ _ _ _ h.2.1 h.2.2]; unfold mopen; simp [md_u, va_up, h]
  have hw := (Fw.rf (mopen A e) (fun _ => 0) (mopen_2 A e)).bits (ed := e) (by rw [mopen_1]; omega) wv nb (by omega)
  refine ⟨hb2, hs.of (fun k hk => ?_), ?_, hl.moreO he he' hne hn a8 (by unfold mopen; simp [md_u, va_up, hne]) (fun K hK => by unfold mopen; simp [md_u, va_up, hK]) (by unfold mopen; simp [md_u, va_up]) hw, ht.same (by rw [o (by decide)]) (o (by decide)) (o (by decide))⟩
  · simp at hk; rw [o (by omega)]
  · exact hm.of (by rw [o (by decide)]) (by rw [o (by decide)]) (by rw [o (by decide)]) (by rw [o (by decide)]) (fun j _ => by rw [o (by decide)]) (fun j _ => by rw [o (by decide)]) (fun j _ => by rw [o (by decide)]) (fun j _ => by rw [o (by decide)]) (fun j _ => by rw [o (by decide)]) a12 a10
theorem M_fresh (h : Rmd A) (e : Nat) (wv : Int64) {nb : Nat} (hnb : nb ≤ 64) : Rmd (mbts (mopen A e) e wv nb) := by
  have hw := (Fw.rf (mopen A e) (fun _ => 0) (mopen_2 A e)).bits (ed := e) (by rw [mopen_1]; omega) wv nb (by omega)
  obtain ⟨w1, w2, w3, w4, w5⟩ := hw
  refine ⟨fun i hi => ?_, fun j hj => ?_, fun i hi => ?_⟩
  · rw [w1 24 (by decide) (by decide)]; exact h.1 i hi
  · by_cases c : j = 40 * e + A 1 e
    · rw [c, w4]; omega
    · rw [w2 j c]; unfold mopen; simp [md_u, va_up, c]; exact h.2.1 j hj
  · rw [w1 13 (by decide) (by decide)]; exact h.2.2 i hi
theorem Fw.of {A : md_S} {K q : Nat} {f : Nat → Int64} (h : Fr A K f q) : Fw A A K f q := ⟨fun _ _ _ => rfl, fun _ _ => rfl, fun _ _ => rfl, h.1, h.2⟩
theorem X_app (h : Rex A e N x y z Q F) (h0 : 0 < x 6) (wv : Int64) {nb : Nat} (hnb : Q (x 6 - 1) + nb ≤ 3000) : Rex (mbts A e wv nb) e (N + 1) x y z (va_up Q (x 6 - 1) (Q (x 6 - 1) + nb)) (va_up F (x 6 - 1) (bts (F (x 6 - 1)) (Q (x 6 - 1)) wv nb)) ∧ Fw A (mbts A e wv nb) (40 * e + x 6 - 1) (bts (F (x 6 - 1)) (Q (x 6 - 1)) wv nb) (Q (x 6 - 1) + nb) := by
  obtain ⟨hb, hs, hm, hl, ht⟩ := h
  have e1 := hl.1
  have hF := (hl.2 (x 6 - 1) (by omega)).1
  rw [show 40 * e + (x 6 - 1) = 40 * e + x 6 - 1 by omega] at hF
  have hw := (Fw.of hF).bits (ed := e) (by rw [e1]) wv nb hnb
  have o : ∀ {j : Nat}, j ≠ 2 ∧ j ≠ 3 → mbts A e wv nb j = A j := fun {j} h => mbts_o _ _ _ _ h.1 h.2
  refine ⟨⟨hb.more, hs.of (fun k hk => ?_), ?_, hl.last h0 hw hnb, ht.same (by rw [o (by decide)]) (o (by decide)) (o (by decide))⟩, hw⟩
  · simp at hk; rw [o (by omega)]
  · exact hm.of (by rw [o (by decide)]) (by rw [o (by decide)]) (by rw [o (by decide)]) (by rw [o (by decide)]) (fun j _ => by rw [o (by decide)]) (fun j _ => by rw [o (by decide)]) (fun j _ => by rw [o (by decide)]) (fun j _ => by rw [o (by decide)]) (fun j _ => by rw [o (by decide)]) hb.2.2.2.2.2.2.2.2.2.2.2.1 hb.2.2.2.2.2.2.2.2.2.1
theorem X_appO (h : Rex A e' N x y z Q F) (he : e ≤ 1) (he' : e' ≤ 1) (hne : e' ≠ e) {n q' : Nat} (h0 : 0 < n) (hn : n ≤ 40) {wv : Int64} {nb : Nat} {f' : Nat → Int64} (hw : Fw A (mbts A e wv nb) (40 * e + n - 1) f' q') : Rex (mbts A e wv nb) e' (N + 1) x y z Q F := by
  obtain ⟨hb, hs, hm, hl, ht⟩ := h
  have o : ∀ {j : Nat}, j ≠ 2 ∧ j ≠ 3 → mbts A e wv nb j = A j := fun {j} h => mbts_o _ _ _ _ h.1 h.2
  refine ⟨hb.more, hs.of (fun k hk => ?_), ?_, hl.lastO he he' hne h0 hn hb.2.2.2.2.2.2.2.1 hw, ht.same (by rw [o (by decide)]) (o (by decide)) (o (by decide))⟩
  · simp at hk; rw [o (by omega)]
  · exact hm.of (by rw [o (by decide)]) (by rw [o (by decide)]) (by rw [o (by decide)]) (by rw [o (by decide)]) (fun j _ => by rw [o (by decide)]) (fun j _ => by rw [o (by decide)]) (fun j _ => by rw [o (by decide)]) (fun j _ => by rw [o (by decide)]) (fun j _ => by rw [o (by decide)]) hb.2.2.2.2.2.2.2.2.2.2.2.1 hb.2.2.2.2.2.2.2.2.2.1
theorem M_app (h : Rmd A) {n q' : Nat} {wv : Int64} {nb : Nat} {f' : Nat → Int64} (hw : Fw A (mbts A e wv nb) (40 * e + n - 1) f' q') (hq : q' ≤ 3000) : Rmd (mbts A e wv nb) := by
  obtain ⟨w1, w2, w3, w4, w5⟩ := hw
  refine ⟨fun i hi => ?_, fun j hj => ?_, fun i hi => ?_⟩
  · rw [w1 24 (by decide) (by decide)]; exact h.1 i hi
  · by_cases c : j = 40 * e + n - 1
    · rw [c, w4]; exact hq
    · rw [w2 j c]; exact h.2.1 j hj
  · rw [w1 13 (by decide) (by decide)]; exact h.2.2 i hi
end
section
variable {A B : md_S} {e e' N : Nat} {x : Nat → Nat} {y : Nat → Bool} {z : Nat → Nat → Nat} {Q : Nat → Nat} {F : Nat → Nat → Int64}
/-! ===== restart ===== -/
def xres (x : Nat → Nat) : Nat → Nat := va_up (va_up (va_up (va_up (va_up (va_up (va_up (va_up (va_up (va_up x 0 1) 1 1) 2 127) 3 127) 4 0) 5 0) 6 0) 8 0) 9 0) 10 0
def yres (y : Nat → Bool) : Nat → Bool := va_up (va_up (va_up y 0 false) 1 false) 2 false
theorem bg_at (A : md_S) (e : Nat) {k : Nat} (v : Nat) (h : (k, v) ∈ [(1, 0), (4, 1), (5, 1), (6, 127), (7, 127), (8, 127), (9, 0), (12, 0), (16, 0), (17, 0), (18, 0), (19, 0), (20, 0)]) : md_bg A e k e = v := by
  simp at h
  rcases h with ⟨rfl, rfl⟩ | ⟨rfl, rfl⟩ | ⟨rfl, rfl⟩ | ⟨rfl, rfl⟩ | ⟨rfl, rfl⟩ | ⟨rfl, rfl⟩ | ⟨rfl, rfl⟩ | ⟨rfl, rfl⟩ | ⟨rfl, rfl⟩ | ⟨rfl, rfl⟩ | ⟨rfl, rfl⟩ | ⟨rfl, rfl⟩ | ⟨rfl, rfl⟩ <;> simp [md_bg, md_u, va_up]
theorem md_uo {A : md_S} {e e' : Nat} (h : e' ≠ e) (k v k' : Nat) : md_u A k e v k' e' = A k' e' := by
  unfold md_u
  by_cases c : k' = k
  · rw [c, va_up_self, va_up_ne _ _ h]
  · rw [va_up_ne _ _ c]
theorem bg_ne (A : md_S) {e e' : Nat} (h : e' ≠ e) (k : Nat) : md_bg A e k e' = A k e' := by
  unfold md_bg
  rw [md_uo h, md_uo h, md_uo h, md_uo h, md_uo h, md_uo h, md_uo h, md_uo h, md_uo h, md_uo h, md_uo h, md_uo h, md_uo h]
theorem bg_o (A : md_S) (e : Nat) {k : Nat} (h : k ∉ [1, 4, 5, 6, 7, 8, 9, 12, 16, 17, 18, 19, 20]) : md_bg A e k = A k := by
  simp at h
  unfold md_bg
  simp [md_u, va_up, h]
theorem X_res (h : Rex A e N x y z Q F) : Rex (md_bg A e) e (N + 1) (xres x) (yres y) z Q F := by
  obtain ⟨hb, hs, hm, hl, ht⟩ := h
  obtain ⟨a1, a2, a3, a4, a5, a6, a7, a8, a9, a10, a11, a12, a13, a14, a15, a16, a17⟩ := hb.more
  refine ⟨⟨show 1 ≤ 1 by decide, show 1 ≤ 1 by decide, show 127 < 128 by decide, show 127 < 128 by decide, show 0 ≤ 64 by decide, fun _ => show 0 ≤ 63 by decide, Nat.zero_le _, show 0 ≤ 40 by decide, a9, show 0 ≤ 127 by decide, show 0 ≤ 0 by decide, show 0 ≤ 60 by decide, a13, a14, a15, a16, a17⟩, ⟨?_, ?_, ?_, ?_, ?_, ?_, ?_, ?_, ?_⟩, ⟨?_, ?_, ?_, ?_, fun j hj => absurd hj (Nat.not_lt_zero _), fun j hj => absurd hj (Nat.not_lt_zero _)⟩, ⟨?_, fun k hk => absurd hk (Nat.not_lt_zero _)⟩, ht.same (by rw [bg_o A e (by decide)]) (bg_o A e (by decide)) (bg_o A e (by decide))⟩
  · exact bg_at A e 1 (by decide)
  · exact bg_at A e 1 (by decide)
  · exact bg_at A e 127 (by decide)
  · exact bg_at A e 127 (by decide)
  · exact bg_at A e 0 (by decide)
  · exact bg_at A e 0 (by decide)
  · exact bg_at A e 0 (by decide)
  · rw [bg_at A e 0 (by decide)]; rfl
  · rw [bg_at A e 0 (by decide)]; decide
  · show _ = (127 + 128 - 0) % 128
    exact bg_at A e (k := 8) 127 (by decide)
  · exact bg_at A e 0 (by decide)
  · exact bg_at A e 0 (by decide)
  · exact bg_at A e 0 (by decide)
  · exact bg_at A e 0 (by decide)
theorem X_resO (h : Rex A e' N x y z Q F) (hne : e' ≠ e) : Rex (md_bg A e) e' (N + 1) x y z Q F := by
  have hb := h.1
  refine h.far (fun k hk => bg_ne A hne k) (h.2.2.1.of (bg_ne A hne 8) (bg_ne A hne 9) (bg_ne A hne 12) (bg_ne A hne 16) (fun j hj => ?_) (fun j hj => ?_) (fun j hj => ?_) (fun j hj => ?_) (fun j hj => ?_) hb.2.2.2.2.2.2.2.2.2.2.2.1 hb.2.2.2.2.2.2.2.2.2.1) (h.2.2.2.1.same (bg_ne A hne 1) (bg_o A e (by decide)) (bg_o A e (by decide))) (h.2.2.2.2.same (by rw [bg_o A e (by decide)]) (bg_o A e (by decide)) (bg_o A e (by decide)))
  all_goals rw [bg_o A e (by decide)]
theorem M_res (h : Rmd A) (e : Nat) : Rmd (md_bg A e) := by
  unfold Rmd at *
  rw [bg_o A e (by decide), bg_o A e (by decide), bg_o A e (by decide)]
  exact h
/-! ===== take ===== -/
theorem mtk_1 (A : md_S) (e : Nat) : mtk A e 1 (1 - e) = A 1 (1 - e) - 1 := by unfold mtk; simp [md_u, va_up]
theorem mtk_1o (A : md_S) {e : Nat} (he : e ≤ 1) : mtk A e 1 e = A 1 e := by
  have h : e ≠ 1 - e := by omega
  unfold mtk; simp [md_u, va_up, h, mfA_o]
theorem mtk_2 (A : md_S) (e : Nat) : mtk A e 2 = shf (A 2) (40 * (1 - e) + 0) (A 1 (1 - e) - 1 - 0) := by unfold mtk; simp [md_u, va_up]
theorem mtk_3 (A : md_S) (e : Nat) : mtk A e 3 = mgo (A 2) (A 3) (40 * (1 - e) + 0) (A 1 (1 - e) - 1 - 0) := by unfold mtk; simp [md_u, va_up]
/-- the other end's line loses its first frame -/
theorem L_takeO {o : Nat} (hl : Rln A o (x 6) Q F) (hn : 0 < x 6) (ho : o = 1 - e) (h1 : B 1 o = mtk A e 1 o) (h2 : B 2 = mtk A e 2) (h3 : B 3 = mtk A e 3) : Rln B o (x 6 - 1) (ysh Q 0 (x 6)) (ysh F 0 (x 6)) := by
  subst ho
  have e1 := hl.1
  exact hl.go hn (by rw [h1, mtk_1, e1]) (by rw [h2, mtk_2, e1]) (by rw [h3, mtk_3, e1])
theorem L_take {x2 : Nat → Nat} {Q2 : Nat → Nat} {F2 : Nat → Nat → Int64} (hl : Rln A e (x 6) Q F) (h6 : x 6 ≤ 40) (he : e ≤ 1) (hl2 : Rln A (1 - e) (x2 6) Q2 F2) (h62 : x2 6 ≤ 40) (hn : 0 < x2 6) (h1 : B 1 e = mtk A e 1 e) (h2 : B 2 = mtk A e 2) (h3 : B 3 = mtk A e 3) : Rln B e (x 6) Q F := by
  have e1 := hl2.1
  exact hl.goO hl2 (by omega) he (by omega) h62 h6 hn (by rw [h1, mtk_1o A he]) (by rw [h2, mtk_2, e1]) (by rw [h3, mtk_3, e1])
theorem M_take (h : Rmd A) (he : e ≤ 1) (h1 : A 1 (1 - e) ≤ 40) (hb : ∀ i, i < A 2 (40 * (1 - e)) → A 3 (3000 * (40 * (1 - e)) + i) ≤ 1) : Rmd (mtk A e) := by
  refine ⟨fun i hi => ?_, fun j hj => ?_, fun i hi => ?_⟩
  · rw [mtk_24]; exact mfA_24 h.1 hb i hi
  · rw [mtk_2]; unfold shf; split
    · exact h.2.1 _ (by omega)
    · exact h.2.1 j hj
  · rw [mtk_o A e (by decide)]; exact h.2.2 i hi
end
section
variable {A B : md_S} {e o N : Nat} {x x2 : Nat → Nat} {y : Nat → Bool} {z : Nat → Nat → Nat} {Q Q2 : Nat → Nat} {F F2 : Nat → Nat → Int64}
theorem lk_le (er un : Nat) : lk er un ≤ er := by unfold lk; split <;> omega
/-- the end whose line loses a frame -/
theorem X_tkO (h : Rex A o N x y z Q F) (hn : 0 < x 6) (ho : o = 1 - e) (hs : ∀ k, k ∈ [4, 5, 6, 7, 17, 18, 19, 20] → B k o = A k o) (hm : Rms B o (x 2) (x 7) (x 8) (x 9) (x 10) (z 0) (z 1)) (ht : Rsto B o (x 11) (z 2) (z 3)) (h1 : B 1 o = mtk A e 1 o) (h2 : B 2 = mtk A e 2) (h3 : B 3 = mtk A e 3) :
    Rex B o (N + 1) (va_up x 6 (x 6 - 1)) y z (ysh Q 0 (x 6)) (ysh F 0 (x 6)) := by
  obtain ⟨hb, hs0, _, hl, _⟩ := h
  obtain ⟨a1, a2, a3, a4, a5, a6, a7, a8, a9, a10, a11, a12, a13, a14, a15, a16, a17⟩ := hb.more
  exact ⟨⟨a1, a2, a3, a4, a5, a6, a7, show x 6 - 1 ≤ 40 by omega, a9, a10, a11, a12, a13, a14, a15, a16, a17⟩, hs0.of hs, hm, L_takeO hl hn ho h1 h2 h3, ht⟩
/-! a fault -/
def Aft (A : md_S) (e : Nat) : md_S := md_u (md_u (md_u (mtk A e) 18 e (A 18 e + 1)) 17 e (lk (A 17 e) (A 18 e) + 1)) 20 e (b2n (decide (64 ≤ lk (A 17 e) (A 18 e) + 1)))
theorem mk_o (A : md_S) (e : Nat) {j : Nat} (h : j ∉ [1, 2, 3, 24, 26]) : mtk A e j = A j := mtk_o A e h
theorem X_tkF (h : Rex A e N x y z Q F) (he : e ≤ 1) (hl2 : Rln A (1 - e) (x2 6) Q2 F2) (h62 : x2 6 ≤ 40) (hn : 0 < x2 6) (hf : y 0 = false) :
    Rex (Aft A e) e (N + 1) (va_up (va_up x 4 (lk (x 4) (x 5) + 1)) 5 (x 5 + 1)) (va_up y 0 (decide (64 ≤ lk (x 4) (x 5) + 1))) z Q F := by
  obtain ⟨hb, hs, hm, hl, ht⟩ := h
  have hb0 := hb
  obtain ⟨a1, a2, a3, a4, a5, a6, a7, a8, a9, a10, a11, a12, a13, a14, a15, a16, a17⟩ := hb
  obtain ⟨c1, c2, c3, c4, c5, c6, c7, c8, c9⟩ := hs
  have hlk := lk_le (x 4) (x 5)
  have h63 := a6 hf
  have q : ∀ {j : Nat}, j ∉ [1, 2, 3, 17, 18, 20, 24, 26] → Aft A e j = A j := fun {j} h => by
    simp at h
    have := mtk_o A e (j := j) (by simp; omega)
    unfold Aft; simp [md_u, va_up, h, this]
  refine ⟨⟨a1, a2, a3, a4, show lk (x 4) (x 5) + 1 ≤ 64 by omega, fun h9 => ?_, show x 5 + 1 ≤ N + 1 by omega, a8, a9, a10, a11, a12, show x 11 ≤ N + 1 by omega, a14, a15, a16, a17⟩, ⟨?_, ?_, ?_, ?_, ?_, ?_, ?_, ?_, ?_⟩, ?_, ?_, ?_⟩
  · have h9 : decide (64 ≤ lk (x 4) (x 5) + 1) = false := h9
    have := of_decide_eq_false h9
    show lk (x 4) (x 5) + 1 ≤ 63
    omega
  · rw [q (by decide)]; exact c1
  · rw [q (by decide)]; exact c2
  · rw [q (by decide)]; exact c3
  · rw [q (by decide)]; exact c4
  · show Aft A e 17 e = lk (x 4) (x 5) + 1
    rw [← c5, ← c6]; unfold Aft; simp [md_u, va_up]
  · show Aft A e 18 e = x 5 + 1
    rw [← c6]; unfold Aft; simp [md_u, va_up]
  · show Aft A e 20 e = b2n (decide (64 ≤ lk (x 4) (x 5) + 1))
    rw [← c5, ← c6]; unfold Aft; simp [md_u, va_up]
  · rw [q (by decide)]; exact c8
  · rw [q (by decide)]; exact c9
  · exact hm.of (by rw [q (by decide)]) (by rw [q (by decide)]) (by rw [q (by decide)]) (by rw [q (by decide)]) (fun j _ => by rw [q (by decide)]) (fun j _ => by rw [q (by decide)]) (fun j _ => by rw [q (by decide)]) (fun j _ => by rw [q (by decide)]) (fun j _ => by rw [q (by decide)]) a12 a10
  · exact L_take hl a8 he hl2 h62 hn (by unfold Aft; simp [md_u, va_up]) (by unfold Aft; simp [md_u, va_up]) (by unfold Aft; simp [md_u, va_up])
  · exact ht.same (by rw [q (by decide)]) (q (by decide)) (q (by decide))
theorem X_tkFO (h : Rex A o N x y z Q F) (he : e ≤ 1) (hn : 0 < x 6) (ho : o = 1 - e) : Rex (Aft A e) o (N + 1) (va_up x 6 (x 6 - 1)) y z (ysh Q 0 (x 6)) (ysh F 0 (x 6)) := by
  have hne : o ≠ e := by omega
  have hb := h.1
  have q : ∀ {j : Nat}, j ∉ [1, 2, 3, 17, 18, 20, 24, 26] → Aft A e j = A j := fun {j} h => by
    simp at h
    have := mtk_o A e (j := j) (by simp; omega)
    unfold Aft; simp [md_u, va_up, h, this]
  have r : ∀ j, Aft A e j o = mtk A e j o := fun j => by unfold Aft; rw [md_uo hne, md_uo hne, md_uo hne]
  refine X_tkO h hn ho (fun k hk => ?_) (h.2.2.1.of (by rw [q (by decide)]) (by rw [q (by decide)]) (by rw [q (by decide)]) (by rw [q (by decide)]) (fun j _ => by rw [q (by decide)]) (fun j _ => by rw [q (by decide)]) (fun j _ => by rw [q (by decide)]) (fun j _ => by rw [q (by decide)]) (fun j _ => by rw [q (by decide)]) hb.2.2.2.2.2.2.2.2.2.2.2.1 hb.2.2.2.2.2.2.2.2.2.1) (h.2.2.2.2.same (by rw [q (by decide)]) (q (by decide)) (q (by decide))) (r 1) (by unfold Aft; simp [md_u, va_up]) (by unfold Aft; simp [md_u, va_up])
  rw [r, mtk_o A e (by simp at hk ⊢; omega)]
theorem M_tkF (h : Rmd (mtk A e)) : Rmd (Aft A e) := h
/-! an abnormal unit -/
def Aab (A : md_S) (e : Nat) : md_S := md_u (md_u (md_u (md_u (mtk A e) 18 e (A 18 e + 1)) 17 e (lk (A 17 e) (A 18 e))) 19 e (A 19 e * 2 % 8 + 1)) 20 e (b2n (decide (A 19 e * 2 % 8 + 1 ≠ 1)))
theorem ab_eq {a : Nat} {p q : Bool} (h : a % 4 = b2n p + 2 * b2n q) : decide (a * 2 % 8 + 1 ≠ 1) = (p || q) := by
  cases p <;> cases q <;> simp [b2n] at h ⊢ <;> omega
theorem X_tkA (h : Rex A e N x y z Q F) (he : e ≤ 1) (hl2 : Rln A (1 - e) (x2 6) Q2 F2) (h62 : x2 6 ≤ 40) (hn : 0 < x2 6) (hf : y 0 = false) :
    Rex (Aab A e) e (N + 1) (va_up (va_up x 4 (lk (x 4) (x 5))) 5 (x 5 + 1)) (va_up (va_up (va_up y 0 (y 1 || y 2)) 1 true) 2 (y 1)) z Q F := by
  obtain ⟨hb, hs, hm, hl, ht⟩ := h
  obtain ⟨a1, a2, a3, a4, a5, a6, a7, a8, a9, a10, a11, a12, a13, a14, a15, a16, a17⟩ := hb
  obtain ⟨c1, c2, c3, c4, c5, c6, c7, c8, c9⟩ := hs
  have hlk := lk_le (x 4) (x 5)
  have h63 := a6 hf
  have q : ∀ {j : Nat}, j ∉ [1, 2, 3, 17, 18, 19, 20, 24, 26] → Aab A e j = A j := fun {j} h => by
    simp at h
    have := mtk_o A e (j := j) (by simp; omega)
    unfold Aab; simp [md_u, va_up, h, this]
  have q19 : Aab A e 19 e = A 19 e * 2 % 8 + 1 := by unfold Aab; simp [md_u, va_up]
  refine ⟨⟨a1, a2, a3, a4, show lk (x 4) (x 5) ≤ 64 by omega, fun _ => show lk (x 4) (x 5) ≤ 63 by omega, show x 5 + 1 ≤ N + 1 by omega, a8, a9, a10, a11, a12, show x 11 ≤ N + 1 by omega, a14, a15, a16, a17⟩, ⟨?_, ?_, ?_, ?_, ?_, ?_, ?_, ?_, ?_⟩, ?_, ?_, ?_⟩
  · rw [q (by decide)]; exact c1
  · rw [q (by decide)]; exact c2
  · rw [q (by decide)]; exact c3
  · rw [q (by decide)]; exact c4
  · show Aab A e 17 e = lk (x 4) (x 5)
    rw [← c5, ← c6]; unfold Aab; simp [md_u, va_up]
  · show Aab A e 18 e = x 5 + 1
    rw [← c6]; unfold Aab; simp [md_u, va_up]
  · show Aab A e 20 e = b2n (y 1 || y 2)
    rw [← ab_eq c8]; unfold Aab; simp only [md_u, va_up_self]
  · show Aab A e 19 e % 4 = b2n true + 2 * b2n (y 1)
    rw [q19]
    have h2 : b2n true = 1 := rfl
    have h3 := b2n_le (y 1)
    have h4 := b2n_le (y 2)
    omega
  · rw [q19]; omega
  · exact hm.of (by rw [q (by decide)]) (by rw [q (by decide)]) (by rw [q (by decide)]) (by rw [q (by decide)]) (fun j _ => by rw [q (by decide)]) (fun j _ => by rw [q (by decide)]) (fun j _ => by rw [q (by decide)]) (fun j _ => by rw [q (by decide)]) (fun j _ => by rw [q (by decide)]) a12 a10
  · exact L_take hl a8 he hl2 h62 hn (by unfold Aab; simp [md_u, va_up]) (by unfold Aab; simp [md_u, va_up]) (by unfold Aab; simp [md_u, va_up])
  · exact ht.same (by rw [q (by decide)]) (q (by decide)) (q (by decide))
theorem X_tkAO (h : Rex A o N x y z Q F) (he : e ≤ 1) (hn : 0 < x 6) (ho : o = 1 - e) : Rex (Aab A e) o (N + 1) (va_up x 6 (x 6 - 1)) y z (ysh Q 0 (x 6)) (ysh F 0 (x 6)) := by
  have hne : o ≠ e := by omega
  have hb := h.1
  have q : ∀ {j : Nat}, j ∉ [1, 2, 3, 17, 18, 19, 20, 24, 26] → Aab A e j = A j := fun {j} h => by
    simp at h
    have := mtk_o A e (j := j) (by simp; omega)
    unfold Aab; simp [md_u, va_up, h, this]
  have r : ∀ j, Aab A e j o = mtk A e j o := fun j => by unfold Aab; rw [md_uo hne, md_uo hne, md_uo hne, md_uo hne]
  refine X_tkO h hn ho (fun k hk => ?_) (h.2.2.1.of (by rw [q (by decide)]) (by rw [q (by decide)]) (by rw [q (by decide)]) (by rw [q (by decide)]) (fun j _ => by rw [q (by decide)]) (fun j _ => by rw [q (by decide)]) (fun j _ => by rw [q (by decide)]) (fun j _ => by rw [q (by decide)]) (fun j _ => by rw [q (by decide)]) hb.2.2.2.2.2.2.2.2.2.2.2.1 hb.2.2.2.2.2.2.2.2.2.1) (h.2.2.2.2.same (by rw [q (by decide)]) (q (by decide)) (q (by decide))) (r 1) (by unfold Aab; simp [md_u, va_up]) (by unfold Aab; simp [md_u, va_up])
  rw [r, mtk_o A e (by simp at hk ⊢; omega)]
theorem M_tkA (h : Rmd (mtk A e)) : Rmd (Aab A e) := h
end
theorem md_uo2 {A : md_S} {e k k' : Nat} (h : k' ≠ k) {v e' : Nat} : md_u A k e v k' e' = A k' e' := by unfold md_u; rw [va_up_ne _ _ h]
section
variable {A B : md_S} {e o N : Nat} {x x2 : Nat → Nat} {y : Nat → Bool} {z : Nat → Nat → Nat} {Q Q2 : Nat → Nat} {F F2 : Nat → Nat → Int64}
/-! ===== a unit that is taken ===== -/
theorem mt2_17 (A : md_S) (e t : Nat) : mt2 A e t 17 e = lk (A 17 e) (A 18 e) := by unfold mt2; simp [md_u, va_up]
theorem mt2_18 (A : md_S) (e t : Nat) : mt2 A e t 18 e = A 18 e + 1 := by unfold mt2; simp [md_u, va_up]
theorem mt2_19 (A : md_S) (e t : Nat) : mt2 A e t 19 e = A 19 e * 2 % 8 := by unfold mt2; simp [md_u, va_up]
theorem mto_4 (A : md_S) (e t : Nat) : mto A e t 4 e = if mtk A e 24 0 / 128 = A 4 e then A 4 e else 1 - A 4 e := by
  unfold mto; split
  · rw [mt2_o A e t (by decide)]
  · rw [md_u, va_up_ne _ _ (by decide), md_u, va_up_self, va_up_self]
theorem mto_m (A : md_S) (e t : Nat) {j : Nat} (h : j ∉ [1, 2, 3, 4, 8, 12, 13, 14, 15, 16, 17, 18, 19, 24, 26]) : mto A e t j = A j := by
  simp at h
  rw [mto_o A e t (by omega) (by omega), mt2_o A e t (by simp; omega)]
theorem mto_t (A : md_S) (e t : Nat) {j : Nat} (h : j ∈ [1, 2, 3, 24, 26]) : mto A e t j = mtk A e j := by
  simp at h
  rw [mto_o A e t (by omega) (by omega)]
  unfold mt2
  rcases h with rfl | rfl | rfl | rfl | rfl <;> simp [md_u, va_up]
def xok (x : Nat → Nat) (g0 t : Nat) : Nat → Nat := va_up (va_up (va_up (va_up (va_up (va_up x 4 (lk (x 4) (x 5))) 5 (x 5 + 1)) 7 ((x 7 + t) % 187)) 8 (x 8 - t)) 9 (if g0 / 128 = x 0 then min (x 9) (x 8 - t) else x 8 - t)) 0 (if g0 / 128 = x 0 then x 0 else 1 - x 0)
def yok (y : Nat → Bool) : Nat → Bool := va_up (va_up (va_up y 0 false) 1 false) 2 (y 1)
theorem X_tkB (h : Rex A e N x y z Q F) (he : e ≤ 1) (hl2 : Rln A (1 - e) (x2 6) Q2 F2) (h62 : x2 6 ≤ 40) (hn : 0 < x2 6) (hf : y 0 = false) {g0 t : Nat} (hg : g0 = mtk A e 24 0) (ht : t = (g0 % 128 + x 8 + 128 - x 2) % 128) (htm : t ≤ x 8) :
    Rex (mto A e t) e (N + 1) (xok x g0 t) (yok y) z Q F := by
  subst hg
  obtain ⟨hb, hs, hm, hl, hst⟩ := h
  obtain ⟨a1, a2, a3, a4, a5, a6, a7, a8, a9, a10, a11, a12, a13, a14, a15, a16, a17⟩ := hb
  have hs0 := hs
  obtain ⟨c1, c2, c3, c4, c5, c6, c7, c8, c9⟩ := hs
  have hlk := lk_le (x 4) (x 5)
  have h63 := a6 hf
  have q : ∀ {j : Nat}, j ∉ [1, 2, 3, 4, 8, 12, 13, 14, 15, 16, 17, 18, 19, 24, 26] → mto A e t j = A j := fun h => mto_m A e t h
  have p : ∀ {j : Nat}, j ≠ 4 → j ≠ 16 → mto A e t j = mt2 A e t j := fun h1 h2 => mto_o A e t h1 h2
  have hm2 := hm.told a3 a10 a11 ht htm
  rw [c1] at hm2
  refine ⟨⟨?_, a2, a3, a4, show lk (x 4) (x 5) ≤ 64 by omega, fun _ => show lk (x 4) (x 5) ≤ 63 by omega, show x 5 + 1 ≤ N + 1 by omega, a8, show (x 7 + t) % 187 < 187 from Nat.mod_lt _ (by decide), show x 8 - t ≤ 127 by omega, ?_, a12, show x 11 ≤ N + 1 by omega, a14, a15, a16, a17⟩, ⟨?_, ?_, ?_, ?_, ?_, ?_, ?_, ?_, ?_⟩, hm2, ?_, ?_⟩
  · show (if mtk A e 24 0 / 128 = x 0 then x 0 else 1 - x 0) ≤ 1
    split <;> omega
  · show (if mtk A e 24 0 / 128 = x 0 then min (x 9) (x 8 - t) else x 8 - t) ≤ x 8 - t
    split <;> omega
  · show mto A e t 4 e = if mtk A e 24 0 / 128 = x 0 then x 0 else 1 - x 0
    rw [mto_4, c1]
  · rw [q (by decide)]; exact c2
  · rw [q (by decide)]; exact c3
  · rw [q (by decide)]; exact c4
  · show mto A e t 17 e = lk (x 4) (x 5)
    rw [p (by decide) (by decide), mt2_17, c5, c6]
  · show mto A e t 18 e = x 5 + 1
    rw [p (by decide) (by decide), mt2_18, c6]
  · show mto A e t 20 e = b2n false
    rw [q (by decide), c7, hf]
  · show mto A e t 19 e % 4 = b2n false + 2 * b2n (y 1)
    rw [p (by decide) (by decide), mt2_19]
    have h2 : b2n false = 0 := rfl
    have h3 := b2n_le (y 1)
    have h4 := b2n_le (y 2)
    omega
  · rw [p (by decide) (by decide), mt2_19]; omega
  · exact L_take hl a8 he hl2 h62 hn (by rw [mto_t A e t (by decide)]) (mto_t A e t (by decide)) (mto_t A e t (by decide))
  · exact hst.same (by rw [q (by decide)]) (q (by decide)) (q (by decide))
theorem shtO (g : Nat → Nat) {e o t n j : Nat} (he : e ≤ 1) (ho : o ≤ 1) (hne : o ≠ e) (hn : n ≤ 127) (hj : j < 127) : sht g (127 * e) t (n - t) (127 * o + j) = g (127 * o + j) := by
  unfold sht; rw [if_neg (by omega)]
theorem mt2_far (A : md_S) {e o : Nat} (t : Nat) (hne : o ≠ e) {j : Nat} (h : j ∉ [1, 2, 3, 13, 14, 15, 24, 26]) : mt2 A e t j o = A j o := by
  simp at h
  have hk := mtk_o A e (j := j) (by simp; omega)
  unfold mt2
  rw [md_uo hne, md_uo hne, md_uo hne, va_up_ne _ _ (by omega), va_up_ne _ _ (by omega), va_up_ne _ _ (by omega), md_uo hne, md_uo hne, md_uo hne, hk]
theorem mto_far (A : md_S) {e o : Nat} (t : Nat) (hne : o ≠ e) {j : Nat} (h : j ∉ [1, 2, 3, 13, 14, 15, 24, 26]) : mto A e t j o = A j o := by
  unfold mto; split
  · exact mt2_far A t hne h
  · rw [md_uo hne, md_uo hne]; exact mt2_far A t hne h
theorem X_tkBO (h : Rex A o N x y z Q F) (he : e ≤ 1) (hn : 0 < x 6) (ho : o = 1 - e) {t : Nat} (h12 : A 12 e ≤ 127) : Rex (mto A e t) o (N + 1) (va_up x 6 (x 6 - 1)) y z (ysh Q 0 (x 6)) (ysh F 0 (x 6)) := by
  have hne : o ≠ e := by omega
  have ho1 : o ≤ 1 := by omega
  have hb := h.1
  have q : ∀ {j : Nat}, j ∉ [1, 2, 3, 4, 8, 12, 13, 14, 15, 16, 17, 18, 19, 24, 26] → mto A e t j = A j := fun h => mto_m A e t h
  have r : ∀ {j : Nat}, j ∉ [1, 2, 3, 13, 14, 15, 24, 26] → mto A e t j o = A j o := fun h => mto_far A t hne h
  have s3 : ∀ {k : Nat}, k = 13 ∨ k = 14 ∨ k = 15 → ∀ j, j < 127 → mto A e t k (127 * o + j) = A k (127 * o + j) := by
    intro k hk j hj
    rw [mto_o A e t (by omega) (by omega)]
    have s1 := shtO (A 13) (t := t) he ho1 hne h12 hj
    have s2 := shtO (A 14) (t := t) he ho1 hne h12 hj
    have s4 := shtO (A 15) (t := t) he ho1 hne h12 hj
    unfold mt2
    rcases hk with rfl | rfl | rfl
    · simp [md_u, va_up]; exact s1
    · simp [md_u, va_up]; exact s2
    · simp [md_u, va_up]; exact s4
  refine X_tkO h hn ho (fun k hk => r (by simp at hk ⊢; omega)) (h.2.2.1.of (r (by decide)) (r (by decide)) (r (by decide)) (r (by decide)) (fun j _ => by rw [q (by decide)]) (fun j _ => by rw [q (by decide)]) (s3 (by decide)) (s3 (by decide)) (s3 (by decide)) hb.2.2.2.2.2.2.2.2.2.2.2.1 hb.2.2.2.2.2.2.2.2.2.1) (h.2.2.2.2.same (r (by decide)) (q (by decide)) (q (by decide))) (by rw [mto_t A e t (by decide)]) (mto_t A e t (by decide)) (mto_t A e t (by decide))
theorem M_tkB (h0 : Rmd A) (h : Rmd (mtk A e)) {t : Nat} (he : e ≤ 1) (h12 : A 12 e ≤ 127) (ht : t ≤ A 12 e) : Rmd (mto A e t) := by
  refine ⟨?_, ?_, fun i hi => ?_⟩
  · rw [mto_t A e t (by decide)]; exact h.1
  · rw [mto_t A e t (by decide)]; exact h.2.1
  · rw [mto_o A e t (by decide) (by decide)]
    have : mt2 A e t 13 i = sht (A 13) (127 * e) t (A 12 e - t) i := by unfold mt2; simp [md_u, va_up]
    rw [this]; unfold sht; split
    · exact h0.2.2 _ (by omega)
    · exact h0.2.2 i hi
/-! ===== and what comes forwards ===== -/
theorem fw0 {u : Nat} (h : B 24 1 / 128 ≠ B 5 e ∨ B 24 1 % 128 = B 7 e) : fwA B e u = B ∧ fwr B e u = 0 := by
  unfold fwA fwr; rw [if_pos h, if_pos h]; exact ⟨rfl, rfl⟩
def Afw (B : md_S) (e u : Nat) : md_S := md_u (va_up (md_u (md_u B 7 e (B 24 1 % 128)) 22 (50 * e + B 21 e % 50) (u - 5)) 23 (mke (B 23) (B 24) (272 * (50 * e + B 21 e % 50)) (u - 5))) 21 e (B 21 e + 1)
theorem fw1 {u : Nat} (h : ¬ (B 24 1 / 128 ≠ B 5 e ∨ B 24 1 % 128 = B 7 e)) (h2 : 5 < u ∧ B 24 1 % 128 = (B 7 e + 1) % 128) : fwA B e u = Afw B e u ∧ fwr B e u = 1 := by
  unfold fwA fwr; rw [if_neg h, if_pos h2, if_neg h, if_pos h2]; exact ⟨rfl, rfl⟩
theorem fw2 {u : Nat} (h : ¬ (B 24 1 / 128 ≠ B 5 e ∨ B 24 1 % 128 = B 7 e)) (h2 : ¬ (5 < u ∧ B 24 1 % 128 = (B 7 e + 1) % 128)) : fwA B e u = md_u B 5 e (1 - B 5 e) ∧ fwr B e u = 2 := by
  unfold fwA fwr; rw [if_neg h, if_neg h2, if_neg h, if_neg h2]; exact ⟨rfl, rfl⟩
theorem kee_lt {bg g : Nat → Nat} (h : ∀ r, bg r < 256) (hg : ∀ i, i < 277 → g i < 256) (r : Nat) {k : Nat} (hk : k ≤ 272) : ∀ j, kee bg g r k j < 256 := by
  intro j; rw [kee_at]; split
  · exact hg _ (by omega)
  · exact h j
theorem X_fw1 (h : Rex B e (N + 1) x y z Q F) (ht : x 11 ≤ N) {u : Nat} (hu : u ≤ 277) {g : Nat → Nat} (hg : ∀ i, i < 277 → g i < 256) (hgB : ∀ i, i < u → g i = B 24 i) (h5 : 5 < u) (h7 : B 24 1 % 128 = (B 7 e + 1) % 128) :
    Rex (Afw B e u) e (N + 1) (va_up (va_up x 3 ((x 3 + 1) % 128)) 11 (x 11 + 1)) y (va_up (va_up z 2 (kee (z 2) g (x 11 % 50) (u - 5))) 3 (va_up (z 3) (x 11 % 50) (u - 5))) Q F := by
  obtain ⟨hb, hs, hm, hl, hst⟩ := h
  obtain ⟨a1, a2, a3, a4, a5, a6, a7, a8, a9, a10, a11, a12, a13, a14, a15, a16, a17⟩ := hb
  obtain ⟨c1, c2, c3, c4, c5, c6, c7, c8, c9⟩ := hs
  have e21 := hst.1
  have q : ∀ {j : Nat}, j ∉ [7, 21, 22, 23] → Afw B e u j = B j := fun {j} h => by
    simp at h
    unfold Afw; simp [md_u, va_up, h]
  refine ⟨⟨a1, a2, a3, show (x 3 + 1) % 128 < 128 from Nat.mod_lt _ (by decide), a5, a6, a7, a8, a9, a10, a11, a12, show x 11 + 1 ≤ N + 1 by omega, a14, a15, kee_lt a16 hg _ (by omega), fun r hr => ?_⟩, ⟨?_, ?_, ?_, ?_, ?_, ?_, ?_, ?_, ?_⟩, ?_, ?_, ?_⟩
  · show va_up (z 3) (x 11 % 50) (u - 5) r ≤ 272
    unfold va_up; split
    · omega
    · exact a17 r hr
  · rw [q (by decide)]; exact c1
  · rw [q (by decide)]; exact c2
  · rw [q (by decide)]; exact c3
  · show Afw B e u 7 e = (x 3 + 1) % 128
    rw [← c4, ← h7]; unfold Afw; simp [md_u, va_up]
  · rw [q (by decide)]; exact c5
  · rw [q (by decide)]; exact c6
  · rw [q (by decide)]; exact c7
  · rw [q (by decide)]; exact c8
  · rw [q (by decide)]; exact c9
  · exact hm.of (by rw [q (by decide)]) (by rw [q (by decide)]) (by rw [q (by decide)]) (by rw [q (by decide)]) (fun j _ => by rw [q (by decide)]) (fun j _ => by rw [q (by decide)]) (fun j _ => by rw [q (by decide)]) (fun j _ => by rw [q (by decide)]) (fun j _ => by rw [q (by decide)]) a12 a10
  · exact hl.same (by rw [q (by decide)]) (q (by decide)) (q (by decide))
  · refine hst.keep (c := u - 5) (g := g) (H := B 24) (by omega) ?_ ?_ ?_ (fun i hi => hgB i (by omega)) a17
    · unfold Afw; simp [md_u, va_up, e21]
    · unfold Afw; rw [e21]; simp [md_u, va_up]
    · unfold Afw; rw [e21]; simp [md_u, va_up]
theorem X_fw1O (h : Rex B o N x y z Q F) (he : e ≤ 1) (ho : o ≤ 1) (hne : o ≠ e) {u : Nat} (hu : u ≤ 277) : Rex (Afw B e u) o N x y z Q F := by
  obtain ⟨hb, hs, hm, hl, hst⟩ := h
  have q : ∀ {j : Nat}, j ∉ [7, 21, 22, 23] → Afw B e u j = B j := fun {j} h => by
    simp at h
    unfold Afw; simp [md_u, va_up, h]
  refine ⟨hb, hs.of (fun k hk => ?_), ?_, hl.same (by rw [q (by decide)]) (q (by decide)) (q (by decide)), ?_⟩
  · by_cases c : k = 7
    · subst c; unfold Afw; rw [md_uo hne, va_up_ne _ _ (by decide), md_uo2 (by decide), md_uo hne]
    · rw [q (by simp at hk ⊢; omega)]
  · exact hm.of (by rw [q (by decide)]) (by rw [q (by decide)]) (by rw [q (by decide)]) (by rw [q (by decide)]) (fun j _ => by rw [q (by decide)]) (fun j _ => by rw [q (by decide)]) (fun j _ => by rw [q (by decide)]) (fun j _ => by rw [q (by decide)]) (fun j _ => by rw [q (by decide)]) hb.2.2.2.2.2.2.2.2.2.2.2.1 hb.2.2.2.2.2.2.2.2.2.1
  · refine hst.keepO (e := e) (t := B 21 e) (c := u - 5) (H := B 24) he ho hne (by omega) ?_ ?_ ?_ hb.2.2.2.2.2.2.2.2.2.2.2.2.2.2.2.2
    · unfold Afw; rw [md_uo hne, va_up_ne _ _ (by decide), md_uo2 (by decide), md_uo2 (by decide)]
    · unfold Afw; simp [md_u, va_up]
    · unfold Afw; simp [md_u, va_up]
theorem X_fw2 (h : Rex B e N x y z Q F) : Rex (md_u B 5 e (1 - B 5 e)) e N (va_up x 1 (1 - x 1)) y z Q F := by
  obtain ⟨hb, hs, hm, hl, hst⟩ := h
  obtain ⟨a1, a2, a3, a4, a5, a6, a7, a8, a9, a10, a11, a12, a13, a14, a15, a16, a17⟩ := hb
  obtain ⟨c1, c2, c3, c4, c5, c6, c7, c8, c9⟩ := hs
  refine ⟨⟨a1, show 1 - x 1 ≤ 1 by omega, a3, a4, a5, a6, a7, a8, a9, a10, a11, a12, a13, a14, a15, a16, a17⟩, ⟨c1, ?_, c3, c4, c5, c6, c7, c8, c9⟩, hm, hl, hst⟩
  show md_u B 5 e (1 - B 5 e) 5 e = 1 - x 1
  rw [md_u, va_up_self, va_up_self, c2]
theorem X_fw2O (h : Rex B o N x y z Q F) (hne : o ≠ e) (c : Nat) : Rex (md_u B 5 e c) o N x y z Q F := by
  obtain ⟨hb, hs, hm, hl, hst⟩ := h
  exact ⟨hb, hs.of (fun k hk => md_uo hne _ _ _), hm, hl, hst⟩
end
