/-! ===== each call from any state ===== -/
set_option maxHeartbeats 4000000 in
theorem st_bit {p : Program} {e : Env} {s : State} {m : MethodId} {below : List Frame} {meth : Method} {c : Code} (l : Launch) (hlt : l.stackTraces = false) {b L : Nat} {xs : Nat → Int32} {G : mw_G} {Qq : State → Prop} (C0 : lw_At p s m meth c b L xs) (hL : L ≤ 4096) (hC : mw_C G (lw_A s) s) {i : Nat} (hi : i + 6 ≤ L) {cl sl : Nat} (hcl : cl + 1 ≤ 601024) (hsl : sl + 6 ≤ 7293034) {x mh o N : Nat} {M : mw_M} {H : Heap} {locs : List Loc} {ls : Array Slot} (hw : mw_St G (lw_A s) s M H locs) (hl : lv_has ls 7 [(0, .ref (b)), (1, .ref (x)), (2, .ref (mh)), (3, .ref (o)), (4, .int (nI (i)))])
    {a : Nat → Nat} (hN : N ≤ 600) (hI : Inv G M x mh o a N)
    (kk : ∀ (M2 : mw_M) (H : Heap) (locs : List Loc) (ls : Array Slot), Inv G M2 x mh o a (N + 1) → mw_St G (lw_A s) s M2 H locs → lv_has ls 7 [(0, .ref (b)), (1, .ref (x)), (2, .ref (mh)), (3, .ref (o)), (4, .int (nI (i)))] → W p l e room_1 s m #[Value.ref b] below meth c H locs (cl + 1) (sl + 6) Qq (F0 m 664 ls [])) : W p l e room_1 s m #[Value.ref b] below meth c H locs cl sl Qq (F0 m 412 ls []) := by
  obtain ⟨mco, u, A, ad, en, v, bb, w, q, f, fr, c9, g, ov, hcw, hx, hmd, eo, hg, hu, hR, hE⟩ := hI
  subst hx
  have e0 := hcw.1 0 0 0 (ok0 (by decide))
  have e1 := hcw.1 1 0 0 (ok0 (by decide))
  rcases i32_rng (xs (i + 1)) 1 (by decide) with hb1 | ⟨ed, hed, he⟩
  · skip
    exact lp_bit l C0 hL hC hi hcl hsl hw hl (rmh := RM_L_bit_exA) (mc := 1) (ms := 6) (k := 1) (k2 := 1) rfl rfl (Nat.le_of_ble_eq_true rfl) (Nat.le_of_ble_eq_true rfl) (Nat.le_of_ble_eq_true rfl) (Nat.le_of_ble_eq_true rfl) (Nat.le_of_ble_eq_true rfl) (fun sz => by exact h_L_bit_exA l G M sz (ad 0 0 0) o _ _ _ e0 rfl rfl (Nat.le_of_ble_eq_true rfl) (Nat.le_of_ble_eq_true rfl) (fun sz => t_X6_bit_bade l hlt G M sz (ad 0 0 0) (ad 1 0 0) (ad 2 0 0) en _ _ _ e0 e1 hb1)) hmd (rm2 := RM_X7_bit__bade) rfl rfl (Nat.le_of_ble_eq_true rfl) (Nat.le_of_ble_eq_true rfl) (fun sz => by exact c_X7_bit__bade l G _ sz mh a mco u A _ _ _ hmd hb1) (fun M2 H locs ls hm2 hf2 hw hl => kk M2 H locs ls (inv_end hcw rfl hmd eo hm2 hf2 hg hu hR (fun e1 he1 => (hE e1 he1).idle)) hw hl)
  · skip
    have hen := hcw.2.2.1 ed hed
    have eX := hcw.1 4 ed 0 (ok1 (by decide) (by decide) hed)
    have eL := hcw.1 5 ed 0 (ok1 (by decide) (by decide) hed)
    have eF := hcw.1 6 ed 0 (ok1 (by decide) (by decide) hed)
    have eM := hcw.1 7 ed 0 (ok1 (by decide) (by decide) hed)
    have eA := hcw.1 8 ed 0 (ok1 (by decide) (by decide) hed)
    have eB := hcw.1 9 ed 0 (ok1 (by decide) (by decide) hed)
    have eS := hcw.1 10 ed 0 (ok1 (by decide) (by decide) hed)
    have eC := hcw.1 11 ed 0 (ok1 (by decide) (by decide) hed)
    have eD := hcw.1 12 ed 0 (ok1 (by decide) (by decide) hed)
    have eU := hcw.1 2 0 0 (ok0 (by decide))
    have eV := hcw.1 3 0 0 (ok0 (by decide))
    have nAB : ad 8 ed 0 ≠ ad 9 ed 0 := fun h9 => absurd (hcw.2.1 8 ed 0 9 ed 0 (ok1 (by decide) (by decide) hed) (ok1 (by decide) (by decide) hed) h9).1 (by decide)
    obtain ⟨⟨a1, a2, a3, a4, a5, a6, a7, a8, a9, a10, a11, a12, a13, a14, a15, a16, a17⟩, ⟨c1, c2, c3, c4, c5, c6, c7, c8, d9⟩, hm, hln, hst⟩ := id (hE ed hed)
    have hfb := b2n_le (bb ed 0)
    rcases i32_rngN (xs (i + 2)) (v ed 6) (by omega) with hb2 | ⟨fx, hfx, hfe⟩
    · skip
      exact lp_bit l C0 hL hC hi hcl hsl hw hl (rmh := RM_L_bit_exA) (mc := 1) (ms := 6) (k := 1) (k2 := 1) rfl rfl (Nat.le_of_ble_eq_true rfl) (Nat.le_of_ble_eq_true rfl) (Nat.le_of_ble_eq_true rfl) (Nat.le_of_ble_eq_true rfl) (Nat.le_of_ble_eq_true rfl) (fun sz => by rw [he]; exact h_L_bit_exA l G M sz (ad 0 0 0) o _ _ _ e0 rfl rfl (Nat.le_of_ble_eq_true rfl) (Nat.le_of_ble_eq_true rfl) (fun sz => t_X6_bit_badf l hlt G M sz (ad 0 0 0) (ad 1 0 0) (ad 2 0 0) en ed (ad 4 ed 0) (ad 5 ed 0) (ad 7 ed 0) (ad 10 ed 0) (v ed 0) (v ed 1) (v ed 2) (v ed 3) (v ed 4) (v ed 5) (bb ed 0) (bb ed 1) (bb ed 2) (ad 6 ed 0) (v ed 6) _ _ e0 e1 eX eL hed hen hb2)) hmd (rm2 := RM_X7_bit__badf) rfl rfl (Nat.le_of_ble_eq_true rfl) (Nat.le_of_ble_eq_true rfl) (fun sz => by rw [he]; exact c_X7_bit__badf l G _ sz mh a mco u A ed _ _ hmd hed (by rw [hln.1]; exact hb2)) (fun M2 H locs ls hm2 hf2 hw hl => kk M2 H locs ls (inv_end hcw rfl hmd eo hm2 hf2 hg hu hR (fun e1 he1 => (hE e1 he1).idle)) hw hl)
    · skip
      have eY := hcw.1 13 ed fx (ok2 (by decide) (by decide) hed (by omega))
      have eW := hcw.1 14 ed fx (ok2 (by decide) (by decide) hed (by omega))
      have hy := hcw.2.2.2 ed fx hed (by omega)
      obtain ⟨⟨q1, q2⟩, q3⟩ := hln.2 fx hfx
      rcases i32_rng (xs (i + 3)) 2147483647 (by decide) with hb3 | ⟨k, hk, hke⟩
      · skip
        have hb3 : xs (i + 3) < 0 := i32_top hb3
        exact lp_bit l C0 hL hC hi hcl hsl hw hl (rmh := RM_L_bit_exA) (mc := 1) (ms := 6) (k := 1) (k2 := 0) rfl rfl (Nat.le_of_ble_eq_true rfl) (Nat.le_of_ble_eq_true rfl) (Nat.le_of_ble_eq_true rfl) (Nat.le_of_ble_eq_true rfl) (Nat.le_of_ble_eq_true rfl) (fun sz => by rw [he]; rw [hfe]; exact h_L_bit_exA l G M sz (ad 0 0 0) o _ _ _ e0 rfl rfl (Nat.le_of_ble_eq_true rfl) (Nat.le_of_ble_eq_true rfl) (fun sz => t_X6_bit_badi l hlt G M sz (ad 0 0 0) (ad 1 0 0) (ad 2 0 0) en ed (ad 4 ed 0) (ad 5 ed 0) (ad 7 ed 0) (ad 10 ed 0) (v ed 0) (v ed 1) (v ed 2) (v ed 3) (v ed 4) (v ed 5) (bb ed 0) (bb ed 1) (bb ed 2) (ad 6 ed 0) (v ed 6) (fr ed) fx (ad 13 ed fx) (ad 14 ed fx) (q ed fx) (f ed fx) _ e0 e1 eX eL eF eY eW hed hen a8 hfx hy hb3)) hmd (rm2 := RM_X7_bit__neg) rfl rfl (Nat.le_of_ble_eq_true rfl) (Nat.le_of_ble_eq_true rfl) (fun sz => by rw [he]; rw [hfe]; exact c_X7_bit__neg l G _ sz mh a mco u A ed fx _ hmd hed (by rw [hln.1]; exact hfx) (by rw [hln.1]; exact a8) hb3) (fun M2 H locs ls hm2 hf2 hw hl => kk M2 H locs ls (inv_end hcw rfl hmd eo hm2 hf2 hg hu hR (fun e1 he1 => (hE e1 he1).idle)) hw hl)
      · skip
        exact lp_bit l C0 hL hC hi hcl hsl hw hl (rmh := RM_L_bit_ok) (mc := 0) (ms := 0) (k := 0) (k2 := 0) rfl rfl (Nat.le_of_ble_eq_true rfl) (Nat.le_of_ble_eq_true rfl) (Nat.le_of_ble_eq_true rfl) (Nat.le_of_ble_eq_true rfl) (Nat.le_of_ble_eq_true rfl) (fun sz => by rw [he]; rw [hfe]; rw [hke]; exact h_L_bit_ok l G M _ sz (ad 0 0 0) o ov _ _ _ _ e0 rfl rfl (Nat.le_of_ble_eq_true rfl) (Nat.le_of_ble_eq_true rfl) (fun sz => c_X6_bit l G M sz (ad 0 0 0) (ad 1 0 0) (ad 2 0 0) en ed (ad 4 ed 0) (ad 5 ed 0) (ad 7 ed 0) (ad 10 ed 0) (v ed 0) (v ed 1) (v ed 2) (v ed 3) (v ed 4) (v ed 5) (bb ed 0) (bb ed 1) (bb ed 2) (ad 6 ed 0) (v ed 6) (fr ed) fx (ad 13 ed fx) (ad 14 ed fx) (q ed fx) (f ed fx) k e0 e1 eX eL eF eY eW hed hen a8 hfx hy q3 (by omega)) eo) (md_at.up1 hmd (fun z9 hz9 => md_far_ne hmd eo rfl hz9)) (rm2 := RM_X7_bit_) rfl rfl (Nat.le_of_ble_eq_true rfl) (Nat.le_of_ble_eq_true rfl) (fun sz => by rw [he]; rw [hfe]; rw [hke]; exact c_X7_bit_ l G _ sz mh a mco u A ed fx k (md_at.up1 hmd (fun z9 hz9 => md_far_ne hmd eo rfl hz9)) hed (by rw [hln.1]; exact hfx) (by rw [hln.1]; exact a8) (by omega) (by rw [q1]; exact q3)) (fun M2 H locs ls hm2 hf2 hw hl => kk M2 H locs ls (inv_end (cw_o hcw eo) rfl (md_at.up1 hmd (fun z9 hz9 => md_far_ne hmd eo rfl hz9)) mw_u0 hm2 hf2 hg hu hR (fun e1 he1 => (hE e1 he1).idle)) hw hl)
set_option maxHeartbeats 4000000 in
theorem st_taken {p : Program} {e : Env} {s : State} {m : MethodId} {below : List Frame} {meth : Method} {c : Code} (l : Launch) (hlt : l.stackTraces = false) {b L : Nat} {xs : Nat → Int32} {G : mw_G} {Qq : State → Prop} (C0 : lw_At p s m meth c b L xs) (hL : L ≤ 4096) (hC : mw_C G (lw_A s) s) {i : Nat} (hi : i + 6 ≤ L) {cl sl : Nat} (hcl : cl + 1 ≤ 601024) (hsl : sl + 6 ≤ 7293034) {x mh o N : Nat} {M : mw_M} {H : Heap} {locs : List Loc} {ls : Array Slot} (hw : mw_St G (lw_A s) s M H locs) (hl : lv_has ls 7 [(0, .ref (b)), (1, .ref (x)), (2, .ref (mh)), (3, .ref (o)), (4, .int (nI (i)))])
    {a : Nat → Nat} (hN : N ≤ 600) (hI : Inv G M x mh o a N)
    (kk : ∀ (M2 : mw_M) (H : Heap) (locs : List Loc) (ls : Array Slot), Inv G M2 x mh o a (N + 1) → mw_St G (lw_A s) s M2 H locs → lv_has ls 7 [(0, .ref (b)), (1, .ref (x)), (2, .ref (mh)), (3, .ref (o)), (4, .int (nI (i)))] → W p l e room_1 s m #[Value.ref b] below meth c H locs (cl + 1) (sl + 6) Qq (F0 m 664 ls [])) : W p l e room_1 s m #[Value.ref b] below meth c H locs cl sl Qq (F0 m 464 ls []) := by
  obtain ⟨mco, u, A, ad, en, v, bb, w, q, f, fr, c9, g, ov, hcw, hx, hmd, eo, hg, hu, hR, hE⟩ := hI
  subst hx
  have e0 := hcw.1 0 0 0 (ok0 (by decide))
  have e1 := hcw.1 1 0 0 (ok0 (by decide))
  rcases i32_rng (xs (i + 1)) 1 (by decide) with hb1 | ⟨ed, hed, he⟩
  · skip
    exact lp_taken l C0 hL hC hi hcl hsl hw hl (rmh := RM_L_taken_exA) (mc := 1) (ms := 6) (k := 1) (k2 := 1) rfl rfl (Nat.le_of_ble_eq_true rfl) (Nat.le_of_ble_eq_true rfl) (Nat.le_of_ble_eq_true rfl) (Nat.le_of_ble_eq_true rfl) (Nat.le_of_ble_eq_true rfl) (fun sz => by exact h_L_taken_exA l G M sz (ad 0 0 0) o _ _ _ e0 rfl rfl (Nat.le_of_ble_eq_true rfl) (Nat.le_of_ble_eq_true rfl) (fun sz => t_X6_taken_bade l hlt G M sz (ad 0 0 0) (ad 1 0 0) (ad 2 0 0) en _ _ _ e0 e1 hb1)) hmd (rm2 := RM_X7_taken_bade) rfl rfl (Nat.le_of_ble_eq_true rfl) (Nat.le_of_ble_eq_true rfl) (fun sz => by exact c_X7_taken_bade l G _ sz mh a mco u A _ _ _ hmd hb1) (fun M2 H locs ls hm2 hf2 hw hl => kk M2 H locs ls (inv_end hcw rfl hmd eo hm2 hf2 hg hu hR (fun e1 he1 => (hE e1 he1).idle)) hw hl)
  · skip
    have hen := hcw.2.2.1 ed hed
    have eX := hcw.1 4 ed 0 (ok1 (by decide) (by decide) hed)
    have eL := hcw.1 5 ed 0 (ok1 (by decide) (by decide) hed)
    have eF := hcw.1 6 ed 0 (ok1 (by decide) (by decide) hed)
    have eM := hcw.1 7 ed 0 (ok1 (by decide) (by decide) hed)
    have eA := hcw.1 8 ed 0 (ok1 (by decide) (by decide) hed)
    have eB := hcw.1 9 ed 0 (ok1 (by decide) (by decide) hed)
    have eS := hcw.1 10 ed 0 (ok1 (by decide) (by decide) hed)
    have eC := hcw.1 11 ed 0 (ok1 (by decide) (by decide) hed)
    have eD := hcw.1 12 ed 0 (ok1 (by decide) (by decide) hed)
    have eU := hcw.1 2 0 0 (ok0 (by decide))
    have eV := hcw.1 3 0 0 (ok0 (by decide))
    have nAB : ad 8 ed 0 ≠ ad 9 ed 0 := fun h9 => absurd (hcw.2.1 8 ed 0 9 ed 0 (ok1 (by decide) (by decide) hed) (ok1 (by decide) (by decide) hed) h9).1 (by decide)
    obtain ⟨⟨a1, a2, a3, a4, a5, a6, a7, a8, a9, a10, a11, a12, a13, a14, a15, a16, a17⟩, ⟨c1, c2, c3, c4, c5, c6, c7, c8, d9⟩, hm, hln, hst⟩ := id (hE ed hed)
    have hfb := b2n_le (bb ed 0)
    rcases i32_rng (xs (i + 2)) 2147483647 (by decide) with hb2 | ⟨kn, hk1, hkn⟩
    · skip
      have hb2 : xs (i + 2) < 0 := i32_top hb2
      exact lp_taken l C0 hL hC hi hcl hsl hw hl (rmh := RM_L_taken_exA) (mc := 1) (ms := 6) (k := 1) (k2 := 1) rfl rfl (Nat.le_of_ble_eq_true rfl) (Nat.le_of_ble_eq_true rfl) (Nat.le_of_ble_eq_true rfl) (Nat.le_of_ble_eq_true rfl) (Nat.le_of_ble_eq_true rfl) (fun sz => by rw [he]; exact h_L_taken_exA l G M sz (ad 0 0 0) o _ _ _ e0 rfl rfl (Nat.le_of_ble_eq_true rfl) (Nat.le_of_ble_eq_true rfl) (fun sz => t_X6_taken_neg l hlt G M sz (ad 0 0 0) (ad 1 0 0) (ad 2 0 0) en ed (ad 4 ed 0) (ad 5 ed 0) (ad 7 ed 0) (ad 10 ed 0) (v ed 0) (v ed 1) (v ed 2) (v ed 3) (v ed 4) (v ed 5) (bb ed 0) (bb ed 1) (bb ed 2) (ad 11 ed 0) (ad 12 ed 0) (v ed 11) _ _ e0 e1 eX eS hed hen hb2)) hmd (rm2 := RM_X7_taken_neg) rfl rfl (Nat.le_of_ble_eq_true rfl) (Nat.le_of_ble_eq_true rfl) (fun sz => by rw [he]; exact c_X7_taken_neg l G _ sz mh a mco u A ed _ _ hmd hed hb2) (fun M2 H locs ls hm2 hf2 hw hl => kk M2 H locs ls (inv_end hcw rfl hmd eo hm2 hf2 hg hu hR (fun e1 he1 => (hE e1 he1).idle)) hw hl)
    · skip
      by_cases hh : kn < v ed 11 ∧ v ed 11 ≤ kn + 50
      · skip
        rcases i32_rng (xs (i + 3)) 2147483647 (by decide) with hb3 | ⟨k, hk, hke⟩
        · skip
          have hb3 : xs (i + 3) < 0 := i32_top hb3
          exact lp_taken l C0 hL hC hi hcl hsl hw hl (rmh := RM_L_taken_exA) (mc := 1) (ms := 6) (k := 1) (k2 := 0) rfl rfl (Nat.le_of_ble_eq_true rfl) (Nat.le_of_ble_eq_true rfl) (Nat.le_of_ble_eq_true rfl) (Nat.le_of_ble_eq_true rfl) (Nat.le_of_ble_eq_true rfl) (fun sz => by rw [he]; rw [hkn]; exact h_L_taken_exA l G M sz (ad 0 0 0) o _ _ _ e0 rfl rfl (Nat.le_of_ble_eq_true rfl) (Nat.le_of_ble_eq_true rfl) (fun sz => t_X6_taken_bad l hlt G M sz (ad 0 0 0) (ad 1 0 0) (ad 2 0 0) en ed (ad 4 ed 0) (ad 5 ed 0) (ad 7 ed 0) (ad 10 ed 0) (v ed 0) (v ed 1) (v ed 2) (v ed 3) (v ed 4) (v ed 5) (bb ed 0) (bb ed 1) (bb ed 2) (ad 11 ed 0) (ad 12 ed 0) (v ed 11) kn _ e0 e1 eX eS hed hen (by omega) (by omega) (Or.inr hb3))) hmd (rm2 := RM_X7_taken_negi) rfl rfl (Nat.le_of_ble_eq_true rfl) (Nat.le_of_ble_eq_true rfl) (fun sz => by rw [he]; rw [hkn]; exact c_X7_taken_negi l G _ sz mh a mco u A ed kn _ hmd hed (by rw [hst.1]; omega) (by omega) (by rw [hst.1]; exact hh.1) (by rw [hst.1]; exact hh.2) hb3) (fun M2 H locs ls hm2 hf2 hw hl => kk M2 H locs ls (inv_end hcw rfl hmd eo hm2 hf2 hg hu hR (fun e1 he1 => (hE e1 he1).idle)) hw hl)
        · skip
          have hr50 : kn % 50 < 50 := Nat.mod_lt _ (by decide)
          exact lp_taken l C0 hL hC hi hcl hsl hw hl (rmh := RM_L_taken_ok) (mc := 0) (ms := 0) (k := 0) (k2 := 0) rfl rfl (Nat.le_of_ble_eq_true rfl) (Nat.le_of_ble_eq_true rfl) (Nat.le_of_ble_eq_true rfl) (Nat.le_of_ble_eq_true rfl) (Nat.le_of_ble_eq_true rfl) (fun sz => by rw [he]; rw [hkn]; rw [hke]; exact h_L_taken_ok l G M _ sz (ad 0 0 0) o ov _ _ _ _ e0 rfl rfl (Nat.le_of_ble_eq_true rfl) (Nat.le_of_ble_eq_true rfl) (fun sz => c_X6_taken l G M sz (ad 0 0 0) (ad 1 0 0) (ad 2 0 0) en ed (ad 4 ed 0) (ad 5 ed 0) (ad 7 ed 0) (ad 10 ed 0) (v ed 0) (v ed 1) (v ed 2) (v ed 3) (v ed 4) (v ed 5) (bb ed 0) (bb ed 1) (bb ed 2) (ad 11 ed 0) (ad 12 ed 0) (v ed 11) (w ed 2) (w ed 3) kn k e0 e1 eX eS eC eD hed hen (by omega) hh.1 hh.2 (by omega) a17 a16) eo) (md_at.up1 hmd (fun z9 hz9 => md_far_ne hmd eo rfl hz9)) (rm2 := RM_X7_taken) rfl rfl (Nat.le_of_ble_eq_true rfl) (Nat.le_of_ble_eq_true rfl) (fun sz => by rw [he]; rw [hkn]; rw [hke]; exact c_X7_taken l G _ sz mh a mco u A ed kn k (md_at.up1 hmd (fun z9 hz9 => md_far_ne hmd eo rfl hz9)) hed (by rw [hst.1]; omega) (by omega) (by rw [hst.1]; exact hh.1) (by rw [hst.1]; exact hh.2) (by omega) (by rw [hst.2.1 _ hr50]; exact a17 _ hr50)) (fun M2 H locs ls hm2 hf2 hw hl => kk M2 H locs ls (inv_end (cw_o hcw eo) rfl (md_at.up1 hmd (fun z9 hz9 => md_far_ne hmd eo rfl hz9)) mw_u0 hm2 hf2 hg hu hR (fun e1 he1 => (hE e1 he1).idle)) hw hl)
      · skip
        exact lp_taken l C0 hL hC hi hcl hsl hw hl (rmh := RM_L_taken_exA) (mc := 1) (ms := 6) (k := 1) (k2 := 1) rfl rfl (Nat.le_of_ble_eq_true rfl) (Nat.le_of_ble_eq_true rfl) (Nat.le_of_ble_eq_true rfl) (Nat.le_of_ble_eq_true rfl) (Nat.le_of_ble_eq_true rfl) (fun sz => by rw [he]; rw [hkn]; exact h_L_taken_exA l G M sz (ad 0 0 0) o _ _ _ e0 rfl rfl (Nat.le_of_ble_eq_true rfl) (Nat.le_of_ble_eq_true rfl) (fun sz => t_X6_taken_bad l hlt G M sz (ad 0 0 0) (ad 1 0 0) (ad 2 0 0) en ed (ad 4 ed 0) (ad 5 ed 0) (ad 7 ed 0) (ad 10 ed 0) (v ed 0) (v ed 1) (v ed 2) (v ed 3) (v ed 4) (v ed 5) (bb ed 0) (bb ed 1) (bb ed 2) (ad 11 ed 0) (ad 12 ed 0) (v ed 11) kn _ e0 e1 eX eS hed hen (by omega) (by omega) (Or.inl hh))) hmd (rm2 := RM_X7_taken_bad) rfl rfl (Nat.le_of_ble_eq_true rfl) (Nat.le_of_ble_eq_true rfl) (fun sz => by rw [he]; rw [hkn]; exact c_X7_taken_bad l G _ sz mh a mco u A ed kn _ hmd hed (by rw [hst.1]; omega) (by omega) (by rw [hst.1]; exact hh)) (fun M2 H locs ls hm2 hf2 hw hl => kk M2 H locs ls (inv_end hcw rfl hmd eo hm2 hf2 hg hu hR (fun e1 he1 => (hE e1 he1).idle)) hw hl)
