/-! ===== LinkPair.Unit, onto a frame ===== -/
theorem inX5_writeTo_X5 : ∀ w ∈ wsX50, w ∈ wsX5_writeTo := by decide +kernel
def RM_X5_writeTo : Room := { frames := 3, cells := 0, slots := 0, locals := 63 }
set_option maxHeartbeats 4000000 in
set_option maxRecDepth 100000 in
theorem c_X5_writeTo (l : Launch) (G : mw_G) (M : mw_M) (sz : Nat) (h0 ub n : Nat) (g : Nat → Nat) (y w q : Nat) (f : Nat → Int64) (e0 : M h0 = some (.inr (5, [.ref (ub), .int (nI (n))]))) (e1 : M ub = some (.inl (G.2 1, 277, .inl (fun j => nI (g j))))) (e2 : M y = some (.inr (1, [.ref (w), .int (nI (q))]))) (e3 : M w = some (.inl (G.2 2, 47, .inr (.inl (f))))) (hn : 5 ≤ n) (hn2 : n ≤ 277) (hg : ∀ i, i < 277 → g i < 256) (hq : q = 0)  : Met l yX5_writeTo wsX5_writeTo RM_X5_writeTo (mw_pre G M sz [.ref (h0), .ref (y)]) (mw_Qv G M sz (va_up (va_up M y (some (.inr (1, [.ref (w), .int (nI ((wts g (ffl f q 8) (q + 8) (8 * n)).2.1 + 8))])))) w (some (.inl (G.2 2, 47, .inr (.inl (ffl (wts g (ffl f q 8) (q + 8) (8 * n)).1 (wts g (ffl f q 8) (q + 8) (8 * n)).2.1 8))))))) 0 0 (mw_A M sz) := by
  refine Met.ofW (cc := cX5_writeTo) (maxL := 5) (ret := none) (by decide) rfl ?_
  intro p e s m args below meth c s₁ B hml hv
  obtain ⟨rfl, rfl, hC, hw⟩ := mw_in hv
  have hx := B.exec
  have hb := B.bytes
  have hr := B.returns
  have hts := atoms_spec (ws := wsX5_writeTo) B.pre
  have hown : s.vm.findClass RX5 = some m.cls := findClass_of_methodNamed B.named
  have hlocks := B.notSynchronized
  have k_0 := hts (.fieldLink RX5 15 "LinkPair$Unit" "count" "I") (by decide +kernel)
  have k_1 := hts (.fieldLink RX5 9 "LinkPair$Unit" "bytes" "[I") (by decide +kernel)
  have m0_2 : h0 ≠ y := mw_ne e0 e2 (by intro h9; cases h9)
  have m0_3 : h0 ≠ w := mw_ne e0 e3 (by intro h9; cases h9)
  have m1_2 : ub ≠ y := mw_ne e1 e2 (by intro h9; cases h9)
  have m1_3 : ub ≠ w := mw_ne e1 e3 (by simp)
  have m2_3 : y ≠ w := mw_ne e2 e3 (by intro h9; cases h9)
  have hl := lv_entry ([.ref (h0), .ref (y)]) (n := 5) (Nat.le_of_ble_eq_true rfl)
  rw [lg_entry_eq]
  generalize (lg_sl ([.ref (h0), .ref (y)]) ++ List.replicate (5 - (lg_sl ([.ref (h0), .ref (y)])).length) Slot.unset).toArray = ls at hl ⊢
  have hl : lv_has ls 5 [(0, .ref (h0)), (1, .ref (y))] := hl
  refine mw_start (fun H locs hw => ?_) hw
  refine lv_aload_n hx hb dX5_writeTo_0 rfl (lv_at hl 1 rfl) ?_
  refine mw_cv hC hw (va_runV (As := []) (rest := []) ⟨hx, hb, hml, hown, hts⟩ (c_X1_addFlag l G _ H.size y w q f e2 e3 (by omega)) (cwV 0 hts gX5_writeTo_X1_addFlag rfl rfl rfl (by decide +kernel) ⟨Nat.le_of_ble_eq_true rfl, Nat.le_of_ble_eq_true rfl⟩) (mw_preV (ci := 1) hC hw rfl e2) rfl rfl hl.1 rfl (lv_room (Nat.le_of_ble_eq_true rfl)) dX5_writeTo_1 ⟨Nat.le_of_ble_eq_true rfl, Nat.le_of_ble_eq_true rfl⟩) (fun H locs hz hw => ?_)
  refine lv_iconst (v := nI 0) hx hb dX5_writeTo_4 (by decide) ?_
  refine lv_istore_n (lv' := [(2, .int (nI (0))), (0, .ref (h0)), (1, .ref (y))]) hx hb dX5_writeTo_5 rfl hl (by decide) rfl (fun ls hl => ?_)
  refine lv_iconst (v := nI 0) hx hb dX5_writeTo_6 (by decide) ?_
  refine lv_istore_n (lv' := [(3, .int (nI (0))), (2, .int (nI (0))), (0, .ref (h0)), (1, .ref (y))]) hx hb dX5_writeTo_7 rfl hl (by decide) rfl (fun ls hl => ?_)
  have lp_1 : ∀ (n9 : Nat) (k : Nat), (hk : k ≤ 8 * n) → 8 * n - k < n9 → ∀ (H : Heap) (locs : List Loc) (ls : Array Slot), mw_St G (mw_A M s.heap.size) s (va_up (va_up M y (some (.inr (1, [.ref (w), .int (nI ((wts g (ffl f q 8) (q + 8) k).2.1))])))) w (some (.inl (G.2 2, 47, .inr (.inl ((wts g (ffl f q 8) (q + 8) k).1)))))) H locs → lv_has ls 5 [(0, .ref (h0)), (1, .ref (y)), (2, .int (nI ((wts g (ffl f q 8) (q + 8) k).2.2))), (3, .int (nI (k)))] → W p l e (headSpec wsX5_writeTo RM_X5_writeTo).room s m ([.ref (h0), .ref (y)] : List Value).toArray below meth c H locs 0 0 (MQ below (mw_Qv G M s.heap.size (va_up (va_up M y (some (.inr (1, [.ref (w), .int (nI ((wts g (ffl f q 8) (q + 8) (8 * n)).2.1 + 8))])))) w (some (.inl (G.2 2, 47, .inr (.inl (ffl (wts g (ffl f q 8) (q + 8) (8 * n)).1 (wts g (ffl f q 8) (q + 8) (8 * n)).2.1 8))))))) ([.ref (h0), .ref (y)] : List Value).toArray s 0 0 (mw_A M s.heap.size)) (F0 m 8 ls []) := by
    intro n9
    induction n9 with
    | zero => intro k hk h9; exact absurd h9 (Nat.not_lt_zero _)
    | succ n9 ih =>
      intro k hk h9 H locs ls hw hl
      have hwt := wts_le g (ffl f q 8) (q + 8) k
      have hbl := gbit_le g k
      have hgk : k / 8 < 277 → g (k / 8) < 256 := fun h => hg _ h
      have hgd : g (k / 8) / 2 ^ (k % 8) ≤ g (k / 8) := Nat.div_le_self _ _
      refine lv_iload_n hx hb dX5_writeTo_8 rfl (lv_at hl 3 rfl) ?_
      refine lv_bipush (v := nI 8) hx hb dX5_writeTo_9 (by decide) ?_
      refine lv_aload_n hx hb dX5_writeTo_11 rfl (lv_at hl 0 rfl) ?_
      refine mw_get (C := RX5) (T := TX5) (N := 2) (v := .int (nI (n))) hx hb hts inX5_writeTo_X5 hown hC hw (mw_u1 m0_3 (mw_u1 m0_2 e0)) rfl 1 (by decide) k_0 rfl dX5_writeTo_12 ?_
      refine lv_imul hx hb dX5_writeTo_15 ?_
      refine mw_ti (v' := nI (8 * n)) (pk_mul _ _) ?_
      refine lv_icmp_ge (tgt := 75) hx hb dX5_writeTo_16 (by decide) (fun c_2 => ?_) (fun c_2 => ?_)
      · skip
        have c_2 : k ≥ 8 * n := (nI_leI (a := 8 * n) (b := k) (by omega) (by omega)).mp c_2
        obtain rfl : k = 8 * n := by omega
        refine lv_aload_n hx hb dX5_writeTo_75 rfl (lv_at hl 1 rfl) ?_
        refine mw_cv hC hw (va_runV (As := []) (rest := []) ⟨hx, hb, hml, hown, hts⟩ (c_X1_addFlag l G _ H.size y w ((wts g (ffl f q 8) (q + 8) (8 * n)).2.1) ((wts g (ffl f q 8) (q + 8) (8 * n)).1) (mw_u1 m2_3 mw_u0) mw_u0 (by omega)) (cwV 0 hts gX5_writeTo_X1_addFlag rfl rfl rfl (by decide +kernel) ⟨Nat.le_of_ble_eq_true rfl, Nat.le_of_ble_eq_true rfl⟩) (mw_preV (ci := 1) hC hw rfl (mw_u1 m2_3 mw_u0)) rfl rfl hl.1 rfl (lv_room (Nat.le_of_ble_eq_true rfl)) dX5_writeTo_76 ⟨Nat.le_of_ble_eq_true rfl, Nat.le_of_ble_eq_true rfl⟩) (fun H locs hz hw => ?_)
        have hc_4 : (.inr (1, [.ref (w), .int (nI (((wts g (ffl f q 8) (q + 8) (8 * n)).2.1) + 8))]) : va_E) = .inr (1, [.ref (w), .int (nI ((wts g (ffl f q 8) (q + 8) (8 * n)).2.1 + 8))]) := by first | rfl | (congr 2; omega) | simp_all
        have hc_5 : (.inl (G.2 2, 47, .inr (.inl (ffl ((wts g (ffl f q 8) (q + 8) (8 * n)).1) ((wts g (ffl f q 8) (q + 8) (8 * n)).2.1) 8))) : va_E) = .inl (G.2 2, 47, .inr (.inl (ffl (wts g (ffl f q 8) (q + 8) (8 * n)).1 (wts g (ffl f q 8) (q + 8) (8 * n)).2.1 8))) := by first | rfl | (congr 2; omega) | simp_all
        have hw : mw_St G (mw_A M s.heap.size) s (va_up (va_up M y (some (.inr (1, [.ref (w), .int (nI ((wts g (ffl f q 8) (q + 8) (8 * n)).2.1 + 8))])))) w (some (.inl (G.2 2, 47, .inr (.inl (ffl (wts g (ffl f q 8) (q + 8) (8 * n)).1 (wts g (ffl f q 8) (q + 8) (8 * n)).2.1 8)))))) H locs := hw.to (fun q8 x8 h8 => by
          by_cases b_6 : q8 = y
          · rw [b_6] at h8 ⊢; exact (mw_u1 m2_3 mw_u0).trans ((congrArg some hc_4).trans ((mw_u1 m2_3 mw_u0).symm.trans h8))
          by_cases b_7 : q8 = w
          · rw [b_7] at h8 ⊢; exact mw_u0.trans ((congrArg some hc_5).trans (mw_u0.symm.trans h8))
          simp only [va_up_ne _ _ b_6, va_up_ne _ _ b_7] at h8 ⊢; exact h8)
        exact mw_vret hx hb hr hlocks hw (fun _ _ h9 => h9) dX5_writeTo_79
      · skip
        have c_2 : k < 8 * n := Nat.not_le.mp (fun h => c_2 ((nI_leI (a := 8 * n) (b := k) (by omega) (by omega)).mpr h))
        refine lv_aload_n hx hb dX5_writeTo_19 rfl (lv_at hl 0 rfl) ?_
        refine mw_get (C := RX5) (T := TX5) (N := 2) (v := .ref (ub)) hx hb hts inX5_writeTo_X5 hown hC hw (mw_u1 m0_3 (mw_u1 m0_2 e0)) rfl 0 (by decide) k_1 rfl dX5_writeTo_20 ?_
        refine lv_iload_n hx hb dX5_writeTo_23 rfl (lv_at hl 3 rfl) ?_
        refine lv_bipush (v := nI 8) hx hb dX5_writeTo_24 (by decide) ?_
        refine lv_idiv hx hb dX5_writeTo_26 (by decide) ?_
        refine mw_ti (v' := nI (k / 8)) (pk_div (by omega) (by omega) (by omega)) ?_
        refine mw_ildM (n := 277) (g := g) (i := k / 8) hx hb hC hw (mw_u1 m1_3 (mw_u1 m1_2 e1)) (by omega) (by decide) dX5_writeTo_27 ?_
        refine lv_iload_n hx hb dX5_writeTo_28 rfl (lv_at hl 3 rfl) ?_
        refine lv_bipush (v := nI 8) hx hb dX5_writeTo_29 (by decide) ?_
        refine lv_irem hx hb dX5_writeTo_31 (by decide) ?_
        refine mw_ti (v' := nI (k % 8)) (pk_rem (by omega) (by omega) (by omega)) ?_
        refine lv_ishr hx hb dX5_writeTo_32 ?_
        refine mw_ti (v' := nI (g (k / 8) / 2 ^ (k % 8))) (sh_bit (by omega) (by omega)) ?_
        refine lv_iconst (v := nI 1) hx hb dX5_writeTo_33 (by decide) ?_
        refine lv_iand hx hb dX5_writeTo_34 ?_
        refine mw_ti (v' := nI (gbit g k)) ((pk_andN (by omega) 1 (by decide)).trans rfl) ?_
        refine lv_istore (lv' := [(4, .int (nI (gbit g k))), (0, .ref (h0)), (1, .ref (y)), (2, .int (nI ((wts g (ffl f q 8) (q + 8) k).2.2))), (3, .int (nI (k)))]) hx hb dX5_writeTo_35 hl (by decide) rfl (fun ls hl => ?_)
        refine lv_aload_n hx hb dX5_writeTo_37 rfl (lv_at hl 2 rfl) ?_
        refine lv_iload hx hb dX5_writeTo_38 (lv_at hl 0 rfl) ?_
        refine mw_cv hC hw (va_runV (As := [.int (nI (gbit g k))]) (rest := []) ⟨hx, hb, hml, hown, hts⟩ (c_X1_add l G _ H.size y w ((wts g (ffl f q 8) (q + 8) k).2.1) ((wts g (ffl f q 8) (q + 8) k).1) (gbit g k) (mw_u1 m2_3 mw_u0) mw_u0 (by omega) (by omega)) (cwV 1 hts gX5_writeTo_X1_add rfl rfl rfl (by decide +kernel) ⟨Nat.le_of_ble_eq_true rfl, Nat.le_of_ble_eq_true rfl⟩) (mw_preV (ci := 1) hC hw rfl (mw_u1 m2_3 mw_u0)) rfl rfl hl.1 rfl (lv_room (Nat.le_of_ble_eq_true rfl)) dX5_writeTo_40 ⟨Nat.le_of_ble_eq_true rfl, Nat.le_of_ble_eq_true rfl⟩) (fun H locs hz hw => ?_)
        refine lv_iload hx hb dX5_writeTo_43 (lv_at hl 0 rfl) ?_
        refine lv_iconst (v := nI 1) hx hb dX5_writeTo_45 (by decide) ?_
        refine lv_icmp_ne (tgt := 55) hx hb dX5_writeTo_46 (by decide) (fun c_8 => ?_) (fun c_8 => ?_)
        · skip
          have c_8 : gbit g k ≠ 1 := fun h => c_8 ((nI_eq (a := gbit g k) (b := 1) (by omega) (by omega)).mpr h)
          refine lv_iconst (v := nI 0) hx hb dX5_writeTo_55 (by decide) ?_
          refine lv_istore_n (lv' := [(2, .int (nI (0))), (4, .int (nI (gbit g k))), (0, .ref (h0)), (1, .ref (y)), (3, .int (nI (k)))]) hx hb dX5_writeTo_56 rfl hl (by decide) rfl (fun ls hl => ?_)
          refine lv_iload_n hx hb dX5_writeTo_57 rfl (lv_at hl 0 rfl) ?_
          refine lv_iconst (v := nI 5) hx hb dX5_writeTo_58 (by decide) ?_
          refine lv_icmp_ne (tgt := 69) hx hb dX5_writeTo_59 (by decide) (fun c_9 => ?_) (fun c_9 => ?_)
          · skip
            refine lv_iinc (v := nI (k + 1)) (lv' := [(3, .int (nI (k + 1))), (2, .int (nI (0))), (4, .int (nI (gbit g k))), (0, .ref (h0)), (1, .ref (y))]) hx hb dX5_writeTo_69 hl (k := 4) rfl (by rw [show Int32.ofInt 1 = nI 1 by decide]; exact nI_add _ _) (by decide) rfl (fun ls hl => ?_)
            refine lv_goto (tgt := 8) hx hb dX5_writeTo_72 (by decide) ?_
            have hc_11 : (.inr (1, [.ref (w), .int (nI (((wts g (ffl f q 8) (q + 8) k).2.1) + 1))]) : va_E) = .inr (1, [.ref (w), .int (nI ((wts g (ffl f q 8) (q + 8) (k + 1)).2.1))]) := by simp only [wts, wt1, *]; first | rfl | simp_all
            have hc_12 : (.inl (G.2 2, 47, .inr (.inl (fadd ((wts g (ffl f q 8) (q + 8) k).1) ((wts g (ffl f q 8) (q + 8) k).2.1) (gbit g k)))) : va_E) = .inl (G.2 2, 47, .inr (.inl ((wts g (ffl f q 8) (q + 8) (k + 1)).1))) := by simp only [wts, wt1, *]; first | rfl | simp_all
            have hw : mw_St G (mw_A M s.heap.size) s (va_up (va_up M y (some (.inr (1, [.ref (w), .int (nI ((wts g (ffl f q 8) (q + 8) (k + 1)).2.1))])))) w (some (.inl (G.2 2, 47, .inr (.inl ((wts g (ffl f q 8) (q + 8) (k + 1)).1)))))) H locs := hw.to (fun q8 x8 h8 => by
              by_cases b_13 : q8 = y
              · rw [b_13] at h8 ⊢; exact (mw_u1 m2_3 mw_u0).trans ((congrArg some hc_11).trans ((mw_u1 m2_3 mw_u0).symm.trans h8))
              by_cases b_14 : q8 = w
              · rw [b_14] at h8 ⊢; exact mw_u0.trans ((congrArg some hc_12).trans (mw_u0.symm.trans h8))
              simp only [va_up_ne _ _ b_13, va_up_ne _ _ b_14] at h8 ⊢; exact h8)
            have hv_15 : (.int (nI (0)) : Value) = .int (nI ((wts g (ffl f q 8) (q + 8) (k + 1)).2.2)) := by simp only [wts, wt1, *]; first | rfl | simp_all
            rw [hv_15] at hl
            exact ih (k + 1) (by omega) (by omega) _ _ ls hw (lv_sub hl [3, 4, 1, 0] rfl)
          · skip
            exact absurd c_9 (by decide)
        · skip
          have c_8 : gbit g k = 1 := (nI_eq (a := gbit g k) (b := 1) (by omega) (by omega)).mp c_8
          refine lv_iload_n hx hb dX5_writeTo_49 rfl (lv_at hl 3 rfl) ?_
          refine lv_iconst (v := nI 1) hx hb dX5_writeTo_50 (by decide) ?_
          refine lv_iadd hx hb dX5_writeTo_51 ?_
          refine mw_ti (v' := nI ((wts g (ffl f q 8) (q + 8) k).2.2 + 1)) (nI_add _ _) ?_
          refine lv_goto (tgt := 56) hx hb dX5_writeTo_52 (by decide) ?_
          refine lv_istore_n (lv' := [(2, .int (nI ((wts g (ffl f q 8) (q + 8) k).2.2 + 1))), (4, .int (nI (gbit g k))), (0, .ref (h0)), (1, .ref (y)), (3, .int (nI (k)))]) hx hb dX5_writeTo_56 rfl hl (by decide) rfl (fun ls hl => ?_)
          refine lv_iload_n hx hb dX5_writeTo_57 rfl (lv_at hl 0 rfl) ?_
          refine lv_iconst (v := nI 5) hx hb dX5_writeTo_58 (by decide) ?_
          refine lv_icmp_ne (tgt := 69) hx hb dX5_writeTo_59 (by decide) (fun c_16 => ?_) (fun c_16 => ?_)
          · skip
            have c_16 : (wts g (ffl f q 8) (q + 8) k).2.2 + 1 ≠ 5 := fun h => c_16 ((nI_eq (a := (wts g (ffl f q 8) (q + 8) k).2.2 + 1) (b := 5) (by omega) (by omega)).mpr h)
            refine lv_iinc (v := nI (k + 1)) (lv' := [(3, .int (nI (k + 1))), (2, .int (nI ((wts g (ffl f q 8) (q + 8) k).2.2 + 1))), (4, .int (nI (gbit g k))), (0, .ref (h0)), (1, .ref (y))]) hx hb dX5_writeTo_69 hl (k := 4) rfl (by rw [show Int32.ofInt 1 = nI 1 by decide]; exact nI_add _ _) (by decide) rfl (fun ls hl => ?_)
            refine lv_goto (tgt := 8) hx hb dX5_writeTo_72 (by decide) ?_
            have hc_18 : (.inr (1, [.ref (w), .int (nI (((wts g (ffl f q 8) (q + 8) k).2.1) + 1))]) : va_E) = .inr (1, [.ref (w), .int (nI ((wts g (ffl f q 8) (q + 8) (k + 1)).2.1))]) := by simp only [wts, wt1, *]; first | rfl | simp_all
            have hc_19 : (.inl (G.2 2, 47, .inr (.inl (fadd ((wts g (ffl f q 8) (q + 8) k).1) ((wts g (ffl f q 8) (q + 8) k).2.1) (gbit g k)))) : va_E) = .inl (G.2 2, 47, .inr (.inl ((wts g (ffl f q 8) (q + 8) (k + 1)).1))) := by simp only [wts, wt1, *]; first | rfl | simp_all
            have hw : mw_St G (mw_A M s.heap.size) s (va_up (va_up M y (some (.inr (1, [.ref (w), .int (nI ((wts g (ffl f q 8) (q + 8) (k + 1)).2.1))])))) w (some (.inl (G.2 2, 47, .inr (.inl ((wts g (ffl f q 8) (q + 8) (k + 1)).1)))))) H locs := hw.to (fun q8 x8 h8 => by
              by_cases b_20 : q8 = y
              · rw [b_20] at h8 ⊢; exact (mw_u1 m2_3 mw_u0).trans ((congrArg some hc_18).trans ((mw_u1 m2_3 mw_u0).symm.trans h8))
              by_cases b_21 : q8 = w
              · rw [b_21] at h8 ⊢; exact mw_u0.trans ((congrArg some hc_19).trans (mw_u0.symm.trans h8))
              simp only [va_up_ne _ _ b_20, va_up_ne _ _ b_21] at h8 ⊢; exact h8)
            have hv_22 : (.int (nI ((wts g (ffl f q 8) (q + 8) k).2.2 + 1)) : Value) = .int (nI ((wts g (ffl f q 8) (q + 8) (k + 1)).2.2)) := by simp only [wts, wt1, *]; first | rfl | simp_all
            rw [hv_22] at hl
            exact ih (k + 1) (by omega) (by omega) _ _ ls hw (lv_sub hl [3, 4, 1, 0] rfl)
          · skip
            have c_16 : (wts g (ffl f q 8) (q + 8) k).2.2 + 1 = 5 := (nI_eq (a := (wts g (ffl f q 8) (q + 8) k).2.2 + 1) (b := 5) (by omega) (by omega)).mp c_16
            refine lv_aload_n hx hb dX5_writeTo_62 rfl (lv_at hl 3 rfl) ?_
            refine lv_iconst (v := nI 0) hx hb dX5_writeTo_63 (by decide) ?_
            refine mw_cv hC hw (va_runV (As := [.int (nI (0))]) (rest := []) ⟨hx, hb, hml, hown, hts⟩ (c_X1_add l G _ H.size y w (((wts g (ffl f q 8) (q + 8) k).2.1) + 1) (fadd ((wts g (ffl f q 8) (q + 8) k).1) ((wts g (ffl f q 8) (q + 8) k).2.1) (gbit g k)) 0 (mw_u1 m2_3 mw_u0) mw_u0 (by omega) (by omega)) (cwV 1 hts gX5_writeTo_X1_add rfl rfl rfl (by decide +kernel) ⟨Nat.le_of_ble_eq_true rfl, Nat.le_of_ble_eq_true rfl⟩) (mw_preV (ci := 1) hC hw rfl (mw_u1 m2_3 mw_u0)) rfl rfl hl.1 rfl (lv_room (Nat.le_of_ble_eq_true rfl)) dX5_writeTo_64 ⟨Nat.le_of_ble_eq_true rfl, Nat.le_of_ble_eq_true rfl⟩) (fun H locs hz hw => ?_)
            refine lv_iconst (v := nI 0) hx hb dX5_writeTo_67 (by decide) ?_
            refine lv_istore_n (lv' := [(2, .int (nI (0))), (4, .int (nI (gbit g k))), (0, .ref (h0)), (1, .ref (y)), (3, .int (nI (k)))]) hx hb dX5_writeTo_68 rfl hl (by decide) rfl (fun ls hl => ?_)
            refine lv_iinc (v := nI (k + 1)) (lv' := [(3, .int (nI (k + 1))), (2, .int (nI (0))), (4, .int (nI (gbit g k))), (0, .ref (h0)), (1, .ref (y))]) hx hb dX5_writeTo_69 hl (k := 4) rfl (by rw [show Int32.ofInt 1 = nI 1 by decide]; exact nI_add _ _) (by decide) rfl (fun ls hl => ?_)
            refine lv_goto (tgt := 8) hx hb dX5_writeTo_72 (by decide) ?_
            have hc_24 : (.inr (1, [.ref (w), .int (nI ((((wts g (ffl f q 8) (q + 8) k).2.1) + 1) + 1))]) : va_E) = .inr (1, [.ref (w), .int (nI ((wts g (ffl f q 8) (q + 8) (k + 1)).2.1))]) := by simp only [wts, wt1, *]; first | rfl | simp_all
            have hc_25 : (.inl (G.2 2, 47, .inr (.inl (fadd (fadd ((wts g (ffl f q 8) (q + 8) k).1) ((wts g (ffl f q 8) (q + 8) k).2.1) (gbit g k)) (((wts g (ffl f q 8) (q + 8) k).2.1) + 1) 0))) : va_E) = .inl (G.2 2, 47, .inr (.inl ((wts g (ffl f q 8) (q + 8) (k + 1)).1))) := by simp only [wts, wt1, *]; first | rfl | simp_all
            have hw : mw_St G (mw_A M s.heap.size) s (va_up (va_up M y (some (.inr (1, [.ref (w), .int (nI ((wts g (ffl f q 8) (q + 8) (k + 1)).2.1))])))) w (some (.inl (G.2 2, 47, .inr (.inl ((wts g (ffl f q 8) (q + 8) (k + 1)).1)))))) H locs := hw.to (fun q8 x8 h8 => by
              by_cases b_26 : q8 = y
              · rw [b_26] at h8 ⊢; exact (mw_u1 m2_3 mw_u0).trans ((congrArg some hc_24).trans ((mw_u1 m2_3 mw_u0).symm.trans h8))
              by_cases b_27 : q8 = w
              · rw [b_27] at h8 ⊢; exact mw_u0.trans ((congrArg some hc_25).trans (mw_u0.symm.trans h8))
              simp only [va_up_ne _ _ b_26, va_up_ne _ _ b_27] at h8 ⊢; exact h8)
            have hv_28 : (.int (nI (0)) : Value) = .int (nI ((wts g (ffl f q 8) (q + 8) (k + 1)).2.2)) := by simp only [wts, wt1, *]; first | rfl | simp_all
            rw [hv_28] at hl
            exact ih (k + 1) (by omega) (by omega) _ _ ls hw (lv_sub hl [3, 4, 1, 0] rfl)
  have hc_30 : (.inr (1, [.ref (w), .int (nI (q + 8))]) : va_E) = .inr (1, [.ref (w), .int (nI ((wts g (ffl f q 8) (q + 8) 0).2.1))]) := by first | rfl | (congr 2; omega) | simp_all
  have hc_31 : (.inl (G.2 2, 47, .inr (.inl (ffl f q 8))) : va_E) = .inl (G.2 2, 47, .inr (.inl ((wts g (ffl f q 8) (q + 8) 0).1))) := by first | rfl | (congr 2; omega) | simp_all
  have hw : mw_St G (mw_A M s.heap.size) s (va_up (va_up M y (some (.inr (1, [.ref (w), .int (nI ((wts g (ffl f q 8) (q + 8) 0).2.1))])))) w (some (.inl (G.2 2, 47, .inr (.inl ((wts g (ffl f q 8) (q + 8) 0).1)))))) H locs := hw.to (fun q8 x8 h8 => by
    by_cases b_32 : q8 = y
    · rw [b_32] at h8 ⊢; exact (mw_u1 m2_3 mw_u0).trans ((congrArg some hc_30).trans ((mw_u1 m2_3 mw_u0).symm.trans h8))
    by_cases b_33 : q8 = w
    · rw [b_33] at h8 ⊢; exact mw_u0.trans ((congrArg some hc_31).trans (mw_u0.symm.trans h8))
    simp only [va_up_ne _ _ b_32, va_up_ne _ _ b_33] at h8 ⊢; exact h8)
  exact lp_1 (8 * n - 0 + 1) 0 (by omega) (Nat.lt_succ_self _) _ _ ls hw (lv_sub hl [2, 3, 1, 0] rfl)
