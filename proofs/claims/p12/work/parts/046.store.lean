/-! ===== LinkPair.Store ===== -/
theorem inX4_keep_X4 : ∀ w ∈ wsX40, w ∈ wsX4_keep := by decide +kernel
def RM_X4_keep : Room := { frames := 1, cells := 0, slots := 0, locals := 21 }
set_option maxHeartbeats 4000000 in
set_option maxRecDepth 100000 in
theorem c_X4_keep (l : Launch) (G : mw_G) (M : mw_M) (sz : Nat) (h0 ba la t : Nat) (bg lg : Nat → Nat) (hu ub n : Nat) (g : Nat → Nat) (e0 : M h0 = some (.inr (4, [.ref (ba), .ref (la), .int (nI (t))]))) (e1 : M ba = some (.inl (G.2 0, 13600, .inl (fun j => sb_b (bg j))))) (e2 : M la = some (.inl (G.2 1, 50, .inl (fun j => nI (lg j))))) (e3 : M hu = some (.inr (5, [.ref (ub), .int (nI (n))]))) (e4 : M ub = some (.inl (G.2 1, 277, .inl (fun j => nI (g j))))) (hn : 5 ≤ n) (hn2 : n ≤ 277) (ht : t < 100000)  : Met l yX4_keep wsX4_keep RM_X4_keep (mw_pre G M sz [.ref (h0), .ref (hu)]) (mw_Qv G M sz (va_up (va_up (va_up M h0 (some (.inr (4, [.ref (ba), .ref (la), .int (nI (t + 1))])))) ba (some (.inl (G.2 0, 13600, .inl (fun j => sb_b ((kee bg g (t % 50) (n - 5)) j)))))) la (some (.inl (G.2 1, 50, .inl (fun j => nI ((va_up lg (t % 50) (n - 5)) j))))))) 0 0 (mw_A M sz) := by
  refine Met.ofW (cc := cX4_keep) (maxL := 4) (ret := none) (by decide) rfl ?_
  intro p e s m args below meth c s₁ B hml hv
  obtain ⟨rfl, rfl, hC, hw⟩ := mw_in hv
  have hx := B.exec
  have hb := B.bytes
  have hr := B.returns
  have hts := atoms_spec (ws := wsX4_keep) B.pre
  have hown : s.vm.findClass RX4 = some m.cls := findClass_of_methodNamed B.named
  have hlocks := B.notSynchronized
  have k_0 := hts (.fieldLink RX4 19 "LinkPair$Store" "total" "I") (by decide +kernel)
  have k_1 := hts (.fieldLink RX4 15 "LinkPair$Store" "lengths" "[I") (by decide +kernel)
  have k_2 := hts (.fieldLink RX4 9 "LinkPair$Store" "bytes" "[B") (by decide +kernel)
  have m0_1 : h0 ≠ ba := mw_ne e0 e1 (by intro h9; cases h9)
  have m0_2 : h0 ≠ la := mw_ne e0 e2 (by intro h9; cases h9)
  have m1_2 : ba ≠ la := mw_ne e1 e2 (by simp)
  have m1_3 : ba ≠ hu := mw_ne e1 e3 (by intro h9; cases h9)
  have m1_4 : ba ≠ ub := mw_ne e1 e4 (by simp)
  have m2_3 : la ≠ hu := mw_ne e2 e3 (by intro h9; cases h9)
  have m2_4 : la ≠ ub := mw_ne e2 e4 (by simp)
  have hl := lv_entry ([.ref (h0), .ref (hu)]) (n := 4) (Nat.le_of_ble_eq_true rfl)
  rw [lg_entry_eq]
  generalize (lg_sl ([.ref (h0), .ref (hu)]) ++ List.replicate (4 - (lg_sl ([.ref (h0), .ref (hu)])).length) Slot.unset).toArray = ls at hl ⊢
  have hl : lv_has ls 4 [(0, .ref (h0)), (1, .ref (hu))] := hl
  refine mw_start (fun H locs hw => ?_) hw
  refine lv_aload_n hx hb dX4_keep_0 rfl (lv_at hl 0 rfl) ?_
  refine mw_get (C := RX4) (T := TX4) (N := 3) (v := .int (nI (t))) hx hb hts inX4_keep_X4 hown hC hw e0 rfl 2 (by decide) k_0 rfl dX4_keep_1 ?_
  refine lv_bipush (v := nI 50) hx hb dX4_keep_4 (by decide) ?_
  refine lv_irem hx hb dX4_keep_6 (by decide) ?_
  refine mw_ti (v' := nI (t % 50)) (pk_rem (by omega) (by omega) (by omega)) ?_
  refine lv_istore_n (lv' := [(2, .int (nI (t % 50))), (0, .ref (h0)), (1, .ref (hu))]) hx hb dX4_keep_7 rfl hl (by decide) rfl (fun ls hl => ?_)
  refine lv_aload_n hx hb dX4_keep_8 rfl (lv_at hl 1 rfl) ?_
  refine mw_get (C := RX4) (T := TX4) (N := 3) (v := .ref (la)) hx hb hts inX4_keep_X4 hown hC hw e0 rfl 1 (by decide) k_1 rfl dX4_keep_9 ?_
  refine lv_iload_n hx hb dX4_keep_12 rfl (lv_at hl 0 rfl) ?_
  refine lv_aload_n hx hb dX4_keep_13 rfl (lv_at hl 2 rfl) ?_
  refine mw_ci hC hw (va_runV (As := []) (rest := [.int (nI (t % 50)), .ref (la)]) ⟨hx, hb, hml, hown, hts⟩ (c_X5_bodyLength l G _ H.size hu ub n e3 (by omega)) (cwV 0 hts gX4_keep_X5_bodyLength rfl rfl rfl (by decide +kernel) ⟨Nat.le_of_ble_eq_true rfl, Nat.le_of_ble_eq_true rfl⟩) (mw_preV (ci := 5) hC hw rfl e3) rfl rfl hl.1 rfl (lv_room (Nat.le_of_ble_eq_true rfl)) dX4_keep_14 ⟨Nat.le_of_ble_eq_true rfl, Nat.le_of_ble_eq_true rfl⟩) (fun H locs hz hw => ?_)
  refine mw_istM (n := 50) (g := lg) (i := t % 50) hx hb hC hw e2 (by omega) (by decide) dX4_keep_17 (fun H locs hw => ?_)
  refine lv_iconst (v := nI 0) hx hb dX4_keep_18 (by decide) ?_
  refine lv_istore_n (lv' := [(3, .int (nI (0))), (2, .int (nI (t % 50))), (0, .ref (h0)), (1, .ref (hu))]) hx hb dX4_keep_19 rfl hl (by decide) rfl (fun ls hl => ?_)
  have lp_1 : ∀ (n9 : Nat) (k : Nat), (hk : k ≤ n - 5) → n - 5 - k < n9 → ∀ (H : Heap) (locs : List Loc) (ls : Array Slot), mw_St G (mw_A M s.heap.size) s (va_up (va_up M ba (some (.inl (G.2 0, 13600, .inl (fun j => sb_b ((kee bg g (t % 50) k) j)))))) la (some (.inl (G.2 1, 50, .inl (fun j => nI ((va_up lg (t % 50) (n - 5)) j)))))) H locs → lv_has ls 4 [(0, .ref (h0)), (1, .ref (hu)), (2, .int (nI (t % 50))), (3, .int (nI (k)))] → W p l e (headSpec wsX4_keep RM_X4_keep).room s m ([.ref (h0), .ref (hu)] : List Value).toArray below meth c H locs 0 0 (MQ below (mw_Qv G M s.heap.size (va_up (va_up (va_up M h0 (some (.inr (4, [.ref (ba), .ref (la), .int (nI (t + 1))])))) ba (some (.inl (G.2 0, 13600, .inl (fun j => sb_b ((kee bg g (t % 50) (n - 5)) j)))))) la (some (.inl (G.2 1, 50, .inl (fun j => nI ((va_up lg (t % 50) (n - 5)) j))))))) ([.ref (h0), .ref (hu)] : List Value).toArray s 0 0 (mw_A M s.heap.size)) (F0 m 20 ls []) := by
    intro n9
    induction n9 with
    | zero => intro k hk h9; exact absurd h9 (Nat.not_lt_zero _)
    | succ n9 ih =>
      intro k hk h9 H locs ls hw hl
      refine lv_iload_n hx hb dX4_keep_20 rfl (lv_at hl 3 rfl) ?_
      refine lv_aload_n hx hb dX4_keep_21 rfl (lv_at hl 0 rfl) ?_
      refine mw_get (C := RX4) (T := TX4) (N := 3) (v := .ref (la)) hx hb hts inX4_keep_X4 hown hC hw (mw_u1 m0_2 (mw_u1 m0_1 e0)) rfl 1 (by decide) k_1 rfl dX4_keep_22 ?_
      refine lv_iload_n hx hb dX4_keep_25 rfl (lv_at hl 2 rfl) ?_
      refine mw_ildM (n := 50) (g := va_up lg (t % 50) (n - 5)) (i := t % 50) hx hb hC hw mw_u0 (by omega) (by decide) dX4_keep_26 ?_
      refine mw_ti (v' := nI (n - 5)) (congrArg nI (va_up_self _ _ _)) ?_
      refine lv_icmp_ge (tgt := 54) hx hb dX4_keep_27 (by decide) (fun c_2 => ?_) (fun c_2 => ?_)
      · skip
        have c_2 : k ≥ n - 5 := (nI_leI (a := n - 5) (b := k) (by omega) (by omega)).mp c_2
        obtain rfl : k = n - 5 := by omega
        refine lv_aload_n hx hb dX4_keep_54 rfl (lv_at hl 0 rfl) ?_
        refine lv_dup hx hb dX4_keep_55 rfl ?_
        refine mw_get (C := RX4) (T := TX4) (N := 3) (v := .int (nI (t))) hx hb hts inX4_keep_X4 hown hC hw (mw_u1 m0_2 (mw_u1 m0_1 e0)) rfl 2 (by decide) k_0 rfl dX4_keep_56 ?_
        refine lv_iconst (v := nI 1) hx hb dX4_keep_59 (by decide) ?_
        refine lv_iadd hx hb dX4_keep_60 ?_
        refine mw_ti (v' := nI (t + 1)) (nI_add _ _) ?_
        refine mw_put (C := RX4) (T := TX4) (N := 3) hx hb hts inX4_keep_X4 tyX4 tyX4_ok nmX4 hown hC hw (mw_u1 m0_2 (mw_u1 m0_1 e0)) rfl 2 (by decide) k_0 rfl rfl rfl (Nat.le_of_ble_eq_true rfl) dX4_keep_61 (fun H locs hw => ?_)
        have hw : mw_St G _ s (va_up _ h0 (some (.inr (4, [.ref (ba), .ref (la), .int (nI (t + 1))])))) H locs := hw
        have hw : mw_St G (mw_A M s.heap.size) s (va_up (va_up (va_up M h0 (some (.inr (4, [.ref (ba), .ref (la), .int (nI (t + 1))])))) ba (some (.inl (G.2 0, 13600, .inl (fun j => sb_b ((kee bg g (t % 50) (n - 5)) j)))))) la (some (.inl (G.2 1, 50, .inl (fun j => nI ((va_up lg (t % 50) (n - 5)) j)))))) H locs := hw.to (fun q8 x8 h8 => by
          by_cases b_4 : q8 = h0
          · rw [b_4] at h8 ⊢; exact mw_u0.trans (((mw_u1 m0_2 (mw_u1 m0_1 mw_u0)).symm.trans h8))
          by_cases b_5 : q8 = ba
          · rw [b_5] at h8 ⊢; exact (mw_u1 (Ne.symm m0_1) (mw_u1 m1_2 mw_u0)).trans (((mw_u1 m1_2 mw_u0).symm.trans h8))
          by_cases b_6 : q8 = la
          · rw [b_6] at h8 ⊢; exact (mw_u1 (Ne.symm m0_2) mw_u0).trans ((mw_u0.symm.trans h8))
          simp only [va_up_ne _ _ b_4, va_up_ne _ _ b_5, va_up_ne _ _ b_6] at h8 ⊢; exact h8)
        exact mw_vret hx hb hr hlocks hw (fun _ _ h9 => h9) dX4_keep_64
      · skip
        have c_2 : k < n - 5 := Nat.not_le.mp (fun h => c_2 ((nI_leI (a := n - 5) (b := k) (by omega) (by omega)).mpr h))
        refine lv_aload_n hx hb dX4_keep_30 rfl (lv_at hl 0 rfl) ?_
        refine mw_get (C := RX4) (T := TX4) (N := 3) (v := .ref (ba)) hx hb hts inX4_keep_X4 hown hC hw (mw_u1 m0_2 (mw_u1 m0_1 e0)) rfl 0 (by decide) k_2 rfl dX4_keep_31 ?_
        refine lv_iload_n hx hb dX4_keep_34 rfl (lv_at hl 2 rfl) ?_
        refine lv_sipush (v := nI 272) hx hb dX4_keep_35 (by decide) ?_
        refine lv_imul hx hb dX4_keep_38 ?_
        refine mw_ti (v' := nI ((t % 50) * 272)) (pk_mul _ _) ?_
        refine lv_iload_n hx hb dX4_keep_39 rfl (lv_at hl 3 rfl) ?_
        refine lv_iadd hx hb dX4_keep_40 ?_
        refine mw_ti (v' := nI ((t % 50) * 272 + k)) (nI_add _ _) ?_
        refine lv_aload_n hx hb dX4_keep_41 rfl (lv_at hl 1 rfl) ?_
        refine lv_iload_n hx hb dX4_keep_42 rfl (lv_at hl 3 rfl) ?_
        refine mw_ci hC hw (va_runV (As := [.int (nI (k))]) (rest := [.int (nI ((t % 50) * 272 + k)), .ref (ba)]) ⟨hx, hb, hml, hown, hts⟩ (c_X5_bodyByte l G _ H.size hu ub n g k (mw_u1 (Ne.symm m2_3) (mw_u1 (Ne.symm m1_3) e3)) (mw_u1 (Ne.symm m2_4) (mw_u1 (Ne.symm m1_4) e4)) (by omega)) (cwV 1 hts gX4_keep_X5_bodyByte rfl rfl rfl (by decide +kernel) ⟨Nat.le_of_ble_eq_true rfl, Nat.le_of_ble_eq_true rfl⟩) (mw_preV (ci := 5) hC hw rfl (mw_u1 (Ne.symm m2_3) (mw_u1 (Ne.symm m1_3) e3))) rfl rfl hl.1 rfl (lv_room (Nat.le_of_ble_eq_true rfl)) dX4_keep_43 ⟨Nat.le_of_ble_eq_true rfl, Nat.le_of_ble_eq_true rfl⟩) (fun H locs hz hw => ?_)
        refine lv_i2b hx hb dX4_keep_46 rfl ?_
        refine mw_ti (v' := sb_b (g (3 + k))) (rfl) ?_
        refine mw_bstM (n := 13600) (g := kee bg g (t % 50) k) (i := (t % 50) * 272 + k) hx hb hC hw (mw_u1 m1_2 mw_u0) (by omega) (by decide) dX4_keep_47 (fun H locs hw => ?_)
        refine lv_iinc (v := nI (k + 1)) (lv' := [(3, .int (nI (k + 1))), (0, .ref (h0)), (1, .ref (hu)), (2, .int (nI (t % 50)))]) hx hb dX4_keep_48 hl (k := 3) rfl (by rw [show Int32.ofInt 1 = nI 1 by decide]; exact nI_add _ _) (by decide) rfl (fun ls hl => ?_)
        refine lv_goto (tgt := 20) hx hb dX4_keep_51 (by decide) ?_
        have hc_8 : (.inl (G.2 0, 13600, .inl (fun j => sb_b ((va_up (kee bg g (t % 50) k) ((t % 50) * 272 + k) (g (3 + k))) j))) : va_E) = .inl (G.2 0, 13600, .inl (fun j => sb_b ((kee bg g (t % 50) (k + 1)) j))) := by first | rfl | (congr 2; omega) | simp_all
        have hw : mw_St G (mw_A M s.heap.size) s (va_up (va_up M ba (some (.inl (G.2 0, 13600, .inl (fun j => sb_b ((kee bg g (t % 50) (k + 1)) j)))))) la (some (.inl (G.2 1, 50, .inl (fun j => nI ((va_up lg (t % 50) (n - 5)) j)))))) H locs := hw.to (fun q8 x8 h8 => by
          by_cases b_9 : q8 = ba
          · rw [b_9] at h8 ⊢; exact mw_u0.trans ((congrArg some hc_8).trans ((mw_u1 m1_2 mw_u0).symm.trans h8))
          by_cases b_10 : q8 = la
          · rw [b_10] at h8 ⊢; exact (mw_u1 (Ne.symm m1_2) mw_u0).trans ((mw_u0.symm.trans h8))
          simp only [va_up_ne _ _ b_9, va_up_ne _ _ b_10] at h8 ⊢; exact h8)
        exact ih (k + 1) (by omega) (by omega) _ _ ls hw (lv_sub hl [1, 2, 3, 0] rfl)
  have hc_12 : (.inl (G.2 0, 13600, .inl (fun j => sb_b (bg j))) : va_E) = .inl (G.2 0, 13600, .inl (fun j => sb_b ((kee bg g (t % 50) 0) j))) := by first | rfl | (congr 2; omega) | simp_all
  have hw : mw_St G (mw_A M s.heap.size) s (va_up (va_up M ba (some (.inl (G.2 0, 13600, .inl (fun j => sb_b ((kee bg g (t % 50) 0) j)))))) la (some (.inl (G.2 1, 50, .inl (fun j => nI ((va_up lg (t % 50) (n - 5)) j)))))) H locs := hw.to (fun q8 x8 h8 => by
    by_cases b_13 : q8 = ba
    · rw [b_13] at h8 ⊢; exact (mw_u1 m1_2 e1).trans ((congrArg some hc_12).trans ((mw_u1 m1_2 mw_u0).symm.trans h8))
    by_cases b_14 : q8 = la
    · rw [b_14] at h8 ⊢; exact mw_u0.trans ((mw_u0.symm.trans h8))
    simp only [va_up_ne _ _ b_13, va_up_ne _ _ b_14] at h8 ⊢; exact h8)
  exact lp_1 (n - 5 - 0 + 1) 0 (by omega) (Nat.lt_succ_self _) _ _ ls hw (lv_sub hl [2, 3, 1, 0] rfl)
theorem inX4_has_X4 : ∀ w ∈ wsX40, w ∈ wsX4_has := by decide +kernel
def RM_X4_has : Room := { frames := 0, cells := 0, slots := 0, locals := 0 }
set_option maxHeartbeats 4000000 in
set_option maxRecDepth 100000 in
theorem c_X4_has (l : Launch) (G : mw_G) (M : mw_M) (sz : Nat) (h0 ba la t : Nat) (k : Nat) (e0 : M h0 = some (.inr (4, [.ref (ba), .ref (la), .int (nI (t))]))) (ht : t < 100000) (hk : k < 2 ^ 31)  : Met l yX4_has wsX4_has RM_X4_has (mw_pre G M sz [.ref (h0), .int (nI (k))]) (mw_Qi G M sz (nI (b2n (decide (k < t) && decide (t ≤ k + 50)))) M) 0 0 (mw_A M sz) := by
  refine Met.ofW (cc := cX4_has) (maxL := 2) (ret := (some .boolean)) (by decide) rfl ?_
  intro p e s m args below meth c s₁ B hml hv
  obtain ⟨rfl, rfl, hC, hw⟩ := mw_in hv
  have hx := B.exec
  have hb := B.bytes
  have hr := B.returns
  have hts := atoms_spec (ws := wsX4_has) B.pre
  have hown : s.vm.findClass RX4 = some m.cls := findClass_of_methodNamed B.named
  have hlocks := B.notSynchronized
  have k_0 := hts (.fieldLink RX4 19 "LinkPair$Store" "total" "I") (by decide +kernel)
  have hl := lv_entry ([.ref (h0), .int (nI (k))]) (n := 2) (Nat.le_of_ble_eq_true rfl)
  rw [lg_entry_eq]
  generalize (lg_sl ([.ref (h0), .int (nI (k))]) ++ List.replicate (2 - (lg_sl ([.ref (h0), .int (nI (k))])).length) Slot.unset).toArray = ls at hl ⊢
  have hl : lv_has ls 2 [(0, .ref (h0)), (1, .int (nI (k)))] := hl
  refine mw_start (fun H locs hw => ?_) hw
  refine lv_iload_n hx hb dX4_has_0 rfl (lv_at hl 1 rfl) ?_
  refine lv_if_lt (tgt := 27) hx hb dX4_has_1 (by decide) (fun c_1 => ?_) (fun c_1 => ?_)
  · skip
    have c_1 : k < 0 := (nI_ltI (a := k) (b := 0) (by omega) (by omega)).mp c_1
    refine lv_iconst (v := nI 0) hx hb dX4_has_27 (by decide) ?_
    exact mw_zret hx hb hr hlocks hw (by decide) (by unfold b2n; rw [if_neg (by simp <;> omega)]) (fun _ _ h9 => h9) dX4_has_28
  · skip
    have c_1 : k ≥ 0 := Nat.not_lt.mp (fun h => c_1 ((nI_ltI (a := k) (b := 0) (by omega) (by omega)).mpr h))
    refine lv_iload_n hx hb dX4_has_4 rfl (lv_at hl 1 rfl) ?_
    refine lv_aload_n hx hb dX4_has_5 rfl (lv_at hl 0 rfl) ?_
    refine mw_get (C := RX4) (T := TX4) (N := 3) (v := .int (nI (t))) hx hb hts inX4_has_X4 hown hC hw e0 rfl 2 (by decide) k_0 rfl dX4_has_6 ?_
    refine lv_icmp_ge (tgt := 27) hx hb dX4_has_9 (by decide) (fun c_2 => ?_) (fun c_2 => ?_)
    · skip
      have c_2 : k ≥ t := (nI_leI (a := t) (b := k) (by omega) (by omega)).mp c_2
      refine lv_iconst (v := nI 0) hx hb dX4_has_27 (by decide) ?_
      exact mw_zret hx hb hr hlocks hw (by decide) (by unfold b2n; rw [if_neg (by simp <;> omega)]) (fun _ _ h9 => h9) dX4_has_28
    · skip
      have c_2 : k < t := Nat.not_le.mp (fun h => c_2 ((nI_leI (a := t) (b := k) (by omega) (by omega)).mpr h))
      refine lv_iload_n hx hb dX4_has_12 rfl (lv_at hl 1 rfl) ?_
      refine lv_aload_n hx hb dX4_has_13 rfl (lv_at hl 0 rfl) ?_
      refine mw_get (C := RX4) (T := TX4) (N := 3) (v := .int (nI (t))) hx hb hts inX4_has_X4 hown hC hw e0 rfl 2 (by decide) k_0 rfl dX4_has_14 ?_
      refine lv_bipush (v := nI 50) hx hb dX4_has_17 (by decide) ?_
      refine lv_isub hx hb dX4_has_19 ?_
      refine mw_ti (v' := nI t - nI 50) (rfl) ?_
      refine lv_icmp_lt (tgt := 27) hx hb dX4_has_20 (by decide) (fun c_3 => ?_) (fun c_3 => ?_)
      · skip
        have hlt := (st_lt (by omega) (by omega)).mp c_3
        refine lv_iconst (v := nI 0) hx hb dX4_has_27 (by decide) ?_
        exact mw_zret hx hb hr hlocks hw (by decide) (by unfold b2n; rw [if_neg (by simp <;> omega)]) (fun _ _ h9 => h9) dX4_has_28
      · skip
        have hlt : ¬ k + 50 < t := fun h => c_3 ((st_lt (by omega) (by omega)).mpr h)
        refine lv_iconst (v := nI 1) hx hb dX4_has_23 (by decide) ?_
        refine lv_goto (tgt := 28) hx hb dX4_has_24 (by decide) ?_
        exact mw_zret hx hb hr hlocks hw (by decide) (by unfold b2n; rw [if_pos (by simp <;> omega)]) (fun _ _ h9 => h9) dX4_has_28
def RM_X4_has_neg : Room := { frames := 0, cells := 0, slots := 0, locals := 0 }
set_option maxHeartbeats 4000000 in
set_option maxRecDepth 100000 in
theorem c_X4_has_neg (l : Launch) (G : mw_G) (M : mw_M) (sz : Nat) (h0 ba la t : Nat) (k : Int32) (e0 : M h0 = some (.inr (4, [.ref (ba), .ref (la), .int (nI (t))]))) (hk : k < 0)  : Met l yX4_has wsX4_has RM_X4_has_neg (mw_pre G M sz [.ref (h0), .int (k)]) (mw_Qi G M sz (nI (0)) M) 0 0 (mw_A M sz) := by
  refine Met.ofW (cc := cX4_has) (maxL := 2) (ret := (some .boolean)) (by decide) rfl ?_
  intro p e s m args below meth c s₁ B hml hv
  obtain ⟨rfl, rfl, hC, hw⟩ := mw_in hv
  have hx := B.exec
  have hb := B.bytes
  have hr := B.returns
  have hts := atoms_spec (ws := wsX4_has) B.pre
  have hown : s.vm.findClass RX4 = some m.cls := findClass_of_methodNamed B.named
  have hlocks := B.notSynchronized
  have hl := lv_entry ([.ref (h0), .int (k)]) (n := 2) (Nat.le_of_ble_eq_true rfl)
  rw [lg_entry_eq]
  generalize (lg_sl ([.ref (h0), .int (k)]) ++ List.replicate (2 - (lg_sl ([.ref (h0), .int (k)])).length) Slot.unset).toArray = ls at hl ⊢
  have hl : lv_has ls 2 [(0, .ref (h0)), (1, .int (k))] := hl
  refine mw_start (fun H locs hw => ?_) hw
  refine lv_iload_n hx hb dX4_has_0 rfl (lv_at hl 1 rfl) ?_
  refine lv_if_lt (tgt := 27) hx hb dX4_has_1 (by decide) (fun c_1 => ?_) (fun c_1 => ?_)
  · skip
    refine lv_iconst (v := nI 0) hx hb dX4_has_27 (by decide) ?_
    exact mw_zret hx hb hr hlocks hw (by decide) (rfl) (fun _ _ h9 => h9) dX4_has_28
  · skip
    exact absurd hk c_1
theorem inX4_byteOf_X4 : ∀ w ∈ wsX40, w ∈ wsX4_byteOf := by decide +kernel
def RM_X4_byteOf : Room := { frames := 0, cells := 0, slots := 0, locals := 0 }
set_option maxHeartbeats 4000000 in
set_option maxRecDepth 100000 in
theorem c_X4_byteOf (l : Launch) (G : mw_G) (M : mw_M) (sz : Nat) (h0 ba la t : Nat) (bg lg : Nat → Nat) (k i : Nat) (e0 : M h0 = some (.inr (4, [.ref (ba), .ref (la), .int (nI (t))]))) (e1 : M ba = some (.inl (G.2 0, 13600, .inl (fun j => sb_b (bg j))))) (e2 : M la = some (.inl (G.2 1, 50, .inl (fun j => nI (lg j))))) (hk : k < 100000) (hi : i < 2 ^ 31) (hl_ : ∀ r, r < 50 → lg r ≤ 272) (hb_ : ∀ r, bg r < 256)  : Met l yX4_byteOf wsX4_byteOf RM_X4_byteOf (mw_pre G M sz [.ref (h0), .int (nI (k)), .int (nI (i))]) (mw_Qi G M sz (if i < lg (k % 50) then nI (bg (k % 50 * 272 + i)) else -1) M) 0 0 (mw_A M sz) := by
  refine Met.ofW (cc := cX4_byteOf) (maxL := 4) (ret := (some .int)) (by decide) rfl ?_
  intro p e s m args below meth c s₁ B hml hv
  obtain ⟨rfl, rfl, hC, hw⟩ := mw_in hv
  have hx := B.exec
  have hb := B.bytes
  have hr := B.returns
  have hts := atoms_spec (ws := wsX4_byteOf) B.pre
  have hown : s.vm.findClass RX4 = some m.cls := findClass_of_methodNamed B.named
  have hlocks := B.notSynchronized
  have k_0 := hts (.fieldLink RX4 15 "LinkPair$Store" "lengths" "[I") (by decide +kernel)
  have k_1 := hts (.fieldLink RX4 9 "LinkPair$Store" "bytes" "[B") (by decide +kernel)
  have hl := lv_entry ([.ref (h0), .int (nI (k)), .int (nI (i))]) (n := 4) (Nat.le_of_ble_eq_true rfl)
  rw [lg_entry_eq]
  generalize (lg_sl ([.ref (h0), .int (nI (k)), .int (nI (i))]) ++ List.replicate (4 - (lg_sl ([.ref (h0), .int (nI (k)), .int (nI (i))])).length) Slot.unset).toArray = ls at hl ⊢
  have hl : lv_has ls 4 [(0, .ref (h0)), (1, .int (nI (k))), (2, .int (nI (i)))] := hl
  refine mw_start (fun H locs hw => ?_) hw
  have hlk := hl_ (k % 50) (by omega)
  refine lv_iload_n hx hb dX4_byteOf_0 rfl (lv_at hl 1 rfl) ?_
  refine lv_bipush (v := nI 50) hx hb dX4_byteOf_1 (by decide) ?_
  refine lv_irem hx hb dX4_byteOf_3 (by decide) ?_
  refine mw_ti (v' := nI (k % 50)) (pk_rem (by omega) (by omega) (by omega)) ?_
  refine lv_istore_n (lv' := [(3, .int (nI (k % 50))), (0, .ref (h0)), (1, .int (nI (k))), (2, .int (nI (i)))]) hx hb dX4_byteOf_4 rfl hl (by decide) rfl (fun ls hl => ?_)
  refine lv_iload_n hx hb dX4_byteOf_5 rfl (lv_at hl 3 rfl) ?_
  refine lv_aload_n hx hb dX4_byteOf_6 rfl (lv_at hl 1 rfl) ?_
  refine mw_get (C := RX4) (T := TX4) (N := 3) (v := .ref (la)) hx hb hts inX4_byteOf_X4 hown hC hw e0 rfl 1 (by decide) k_0 rfl dX4_byteOf_7 ?_
  refine lv_iload_n hx hb dX4_byteOf_10 rfl (lv_at hl 0 rfl) ?_
  refine mw_ildM (n := 50) (g := lg) (i := k % 50) hx hb hC hw e2 (by omega) (by decide) dX4_byteOf_11 ?_
  refine lv_icmp_ge (tgt := 34) hx hb dX4_byteOf_12 (by decide) (fun c_1 => ?_) (fun c_1 => ?_)
  · skip
    have c_1 : i ≥ lg (k % 50) := (nI_leI (a := lg (k % 50)) (b := i) (by omega) (by omega)).mp c_1
    refine lv_iconst (v := -1) hx hb dX4_byteOf_34 (by decide) ?_
    exact mw_iret hx hb hr hlocks hw (by first | rw [if_pos (by omega)] | rw [if_neg (by omega)]) (fun _ _ h9 => h9) dX4_byteOf_35
  · skip
    have c_1 : i < lg (k % 50) := Nat.not_le.mp (fun h => c_1 ((nI_leI (a := lg (k % 50)) (b := i) (by omega) (by omega)).mpr h))
    refine lv_aload_n hx hb dX4_byteOf_15 rfl (lv_at hl 1 rfl) ?_
    refine mw_get (C := RX4) (T := TX4) (N := 3) (v := .ref (ba)) hx hb hts inX4_byteOf_X4 hown hC hw e0 rfl 0 (by decide) k_1 rfl dX4_byteOf_16 ?_
    refine lv_iload_n hx hb dX4_byteOf_19 rfl (lv_at hl 0 rfl) ?_
    refine lv_sipush (v := nI 272) hx hb dX4_byteOf_20 (by decide) ?_
    refine lv_imul hx hb dX4_byteOf_23 ?_
    refine mw_ti (v' := nI ((k % 50) * 272)) (pk_mul _ _) ?_
    refine lv_iload_n hx hb dX4_byteOf_24 rfl (lv_at hl 3 rfl) ?_
    refine lv_iadd hx hb dX4_byteOf_25 ?_
    refine mw_ti (v' := nI ((k % 50) * 272 + i)) (nI_add _ _) ?_
    refine mw_bldM (n := 13600) (g := bg) (i := (k % 50) * 272 + i) hx hb hC hw e1 (by omega) (by decide) dX4_byteOf_26 ?_
    refine lv_sipush (v := nI 255) hx hb dX4_byteOf_27 (by decide) ?_
    refine lv_iand hx hb dX4_byteOf_30 ?_
    refine mw_ti (v' := nI (bg (k % 50 * 272 + i))) (sb_255 (hb_ _)) ?_
    refine lv_goto (tgt := 35) hx hb dX4_byteOf_31 (by decide) ?_
    exact mw_iret hx hb hr hlocks hw (by first | rw [if_pos (by omega)] | rw [if_neg (by omega)]) (fun _ _ h9 => h9) dX4_byteOf_35
