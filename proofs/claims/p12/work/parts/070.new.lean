/-! ===== constructors: Frame, Messages, Store, Unit ===== -/
theorem inX1_init_X1 : ∀ w ∈ wsX10, w ∈ wsX1_init := by decide +kernel
def RM_X1_init : Room := { frames := 1, cells := 1, slots := 47, locals := 15 }
set_option maxHeartbeats 4000000 in
set_option maxRecDepth 100000 in
theorem c_X1_init (l : Launch) (G : mw_G) (M : mw_M) (sz : Nat) (h0 : Nat) (e0 : M h0 = some (.inr (1, [.null, .int (0)])))   : Met l yX1_init wsX1_init RM_X1_init (mw_pre G M sz [.ref (h0)]) (mw_Qn G M sz (fun M9 => ∃ n1 : Nat, M n1 = none ∧ M9 = (va_up (va_up M n1 (some (.inl (G.2 2, 47, .inr (.inl (fun _ => 0)))))) h0 (some (.inr (1, [.ref (n1), .int (nI (0))])))))) 1 47 (mw_A M sz) := by
  refine Met.ofW (cc := cX1_init) (maxL := 1) (ret := none) (by decide) rfl ?_
  intro p e s m args below meth c s₁ B hml hv
  obtain ⟨rfl, rfl, hC, hw⟩ := mw_in hv
  have hx := B.exec
  have hb := B.bytes
  have hr := B.returns
  have hts := atoms_spec (ws := wsX1_init) B.pre
  have hown : s.vm.findClass RX1 = some m.cls := findClass_of_methodNamed B.named
  have hlocks := B.notSynchronized
  have hin : meth.name = "<init>" := (name_of_methodNamed B.named B.method).1
  have k_0 := hts (.methodLink RX1 3 objectInit) (by decide +kernel)
  have k_1 := hts (.instanceMethod objectInit) (by decide +kernel)
  have k_2 := hts (.code objectInit ⟨#[0xb1]⟩ 1 none) (by decide +kernel)
  have k_3 := hts (.arrayClass .long) (by decide +kernel)
  have k_4 := hts (.fieldLink RX1 9 "LinkPair$Frame" "words" "[J") (by decide +kernel)
  have hl := lv_entry ([.ref (h0)]) (n := 1) (Nat.le_of_ble_eq_true rfl)
  rw [lg_entry_eq]
  generalize (lg_sl ([.ref (h0)]) ++ List.replicate (1 - (lg_sl ([.ref (h0)])).length) Slot.unset).toArray = ls at hl ⊢
  have hl : lv_has ls 1 [(0, .ref (h0))] := hl
  refine mw_start (fun H locs hw => ?_) hw
  refine lv_aload_n hx hb dX1_init_0 rfl (lv_at hl 0 rfl) ?_
  refine W.objInit hx hb hown k_0 k_1 k_2 rfl (by rw [hml]; exact hl.1) rfl dX1_init_1 (Nat.le_of_ble_eq_true rfl) (Nat.le_of_ble_eq_true rfl) ?_
  refine W.eq (g2 := F0 m 4 ls []) rfl ?_
  refine lv_aload_n hx hb dX1_init_4 rfl (lv_at hl 0 rfl) ?_
  refine lv_bipush (v := nI 47) hx hb dX1_init_5 (by decide) ?_
  refine mw_newa (atype := .long) (ty := .long) (a0 := (47, .inr (.inl (fun _ => 0)))) (N' := 47) hx hb k_3 rfl hC hw 2 rfl (fun C h => by cases h) (fun cA => mw_ha_l cA _) (by decide +kernel) (by decide +kernel) (by decide +kernel) (Nat.le_of_ble_eq_true rfl) (Nat.le_of_ble_eq_true rfl) dX1_init_7 (fun H' hn hw => ?_)
  obtain ⟨q_1, eq_1⟩ : ∃ z, z = H.size := ⟨_, rfl⟩
  rw [← eq_1] at hw hn ⊢
  have n_q_1_h0 : h0 ≠ q_1 := fun e9 => by rw [← e9, e0] at hn; cases hn
  have fq_1 : M q_1 = none := by exact hn
  generalize H' = H at hw ⊢
  refine mw_putF (C := RX1) (T := TX1) (N := 2) hx hb hts inX1_init_X1 tyX1 tyX1_ok nmX1 hown hC hw (mw_u1 n_q_1_h0 e0) rfl 0 (by decide) k_4 rfl hin rfl rfl rfl (Nat.le_of_ble_eq_true rfl) dX1_init_9 (fun H locs hw => ?_)
  have hw : mw_St G _ s (va_up _ h0 (some (.inr (1, [.ref (q_1), .int (0)])))) H locs := hw
  have hc_3 : (.inr (1, [.ref (q_1), .int (0)]) : va_E) = .inr (1, [.ref (q_1), .int (nI (0))]) := by first | rfl | (congr 2; omega) | simp_all
  have hw : mw_St G (mw_A M s.heap.size) s (va_up (va_up M q_1 (some (.inl (G.2 2, 47, .inr (.inl (fun _ => 0)))))) h0 (some (.inr (1, [.ref (q_1), .int (nI (0))])))) H locs := hw.to (fun q8 x8 h8 => by
    by_cases b_4 : q8 = q_1
    · rw [b_4] at h8 ⊢; exact (mw_u1 (Ne.symm n_q_1_h0) mw_u0).trans (((mw_u1 (Ne.symm n_q_1_h0) mw_u0).symm.trans h8))
    by_cases b_5 : q8 = h0
    · rw [b_5] at h8 ⊢; exact mw_u0.trans ((congrArg some hc_3).trans (mw_u0.symm.trans h8))
    simp only [va_up_ne _ _ b_4, va_up_ne _ _ b_5] at h8 ⊢; exact h8)
  exact mw_nret hx hb hr hlocks hw ⟨q_1, fq_1, rfl⟩ dX1_init_12
theorem inX3_init_X3 : ∀ w ∈ wsX30, w ∈ wsX3_init := by decide +kernel
def RM_X3_init : Room := { frames := 1, cells := 2, slots := 374, locals := 15 }
set_option maxHeartbeats 4000000 in
set_option maxRecDepth 100000 in
theorem c_X3_init (l : Launch) (G : mw_G) (M : mw_M) (sz : Nat) (h0 : Nat) (e0 : M h0 = some (.inr (3, [.null, .null, .int (0), .int (0), .int (0), .int (0)])))   : Met l yX3_init wsX3_init RM_X3_init (mw_pre G M sz [.ref (h0)]) (mw_Qn G M sz (fun M9 => ∃ n1 n2 : Nat, M n1 = none ∧ M n2 = none ∧ n1 ≠ n2 ∧ M9 = (va_up (va_up (va_up M n1 (some (.inl (G.2 1, 187, .inl (fun j => nI ((fun _ => 0) j)))))) n2 (some (.inl (G.2 1, 187, .inl (fun j => nI ((fun _ => 0) j)))))) h0 (some (.inr (3, [.ref (n1), .ref (n2), .int (nI (0)), .int (nI (0)), .int (nI (0)), .int (nI (0))])))))) 2 374 (mw_A M sz) := by
  refine Met.ofW (cc := cX3_init) (maxL := 1) (ret := none) (by decide) rfl ?_
  intro p e s m args below meth c s₁ B hml hv
  obtain ⟨rfl, rfl, hC, hw⟩ := mw_in hv
  have hx := B.exec
  have hb := B.bytes
  have hr := B.returns
  have hts := atoms_spec (ws := wsX3_init) B.pre
  have hown : s.vm.findClass RX3 = some m.cls := findClass_of_methodNamed B.named
  have hlocks := B.notSynchronized
  have hin : meth.name = "<init>" := (name_of_methodNamed B.named B.method).1
  have k_0 := hts (.methodLink RX3 3 objectInit) (by decide +kernel)
  have k_1 := hts (.instanceMethod objectInit) (by decide +kernel)
  have k_2 := hts (.code objectInit ⟨#[0xb1]⟩ 1 none) (by decide +kernel)
  have k_3 := hts (.arrayClass .int) (by decide +kernel)
  have k_4 := hts (.fieldLink RX3 9 "LinkPair$Messages" "lengths" "[I") (by decide +kernel)
  have k_5 := hts (.fieldLink RX3 15 "LinkPair$Messages" "seeds" "[I") (by decide +kernel)
  have hl := lv_entry ([.ref (h0)]) (n := 1) (Nat.le_of_ble_eq_true rfl)
  rw [lg_entry_eq]
  generalize (lg_sl ([.ref (h0)]) ++ List.replicate (1 - (lg_sl ([.ref (h0)])).length) Slot.unset).toArray = ls at hl ⊢
  have hl : lv_has ls 1 [(0, .ref (h0))] := hl
  refine mw_start (fun H locs hw => ?_) hw
  refine lv_aload_n hx hb dX3_init_0 rfl (lv_at hl 0 rfl) ?_
  refine W.objInit hx hb hown k_0 k_1 k_2 rfl (by rw [hml]; exact hl.1) rfl dX3_init_1 (Nat.le_of_ble_eq_true rfl) (Nat.le_of_ble_eq_true rfl) ?_
  refine W.eq (g2 := F0 m 4 ls []) rfl ?_
  refine lv_aload_n hx hb dX3_init_4 rfl (lv_at hl 0 rfl) ?_
  refine lv_sipush (v := nI 187) hx hb dX3_init_5 (by decide) ?_
  refine mw_newa (atype := .int) (ty := .int) (a0 := (187, .inl (fun _ => 0))) (N' := 187) hx hb k_3 rfl hC hw 1 rfl (fun C h => by cases h) (fun cA => mw_ha_i cA _) (by decide +kernel) (by decide +kernel) (by decide +kernel) (Nat.le_of_ble_eq_true rfl) (Nat.le_of_ble_eq_true rfl) dX3_init_8 (fun H' hn hw => ?_)
  obtain ⟨q_1, eq_1⟩ : ∃ z, z = H.size := ⟨_, rfl⟩
  rw [← eq_1] at hw hn ⊢
  have n_q_1_h0 : h0 ≠ q_1 := fun e9 => by rw [← e9, e0] at hn; cases hn
  have fq_1 : M q_1 = none := by exact hn
  generalize H' = H at hw ⊢
  refine mw_putF (C := RX3) (T := TX3) (N := 6) hx hb hts inX3_init_X3 tyX3 tyX3_ok nmX3 hown hC hw (mw_u1 n_q_1_h0 e0) rfl 0 (by decide) k_4 rfl hin rfl rfl rfl (Nat.le_of_ble_eq_true rfl) dX3_init_10 (fun H locs hw => ?_)
  have hw : mw_St G _ s (va_up _ h0 (some (.inr (3, [.ref (q_1), .null, .int (0), .int (0), .int (0), .int (0)])))) H locs := hw
  refine lv_aload_n hx hb dX3_init_13 rfl (lv_at hl 0 rfl) ?_
  refine lv_sipush (v := nI 187) hx hb dX3_init_14 (by decide) ?_
  refine mw_newa (atype := .int) (ty := .int) (a0 := (187, .inl (fun _ => 0))) (N' := 187) hx hb k_3 rfl hC hw 1 rfl (fun C h => by cases h) (fun cA => mw_ha_i cA _) (by decide +kernel) (by decide +kernel) (by decide +kernel) (Nat.le_of_ble_eq_true rfl) (Nat.le_of_ble_eq_true rfl) dX3_init_17 (fun H' hn hw => ?_)
  obtain ⟨q_2, eq_2⟩ : ∃ z, z = H.size := ⟨_, rfl⟩
  rw [← eq_2] at hw hn ⊢
  have n_q_2_h0 : h0 ≠ q_2 := fun e9 => by rw [← e9, mw_u0] at hn; cases hn
  have n_q_2_q_1 : q_1 ≠ q_2 := fun e9 => by rw [← e9, (mw_u1 (Ne.symm n_q_1_h0) mw_u0)] at hn; cases hn
  have fq_2 : M q_2 = none := by simpa only [va_up_ne _ _ (Ne.symm n_q_2_q_1), va_up_ne _ _ (Ne.symm n_q_2_h0)] using hn
  generalize H' = H at hw ⊢
  refine mw_putF (C := RX3) (T := TX3) (N := 6) hx hb hts inX3_init_X3 tyX3 tyX3_ok nmX3 hown hC hw (mw_u1 n_q_2_h0 mw_u0) rfl 1 (by decide) k_5 rfl hin rfl rfl rfl (Nat.le_of_ble_eq_true rfl) dX3_init_19 (fun H locs hw => ?_)
  have hw : mw_St G _ s (va_up _ h0 (some (.inr (3, [.ref (q_1), .ref (q_2), .int (0), .int (0), .int (0), .int (0)])))) H locs := hw
  have hc_4 : (.inl (G.2 1, 187, .inl (fun _ => 0)) : va_E) = .inl (G.2 1, 187, .inl (fun j => nI ((fun _ => 0) j))) := by first | rfl | (congr 2; omega) | simp_all
  have hc_5 : (.inl (G.2 1, 187, .inl (fun _ => 0)) : va_E) = .inl (G.2 1, 187, .inl (fun j => nI ((fun _ => 0) j))) := by first | rfl | (congr 2; omega) | simp_all
  have hc_6 : (.inr (3, [.ref (q_1), .ref (q_2), .int (0), .int (0), .int (0), .int (0)]) : va_E) = .inr (3, [.ref (q_1), .ref (q_2), .int (nI (0)), .int (nI (0)), .int (nI (0)), .int (nI (0))]) := by first | rfl | (congr 2; omega) | simp_all
  have hw : mw_St G (mw_A M s.heap.size) s (va_up (va_up (va_up M q_1 (some (.inl (G.2 1, 187, .inl (fun j => nI ((fun _ => 0) j)))))) q_2 (some (.inl (G.2 1, 187, .inl (fun j => nI ((fun _ => 0) j)))))) h0 (some (.inr (3, [.ref (q_1), .ref (q_2), .int (nI (0)), .int (nI (0)), .int (nI (0)), .int (nI (0))])))) H locs := hw.to (fun q8 x8 h8 => by
    by_cases b_7 : q8 = q_1
    · rw [b_7] at h8 ⊢; exact (mw_u1 (Ne.symm n_q_1_h0) (mw_u1 n_q_2_q_1 (mw_u1 (Ne.symm n_q_1_h0) mw_u0))).trans ((congrArg some hc_4).trans ((mw_u1 (Ne.symm n_q_1_h0) (mw_u1 n_q_2_q_1 mw_u0)).symm.trans h8))
    by_cases b_8 : q8 = q_2
    · rw [b_8] at h8 ⊢; exact (mw_u1 (Ne.symm n_q_2_h0) mw_u0).trans ((congrArg some hc_5).trans ((mw_u1 (Ne.symm n_q_2_h0) mw_u0).symm.trans h8))
    by_cases b_9 : q8 = h0
    · rw [b_9] at h8 ⊢; exact mw_u0.trans ((congrArg some hc_6).trans (mw_u0.symm.trans h8))
    simp only [va_up_ne _ _ b_7, va_up_ne _ _ b_8, va_up_ne _ _ b_9] at h8 ⊢; exact h8)
  exact mw_nret hx hb hr hlocks hw ⟨q_1, q_2, fq_1, fq_2, n_q_2_q_1, rfl⟩ dX3_init_22
theorem inX4_init_X4 : ∀ w ∈ wsX40, w ∈ wsX4_init := by decide +kernel
def RM_X4_init : Room := { frames := 1, cells := 2, slots := 13650, locals := 15 }
set_option maxHeartbeats 4000000 in
set_option maxRecDepth 100000 in
theorem c_X4_init (l : Launch) (G : mw_G) (M : mw_M) (sz : Nat) (h0 : Nat) (e0 : M h0 = some (.inr (4, [.null, .null, .int (0)])))   : Met l yX4_init wsX4_init RM_X4_init (mw_pre G M sz [.ref (h0)]) (mw_Qn G M sz (fun M9 => ∃ n1 n2 : Nat, M n1 = none ∧ M n2 = none ∧ n1 ≠ n2 ∧ M9 = (va_up (va_up (va_up M n1 (some (.inl (G.2 0, 13600, .inl (fun j => sb_b ((fun _ => 0) j)))))) n2 (some (.inl (G.2 1, 50, .inl (fun j => nI ((fun _ => 0) j)))))) h0 (some (.inr (4, [.ref (n1), .ref (n2), .int (nI (0))])))))) 2 13650 (mw_A M sz) := by
  refine Met.ofW (cc := cX4_init) (maxL := 1) (ret := none) (by decide) rfl ?_
  intro p e s m args below meth c s₁ B hml hv
  obtain ⟨rfl, rfl, hC, hw⟩ := mw_in hv
  have hx := B.exec
  have hb := B.bytes
  have hr := B.returns
  have hts := atoms_spec (ws := wsX4_init) B.pre
  have hown : s.vm.findClass RX4 = some m.cls := findClass_of_methodNamed B.named
  have hlocks := B.notSynchronized
  have hin : meth.name = "<init>" := (name_of_methodNamed B.named B.method).1
  have k_0 := hts (.methodLink RX4 3 objectInit) (by decide +kernel)
  have k_1 := hts (.instanceMethod objectInit) (by decide +kernel)
  have k_2 := hts (.code objectInit ⟨#[0xb1]⟩ 1 none) (by decide +kernel)
  have k_3 := hts (.arrayClass .byte) (by decide +kernel)
  have k_4 := hts (.fieldLink RX4 9 "LinkPair$Store" "bytes" "[B") (by decide +kernel)
  have k_5 := hts (.arrayClass .int) (by decide +kernel)
  have k_6 := hts (.fieldLink RX4 15 "LinkPair$Store" "lengths" "[I") (by decide +kernel)
  have hl := lv_entry ([.ref (h0)]) (n := 1) (Nat.le_of_ble_eq_true rfl)
  rw [lg_entry_eq]
  generalize (lg_sl ([.ref (h0)]) ++ List.replicate (1 - (lg_sl ([.ref (h0)])).length) Slot.unset).toArray = ls at hl ⊢
  have hl : lv_has ls 1 [(0, .ref (h0))] := hl
  refine mw_start (fun H locs hw => ?_) hw
  refine lv_aload_n hx hb dX4_init_0 rfl (lv_at hl 0 rfl) ?_
  refine W.objInit hx hb hown k_0 k_1 k_2 rfl (by rw [hml]; exact hl.1) rfl dX4_init_1 (Nat.le_of_ble_eq_true rfl) (Nat.le_of_ble_eq_true rfl) ?_
  refine W.eq (g2 := F0 m 4 ls []) rfl ?_
  refine lv_aload_n hx hb dX4_init_4 rfl (lv_at hl 0 rfl) ?_
  refine lv_sipush (v := nI 13600) hx hb dX4_init_5 (by decide) ?_
  refine mw_newa (atype := .byte) (ty := .byte) (a0 := (13600, .inl (fun _ => 0))) (N' := 13600) hx hb k_3 rfl hC hw 0 rfl (fun C h => by cases h) (fun cA => mw_ha_b cA _) (by decide +kernel) (by decide +kernel) (by decide +kernel) (Nat.le_of_ble_eq_true rfl) (Nat.le_of_ble_eq_true rfl) dX4_init_8 (fun H' hn hw => ?_)
  obtain ⟨q_1, eq_1⟩ : ∃ z, z = H.size := ⟨_, rfl⟩
  rw [← eq_1] at hw hn ⊢
  have n_q_1_h0 : h0 ≠ q_1 := fun e9 => by rw [← e9, e0] at hn; cases hn
  have fq_1 : M q_1 = none := by exact hn
  generalize H' = H at hw ⊢
  refine mw_putF (C := RX4) (T := TX4) (N := 3) hx hb hts inX4_init_X4 tyX4 tyX4_ok nmX4 hown hC hw (mw_u1 n_q_1_h0 e0) rfl 0 (by decide) k_4 rfl hin rfl rfl rfl (Nat.le_of_ble_eq_true rfl) dX4_init_10 (fun H locs hw => ?_)
  have hw : mw_St G _ s (va_up _ h0 (some (.inr (4, [.ref (q_1), .null, .int (0)])))) H locs := hw
  refine lv_aload_n hx hb dX4_init_13 rfl (lv_at hl 0 rfl) ?_
  refine lv_bipush (v := nI 50) hx hb dX4_init_14 (by decide) ?_
  refine mw_newa (atype := .int) (ty := .int) (a0 := (50, .inl (fun _ => 0))) (N' := 50) hx hb k_5 rfl hC hw 1 rfl (fun C h => by cases h) (fun cA => mw_ha_i cA _) (by decide +kernel) (by decide +kernel) (by decide +kernel) (Nat.le_of_ble_eq_true rfl) (Nat.le_of_ble_eq_true rfl) dX4_init_16 (fun H' hn hw => ?_)
  obtain ⟨q_2, eq_2⟩ : ∃ z, z = H.size := ⟨_, rfl⟩
  rw [← eq_2] at hw hn ⊢
  have n_q_2_h0 : h0 ≠ q_2 := fun e9 => by rw [← e9, mw_u0] at hn; cases hn
  have n_q_2_q_1 : q_1 ≠ q_2 := fun e9 => by rw [← e9, (mw_u1 (Ne.symm n_q_1_h0) mw_u0)] at hn; cases hn
  have fq_2 : M q_2 = none := by simpa only [va_up_ne _ _ (Ne.symm n_q_2_q_1), va_up_ne _ _ (Ne.symm n_q_2_h0)] using hn
  generalize H' = H at hw ⊢
  refine mw_putF (C := RX4) (T := TX4) (N := 3) hx hb hts inX4_init_X4 tyX4 tyX4_ok nmX4 hown hC hw (mw_u1 n_q_2_h0 mw_u0) rfl 1 (by decide) k_6 rfl hin rfl rfl rfl (Nat.le_of_ble_eq_true rfl) dX4_init_18 (fun H locs hw => ?_)
  have hw : mw_St G _ s (va_up _ h0 (some (.inr (4, [.ref (q_1), .ref (q_2), .int (0)])))) H locs := hw
  have hc_4 : (.inl (G.2 0, 13600, .inl (fun _ => 0)) : va_E) = .inl (G.2 0, 13600, .inl (fun j => sb_b ((fun _ => 0) j))) := by first | rfl | (congr 2; omega) | simp_all
  have hc_5 : (.inl (G.2 1, 50, .inl (fun _ => 0)) : va_E) = .inl (G.2 1, 50, .inl (fun j => nI ((fun _ => 0) j))) := by first | rfl | (congr 2; omega) | simp_all
  have hc_6 : (.inr (4, [.ref (q_1), .ref (q_2), .int (0)]) : va_E) = .inr (4, [.ref (q_1), .ref (q_2), .int (nI (0))]) := by first | rfl | (congr 2; omega) | simp_all
  have hw : mw_St G (mw_A M s.heap.size) s (va_up (va_up (va_up M q_1 (some (.inl (G.2 0, 13600, .inl (fun j => sb_b ((fun _ => 0) j)))))) q_2 (some (.inl (G.2 1, 50, .inl (fun j => nI ((fun _ => 0) j)))))) h0 (some (.inr (4, [.ref (q_1), .ref (q_2), .int (nI (0))])))) H locs := hw.to (fun q8 x8 h8 => by
    by_cases b_7 : q8 = q_1
    · rw [b_7] at h8 ⊢; exact (mw_u1 (Ne.symm n_q_1_h0) (mw_u1 n_q_2_q_1 (mw_u1 (Ne.symm n_q_1_h0) mw_u0))).trans ((congrArg some hc_4).trans ((mw_u1 (Ne.symm n_q_1_h0) (mw_u1 n_q_2_q_1 mw_u0)).symm.trans h8))
    by_cases b_8 : q8 = q_2
    · rw [b_8] at h8 ⊢; exact (mw_u1 (Ne.symm n_q_2_h0) mw_u0).trans ((congrArg some hc_5).trans ((mw_u1 (Ne.symm n_q_2_h0) mw_u0).symm.trans h8))
    by_cases b_9 : q8 = h0
    · rw [b_9] at h8 ⊢; exact mw_u0.trans ((congrArg some hc_6).trans (mw_u0.symm.trans h8))
    simp only [va_up_ne _ _ b_7, va_up_ne _ _ b_8, va_up_ne _ _ b_9] at h8 ⊢; exact h8)
  exact mw_nret hx hb hr hlocks hw ⟨q_1, q_2, fq_1, fq_2, n_q_2_q_1, rfl⟩ dX4_init_21
theorem inX5_init_X5 : ∀ w ∈ wsX50, w ∈ wsX5_init := by decide +kernel
def RM_X5_init : Room := { frames := 1, cells := 1, slots := 277, locals := 15 }
set_option maxHeartbeats 4000000 in
set_option maxRecDepth 100000 in
theorem c_X5_init (l : Launch) (G : mw_G) (M : mw_M) (sz : Nat) (h0 : Nat) (e0 : M h0 = some (.inr (5, [.null, .int (0)])))   : Met l yX5_init wsX5_init RM_X5_init (mw_pre G M sz [.ref (h0)]) (mw_Qn G M sz (fun M9 => ∃ n1 : Nat, M n1 = none ∧ M9 = (va_up (va_up M n1 (some (.inl (G.2 1, 277, .inl (fun j => nI ((fun _ => 0) j)))))) h0 (some (.inr (5, [.ref (n1), .int (nI (0))])))))) 1 277 (mw_A M sz) := by
  refine Met.ofW (cc := cX5_init) (maxL := 1) (ret := none) (by decide) rfl ?_
  intro p e s m args below meth c s₁ B hml hv
  obtain ⟨rfl, rfl, hC, hw⟩ := mw_in hv
  have hx := B.exec
  have hb := B.bytes
  have hr := B.returns
  have hts := atoms_spec (ws := wsX5_init) B.pre
  have hown : s.vm.findClass RX5 = some m.cls := findClass_of_methodNamed B.named
  have hlocks := B.notSynchronized
  have hin : meth.name = "<init>" := (name_of_methodNamed B.named B.method).1
  have k_0 := hts (.methodLink RX5 3 objectInit) (by decide +kernel)
  have k_1 := hts (.instanceMethod objectInit) (by decide +kernel)
  have k_2 := hts (.code objectInit ⟨#[0xb1]⟩ 1 none) (by decide +kernel)
  have k_3 := hts (.arrayClass .int) (by decide +kernel)
  have k_4 := hts (.fieldLink RX5 9 "LinkPair$Unit" "bytes" "[I") (by decide +kernel)
  have hl := lv_entry ([.ref (h0)]) (n := 1) (Nat.le_of_ble_eq_true rfl)
  rw [lg_entry_eq]
  generalize (lg_sl ([.ref (h0)]) ++ List.replicate (1 - (lg_sl ([.ref (h0)])).length) Slot.unset).toArray = ls at hl ⊢
  have hl : lv_has ls 1 [(0, .ref (h0))] := hl
  refine mw_start (fun H locs hw => ?_) hw
  refine lv_aload_n hx hb dX5_init_0 rfl (lv_at hl 0 rfl) ?_
  refine W.objInit hx hb hown k_0 k_1 k_2 rfl (by rw [hml]; exact hl.1) rfl dX5_init_1 (Nat.le_of_ble_eq_true rfl) (Nat.le_of_ble_eq_true rfl) ?_
  refine W.eq (g2 := F0 m 4 ls []) rfl ?_
  refine lv_aload_n hx hb dX5_init_4 rfl (lv_at hl 0 rfl) ?_
  refine lv_sipush (v := nI 277) hx hb dX5_init_5 (by decide) ?_
  refine mw_newa (atype := .int) (ty := .int) (a0 := (277, .inl (fun _ => 0))) (N' := 277) hx hb k_3 rfl hC hw 1 rfl (fun C h => by cases h) (fun cA => mw_ha_i cA _) (by decide +kernel) (by decide +kernel) (by decide +kernel) (Nat.le_of_ble_eq_true rfl) (Nat.le_of_ble_eq_true rfl) dX5_init_8 (fun H' hn hw => ?_)
  obtain ⟨q_1, eq_1⟩ : ∃ z, z = H.size := ⟨_, rfl⟩
  rw [← eq_1] at hw hn ⊢
  have n_q_1_h0 : h0 ≠ q_1 := fun e9 => by rw [← e9, e0] at hn; cases hn
  have fq_1 : M q_1 = none := by exact hn
  generalize H' = H at hw ⊢
  refine mw_putF (C := RX5) (T := TX5) (N := 2) hx hb hts inX5_init_X5 tyX5 tyX5_ok nmX5 hown hC hw (mw_u1 n_q_1_h0 e0) rfl 0 (by decide) k_4 rfl hin rfl rfl rfl (Nat.le_of_ble_eq_true rfl) dX5_init_10 (fun H locs hw => ?_)
  have hw : mw_St G _ s (va_up _ h0 (some (.inr (5, [.ref (q_1), .int (0)])))) H locs := hw
  have hc_3 : (.inl (G.2 1, 277, .inl (fun _ => 0)) : va_E) = .inl (G.2 1, 277, .inl (fun j => nI ((fun _ => 0) j))) := by first | rfl | (congr 2; omega) | simp_all
  have hc_4 : (.inr (5, [.ref (q_1), .int (0)]) : va_E) = .inr (5, [.ref (q_1), .int (nI (0))]) := by first | rfl | (congr 2; omega) | simp_all
  have hw : mw_St G (mw_A M s.heap.size) s (va_up (va_up M q_1 (some (.inl (G.2 1, 277, .inl (fun j => nI ((fun _ => 0) j)))))) h0 (some (.inr (5, [.ref (q_1), .int (nI (0))])))) H locs := hw.to (fun q8 x8 h8 => by
    by_cases b_5 : q8 = q_1
    · rw [b_5] at h8 ⊢; exact (mw_u1 (Ne.symm n_q_1_h0) mw_u0).trans ((congrArg some hc_3).trans ((mw_u1 (Ne.symm n_q_1_h0) mw_u0).symm.trans h8))
    by_cases b_6 : q8 = h0
    · rw [b_6] at h8 ⊢; exact mw_u0.trans ((congrArg some hc_4).trans (mw_u0.symm.trans h8))
    simp only [va_up_ne _ _ b_5, va_up_ne _ _ b_6] at h8 ⊢; exact h8)
  exact mw_nret hx hb hr hlocks hw ⟨q_1, fq_1, rfl⟩ dX5_init_13
