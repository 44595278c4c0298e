/-! ===== LinkPair.taken, check ===== -/
def RM_X6_taken_bade : Room := { frames := 7, cells := 1, slots := 6, locals := 102 }
set_option maxHeartbeats 4000000 in
set_option maxRecDepth 100000 in
theorem t_X6_taken_bade (l : Launch) (hlt : l.stackTraces = false) (G : mw_G) (M : mw_M) (sz : Nat) (h0 ea hu : Nat) (en : Nat → Option Nat) (ed kk i : Int32) (e0 : M h0 = some (.inr (6, [.ref (ea), .ref (hu)]))) (e1 : M ea = some (.inl (G.2 4, 2, .inr (.inr (.inr (.inr (en))))))) (hb1 : ed < 0 ∨ nI 1 < ed)  : vx_Met l yX6_taken wsX6_taken RM_X6_taken_bade (mw_pre G M sz [.ref (h0), .int (ed), .int (kk), .int (i)]) mw_no (mw_X G M sz exA M) 1 6 (mw_A M sz) := by
  refine vx_ofW (cc := cX6_taken) (maxL := 5) (ret := (some .int)) (by decide) rfl ?_
  intro p e s m args below meth c s₁ B hml hex hv
  obtain ⟨rfl, rfl, hC, hw⟩ := mw_in hv
  have hx := B.exec
  have hb := B.bytes
  have hr := B.returns
  have hts := atoms_spec (ws := wsX6_taken) B.pre
  have hown : s.vm.findClass RX6 = some m.cls := findClass_of_methodNamed B.named
  have hlocks := B.notSynchronized
  have hl := lv_entry ([.ref (h0), .int (ed), .int (kk), .int (i)]) (n := 5) (Nat.le_of_ble_eq_true rfl)
  rw [lg_entry_eq]
  generalize (lg_sl ([.ref (h0), .int (ed), .int (kk), .int (i)]) ++ List.replicate (5 - (lg_sl ([.ref (h0), .int (ed), .int (kk), .int (i)])).length) Slot.unset).toArray = ls at hl ⊢
  have hl : lv_has ls 5 [(0, .ref (h0)), (1, .int (ed)), (2, .int (kk)), (3, .int (i))] := hl
  refine mw_start (fun H locs hw => ?_) hw
  refine lv_aload_n hx hb dX6_taken_0 rfl (lv_at hl 0 rfl) ?_
  refine lv_iload_n hx hb dX6_taken_1 rfl (lv_at hl 1 rfl) ?_
  refine mw_ct hC hw (vx_runV (As := [.int (ed)]) (rest := []) ⟨hx, hb, hml, hown, hts⟩ (t_X6_endOf_bad l hlt G _ H.size h0 ea hu en ed e0 e1 (hb1)) (cwV 1 hts gX6_taken_X6_endOf rfl rfl rfl (by decide +kernel) ⟨Nat.le_of_ble_eq_true rfl, Nat.le_of_ble_eq_true rfl⟩) (mw_preV (ci := 6) hC hw rfl e0) rfl rfl hl.1 rfl (lv_room (Nat.le_of_ble_eq_true rfl)) dX6_taken_2 ⟨Nat.le_of_ble_eq_true rfl, Nat.le_of_ble_eq_true rfl⟩) (fun ce q9 H locs hw hce hcv hcl => ?_)
  exact mw_pass hlocks hex hw hce hcv hcl (Nat.le_of_ble_eq_true rfl) (Nat.le_of_ble_eq_true rfl)
theorem inexA_X6_taken : ∀ w ∈ (vx_at0 RX6 29 exA exN).filter goodWord, w ∈ wsX6_taken := by decide +kernel
theorem inX6_taken_X0 : ∀ w ∈ wsX00, w ∈ wsX6_taken := by decide +kernel
def RM_X6_taken_neg : Room := { frames := 6, cells := 1, slots := 6, locals := 81 }
set_option maxHeartbeats 4000000 in
set_option maxRecDepth 100000 in
theorem t_X6_taken_neg (l : Launch) (hlt : l.stackTraces = false) (G : mw_G) (M : mw_M) (sz : Nat) (h0 ea hu : Nat) (en : Nat → Option Nat) (ed : Nat) (x li me so fi bi sn tn er un : Nat) (fl al ab : Bool) (ba sl t : Nat) (kk i : Int32) (e0 : M h0 = some (.inr (6, [.ref (ea), .ref (hu)]))) (e1 : M ea = some (.inl (G.2 4, 2, .inr (.inr (.inr (.inr (en))))))) (e2 : M x = some (.inr (0, [.ref (li), .ref (me), .ref (so), .int (nI (fi)), .int (nI (bi)), .int (nI (sn)), .int (nI (tn)), .int (nI (er)), .int (nI (un)), .int (nI (b2n fl)), .int (nI (b2n al)), .int (nI (b2n ab))]))) (e3 : M so = some (.inr (4, [.ref (ba), .ref (sl), .int (nI (t))]))) (he : ed ≤ 1) (hen : en ed = some x) (hb1 : kk < 0)  : vx_Met l yX6_taken wsX6_taken RM_X6_taken_neg (mw_pre G M sz [.ref (h0), .int (nI (ed)), .int (kk), .int (i)]) mw_no (mw_X G M sz exA M) 1 6 (mw_A M sz) := by
  refine vx_ofW (cc := cX6_taken) (maxL := 5) (ret := (some .int)) (by decide) rfl ?_
  intro p e s m args below meth c s₁ B hml hex hv
  obtain ⟨rfl, rfl, hC, hw⟩ := mw_in hv
  have hx := B.exec
  have hb := B.bytes
  have hr := B.returns
  have hts := atoms_spec (ws := wsX6_taken) B.pre
  have hown : s.vm.findClass RX6 = some m.cls := findClass_of_methodNamed B.named
  have hlocks := B.notSynchronized
  have k_0 := hts (.classLink RX6 27 exA) (by decide +kernel)
  have k_1 := hts (.initialized exA) (by decide +kernel)
  have hl := lv_entry ([.ref (h0), .int (nI (ed)), .int (kk), .int (i)]) (n := 5) (Nat.le_of_ble_eq_true rfl)
  rw [lg_entry_eq]
  generalize (lg_sl ([.ref (h0), .int (nI (ed)), .int (kk), .int (i)]) ++ List.replicate (5 - (lg_sl ([.ref (h0), .int (nI (ed)), .int (kk), .int (i)])).length) Slot.unset).toArray = ls at hl ⊢
  have hl : lv_has ls 5 [(0, .ref (h0)), (1, .int (nI (ed))), (2, .int (kk)), (3, .int (i))] := hl
  refine mw_start (fun H locs hw => ?_) hw
  refine lv_aload_n hx hb dX6_taken_0 rfl (lv_at hl 0 rfl) ?_
  refine lv_iload_n hx hb dX6_taken_1 rfl (lv_at hl 1 rfl) ?_
  refine mw_cr hC hw (va_runV (As := [.int (nI (ed))]) (rest := []) ⟨hx, hb, hml, hown, hts⟩ (c_X6_endOf l G _ H.size h0 ea hu en ed x e0 e1 (by omega) (hen)) (cwV 1 hts gX6_taken_X6_endOf rfl rfl rfl (by decide +kernel) ⟨Nat.le_of_ble_eq_true rfl, Nat.le_of_ble_eq_true rfl⟩) (mw_preV (ci := 6) hC hw rfl e0) rfl rfl hl.1 rfl (lv_room (Nat.le_of_ble_eq_true rfl)) dX6_taken_2 ⟨Nat.le_of_ble_eq_true rfl, Nat.le_of_ble_eq_true rfl⟩) (fun H locs hz hw => ?_)
  refine mw_getN (C := RX0) (T := TX0) (N := 12) (v := .ref (so)) hx hb hts inX6_taken_X0 hown hC hw e2 rfl 2 (by decide) (show Cond.fieldLinkNest RX6 114 (TX0 2).1 (TX0 2).2.1 (TX0 2).2.2.1 "LinkPair" ∈ mw_nestF by decide +kernel) rfl dX6_taken_5 ?_
  refine lv_astore (lv' := [(4, .ref (so)), (0, .ref (h0)), (1, .int (nI (ed))), (2, .int (kk)), (3, .int (i))]) hx hb dX6_taken_8 hl (by decide) rfl (fun ls hl => ?_)
  refine lv_aload hx hb dX6_taken_10 (lv_at hl 0 rfl) ?_
  refine lv_iload_n hx hb dX6_taken_12 rfl (lv_at hl 3 rfl) ?_
  refine mw_ci hC hw (va_runV (As := [.int (kk)]) (rest := []) ⟨hx, hb, hml, hown, hts⟩ (c_X4_has_neg l G _ H.size so ba sl t kk e3 (hb1)) (cwV 1 hts gX6_taken_X4_has rfl rfl rfl (by decide +kernel) ⟨Nat.le_of_ble_eq_true rfl, Nat.le_of_ble_eq_true rfl⟩) (mw_preV (ci := 4) hC hw rfl e3) rfl rfl hl.1 rfl (lv_room (Nat.le_of_ble_eq_true rfl)) dX6_taken_13 ⟨Nat.le_of_ble_eq_true rfl, Nat.le_of_ble_eq_true rfl⟩) (fun H locs hz hw => ?_)
  refine lv_if_eq (tgt := 23) hx hb dX6_taken_16 (by decide) (fun c_1 => ?_) (fun c_1 => ?_)
  · skip
    exact mw_throw hx hb hlt hown (by decide +kernel) k_0 k_1 (fun w h => hts w (inexA_X6_taken w h)) exA_bad exA_ot hC hw (hl.1.trans hml.symm) hex dX6_taken_23 dX6_taken_26 dX6_taken_27 dX6_taken_30 (Nat.le_of_ble_eq_true rfl) (Nat.le_of_ble_eq_true rfl) (Nat.le_of_ble_eq_true rfl) (Nat.le_of_ble_eq_true rfl) hlocks (Nat.le_of_ble_eq_true rfl) (Nat.le_of_ble_eq_true rfl)
  · skip
    exact absurd c_1 (by decide)
def RM_X6_taken_bad : Room := { frames := 6, cells := 1, slots := 6, locals := 81 }
set_option maxHeartbeats 4000000 in
set_option maxRecDepth 100000 in
theorem t_X6_taken_bad (l : Launch) (hlt : l.stackTraces = false) (G : mw_G) (M : mw_M) (sz : Nat) (h0 ea hu : Nat) (en : Nat → Option Nat) (ed : Nat) (x li me so fi bi sn tn er un : Nat) (fl al ab : Bool) (ba sl t : Nat) (kk : Nat) (i : Int32) (e0 : M h0 = some (.inr (6, [.ref (ea), .ref (hu)]))) (e1 : M ea = some (.inl (G.2 4, 2, .inr (.inr (.inr (.inr (en))))))) (e2 : M x = some (.inr (0, [.ref (li), .ref (me), .ref (so), .int (nI (fi)), .int (nI (bi)), .int (nI (sn)), .int (nI (tn)), .int (nI (er)), .int (nI (un)), .int (nI (b2n fl)), .int (nI (b2n al)), .int (nI (b2n ab))]))) (e3 : M so = some (.inr (4, [.ref (ba), .ref (sl), .int (nI (t))]))) (he : ed ≤ 1) (hen : en ed = some x) (ht : t < 100000) (hkk : kk < 2 ^ 31) (hb1 : ¬ (kk < t ∧ t ≤ kk + 50) ∨ i < 0)  : vx_Met l yX6_taken wsX6_taken RM_X6_taken_bad (mw_pre G M sz [.ref (h0), .int (nI (ed)), .int (nI (kk)), .int (i)]) mw_no (mw_X G M sz exA M) 1 6 (mw_A M sz) := by
  refine vx_ofW (cc := cX6_taken) (maxL := 5) (ret := (some .int)) (by decide) rfl ?_
  intro p e s m args below meth c s₁ B hml hex hv
  obtain ⟨rfl, rfl, hC, hw⟩ := mw_in hv
  have hx := B.exec
  have hb := B.bytes
  have hr := B.returns
  have hts := atoms_spec (ws := wsX6_taken) B.pre
  have hown : s.vm.findClass RX6 = some m.cls := findClass_of_methodNamed B.named
  have hlocks := B.notSynchronized
  have k_0 := hts (.classLink RX6 27 exA) (by decide +kernel)
  have k_1 := hts (.initialized exA) (by decide +kernel)
  have hl := lv_entry ([.ref (h0), .int (nI (ed)), .int (nI (kk)), .int (i)]) (n := 5) (Nat.le_of_ble_eq_true rfl)
  rw [lg_entry_eq]
  generalize (lg_sl ([.ref (h0), .int (nI (ed)), .int (nI (kk)), .int (i)]) ++ List.replicate (5 - (lg_sl ([.ref (h0), .int (nI (ed)), .int (nI (kk)), .int (i)])).length) Slot.unset).toArray = ls at hl ⊢
  have hl : lv_has ls 5 [(0, .ref (h0)), (1, .int (nI (ed))), (2, .int (nI (kk))), (3, .int (i))] := hl
  refine mw_start (fun H locs hw => ?_) hw
  refine lv_aload_n hx hb dX6_taken_0 rfl (lv_at hl 0 rfl) ?_
  refine lv_iload_n hx hb dX6_taken_1 rfl (lv_at hl 1 rfl) ?_
  refine mw_cr hC hw (va_runV (As := [.int (nI (ed))]) (rest := []) ⟨hx, hb, hml, hown, hts⟩ (c_X6_endOf l G _ H.size h0 ea hu en ed x e0 e1 (by omega) (hen)) (cwV 1 hts gX6_taken_X6_endOf rfl rfl rfl (by decide +kernel) ⟨Nat.le_of_ble_eq_true rfl, Nat.le_of_ble_eq_true rfl⟩) (mw_preV (ci := 6) hC hw rfl e0) rfl rfl hl.1 rfl (lv_room (Nat.le_of_ble_eq_true rfl)) dX6_taken_2 ⟨Nat.le_of_ble_eq_true rfl, Nat.le_of_ble_eq_true rfl⟩) (fun H locs hz hw => ?_)
  refine mw_getN (C := RX0) (T := TX0) (N := 12) (v := .ref (so)) hx hb hts inX6_taken_X0 hown hC hw e2 rfl 2 (by decide) (show Cond.fieldLinkNest RX6 114 (TX0 2).1 (TX0 2).2.1 (TX0 2).2.2.1 "LinkPair" ∈ mw_nestF by decide +kernel) rfl dX6_taken_5 ?_
  refine lv_astore (lv' := [(4, .ref (so)), (0, .ref (h0)), (1, .int (nI (ed))), (2, .int (nI (kk))), (3, .int (i))]) hx hb dX6_taken_8 hl (by decide) rfl (fun ls hl => ?_)
  refine lv_aload hx hb dX6_taken_10 (lv_at hl 0 rfl) ?_
  refine lv_iload_n hx hb dX6_taken_12 rfl (lv_at hl 3 rfl) ?_
  refine mw_ci hC hw (va_runV (As := [.int (nI (kk))]) (rest := []) ⟨hx, hb, hml, hown, hts⟩ (c_X4_has l G _ H.size so ba sl t kk e3 (by omega) (by omega)) (cwV 1 hts gX6_taken_X4_has rfl rfl rfl (by decide +kernel) ⟨Nat.le_of_ble_eq_true rfl, Nat.le_of_ble_eq_true rfl⟩) (mw_preV (ci := 4) hC hw rfl e3) rfl rfl hl.1 rfl (lv_room (Nat.le_of_ble_eq_true rfl)) dX6_taken_13 ⟨Nat.le_of_ble_eq_true rfl, Nat.le_of_ble_eq_true rfl⟩) (fun H locs hz hw => ?_)
  have hbz := b2n_le (decide (kk < t) && decide (t ≤ kk + 50))
  refine lv_if_eq (tgt := 23) hx hb dX6_taken_16 (by decide) (fun c_1 => ?_) (fun c_1 => ?_)
  · skip
    have c_1 : b2n (decide (kk < t) && decide (t ≤ kk + 50)) = 0 := (nI_eq (a := b2n (decide (kk < t) && decide (t ≤ kk + 50))) (b := 0) (by omega) (by omega)).mp c_1
    exact mw_throw hx hb hlt hown (by decide +kernel) k_0 k_1 (fun w h => hts w (inexA_X6_taken w h)) exA_bad exA_ot hC hw (hl.1.trans hml.symm) hex dX6_taken_23 dX6_taken_26 dX6_taken_27 dX6_taken_30 (Nat.le_of_ble_eq_true rfl) (Nat.le_of_ble_eq_true rfl) (Nat.le_of_ble_eq_true rfl) (Nat.le_of_ble_eq_true rfl) hlocks (Nat.le_of_ble_eq_true rfl) (Nat.le_of_ble_eq_true rfl)
  · skip
    have c_1 : b2n (decide (kk < t) && decide (t ≤ kk + 50)) ≠ 0 := fun h => c_1 ((nI_eq (a := b2n (decide (kk < t) && decide (t ≤ kk + 50))) (b := 0) (by omega) (by omega)).mpr h)
    have hhas : kk < t ∧ t ≤ kk + 50 := Decidable.byContradiction (fun h => by have h2 : (decide (kk < t) && decide (t ≤ kk + 50)) = false := (by simp; omega); rw [h2] at *; simp_all [b2n])
    refine lv_iload_n hx hb dX6_taken_19 rfl (lv_at hl 4 rfl) ?_
    refine lv_if_ge (tgt := 31) hx hb dX6_taken_20 (by decide) (fun c_2 => ?_) (fun c_2 => ?_)
    · skip
      exact hb1.elim (fun h => absurd hhas h) (fun h => absurd h (Int32.not_lt.mpr c_2))
    · skip
      exact mw_throw hx hb hlt hown (by decide +kernel) k_0 k_1 (fun w h => hts w (inexA_X6_taken w h)) exA_bad exA_ot hC hw (hl.1.trans hml.symm) hex dX6_taken_23 dX6_taken_26 dX6_taken_27 dX6_taken_30 (Nat.le_of_ble_eq_true rfl) (Nat.le_of_ble_eq_true rfl) (Nat.le_of_ble_eq_true rfl) (Nat.le_of_ble_eq_true rfl) hlocks (Nat.le_of_ble_eq_true rfl) (Nat.le_of_ble_eq_true rfl)
def RM_X6_taken : Room := { frames := 1, cells := 0, slots := 0, locals := 23 }
set_option maxHeartbeats 4000000 in
set_option maxRecDepth 100000 in
theorem c_X6_taken (l : Launch) (G : mw_G) (M : mw_M) (sz : Nat) (h0 ea hu : Nat) (en : Nat → Option Nat) (ed : Nat) (x li me so fi bi sn tn er un : Nat) (fl al ab : Bool) (ba sl t : Nat) (bg ll : Nat → Nat) (kk i : Nat) (e0 : M h0 = some (.inr (6, [.ref (ea), .ref (hu)]))) (e1 : M ea = some (.inl (G.2 4, 2, .inr (.inr (.inr (.inr (en))))))) (e2 : M x = some (.inr (0, [.ref (li), .ref (me), .ref (so), .int (nI (fi)), .int (nI (bi)), .int (nI (sn)), .int (nI (tn)), .int (nI (er)), .int (nI (un)), .int (nI (b2n fl)), .int (nI (b2n al)), .int (nI (b2n ab))]))) (e3 : M so = some (.inr (4, [.ref (ba), .ref (sl), .int (nI (t))]))) (e4 : M ba = some (.inl (G.2 0, 13600, .inl (fun j => sb_b (bg j))))) (e5 : M sl = some (.inl (G.2 1, 50, .inl (fun j => nI (ll j))))) (he : ed ≤ 1) (hen : en ed = some x) (ht : t < 100000) (hk1 : kk < t) (hk2 : t ≤ kk + 50) (hi : i < 2 ^ 31) (hl_ : ∀ r, r < 50 → ll r ≤ 272) (hb_ : ∀ r, bg r < 256)  : Met l yX6_taken wsX6_taken RM_X6_taken (mw_pre G M sz [.ref (h0), .int (nI (ed)), .int (nI (kk)), .int (nI (i))]) (mw_Qi G M sz (if i < ll (kk % 50) then nI (bg (kk % 50 * 272 + i)) else -1) M) 0 0 (mw_A M sz) := by
  refine Met.ofW (cc := cX6_taken) (maxL := 5) (ret := (some .int)) (by decide) rfl ?_
  intro p e s m args below meth c s₁ B hml hv
  obtain ⟨rfl, rfl, hC, hw⟩ := mw_in hv
  have hx := B.exec
  have hb := B.bytes
  have hr := B.returns
  have hts := atoms_spec (ws := wsX6_taken) B.pre
  have hown : s.vm.findClass RX6 = some m.cls := findClass_of_methodNamed B.named
  have hlocks := B.notSynchronized
  have hl := lv_entry ([.ref (h0), .int (nI (ed)), .int (nI (kk)), .int (nI (i))]) (n := 5) (Nat.le_of_ble_eq_true rfl)
  rw [lg_entry_eq]
  generalize (lg_sl ([.ref (h0), .int (nI (ed)), .int (nI (kk)), .int (nI (i))]) ++ List.replicate (5 - (lg_sl ([.ref (h0), .int (nI (ed)), .int (nI (kk)), .int (nI (i))])).length) Slot.unset).toArray = ls at hl ⊢
  have hl : lv_has ls 5 [(0, .ref (h0)), (1, .int (nI (ed))), (2, .int (nI (kk))), (3, .int (nI (i)))] := hl
  refine mw_start (fun H locs hw => ?_) hw
  refine lv_aload_n hx hb dX6_taken_0 rfl (lv_at hl 0 rfl) ?_
  refine lv_iload_n hx hb dX6_taken_1 rfl (lv_at hl 1 rfl) ?_
  refine mw_cr hC hw (va_runV (As := [.int (nI (ed))]) (rest := []) ⟨hx, hb, hml, hown, hts⟩ (c_X6_endOf l G _ H.size h0 ea hu en ed x e0 e1 (by omega) (hen)) (cwV 1 hts gX6_taken_X6_endOf rfl rfl rfl (by decide +kernel) ⟨Nat.le_of_ble_eq_true rfl, Nat.le_of_ble_eq_true rfl⟩) (mw_preV (ci := 6) hC hw rfl e0) rfl rfl hl.1 rfl (lv_room (Nat.le_of_ble_eq_true rfl)) dX6_taken_2 ⟨Nat.le_of_ble_eq_true rfl, Nat.le_of_ble_eq_true rfl⟩) (fun H locs hz hw => ?_)
  refine mw_getN (C := RX0) (T := TX0) (N := 12) (v := .ref (so)) hx hb hts inX6_taken_X0 hown hC hw e2 rfl 2 (by decide) (show Cond.fieldLinkNest RX6 114 (TX0 2).1 (TX0 2).2.1 (TX0 2).2.2.1 "LinkPair" ∈ mw_nestF by decide +kernel) rfl dX6_taken_5 ?_
  refine lv_astore (lv' := [(4, .ref (so)), (0, .ref (h0)), (1, .int (nI (ed))), (2, .int (nI (kk))), (3, .int (nI (i)))]) hx hb dX6_taken_8 hl (by decide) rfl (fun ls hl => ?_)
  refine lv_aload hx hb dX6_taken_10 (lv_at hl 0 rfl) ?_
  refine lv_iload_n hx hb dX6_taken_12 rfl (lv_at hl 3 rfl) ?_
  refine mw_ci hC hw (va_runV (As := [.int (nI (kk))]) (rest := []) ⟨hx, hb, hml, hown, hts⟩ (c_X4_has l G _ H.size so ba sl t kk e3 (by omega) (by omega)) (cwV 1 hts gX6_taken_X4_has rfl rfl rfl (by decide +kernel) ⟨Nat.le_of_ble_eq_true rfl, Nat.le_of_ble_eq_true rfl⟩) (mw_preV (ci := 4) hC hw rfl e3) rfl rfl hl.1 rfl (lv_room (Nat.le_of_ble_eq_true rfl)) dX6_taken_13 ⟨Nat.le_of_ble_eq_true rfl, Nat.le_of_ble_eq_true rfl⟩) (fun H locs hz hw => ?_)
  refine mw_ti (v' := nI (1)) (by rw [decide_eq_true hk1, decide_eq_true hk2]; rfl) ?_
  refine lv_if_eq (tgt := 23) hx hb dX6_taken_16 (by decide) (fun c_1 => ?_) (fun c_1 => ?_)
  · skip
    exact absurd c_1 (by decide)
  · skip
    refine lv_iload_n hx hb dX6_taken_19 rfl (lv_at hl 4 rfl) ?_
    refine lv_if_ge (tgt := 31) hx hb dX6_taken_20 (by decide) (fun c_2 => ?_) (fun c_2 => ?_)
    · skip
      have c_2 : i ≥ 0 := (nI_leI (a := 0) (b := i) (by omega) (by omega)).mp c_2
      refine lv_aload hx hb dX6_taken_31 (lv_at hl 0 rfl) ?_
      refine lv_iload_n hx hb dX6_taken_33 rfl (lv_at hl 3 rfl) ?_
      refine lv_iload_n hx hb dX6_taken_34 rfl (lv_at hl 4 rfl) ?_
      refine mw_ci hC hw (va_runV (As := [.int (nI (kk)), .int (nI (i))]) (rest := []) ⟨hx, hb, hml, hown, hts⟩ (c_X4_byteOf l G _ H.size so ba sl t bg ll kk i e3 e4 e5 (by omega) (by omega) (hl_) (hb_)) (cwV 2 hts gX6_taken_X4_byteOf rfl rfl rfl (by decide +kernel) ⟨Nat.le_of_ble_eq_true rfl, Nat.le_of_ble_eq_true rfl⟩) (mw_preV (ci := 4) hC hw rfl e3) rfl rfl hl.1 rfl (lv_room (Nat.le_of_ble_eq_true rfl)) dX6_taken_35 ⟨Nat.le_of_ble_eq_true rfl, Nat.le_of_ble_eq_true rfl⟩) (fun H locs hz hw => ?_)
      exact mw_iret hx hb hr hlocks hw (rfl) (fun _ _ h9 => h9) dX6_taken_38
    · skip
      have c_2 : i < 0 := Nat.not_le.mp (fun h => c_2 ((nI_leI (a := 0) (b := i) (by omega) (by omega)).mpr h))
      exfalso; omega
theorem inexA_X6_check : ∀ w ∈ (vx_at0 RX6 29 exA exN).filter goodWord, w ∈ wsX6_check := by decide +kernel
def RM_X6_check_bad : Room := { frames := 6, cells := 1, slots := 6, locals := 81 }
set_option maxHeartbeats 4000000 in
set_option maxRecDepth 100000 in
theorem t_X6_check_bad (l : Launch) (hlt : l.stackTraces = false) (G : mw_G) (M : mw_M) (sz : Nat) (h0 ea hu : Nat) (en : Nat → Option Nat) (wv : Int64) (nb : Int32) (e0 : M h0 = some (.inr (6, [.ref (ea), .ref (hu)]))) (e1 : M ea = some (.inl (G.2 4, 2, .inr (.inr (.inr (.inr (en))))))) (hb1 : nb < 0 ∨ nI 8 < nb)  : vx_Met l yX6_check wsX6_check RM_X6_check_bad (mw_pre G M sz [.ref (h0), .long (wv), .int (nb)]) mw_no (mw_X G M sz exA M) 1 6 (mw_A M sz) := by
  refine vx_ofW (cc := cX6_check) (maxL := 6) (ret := (some .int)) (by decide) rfl ?_
  intro p e s m args below meth c s₁ B hml hex hv
  obtain ⟨rfl, rfl, hC, hw⟩ := mw_in hv
  have hx := B.exec
  have hb := B.bytes
  have hr := B.returns
  have hts := atoms_spec (ws := wsX6_check) B.pre
  have hown : s.vm.findClass RX6 = some m.cls := findClass_of_methodNamed B.named
  have hlocks := B.notSynchronized
  have k_0 := hts (.classLink RX6 27 exA) (by decide +kernel)
  have k_1 := hts (.initialized exA) (by decide +kernel)
  have hl := lv_entry ([.ref (h0), .long (wv), .int (nb)]) (n := 6) (Nat.le_of_ble_eq_true rfl)
  rw [lg_entry_eq]
  generalize (lg_sl ([.ref (h0), .long (wv), .int (nb)]) ++ List.replicate (6 - (lg_sl ([.ref (h0), .long (wv), .int (nb)])).length) Slot.unset).toArray = ls at hl ⊢
  have hl : lv_has ls 6 [(0, .ref (h0)), (1, .long (wv)), (3, .int (nb))] := hl
  refine mw_start (fun H locs hw => ?_) hw
  refine lv_iload_n hx hb dX6_check_0 rfl (lv_at hl 2 rfl) ?_
  refine lv_if_lt (tgt := 10) hx hb dX6_check_1 (by decide) (fun c_1 => ?_) (fun c_1 => ?_)
  · skip
    exact mw_throw hx hb hlt hown (by decide +kernel) k_0 k_1 (fun w h => hts w (inexA_X6_check w h)) exA_bad exA_ot hC hw (hl.1.trans hml.symm) hex dX6_check_10 dX6_check_13 dX6_check_14 dX6_check_17 (Nat.le_of_ble_eq_true rfl) (Nat.le_of_ble_eq_true rfl) (Nat.le_of_ble_eq_true rfl) (Nat.le_of_ble_eq_true rfl) hlocks (Nat.le_of_ble_eq_true rfl) (Nat.le_of_ble_eq_true rfl)
  · skip
    refine lv_iload_n hx hb dX6_check_4 rfl (lv_at hl 2 rfl) ?_
    refine lv_bipush (v := nI 8) hx hb dX6_check_5 (by decide) ?_
    refine lv_icmp_le (tgt := 18) hx hb dX6_check_7 (by decide) (fun c_2 => ?_) (fun c_2 => ?_)
    · skip
      exact hb1.elim (fun h => absurd h (by assumption)) (fun h => absurd c_2 (Int32.not_le.mpr h))
    · skip
      exact mw_throw hx hb hlt hown (by decide +kernel) k_0 k_1 (fun w h => hts w (inexA_X6_check w h)) exA_bad exA_ot hC hw (hl.1.trans hml.symm) hex dX6_check_10 dX6_check_13 dX6_check_14 dX6_check_17 (Nat.le_of_ble_eq_true rfl) (Nat.le_of_ble_eq_true rfl) (Nat.le_of_ble_eq_true rfl) (Nat.le_of_ble_eq_true rfl) hlocks (Nat.le_of_ble_eq_true rfl) (Nat.le_of_ble_eq_true rfl)
def RM_X6_check : Room := { frames := 1, cells := 0, slots := 0, locals := 24 }
set_option maxHeartbeats 4000000 in
set_option maxRecDepth 100000 in
theorem c_X6_check (l : Launch) (G : mw_G) (M : mw_M) (sz : Nat) (h0 ea hu : Nat) (en : Nat → Option Nat) (wv : Int64) (nb : Nat) (e0 : M h0 = some (.inr (6, [.ref (ea), .ref (hu)]))) (e1 : M ea = some (.inl (G.2 4, 2, .inr (.inr (.inr (.inr (en))))))) (hnb : nb ≤ 8)  : Met l yX6_check wsX6_check RM_X6_check (mw_pre G M sz [.ref (h0), .long (wv), .int (nI (nb))]) (mw_Qi G M sz (nI (65535 - ckl wv nb)) M) 0 0 (mw_A M sz) := by
  refine Met.ofW (cc := cX6_check) (maxL := 6) (ret := (some .int)) (by decide) rfl ?_
  intro p e s m args below meth c s₁ B hml hv
  obtain ⟨rfl, rfl, hC, hw⟩ := mw_in hv
  have hx := B.exec
  have hb := B.bytes
  have hr := B.returns
  have hts := atoms_spec (ws := wsX6_check) B.pre
  have hown : s.vm.findClass RX6 = some m.cls := findClass_of_methodNamed B.named
  have hlocks := B.notSynchronized
  have k_0 := hts (.constant RX6 128 (65535)) (by decide +kernel)
  have hl := lv_entry ([.ref (h0), .long (wv), .int (nI (nb))]) (n := 6) (Nat.le_of_ble_eq_true rfl)
  rw [lg_entry_eq]
  generalize (lg_sl ([.ref (h0), .long (wv), .int (nI (nb))]) ++ List.replicate (6 - (lg_sl ([.ref (h0), .long (wv), .int (nI (nb))])).length) Slot.unset).toArray = ls at hl ⊢
  have hl : lv_has ls 6 [(0, .ref (h0)), (1, .long (wv)), (3, .int (nI (nb)))] := hl
  refine mw_start (fun H locs hw => ?_) hw
  refine lv_iload_n hx hb dX6_check_0 rfl (lv_at hl 2 rfl) ?_
  refine lv_if_lt (tgt := 10) hx hb dX6_check_1 (by decide) (fun c_1 => ?_) (fun c_1 => ?_)
  · skip
    have c_1 : nb < 0 := (nI_ltI (a := nb) (b := 0) (by omega) (by omega)).mp c_1
    exfalso; omega
  · skip
    have c_1 : nb ≥ 0 := Nat.not_lt.mp (fun h => c_1 ((nI_ltI (a := nb) (b := 0) (by omega) (by omega)).mpr h))
    refine lv_iload_n hx hb dX6_check_4 rfl (lv_at hl 2 rfl) ?_
    refine lv_bipush (v := nI 8) hx hb dX6_check_5 (by decide) ?_
    refine lv_icmp_le (tgt := 18) hx hb dX6_check_7 (by decide) (fun c_2 => ?_) (fun c_2 => ?_)
    · skip
      have c_2 : nb ≤ 8 := (nI_leI (a := nb) (b := 8) (by omega) (by omega)).mp c_2
      refine lv_ldc hx hb hown k_0 dX6_check_18 ?_
      refine mw_ti (show (65535 : Int32) = nI 65535 by decide) ?_
      refine lv_istore (lv' := [(4, .int (nI (65535))), (0, .ref (h0)), (1, .long (wv)), (3, .int (nI (nb)))]) hx hb dX6_check_20 hl (by decide) rfl (fun ls hl => ?_)
      refine lv_iconst (v := nI 0) hx hb dX6_check_22 (by decide) ?_
      refine lv_istore (lv' := [(5, .int (nI (0))), (4, .int (nI (65535))), (0, .ref (h0)), (1, .long (wv)), (3, .int (nI (nb)))]) hx hb dX6_check_23 hl (by decide) rfl (fun ls hl => ?_)
      have lp_3 : ∀ (n9 : Nat) (k : Nat), (hk : k ≤ nb) → nb - k < n9 → ∀ (H : Heap) (locs : List Loc) (ls : Array Slot), mw_St G (mw_A M s.heap.size) s M H locs → lv_has ls 6 [(0, .ref (h0)), (1, .long (wv)), (3, .int (nI (nb))), (4, .int (nI (ckl wv k))), (5, .int (nI (k)))] → W p l e (headSpec wsX6_check RM_X6_check).room s m ([.ref (h0), .long (wv), .int (nI (nb))] : List Value).toArray below meth c H locs 0 0 (MQ below (mw_Qi G M s.heap.size (nI (65535 - ckl wv nb)) M) ([.ref (h0), .long (wv), .int (nI (nb))] : List Value).toArray s 0 0 (mw_A M s.heap.size)) (F0 m 25 ls []) := by
        intro n9
        induction n9 with
        | zero => intro k hk h9; exact absurd h9 (Nat.not_lt_zero _)
        | succ n9 ih =>
          intro k hk h9 H locs ls hw hl
          have hck := ckl_lt wv k
          have hwb := wby_lt wv k
          refine lv_iload hx hb dX6_check_25 (lv_at hl 4 rfl) ?_
          refine lv_iload_n hx hb dX6_check_27 rfl (lv_at hl 2 rfl) ?_
          refine lv_icmp_ge (tgt := 56) hx hb dX6_check_28 (by decide) (fun c_4 => ?_) (fun c_4 => ?_)
          · skip
            have c_4 : k ≥ nb := (nI_leI (a := nb) (b := k) (by omega) (by omega)).mp c_4
            obtain rfl : nb = k := by omega
            refine lv_ldc hx hb hown k_0 dX6_check_56 ?_
            refine mw_ti (show (65535 : Int32) = nI 65535 by decide) ?_
            refine lv_iload hx hb dX6_check_58 (lv_at hl 3 rfl) ?_
            refine lv_isub hx hb dX6_check_60 ?_
            refine mw_ti (v' := nI (65535 - (ckl wv nb))) (pk_sub (by omega)) ?_
            exact mw_iret hx hb hr hlocks hw (by first | rfl | simp_all | (congr 1; omega)) (fun _ _ h9 => h9) dX6_check_61
          · skip
            have c_4 : k < nb := Nat.not_le.mp (fun h => c_4 ((nI_leI (a := nb) (b := k) (by omega) (by omega)).mpr h))
            refine lv_iload hx hb dX6_check_31 (lv_at hl 3 rfl) ?_
            refine lv_lload_n hx hb dX6_check_33 rfl (lv_at hl 1 rfl) ?_
            refine lv_bipush (v := nI 8) hx hb dX6_check_34 (by decide) ?_
            refine lv_iload hx hb dX6_check_36 (lv_at hl 4 rfl) ?_
            refine lv_imul hx hb dX6_check_38 ?_
            refine mw_ti (v' := nI (8 * k)) (pk_mul _ _) ?_
            refine lv_lushr hx hb dX6_check_39 rfl ?_
            refine lv_l2i hx hb dX6_check_40 rfl ?_
            refine lv_sipush (v := nI 255) hx hb dX6_check_41 (by decide) ?_
            refine lv_iand hx hb dX6_check_44 ?_
            refine mw_ti (v' := nI (wby wv k)) (wby_val wv (by omega)) ?_
            refine mw_ci hC hw (va_runS (As := [.int (nI (ckl wv k)), .int (nI (wby wv k))]) (rest := []) ⟨hx, hb, hml, hown, hts⟩ (c_X6_restBehind l G _ H.size (ckl wv k) (wby wv k)  (by omega) (by omega)) (cwS 2 hts gX6_check_X6_restBehind rfl rfl rfl (by decide +kernel) ⟨Nat.le_of_ble_eq_true rfl, Nat.le_of_ble_eq_true rfl⟩) (mw_preS hC hw) rfl rfl hl.1 rfl (lv_room (Nat.le_of_ble_eq_true rfl)) dX6_check_45 ⟨Nat.le_of_ble_eq_true rfl, Nat.le_of_ble_eq_true rfl⟩) (fun H locs hz hw => ?_)
            refine lv_istore (lv' := [(4, .int (nI (rst (ckl wv k) (wby wv k) 8))), (0, .ref (h0)), (1, .long (wv)), (3, .int (nI (nb))), (5, .int (nI (k)))]) hx hb dX6_check_48 hl (by decide) rfl (fun ls hl => ?_)
            refine lv_iinc (v := nI (k + 1)) (lv' := [(5, .int (nI (k + 1))), (4, .int (nI (rst (ckl wv k) (wby wv k) 8))), (0, .ref (h0)), (1, .long (wv)), (3, .int (nI (nb)))]) hx hb dX6_check_50 hl (k := 4) rfl (by rw [show Int32.ofInt 1 = nI 1 by decide]; exact nI_add _ _) (by decide) rfl (fun ls hl => ?_)
            refine lv_goto (tgt := 25) hx hb dX6_check_53 (by decide) ?_
            have hv_5 : (.int (nI (rst (ckl wv k) (wby wv k) 8)) : Value) = .int (nI (ckl wv (k + 1))) := by first | rfl | simp_all
            rw [hv_5] at hl
            exact ih (k + 1) (by omega) (by omega) _ _ ls hw (lv_sub hl [2, 3, 4, 1, 0] rfl)
      exact lp_3 (nb - 0 + 1) 0 (by omega) (Nat.lt_succ_self _) _ _ ls hw (lv_sub hl [2, 3, 4, 1, 0] rfl)
    · skip
      have c_2 : nb > 8 := Nat.not_le.mp (fun h => c_2 ((nI_leI (a := nb) (b := 8) (by omega) (by omega)).mpr h))
      exfalso; omega
