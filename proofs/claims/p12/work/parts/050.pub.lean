/-! ===== LinkPair: ends and frames ===== -/
theorem inX6_endOf_X6 : ∀ w ∈ wsX60, w ∈ wsX6_endOf := by decide +kernel
def RM_X6_endOf : Room := { frames := 0, cells := 0, slots := 0, locals := 0 }
set_option maxHeartbeats 4000000 in
set_option maxRecDepth 100000 in
theorem c_X6_endOf (l : Launch) (G : mw_G) (M : mw_M) (sz : Nat) (h0 ea hu : Nat) (en : Nat → Option Nat) (ed x : Nat) (e0 : M h0 = some (.inr (6, [.ref (ea), .ref (hu)]))) (e1 : M ea = some (.inl (G.2 4, 2, .inr (.inr (.inr (.inr (en))))))) (he : ed ≤ 1) (hen : en ed = some x)  : Met l yX6_endOf wsX6_endOf RM_X6_endOf (mw_pre G M sz [.ref (h0), .int (nI (ed))]) (mw_Qr G M sz (x) M) 0 0 (mw_A M sz) := by
  refine Met.ofW (cc := cX6_endOf) (maxL := 2) (ret := (some (.object "LinkPair$End"))) (by decide) rfl ?_
  intro p e s m args below meth c s₁ B hml hv
  obtain ⟨rfl, rfl, hC, hw⟩ := mw_in hv
  have hx := B.exec
  have hb := B.bytes
  have hr := B.returns
  have hts := atoms_spec (ws := wsX6_endOf) B.pre
  have hown : s.vm.findClass RX6 = some m.cls := findClass_of_methodNamed B.named
  have hlocks := B.notSynchronized
  have k_0 := hts (.fieldLink RX6 12 "LinkPair" "ends" "[LLinkPair$End;") (by decide +kernel)
  have hl := lv_entry ([.ref (h0), .int (nI (ed))]) (n := 2) (Nat.le_of_ble_eq_true rfl)
  rw [lg_entry_eq]
  generalize (lg_sl ([.ref (h0), .int (nI (ed))]) ++ List.replicate (2 - (lg_sl ([.ref (h0), .int (nI (ed))])).length) Slot.unset).toArray = ls at hl ⊢
  have hl : lv_has ls 2 [(0, .ref (h0)), (1, .int (nI (ed)))] := hl
  refine mw_start (fun H locs hw => ?_) hw
  refine lv_iload_n hx hb dX6_endOf_0 rfl (lv_at hl 1 rfl) ?_
  refine lv_if_lt (tgt := 9) hx hb dX6_endOf_1 (by decide) (fun c_1 => ?_) (fun c_1 => ?_)
  · skip
    have c_1 : ed < 0 := (nI_ltI (a := ed) (b := 0) (by omega) (by omega)).mp c_1
    exfalso; omega
  · skip
    have c_1 : ed ≥ 0 := Nat.not_lt.mp (fun h => c_1 ((nI_ltI (a := ed) (b := 0) (by omega) (by omega)).mpr h))
    refine lv_iload_n hx hb dX6_endOf_4 rfl (lv_at hl 1 rfl) ?_
    refine lv_iconst (v := nI 1) hx hb dX6_endOf_5 (by decide) ?_
    refine lv_icmp_le (tgt := 17) hx hb dX6_endOf_6 (by decide) (fun c_2 => ?_) (fun c_2 => ?_)
    · skip
      have c_2 : ed ≤ 1 := (nI_leI (a := ed) (b := 1) (by omega) (by omega)).mp c_2
      refine lv_aload_n hx hb dX6_endOf_17 rfl (lv_at hl 0 rfl) ?_
      refine mw_get (C := RX6) (T := TX6) (N := 2) (v := .ref (ea)) hx hb hts inX6_endOf_X6 hown hC hw e0 rfl 0 (by decide) k_0 rfl dX6_endOf_18 ?_
      refine lv_iload_n hx hb dX6_endOf_21 rfl (lv_at hl 1 rfl) ?_
      refine mw_ealdN (n := 2) (f := en) (i := ed) hx hb hC hw e1 (by omega) (by decide) dX6_endOf_22 ?_
      refine mw_tr (v' := x) (hen) ?_
      exact mw_aret hx hb hr ⟨_, rfl⟩ hlocks hw rfl (fun _ _ h9 => h9) dX6_endOf_23
    · skip
      have c_2 : ed > 1 := Nat.not_le.mp (fun h => c_2 ((nI_leI (a := ed) (b := 1) (by omega) (by omega)).mpr h))
      exfalso; omega
theorem inexA_X6_endOf : ∀ w ∈ (vx_at0 RX6 29 exA exN).filter goodWord, w ∈ wsX6_endOf := by decide +kernel
def RM_X6_endOf_bad : Room := { frames := 6, cells := 1, slots := 6, locals := 81 }
set_option maxHeartbeats 4000000 in
set_option maxRecDepth 100000 in
theorem t_X6_endOf_bad (l : Launch) (hlt : l.stackTraces = false) (G : mw_G) (M : mw_M) (sz : Nat) (h0 ea hu : Nat) (en : Nat → Option Nat) (ed : Int32) (e0 : M h0 = some (.inr (6, [.ref (ea), .ref (hu)]))) (e1 : M ea = some (.inl (G.2 4, 2, .inr (.inr (.inr (.inr (en))))))) (hb1 : ed < 0 ∨ nI 1 < ed)  : vx_Met l yX6_endOf wsX6_endOf RM_X6_endOf_bad (mw_pre G M sz [.ref (h0), .int (ed)]) mw_no (mw_X G M sz exA M) 1 6 (mw_A M sz) := by
  refine vx_ofW (cc := cX6_endOf) (maxL := 2) (ret := (some (.object "LinkPair$End"))) (by decide) rfl ?_
  intro p e s m args below meth c s₁ B hml hex hv
  obtain ⟨rfl, rfl, hC, hw⟩ := mw_in hv
  have hx := B.exec
  have hb := B.bytes
  have hr := B.returns
  have hts := atoms_spec (ws := wsX6_endOf) B.pre
  have hown : s.vm.findClass RX6 = some m.cls := findClass_of_methodNamed B.named
  have hlocks := B.notSynchronized
  have k_0 := hts (.classLink RX6 27 exA) (by decide +kernel)
  have k_1 := hts (.initialized exA) (by decide +kernel)
  have hl := lv_entry ([.ref (h0), .int (ed)]) (n := 2) (Nat.le_of_ble_eq_true rfl)
  rw [lg_entry_eq]
  generalize (lg_sl ([.ref (h0), .int (ed)]) ++ List.replicate (2 - (lg_sl ([.ref (h0), .int (ed)])).length) Slot.unset).toArray = ls at hl ⊢
  have hl : lv_has ls 2 [(0, .ref (h0)), (1, .int (ed))] := hl
  refine mw_start (fun H locs hw => ?_) hw
  refine lv_iload_n hx hb dX6_endOf_0 rfl (lv_at hl 1 rfl) ?_
  refine lv_if_lt (tgt := 9) hx hb dX6_endOf_1 (by decide) (fun c_1 => ?_) (fun c_1 => ?_)
  · skip
    exact mw_throw hx hb hlt hown (by decide +kernel) k_0 k_1 (fun w h => hts w (inexA_X6_endOf w h)) exA_bad exA_ot hC hw (hl.1.trans hml.symm) hex dX6_endOf_9 dX6_endOf_12 dX6_endOf_13 dX6_endOf_16 (Nat.le_of_ble_eq_true rfl) (Nat.le_of_ble_eq_true rfl) (Nat.le_of_ble_eq_true rfl) (Nat.le_of_ble_eq_true rfl) hlocks (Nat.le_of_ble_eq_true rfl) (Nat.le_of_ble_eq_true rfl)
  · skip
    refine lv_iload_n hx hb dX6_endOf_4 rfl (lv_at hl 1 rfl) ?_
    refine lv_iconst (v := nI 1) hx hb dX6_endOf_5 (by decide) ?_
    refine lv_icmp_le (tgt := 17) hx hb dX6_endOf_6 (by decide) (fun c_2 => ?_) (fun c_2 => ?_)
    · skip
      exact hb1.elim (fun h => absurd h (by assumption)) (fun h => absurd c_2 (Int32.not_le.mpr h))
    · skip
      exact mw_throw hx hb hlt hown (by decide +kernel) k_0 k_1 (fun w h => hts w (inexA_X6_endOf w h)) exA_bad exA_ot hC hw (hl.1.trans hml.symm) hex dX6_endOf_9 dX6_endOf_12 dX6_endOf_13 dX6_endOf_16 (Nat.le_of_ble_eq_true rfl) (Nat.le_of_ble_eq_true rfl) (Nat.le_of_ble_eq_true rfl) (Nat.le_of_ble_eq_true rfl) hlocks (Nat.le_of_ble_eq_true rfl) (Nat.le_of_ble_eq_true rfl)
theorem inX6_frameOf_X0 : ∀ w ∈ wsX00, w ∈ wsX6_frameOf := by decide +kernel
theorem inX6_frameOf_X2 : ∀ w ∈ wsX20, w ∈ wsX6_frameOf := by decide +kernel
def RM_X6_frameOf : Room := { frames := 1, cells := 0, slots := 0, locals := 21 }
set_option maxHeartbeats 4000000 in
set_option maxRecDepth 100000 in
theorem c_X6_frameOf (l : Launch) (G : mw_G) (M : mw_M) (sz : Nat) (h0 ea hu : Nat) (en : Nat → Option Nat) (ed : Nat) (x li me so fi bi sn tn er un : Nat) (fl al ab : Bool) (fa n : Nat) (fr : Nat → Option Nat) (f y : Nat) (e0 : M h0 = some (.inr (6, [.ref (ea), .ref (hu)]))) (e1 : M ea = some (.inl (G.2 4, 2, .inr (.inr (.inr (.inr (en))))))) (e2 : M x = some (.inr (0, [.ref (li), .ref (me), .ref (so), .int (nI (fi)), .int (nI (bi)), .int (nI (sn)), .int (nI (tn)), .int (nI (er)), .int (nI (un)), .int (nI (b2n fl)), .int (nI (b2n al)), .int (nI (b2n ab))]))) (e3 : M li = some (.inr (2, [.ref (fa), .int (nI (n))]))) (e4 : M fa = some (.inl (G.2 5, 40, .inr (.inr (.inr (.inr (fr))))))) (he : ed ≤ 1) (hen : en ed = some x) (hn : n ≤ 40) (hf : f < n) (hy : fr f = some y)  : Met l yX6_frameOf wsX6_frameOf RM_X6_frameOf (mw_pre G M sz [.ref (h0), .int (nI (ed)), .int (nI (f))]) (mw_Qr G M sz (y) M) 0 0 (mw_A M sz) := by
  refine Met.ofW (cc := cX6_frameOf) (maxL := 4) (ret := (some (.object "LinkPair$Frame"))) (by decide) rfl ?_
  intro p e s m args below meth c s₁ B hml hv
  obtain ⟨rfl, rfl, hC, hw⟩ := mw_in hv
  have hx := B.exec
  have hb := B.bytes
  have hr := B.returns
  have hts := atoms_spec (ws := wsX6_frameOf) B.pre
  have hown : s.vm.findClass RX6 = some m.cls := findClass_of_methodNamed B.named
  have hlocks := B.notSynchronized
  have hl := lv_entry ([.ref (h0), .int (nI (ed)), .int (nI (f))]) (n := 4) (Nat.le_of_ble_eq_true rfl)
  rw [lg_entry_eq]
  generalize (lg_sl ([.ref (h0), .int (nI (ed)), .int (nI (f))]) ++ List.replicate (4 - (lg_sl ([.ref (h0), .int (nI (ed)), .int (nI (f))])).length) Slot.unset).toArray = ls at hl ⊢
  have hl : lv_has ls 4 [(0, .ref (h0)), (1, .int (nI (ed))), (2, .int (nI (f)))] := hl
  refine mw_start (fun H locs hw => ?_) hw
  refine lv_aload_n hx hb dX6_frameOf_0 rfl (lv_at hl 0 rfl) ?_
  refine lv_iload_n hx hb dX6_frameOf_1 rfl (lv_at hl 1 rfl) ?_
  refine mw_cr hC hw (va_runV (As := [.int (nI (ed))]) (rest := []) ⟨hx, hb, hml, hown, hts⟩ (c_X6_endOf l G _ H.size h0 ea hu en ed x e0 e1 (by omega) (hen)) (cwV 1 hts gX6_frameOf_X6_endOf rfl rfl rfl (by decide +kernel) ⟨Nat.le_of_ble_eq_true rfl, Nat.le_of_ble_eq_true rfl⟩) (mw_preV (ci := 6) hC hw rfl e0) rfl rfl hl.1 rfl (lv_room (Nat.le_of_ble_eq_true rfl)) dX6_frameOf_2 ⟨Nat.le_of_ble_eq_true rfl, Nat.le_of_ble_eq_true rfl⟩) (fun H locs hz hw => ?_)
  refine mw_getN (C := RX0) (T := TX0) (N := 12) (v := .ref (li)) hx hb hts inX6_frameOf_X0 hown hC hw e2 rfl 0 (by decide) (show Cond.fieldLinkNest RX6 51 (TX0 0).1 (TX0 0).2.1 (TX0 0).2.2.1 "LinkPair" ∈ mw_nestF by decide +kernel) rfl dX6_frameOf_5 ?_
  refine lv_astore_n (lv' := [(3, .ref (li)), (0, .ref (h0)), (1, .int (nI (ed))), (2, .int (nI (f)))]) hx hb dX6_frameOf_8 rfl hl (by decide) rfl (fun ls hl => ?_)
  refine lv_iload_n hx hb dX6_frameOf_9 rfl (lv_at hl 3 rfl) ?_
  refine lv_if_lt (tgt := 21) hx hb dX6_frameOf_10 (by decide) (fun c_1 => ?_) (fun c_1 => ?_)
  · skip
    have c_1 : f < 0 := (nI_ltI (a := f) (b := 0) (by omega) (by omega)).mp c_1
    exfalso; omega
  · skip
    have c_1 : f ≥ 0 := Nat.not_lt.mp (fun h => c_1 ((nI_ltI (a := f) (b := 0) (by omega) (by omega)).mpr h))
    refine lv_iload_n hx hb dX6_frameOf_13 rfl (lv_at hl 3 rfl) ?_
    refine lv_aload_n hx hb dX6_frameOf_14 rfl (lv_at hl 0 rfl) ?_
    refine mw_getN (C := RX2) (T := TX2) (N := 2) (v := .int (nI (n))) hx hb hts inX6_frameOf_X2 hown hC hw e3 rfl 1 (by decide) (show Cond.fieldLinkNest RX6 73 (TX2 1).1 (TX2 1).2.1 (TX2 1).2.2.1 "LinkPair" ∈ mw_nestF by decide +kernel) rfl dX6_frameOf_15 ?_
    refine lv_icmp_lt (tgt := 29) hx hb dX6_frameOf_18 (by decide) (fun c_2 => ?_) (fun c_2 => ?_)
    · skip
      have c_2 : f < n := (nI_ltI (a := f) (b := n) (by omega) (by omega)).mp c_2
      refine lv_aload_n hx hb dX6_frameOf_29 rfl (lv_at hl 0 rfl) ?_
      refine mw_getN (C := RX2) (T := TX2) (N := 2) (v := .ref (fa)) hx hb hts inX6_frameOf_X2 hown hC hw e3 rfl 0 (by decide) (show Cond.fieldLinkNest RX6 76 (TX2 0).1 (TX2 0).2.1 (TX2 0).2.2.1 "LinkPair" ∈ mw_nestF by decide +kernel) rfl dX6_frameOf_30 ?_
      refine lv_iload_n hx hb dX6_frameOf_33 rfl (lv_at hl 3 rfl) ?_
      refine mw_faldN (n := 40) (f := fr) (i := f) hx hb hC hw e4 (by omega) (by decide) dX6_frameOf_34 ?_
      refine mw_tr (v' := y) (hy) ?_
      exact mw_aret hx hb hr ⟨_, rfl⟩ hlocks hw rfl (fun _ _ h9 => h9) dX6_frameOf_35
    · skip
      have c_2 : f ≥ n := Nat.not_lt.mp (fun h => c_2 ((nI_ltI (a := f) (b := n) (by omega) (by omega)).mpr h))
      exfalso; omega
def RM_X6_frameOf_bade : Room := { frames := 7, cells := 1, slots := 6, locals := 102 }
set_option maxHeartbeats 4000000 in
set_option maxRecDepth 100000 in
theorem t_X6_frameOf_bade (l : Launch) (hlt : l.stackTraces = false) (G : mw_G) (M : mw_M) (sz : Nat) (h0 ea hu : Nat) (en : Nat → Option Nat) (ed f : Int32) (e0 : M h0 = some (.inr (6, [.ref (ea), .ref (hu)]))) (e1 : M ea = some (.inl (G.2 4, 2, .inr (.inr (.inr (.inr (en))))))) (hb1 : ed < 0 ∨ nI 1 < ed)  : vx_Met l yX6_frameOf wsX6_frameOf RM_X6_frameOf_bade (mw_pre G M sz [.ref (h0), .int (ed), .int (f)]) mw_no (mw_X G M sz exA M) 1 6 (mw_A M sz) := by
  refine vx_ofW (cc := cX6_frameOf) (maxL := 4) (ret := (some (.object "LinkPair$Frame"))) (by decide) rfl ?_
  intro p e s m args below meth c s₁ B hml hex hv
  obtain ⟨rfl, rfl, hC, hw⟩ := mw_in hv
  have hx := B.exec
  have hb := B.bytes
  have hr := B.returns
  have hts := atoms_spec (ws := wsX6_frameOf) B.pre
  have hown : s.vm.findClass RX6 = some m.cls := findClass_of_methodNamed B.named
  have hlocks := B.notSynchronized
  have hl := lv_entry ([.ref (h0), .int (ed), .int (f)]) (n := 4) (Nat.le_of_ble_eq_true rfl)
  rw [lg_entry_eq]
  generalize (lg_sl ([.ref (h0), .int (ed), .int (f)]) ++ List.replicate (4 - (lg_sl ([.ref (h0), .int (ed), .int (f)])).length) Slot.unset).toArray = ls at hl ⊢
  have hl : lv_has ls 4 [(0, .ref (h0)), (1, .int (ed)), (2, .int (f))] := hl
  refine mw_start (fun H locs hw => ?_) hw
  refine lv_aload_n hx hb dX6_frameOf_0 rfl (lv_at hl 0 rfl) ?_
  refine lv_iload_n hx hb dX6_frameOf_1 rfl (lv_at hl 1 rfl) ?_
  refine mw_ct hC hw (vx_runV (As := [.int (ed)]) (rest := []) ⟨hx, hb, hml, hown, hts⟩ (t_X6_endOf_bad l hlt G _ H.size h0 ea hu en ed e0 e1 (hb1)) (cwV 1 hts gX6_frameOf_X6_endOf rfl rfl rfl (by decide +kernel) ⟨Nat.le_of_ble_eq_true rfl, Nat.le_of_ble_eq_true rfl⟩) (mw_preV (ci := 6) hC hw rfl e0) rfl rfl hl.1 rfl (lv_room (Nat.le_of_ble_eq_true rfl)) dX6_frameOf_2 ⟨Nat.le_of_ble_eq_true rfl, Nat.le_of_ble_eq_true rfl⟩) (fun ce q9 H locs hw hce hcv hcl => ?_)
  exact mw_pass hlocks hex hw hce hcv hcl (Nat.le_of_ble_eq_true rfl) (Nat.le_of_ble_eq_true rfl)
theorem inexA_X6_frameOf : ∀ w ∈ (vx_at0 RX6 29 exA exN).filter goodWord, w ∈ wsX6_frameOf := by decide +kernel
def RM_X6_frameOf_badf : Room := { frames := 6, cells := 1, slots := 6, locals := 81 }
set_option maxHeartbeats 4000000 in
set_option maxRecDepth 100000 in
theorem t_X6_frameOf_badf (l : Launch) (hlt : l.stackTraces = false) (G : mw_G) (M : mw_M) (sz : Nat) (h0 ea hu : Nat) (en : Nat → Option Nat) (ed : Nat) (x li me so fi bi sn tn er un : Nat) (fl al ab : Bool) (fa n : Nat) (f : Int32) (e0 : M h0 = some (.inr (6, [.ref (ea), .ref (hu)]))) (e1 : M ea = some (.inl (G.2 4, 2, .inr (.inr (.inr (.inr (en))))))) (e2 : M x = some (.inr (0, [.ref (li), .ref (me), .ref (so), .int (nI (fi)), .int (nI (bi)), .int (nI (sn)), .int (nI (tn)), .int (nI (er)), .int (nI (un)), .int (nI (b2n fl)), .int (nI (b2n al)), .int (nI (b2n ab))]))) (e3 : M li = some (.inr (2, [.ref (fa), .int (nI (n))]))) (he : ed ≤ 1) (hen : en ed = some x) (hb1 : f < 0 ∨ nI n ≤ f)  : vx_Met l yX6_frameOf wsX6_frameOf RM_X6_frameOf_badf (mw_pre G M sz [.ref (h0), .int (nI (ed)), .int (f)]) mw_no (mw_X G M sz exA M) 1 6 (mw_A M sz) := by
  refine vx_ofW (cc := cX6_frameOf) (maxL := 4) (ret := (some (.object "LinkPair$Frame"))) (by decide) rfl ?_
  intro p e s m args below meth c s₁ B hml hex hv
  obtain ⟨rfl, rfl, hC, hw⟩ := mw_in hv
  have hx := B.exec
  have hb := B.bytes
  have hr := B.returns
  have hts := atoms_spec (ws := wsX6_frameOf) B.pre
  have hown : s.vm.findClass RX6 = some m.cls := findClass_of_methodNamed B.named
  have hlocks := B.notSynchronized
  have k_0 := hts (.classLink RX6 27 exA) (by decide +kernel)
  have k_1 := hts (.initialized exA) (by decide +kernel)
  have hl := lv_entry ([.ref (h0), .int (nI (ed)), .int (f)]) (n := 4) (Nat.le_of_ble_eq_true rfl)
  rw [lg_entry_eq]
  generalize (lg_sl ([.ref (h0), .int (nI (ed)), .int (f)]) ++ List.replicate (4 - (lg_sl ([.ref (h0), .int (nI (ed)), .int (f)])).length) Slot.unset).toArray = ls at hl ⊢
  have hl : lv_has ls 4 [(0, .ref (h0)), (1, .int (nI (ed))), (2, .int (f))] := hl
  refine mw_start (fun H locs hw => ?_) hw
  refine lv_aload_n hx hb dX6_frameOf_0 rfl (lv_at hl 0 rfl) ?_
  refine lv_iload_n hx hb dX6_frameOf_1 rfl (lv_at hl 1 rfl) ?_
  refine mw_cr hC hw (va_runV (As := [.int (nI (ed))]) (rest := []) ⟨hx, hb, hml, hown, hts⟩ (c_X6_endOf l G _ H.size h0 ea hu en ed x e0 e1 (by omega) (hen)) (cwV 1 hts gX6_frameOf_X6_endOf rfl rfl rfl (by decide +kernel) ⟨Nat.le_of_ble_eq_true rfl, Nat.le_of_ble_eq_true rfl⟩) (mw_preV (ci := 6) hC hw rfl e0) rfl rfl hl.1 rfl (lv_room (Nat.le_of_ble_eq_true rfl)) dX6_frameOf_2 ⟨Nat.le_of_ble_eq_true rfl, Nat.le_of_ble_eq_true rfl⟩) (fun H locs hz hw => ?_)
  refine mw_getN (C := RX0) (T := TX0) (N := 12) (v := .ref (li)) hx hb hts inX6_frameOf_X0 hown hC hw e2 rfl 0 (by decide) (show Cond.fieldLinkNest RX6 51 (TX0 0).1 (TX0 0).2.1 (TX0 0).2.2.1 "LinkPair" ∈ mw_nestF by decide +kernel) rfl dX6_frameOf_5 ?_
  refine lv_astore_n (lv' := [(3, .ref (li)), (0, .ref (h0)), (1, .int (nI (ed))), (2, .int (f))]) hx hb dX6_frameOf_8 rfl hl (by decide) rfl (fun ls hl => ?_)
  refine lv_iload_n hx hb dX6_frameOf_9 rfl (lv_at hl 3 rfl) ?_
  refine lv_if_lt (tgt := 21) hx hb dX6_frameOf_10 (by decide) (fun c_1 => ?_) (fun c_1 => ?_)
  · skip
    exact mw_throw hx hb hlt hown (by decide +kernel) k_0 k_1 (fun w h => hts w (inexA_X6_frameOf w h)) exA_bad exA_ot hC hw (hl.1.trans hml.symm) hex dX6_frameOf_21 dX6_frameOf_24 dX6_frameOf_25 dX6_frameOf_28 (Nat.le_of_ble_eq_true rfl) (Nat.le_of_ble_eq_true rfl) (Nat.le_of_ble_eq_true rfl) (Nat.le_of_ble_eq_true rfl) hlocks (Nat.le_of_ble_eq_true rfl) (Nat.le_of_ble_eq_true rfl)
  · skip
    refine lv_iload_n hx hb dX6_frameOf_13 rfl (lv_at hl 3 rfl) ?_
    refine lv_aload_n hx hb dX6_frameOf_14 rfl (lv_at hl 0 rfl) ?_
    refine mw_getN (C := RX2) (T := TX2) (N := 2) (v := .int (nI (n))) hx hb hts inX6_frameOf_X2 hown hC hw e3 rfl 1 (by decide) (show Cond.fieldLinkNest RX6 73 (TX2 1).1 (TX2 1).2.1 (TX2 1).2.2.1 "LinkPair" ∈ mw_nestF by decide +kernel) rfl dX6_frameOf_15 ?_
    refine lv_icmp_lt (tgt := 29) hx hb dX6_frameOf_18 (by decide) (fun c_2 => ?_) (fun c_2 => ?_)
    · skip
      exact hb1.elim (fun h => absurd h (by assumption)) (fun h => absurd c_2 (Int32.not_lt.mpr h))
    · skip
      exact mw_throw hx hb hlt hown (by decide +kernel) k_0 k_1 (fun w h => hts w (inexA_X6_frameOf w h)) exA_bad exA_ot hC hw (hl.1.trans hml.symm) hex dX6_frameOf_21 dX6_frameOf_24 dX6_frameOf_25 dX6_frameOf_28 (Nat.le_of_ble_eq_true rfl) (Nat.le_of_ble_eq_true rfl) (Nat.le_of_ble_eq_true rfl) (Nat.le_of_ble_eq_true rfl) hlocks (Nat.le_of_ble_eq_true rfl) (Nat.le_of_ble_eq_true rfl)
