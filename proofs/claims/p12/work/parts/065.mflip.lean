/-! ===== LinkPairModel: frames, about, restart, check, taken ===== -/
def RM_X7_isFrame_bade : Room := { frames := 1, cells := 0, slots := 0, locals := 20 }
set_option maxHeartbeats 4000000 in
set_option maxRecDepth 100000 in
theorem c_X7_isFrame_bade (l : Launch) (G : mw_G) (M : mw_M) (sz : Nat) (h0 : Nat) (a : Nat → Nat) (c u : Nat) (A : md_S) (ed fx : Int32) (hm : md_at G M h0 a c u A) (hb1 : ed < 0 ∨ nI 1 < ed) : Met l yX7_isFrame wsX7_isFrame RM_X7_isFrame_bade (mw_pre G M sz [.ref (h0), .int (ed), .int (fx)]) (md_Qi G M sz h0 a (nI (0)) c u A) 0 0 (mw_A M sz) := by
  refine Met.ofW (cc := cX7_isFrame) (maxL := 3) (ret := (some .boolean)) (by decide) rfl ?_
  intro p e s m args below meth c0 s₁ B hml hv
  obtain ⟨rfl, rfl, hC, hw⟩ := mw_in hv
  have hx := B.exec
  have hb := B.bytes
  have hr := B.returns
  have hts := atoms_spec (ws := wsX7_isFrame) B.pre
  have hown : s.vm.findClass RX7 = some m.cls := findClass_of_methodNamed B.named
  have hlocks := B.notSynchronized
  have hf : md_fr h0 a M M := md_fr.rf
  have hl := lv_entry ([.ref (h0), .int (ed), .int (fx)]) (n := 3) (Nat.le_of_ble_eq_true rfl)
  rw [lg_entry_eq]
  generalize (lg_sl ([.ref (h0), .int (ed), .int (fx)]) ++ List.replicate (3 - (lg_sl ([.ref (h0), .int (ed), .int (fx)])).length) Slot.unset).toArray = ls at hl ⊢
  have hl : lv_has ls 3 [(0, .ref (h0)), (1, .int (ed)), (2, .int (fx))] := hl
  refine mw_start (fun H locs hw => ?_) hw
  refine lv_iload_n hx hb dX7_isFrame_0 rfl (lv_at hl 1 rfl) ?_
  refine mw_ci hC hw (va_runS (As := [.int (ed)]) (rest := []) ⟨hx, hb, hml, hown, hts⟩ (c_X7_isEnd_bad l G _ H.size ed  (hb1)) (cwS 1 hts gX7_isFrame_X7_isEnd rfl rfl rfl (by decide +kernel) ⟨Nat.le_of_ble_eq_true rfl, Nat.le_of_ble_eq_true rfl⟩) (mw_preS hC hw) rfl rfl hl.1 rfl (lv_room (Nat.le_of_ble_eq_true rfl)) dX7_isFrame_1 ⟨Nat.le_of_ble_eq_true rfl, Nat.le_of_ble_eq_true rfl⟩) (fun H locs hz hw => ?_)
  refine lv_if_eq (tgt := 25) hx hb dX7_isFrame_4 (by decide) (fun c_1 => ?_) (fun c_1 => ?_)
  · skip
    refine lv_iconst (v := nI 0) hx hb dX7_isFrame_25 (by decide) ?_
    exact md_zret hx hb hr hlocks hw hm hf (by decide) (rfl) dX7_isFrame_26
  · skip
    exact absurd c_1 (by decide)
theorem inX7_isFrame_X7 : ∀ w ∈ wsX70, w ∈ wsX7_isFrame := by decide +kernel
def RM_X7_isFrame_badf : Room := { frames := 1, cells := 0, slots := 0, locals := 20 }
set_option maxHeartbeats 4000000 in
set_option maxRecDepth 100000 in
theorem c_X7_isFrame_badf (l : Launch) (G : mw_G) (M : mw_M) (sz : Nat) (h0 : Nat) (a : Nat → Nat) (c u : Nat) (A : md_S) (ed : Nat) (fx : Int32) (hm : md_at G M h0 a c u A) (hed : ed ≤ 1) (hb1 : fx < 0 ∨ nI (A 1 ed) ≤ fx) : Met l yX7_isFrame wsX7_isFrame RM_X7_isFrame_badf (mw_pre G M sz [.ref (h0), .int (nI (ed)), .int (fx)]) (md_Qi G M sz h0 a (nI (0)) c u A) 0 0 (mw_A M sz) := by
  refine Met.ofW (cc := cX7_isFrame) (maxL := 3) (ret := (some .boolean)) (by decide) rfl ?_
  intro p e s m args below meth c0 s₁ B hml hv
  obtain ⟨rfl, rfl, hC, hw⟩ := mw_in hv
  have hx := B.exec
  have hb := B.bytes
  have hr := B.returns
  have hts := atoms_spec (ws := wsX7_isFrame) B.pre
  have hown : s.vm.findClass RX7 = some m.cls := findClass_of_methodNamed B.named
  have hlocks := B.notSynchronized
  have hf : md_fr h0 a M M := md_fr.rf
  have k_0 := hts (.fieldLink RX7 7 "LinkPairModel" "frames" "[I") (by decide +kernel)
  have hl := lv_entry ([.ref (h0), .int (nI (ed)), .int (fx)]) (n := 3) (Nat.le_of_ble_eq_true rfl)
  rw [lg_entry_eq]
  generalize (lg_sl ([.ref (h0), .int (nI (ed)), .int (fx)]) ++ List.replicate (3 - (lg_sl ([.ref (h0), .int (nI (ed)), .int (fx)])).length) Slot.unset).toArray = ls at hl ⊢
  have hl : lv_has ls 3 [(0, .ref (h0)), (1, .int (nI (ed))), (2, .int (fx))] := hl
  refine mw_start (fun H locs hw => ?_) hw
  refine lv_iload_n hx hb dX7_isFrame_0 rfl (lv_at hl 1 rfl) ?_
  refine mw_ci hC hw (va_runS (As := [.int (nI (ed))]) (rest := []) ⟨hx, hb, hml, hown, hts⟩ (c_X7_isEnd l G _ H.size ed  (by omega)) (cwS 1 hts gX7_isFrame_X7_isEnd rfl rfl rfl (by decide +kernel) ⟨Nat.le_of_ble_eq_true rfl, Nat.le_of_ble_eq_true rfl⟩) (mw_preS hC hw) rfl rfl hl.1 rfl (lv_room (Nat.le_of_ble_eq_true rfl)) dX7_isFrame_1 ⟨Nat.le_of_ble_eq_true rfl, Nat.le_of_ble_eq_true rfl⟩) (fun H locs hz hw => ?_)
  refine lv_if_eq (tgt := 25) hx hb dX7_isFrame_4 (by decide) (fun c_1 => ?_) (fun c_1 => ?_)
  · skip
    exact absurd c_1 (by decide)
  · skip
    refine lv_iload_n hx hb dX7_isFrame_7 rfl (lv_at hl 2 rfl) ?_
    refine lv_if_lt (tgt := 25) hx hb dX7_isFrame_8 (by decide) (fun c_2 => ?_) (fun c_2 => ?_)
    · skip
      refine lv_iconst (v := nI 0) hx hb dX7_isFrame_25 (by decide) ?_
      exact md_zret hx hb hr hlocks hw hm hf (by decide) (rfl) dX7_isFrame_26
    · skip
      refine lv_iload_n hx hb dX7_isFrame_11 rfl (lv_at hl 2 rfl) ?_
      refine lv_aload_n hx hb dX7_isFrame_12 rfl (lv_at hl 0 rfl) ?_
      refine mw_get (C := RX7) (T := TX7) (N := 27) (v := .ref (a 1)) hx hb hts inX7_isFrame_X7 hown hC hw hm.1 rfl 1 (by decide) k_0 rfl dX7_isFrame_13 ?_
      refine lv_iload_n hx hb dX7_isFrame_16 rfl (lv_at hl 1 rfl) ?_
      refine md_ald 1 (n := 2) hx hb hC hw hm rfl (by decide) rfl (by omega) (by decide) dX7_isFrame_17 ?_
      refine lv_icmp_ge (tgt := 25) hx hb dX7_isFrame_18 (by decide) (fun c_3 => ?_) (fun c_3 => ?_)
      · skip
        refine lv_iconst (v := nI 0) hx hb dX7_isFrame_25 (by decide) ?_
        exact md_zret hx hb hr hlocks hw hm hf (by decide) (rfl) dX7_isFrame_26
      · skip
        exact hb1.elim (fun h => absurd h (by assumption)) (fun h => absurd h c_3)
def RM_X7_isFrame : Room := { frames := 1, cells := 0, slots := 0, locals := 20 }
set_option maxHeartbeats 4000000 in
set_option maxRecDepth 100000 in
theorem c_X7_isFrame (l : Launch) (G : mw_G) (M : mw_M) (sz : Nat) (h0 : Nat) (a : Nat → Nat) (c u : Nat) (A : md_S) (ed fx : Nat) (hm : md_at G M h0 a c u A) (hed : ed ≤ 1) (hfx : fx < A 1 ed) (hf2 : A 1 ed ≤ 40) : Met l yX7_isFrame wsX7_isFrame RM_X7_isFrame (mw_pre G M sz [.ref (h0), .int (nI (ed)), .int (nI (fx))]) (md_Qi G M sz h0 a (nI (1)) c u A) 0 0 (mw_A M sz) := by
  refine Met.ofW (cc := cX7_isFrame) (maxL := 3) (ret := (some .boolean)) (by decide) rfl ?_
  intro p e s m args below meth c0 s₁ B hml hv
  obtain ⟨rfl, rfl, hC, hw⟩ := mw_in hv
  have hx := B.exec
  have hb := B.bytes
  have hr := B.returns
  have hts := atoms_spec (ws := wsX7_isFrame) B.pre
  have hown : s.vm.findClass RX7 = some m.cls := findClass_of_methodNamed B.named
  have hlocks := B.notSynchronized
  have hf : md_fr h0 a M M := md_fr.rf
  have k_0 := hts (.fieldLink RX7 7 "LinkPairModel" "frames" "[I") (by decide +kernel)
  have hl := lv_entry ([.ref (h0), .int (nI (ed)), .int (nI (fx))]) (n := 3) (Nat.le_of_ble_eq_true rfl)
  rw [lg_entry_eq]
  generalize (lg_sl ([.ref (h0), .int (nI (ed)), .int (nI (fx))]) ++ List.replicate (3 - (lg_sl ([.ref (h0), .int (nI (ed)), .int (nI (fx))])).length) Slot.unset).toArray = ls at hl ⊢
  have hl : lv_has ls 3 [(0, .ref (h0)), (1, .int (nI (ed))), (2, .int (nI (fx)))] := hl
  refine mw_start (fun H locs hw => ?_) hw
  refine lv_iload_n hx hb dX7_isFrame_0 rfl (lv_at hl 1 rfl) ?_
  refine mw_ci hC hw (va_runS (As := [.int (nI (ed))]) (rest := []) ⟨hx, hb, hml, hown, hts⟩ (c_X7_isEnd l G _ H.size ed  (by omega)) (cwS 1 hts gX7_isFrame_X7_isEnd rfl rfl rfl (by decide +kernel) ⟨Nat.le_of_ble_eq_true rfl, Nat.le_of_ble_eq_true rfl⟩) (mw_preS hC hw) rfl rfl hl.1 rfl (lv_room (Nat.le_of_ble_eq_true rfl)) dX7_isFrame_1 ⟨Nat.le_of_ble_eq_true rfl, Nat.le_of_ble_eq_true rfl⟩) (fun H locs hz hw => ?_)
  refine lv_if_eq (tgt := 25) hx hb dX7_isFrame_4 (by decide) (fun c_1 => ?_) (fun c_1 => ?_)
  · skip
    exact absurd c_1 (by decide)
  · skip
    refine lv_iload_n hx hb dX7_isFrame_7 rfl (lv_at hl 2 rfl) ?_
    refine lv_if_lt (tgt := 25) hx hb dX7_isFrame_8 (by decide) (fun c_2 => ?_) (fun c_2 => ?_)
    · skip
      have c_2 : fx < 0 := (nI_ltI (a := fx) (b := 0) (by omega) (by omega)).mp c_2
      exfalso; omega
    · skip
      have c_2 : fx ≥ 0 := Nat.not_lt.mp (fun h => c_2 ((nI_ltI (a := fx) (b := 0) (by omega) (by omega)).mpr h))
      refine lv_iload_n hx hb dX7_isFrame_11 rfl (lv_at hl 2 rfl) ?_
      refine lv_aload_n hx hb dX7_isFrame_12 rfl (lv_at hl 0 rfl) ?_
      refine mw_get (C := RX7) (T := TX7) (N := 27) (v := .ref (a 1)) hx hb hts inX7_isFrame_X7 hown hC hw hm.1 rfl 1 (by decide) k_0 rfl dX7_isFrame_13 ?_
      refine lv_iload_n hx hb dX7_isFrame_16 rfl (lv_at hl 1 rfl) ?_
      refine md_ald 1 (n := 2) hx hb hC hw hm rfl (by decide) rfl (by omega) (by decide) dX7_isFrame_17 ?_
      refine lv_icmp_ge (tgt := 25) hx hb dX7_isFrame_18 (by decide) (fun c_3 => ?_) (fun c_3 => ?_)
      · skip
        have c_3 : fx ≥ A 1 ed := (nI_leI (a := A 1 ed) (b := fx) (by omega) (by omega)).mp c_3
        exfalso; omega
      · skip
        have c_3 : fx < A 1 ed := Nat.not_le.mp (fun h => c_3 ((nI_leI (a := A 1 ed) (b := fx) (by omega) (by omega)).mpr h))
        refine lv_iconst (v := nI 1) hx hb dX7_isFrame_21 (by decide) ?_
        refine lv_goto (tgt := 26) hx hb dX7_isFrame_22 (by decide) ?_
        exact md_zret hx hb hr hlocks hw hm hf (by decide) (rfl) dX7_isFrame_26
def RM_X7_flip_bade : Room := { frames := 2, cells := 0, slots := 0, locals := 42 }
set_option maxHeartbeats 4000000 in
set_option maxRecDepth 100000 in
theorem c_X7_flip_bade (l : Launch) (G : mw_G) (M : mw_M) (sz : Nat) (h0 : Nat) (a : Nat → Nat) (c u : Nat) (A : md_S) (ed fx : Int32) (i : Int32) (hm : md_at G M h0 a c u A) (hb1 : ed < 0 ∨ nI 1 < ed) : Met l yX7_flip wsX7_flip RM_X7_flip_bade (mw_pre G M sz [.ref (h0), .int (ed), .int (fx), .int (i)]) (md_Qi G M sz h0 a (nI (0)) 1 u A) 0 0 (mw_A M sz) := by
  refine Met.ofW (cc := cX7_flip) (maxL := 5) (ret := (some .int)) (by decide) rfl ?_
  intro p e s m args below meth c0 s₁ B hml hv
  obtain ⟨rfl, rfl, hC, hw⟩ := mw_in hv
  have hx := B.exec
  have hb := B.bytes
  have hr := B.returns
  have hts := atoms_spec (ws := wsX7_flip) B.pre
  have hown : s.vm.findClass RX7 = some m.cls := findClass_of_methodNamed B.named
  have hlocks := B.notSynchronized
  have hf : md_fr h0 a M M := md_fr.rf
  have hl := lv_entry ([.ref (h0), .int (ed), .int (fx), .int (i)]) (n := 5) (Nat.le_of_ble_eq_true rfl)
  rw [lg_entry_eq]
  generalize (lg_sl ([.ref (h0), .int (ed), .int (fx), .int (i)]) ++ List.replicate (5 - (lg_sl ([.ref (h0), .int (ed), .int (fx), .int (i)])).length) Slot.unset).toArray = ls at hl ⊢
  have hl : lv_has ls 5 [(0, .ref (h0)), (1, .int (ed)), (2, .int (fx)), (3, .int (i))] := hl
  refine mw_start (fun H locs hw => ?_) hw
  refine lv_aload_n hx hb dX7_flip_0 rfl (lv_at hl 0 rfl) ?_
  refine lv_aload_n hx hb dX7_flip_1 rfl (lv_at hl 0 rfl) ?_
  refine lv_iload_n hx hb dX7_flip_2 rfl (lv_at hl 1 rfl) ?_
  refine lv_iload_n hx hb dX7_flip_3 rfl (lv_at hl 2 rfl) ?_
  refine md_ci hC hw (va_runV (As := [.int (ed), .int (fx)]) (rest := [.ref (h0)]) ⟨hx, hb, hml, hown, hts⟩ (c_X7_isFrame_bade l G _ H.size h0 a c u A ed fx hm (hb1)) (cwV 2 hts gX7_flip_X7_isFrame rfl rfl rfl (by decide +kernel) ⟨Nat.le_of_ble_eq_true rfl, Nat.le_of_ble_eq_true rfl⟩) (mw_preV (ci := 7) hC hw rfl hm.1) rfl rfl hl.1 rfl (lv_room (Nat.le_of_ble_eq_true rfl)) dX7_flip_4 ⟨Nat.le_of_ble_eq_true rfl, Nat.le_of_ble_eq_true rfl⟩) (fun M1 H locs hm hf1 hw => ?_)
  have hf := hf.tr hf1
  refine lv_if_eq (tgt := 29) hx hb dX7_flip_7 (by decide) (fun c_1 => ?_) (fun c_1 => ?_)
  · skip
    refine lv_iconst (v := nI 1) hx hb dX7_flip_29 (by decide) ?_
    refine lv_goto (tgt := 34) hx hb dX7_flip_30 (by decide) ?_
    refine md_ci hC hw (va_runV (As := [.int (nI (1))]) (rest := []) ⟨hx, hb, hml, hown, hts⟩ (c_X7_refuses l G _ H.size h0 a c u A 1 hm (by omega)) (cwV 1 hts gX7_flip_X7_refuses rfl rfl rfl (by decide +kernel) ⟨Nat.le_of_ble_eq_true rfl, Nat.le_of_ble_eq_true rfl⟩) (mw_preV (ci := 7) hC hw rfl hm.1) rfl rfl hl.1 rfl (lv_room (Nat.le_of_ble_eq_true rfl)) dX7_flip_34 ⟨Nat.le_of_ble_eq_true rfl, Nat.le_of_ble_eq_true rfl⟩) (fun M1 H locs hm hf1 hw => ?_)
    have hf := hf.tr hf1
    refine mw_ti (v' := nI (1)) rfl ?_
    refine lv_if_eq (tgt := 42) hx hb dX7_flip_37 (by decide) (fun c_2 => ?_) (fun c_2 => ?_)
    · skip
      exact absurd c_2 (by decide)
    · skip
      refine lv_iconst (v := nI 0) hx hb dX7_flip_40 (by decide) ?_
      exact md_iret hx hb hr hlocks hw hm hf (rfl) dX7_flip_41
  · skip
    exact absurd c_1 (by decide)
def RM_X7_flip_badf : Room := { frames := 2, cells := 0, slots := 0, locals := 42 }
set_option maxHeartbeats 4000000 in
set_option maxRecDepth 100000 in
theorem c_X7_flip_badf (l : Launch) (G : mw_G) (M : mw_M) (sz : Nat) (h0 : Nat) (a : Nat → Nat) (c u : Nat) (A : md_S) (ed : Nat) (fx : Int32) (i : Int32) (hm : md_at G M h0 a c u A) (hed : ed ≤ 1) (hb1 : fx < 0 ∨ nI (A 1 ed) ≤ fx) : Met l yX7_flip wsX7_flip RM_X7_flip_badf (mw_pre G M sz [.ref (h0), .int (nI (ed)), .int (fx), .int (i)]) (md_Qi G M sz h0 a (nI (0)) 1 u A) 0 0 (mw_A M sz) := by
  refine Met.ofW (cc := cX7_flip) (maxL := 5) (ret := (some .int)) (by decide) rfl ?_
  intro p e s m args below meth c0 s₁ B hml hv
  obtain ⟨rfl, rfl, hC, hw⟩ := mw_in hv
  have hx := B.exec
  have hb := B.bytes
  have hr := B.returns
  have hts := atoms_spec (ws := wsX7_flip) B.pre
  have hown : s.vm.findClass RX7 = some m.cls := findClass_of_methodNamed B.named
  have hlocks := B.notSynchronized
  have hf : md_fr h0 a M M := md_fr.rf
  have hl := lv_entry ([.ref (h0), .int (nI (ed)), .int (fx), .int (i)]) (n := 5) (Nat.le_of_ble_eq_true rfl)
  rw [lg_entry_eq]
  generalize (lg_sl ([.ref (h0), .int (nI (ed)), .int (fx), .int (i)]) ++ List.replicate (5 - (lg_sl ([.ref (h0), .int (nI (ed)), .int (fx), .int (i)])).length) Slot.unset).toArray = ls at hl ⊢
  have hl : lv_has ls 5 [(0, .ref (h0)), (1, .int (nI (ed))), (2, .int (fx)), (3, .int (i))] := hl
  refine mw_start (fun H locs hw => ?_) hw
  refine lv_aload_n hx hb dX7_flip_0 rfl (lv_at hl 0 rfl) ?_
  refine lv_aload_n hx hb dX7_flip_1 rfl (lv_at hl 0 rfl) ?_
  refine lv_iload_n hx hb dX7_flip_2 rfl (lv_at hl 1 rfl) ?_
  refine lv_iload_n hx hb dX7_flip_3 rfl (lv_at hl 2 rfl) ?_
  refine md_ci hC hw (va_runV (As := [.int (nI (ed)), .int (fx)]) (rest := [.ref (h0)]) ⟨hx, hb, hml, hown, hts⟩ (c_X7_isFrame_badf l G _ H.size h0 a c u A ed fx hm (by omega) (hb1)) (cwV 2 hts gX7_flip_X7_isFrame rfl rfl rfl (by decide +kernel) ⟨Nat.le_of_ble_eq_true rfl, Nat.le_of_ble_eq_true rfl⟩) (mw_preV (ci := 7) hC hw rfl hm.1) rfl rfl hl.1 rfl (lv_room (Nat.le_of_ble_eq_true rfl)) dX7_flip_4 ⟨Nat.le_of_ble_eq_true rfl, Nat.le_of_ble_eq_true rfl⟩) (fun M1 H locs hm hf1 hw => ?_)
  have hf := hf.tr hf1
  refine lv_if_eq (tgt := 29) hx hb dX7_flip_7 (by decide) (fun c_1 => ?_) (fun c_1 => ?_)
  · skip
    refine lv_iconst (v := nI 1) hx hb dX7_flip_29 (by decide) ?_
    refine lv_goto (tgt := 34) hx hb dX7_flip_30 (by decide) ?_
    refine md_ci hC hw (va_runV (As := [.int (nI (1))]) (rest := []) ⟨hx, hb, hml, hown, hts⟩ (c_X7_refuses l G _ H.size h0 a c u A 1 hm (by omega)) (cwV 1 hts gX7_flip_X7_refuses rfl rfl rfl (by decide +kernel) ⟨Nat.le_of_ble_eq_true rfl, Nat.le_of_ble_eq_true rfl⟩) (mw_preV (ci := 7) hC hw rfl hm.1) rfl rfl hl.1 rfl (lv_room (Nat.le_of_ble_eq_true rfl)) dX7_flip_34 ⟨Nat.le_of_ble_eq_true rfl, Nat.le_of_ble_eq_true rfl⟩) (fun M1 H locs hm hf1 hw => ?_)
    have hf := hf.tr hf1
    refine mw_ti (v' := nI (1)) rfl ?_
    refine lv_if_eq (tgt := 42) hx hb dX7_flip_37 (by decide) (fun c_2 => ?_) (fun c_2 => ?_)
    · skip
      exact absurd c_2 (by decide)
    · skip
      refine lv_iconst (v := nI 0) hx hb dX7_flip_40 (by decide) ?_
      exact md_iret hx hb hr hlocks hw hm hf (rfl) dX7_flip_41
  · skip
    exact absurd c_1 (by decide)
def RM_X7_drop_bade : Room := { frames := 2, cells := 0, slots := 0, locals := 42 }
set_option maxHeartbeats 4000000 in
set_option maxRecDepth 100000 in
theorem c_X7_drop_bade (l : Launch) (G : mw_G) (M : mw_M) (sz : Nat) (h0 : Nat) (a : Nat → Nat) (c u : Nat) (A : md_S) (ed fx : Int32) (hm : md_at G M h0 a c u A) (hb1 : ed < 0 ∨ nI 1 < ed) : Met l yX7_drop wsX7_drop RM_X7_drop_bade (mw_pre G M sz [.ref (h0), .int (ed), .int (fx)]) (md_Qi G M sz h0 a (nI (0)) 1 u A) 0 0 (mw_A M sz) := by
  refine Met.ofW (cc := cX7_drop) (maxL := 4) (ret := (some .int)) (by decide) rfl ?_
  intro p e s m args below meth c0 s₁ B hml hv
  obtain ⟨rfl, rfl, hC, hw⟩ := mw_in hv
  have hx := B.exec
  have hb := B.bytes
  have hr := B.returns
  have hts := atoms_spec (ws := wsX7_drop) B.pre
  have hown : s.vm.findClass RX7 = some m.cls := findClass_of_methodNamed B.named
  have hlocks := B.notSynchronized
  have hf : md_fr h0 a M M := md_fr.rf
  have hl := lv_entry ([.ref (h0), .int (ed), .int (fx)]) (n := 4) (Nat.le_of_ble_eq_true rfl)
  rw [lg_entry_eq]
  generalize (lg_sl ([.ref (h0), .int (ed), .int (fx)]) ++ List.replicate (4 - (lg_sl ([.ref (h0), .int (ed), .int (fx)])).length) Slot.unset).toArray = ls at hl ⊢
  have hl : lv_has ls 4 [(0, .ref (h0)), (1, .int (ed)), (2, .int (fx))] := hl
  refine mw_start (fun H locs hw => ?_) hw
  refine lv_aload_n hx hb dX7_drop_0 rfl (lv_at hl 0 rfl) ?_
  refine lv_aload_n hx hb dX7_drop_1 rfl (lv_at hl 0 rfl) ?_
  refine lv_iload_n hx hb dX7_drop_2 rfl (lv_at hl 1 rfl) ?_
  refine lv_iload_n hx hb dX7_drop_3 rfl (lv_at hl 2 rfl) ?_
  refine md_ci hC hw (va_runV (As := [.int (ed), .int (fx)]) (rest := [.ref (h0)]) ⟨hx, hb, hml, hown, hts⟩ (c_X7_isFrame_bade l G _ H.size h0 a c u A ed fx hm (hb1)) (cwV 2 hts gX7_drop_X7_isFrame rfl rfl rfl (by decide +kernel) ⟨Nat.le_of_ble_eq_true rfl, Nat.le_of_ble_eq_true rfl⟩) (mw_preV (ci := 7) hC hw rfl hm.1) rfl rfl hl.1 rfl (lv_room (Nat.le_of_ble_eq_true rfl)) dX7_drop_4 ⟨Nat.le_of_ble_eq_true rfl, Nat.le_of_ble_eq_true rfl⟩) (fun M1 H locs hm hf1 hw => ?_)
  have hf := hf.tr hf1
  refine lv_if_eq (tgt := 14) hx hb dX7_drop_7 (by decide) (fun c_1 => ?_) (fun c_1 => ?_)
  · skip
    refine lv_iconst (v := nI 1) hx hb dX7_drop_14 (by decide) ?_
    refine md_ci hC hw (va_runV (As := [.int (nI (1))]) (rest := []) ⟨hx, hb, hml, hown, hts⟩ (c_X7_refuses l G _ H.size h0 a c u A 1 hm (by omega)) (cwV 1 hts gX7_drop_X7_refuses rfl rfl rfl (by decide +kernel) ⟨Nat.le_of_ble_eq_true rfl, Nat.le_of_ble_eq_true rfl⟩) (mw_preV (ci := 7) hC hw rfl hm.1) rfl rfl hl.1 rfl (lv_room (Nat.le_of_ble_eq_true rfl)) dX7_drop_15 ⟨Nat.le_of_ble_eq_true rfl, Nat.le_of_ble_eq_true rfl⟩) (fun M1 H locs hm hf1 hw => ?_)
    have hf := hf.tr hf1
    refine mw_ti (v' := nI (1)) rfl ?_
    refine lv_if_eq (tgt := 23) hx hb dX7_drop_18 (by decide) (fun c_2 => ?_) (fun c_2 => ?_)
    · skip
      exact absurd c_2 (by decide)
    · skip
      refine lv_iconst (v := nI 0) hx hb dX7_drop_21 (by decide) ?_
      exact md_iret hx hb hr hlocks hw hm hf (rfl) dX7_drop_22
  · skip
    exact absurd c_1 (by decide)
def RM_X7_drop_badf : Room := { frames := 2, cells := 0, slots := 0, locals := 42 }
set_option maxHeartbeats 4000000 in
set_option maxRecDepth 100000 in
theorem c_X7_drop_badf (l : Launch) (G : mw_G) (M : mw_M) (sz : Nat) (h0 : Nat) (a : Nat → Nat) (c u : Nat) (A : md_S) (ed : Nat) (fx : Int32) (hm : md_at G M h0 a c u A) (hed : ed ≤ 1) (hb1 : fx < 0 ∨ nI (A 1 ed) ≤ fx) : Met l yX7_drop wsX7_drop RM_X7_drop_badf (mw_pre G M sz [.ref (h0), .int (nI (ed)), .int (fx)]) (md_Qi G M sz h0 a (nI (0)) 1 u A) 0 0 (mw_A M sz) := by
  refine Met.ofW (cc := cX7_drop) (maxL := 4) (ret := (some .int)) (by decide) rfl ?_
  intro p e s m args below meth c0 s₁ B hml hv
  obtain ⟨rfl, rfl, hC, hw⟩ := mw_in hv
  have hx := B.exec
  have hb := B.bytes
  have hr := B.returns
  have hts := atoms_spec (ws := wsX7_drop) B.pre
  have hown : s.vm.findClass RX7 = some m.cls := findClass_of_methodNamed B.named
  have hlocks := B.notSynchronized
  have hf : md_fr h0 a M M := md_fr.rf
  have hl := lv_entry ([.ref (h0), .int (nI (ed)), .int (fx)]) (n := 4) (Nat.le_of_ble_eq_true rfl)
  rw [lg_entry_eq]
  generalize (lg_sl ([.ref (h0), .int (nI (ed)), .int (fx)]) ++ List.replicate (4 - (lg_sl ([.ref (h0), .int (nI (ed)), .int (fx)])).length) Slot.unset).toArray = ls at hl ⊢
  have hl : lv_has ls 4 [(0, .ref (h0)), (1, .int (nI (ed))), (2, .int (fx))] := hl
  refine mw_start (fun H locs hw => ?_) hw
  refine lv_aload_n hx hb dX7_drop_0 rfl (lv_at hl 0 rfl) ?_
  refine lv_aload_n hx hb dX7_drop_1 rfl (lv_at hl 0 rfl) ?_
  refine lv_iload_n hx hb dX7_drop_2 rfl (lv_at hl 1 rfl) ?_
  refine lv_iload_n hx hb dX7_drop_3 rfl (lv_at hl 2 rfl) ?_
  refine md_ci hC hw (va_runV (As := [.int (nI (ed)), .int (fx)]) (rest := [.ref (h0)]) ⟨hx, hb, hml, hown, hts⟩ (c_X7_isFrame_badf l G _ H.size h0 a c u A ed fx hm (by omega) (hb1)) (cwV 2 hts gX7_drop_X7_isFrame rfl rfl rfl (by decide +kernel) ⟨Nat.le_of_ble_eq_true rfl, Nat.le_of_ble_eq_true rfl⟩) (mw_preV (ci := 7) hC hw rfl hm.1) rfl rfl hl.1 rfl (lv_room (Nat.le_of_ble_eq_true rfl)) dX7_drop_4 ⟨Nat.le_of_ble_eq_true rfl, Nat.le_of_ble_eq_true rfl⟩) (fun M1 H locs hm hf1 hw => ?_)
  have hf := hf.tr hf1
  refine lv_if_eq (tgt := 14) hx hb dX7_drop_7 (by decide) (fun c_1 => ?_) (fun c_1 => ?_)
  · skip
    refine lv_iconst (v := nI 1) hx hb dX7_drop_14 (by decide) ?_
    refine md_ci hC hw (va_runV (As := [.int (nI (1))]) (rest := []) ⟨hx, hb, hml, hown, hts⟩ (c_X7_refuses l G _ H.size h0 a c u A 1 hm (by omega)) (cwV 1 hts gX7_drop_X7_refuses rfl rfl rfl (by decide +kernel) ⟨Nat.le_of_ble_eq_true rfl, Nat.le_of_ble_eq_true rfl⟩) (mw_preV (ci := 7) hC hw rfl hm.1) rfl rfl hl.1 rfl (lv_room (Nat.le_of_ble_eq_true rfl)) dX7_drop_15 ⟨Nat.le_of_ble_eq_true rfl, Nat.le_of_ble_eq_true rfl⟩) (fun M1 H locs hm hf1 hw => ?_)
    have hf := hf.tr hf1
    refine mw_ti (v' := nI (1)) rfl ?_
    refine lv_if_eq (tgt := 23) hx hb dX7_drop_18 (by decide) (fun c_2 => ?_) (fun c_2 => ?_)
    · skip
      exact absurd c_2 (by decide)
    · skip
      refine lv_iconst (v := nI 0) hx hb dX7_drop_21 (by decide) ?_
      exact md_iret hx hb hr hlocks hw hm hf (rfl) dX7_drop_22
  · skip
    exact absurd c_1 (by decide)
def RM_X7_bit__bade : Room := { frames := 2, cells := 0, slots := 0, locals := 42 }
set_option maxHeartbeats 4000000 in
set_option maxRecDepth 100000 in
theorem c_X7_bit__bade (l : Launch) (G : mw_G) (M : mw_M) (sz : Nat) (h0 : Nat) (a : Nat → Nat) (c u : Nat) (A : md_S) (ed fx : Int32) (i : Int32) (hm : md_at G M h0 a c u A) (hb1 : ed < 0 ∨ nI 1 < ed) : Met l yX7_bit_ wsX7_bit_ RM_X7_bit__bade (mw_pre G M sz [.ref (h0), .int (ed), .int (fx), .int (i)]) (md_Qi G M sz h0 a (nI (0)) 1 u A) 0 0 (mw_A M sz) := by
  refine Met.ofW (cc := cX7_bit_) (maxL := 5) (ret := (some .int)) (by decide) rfl ?_
  intro p e s m args below meth c0 s₁ B hml hv
  obtain ⟨rfl, rfl, hC, hw⟩ := mw_in hv
  have hx := B.exec
  have hb := B.bytes
  have hr := B.returns
  have hts := atoms_spec (ws := wsX7_bit_) B.pre
  have hown : s.vm.findClass RX7 = some m.cls := findClass_of_methodNamed B.named
  have hlocks := B.notSynchronized
  have hf : md_fr h0 a M M := md_fr.rf
  have hl := lv_entry ([.ref (h0), .int (ed), .int (fx), .int (i)]) (n := 5) (Nat.le_of_ble_eq_true rfl)
  rw [lg_entry_eq]
  generalize (lg_sl ([.ref (h0), .int (ed), .int (fx), .int (i)]) ++ List.replicate (5 - (lg_sl ([.ref (h0), .int (ed), .int (fx), .int (i)])).length) Slot.unset).toArray = ls at hl ⊢
  have hl : lv_has ls 5 [(0, .ref (h0)), (1, .int (ed)), (2, .int (fx)), (3, .int (i))] := hl
  refine mw_start (fun H locs hw => ?_) hw
  refine lv_aload_n hx hb dX7_bit__0 rfl (lv_at hl 0 rfl) ?_
  refine lv_aload_n hx hb dX7_bit__1 rfl (lv_at hl 0 rfl) ?_
  refine lv_iload_n hx hb dX7_bit__2 rfl (lv_at hl 1 rfl) ?_
  refine lv_iload_n hx hb dX7_bit__3 rfl (lv_at hl 2 rfl) ?_
  refine md_ci hC hw (va_runV (As := [.int (ed), .int (fx)]) (rest := [.ref (h0)]) ⟨hx, hb, hml, hown, hts⟩ (c_X7_isFrame_bade l G _ H.size h0 a c u A ed fx hm (hb1)) (cwV 2 hts gX7_bit__X7_isFrame rfl rfl rfl (by decide +kernel) ⟨Nat.le_of_ble_eq_true rfl, Nat.le_of_ble_eq_true rfl⟩) (mw_preV (ci := 7) hC hw rfl hm.1) rfl rfl hl.1 rfl (lv_room (Nat.le_of_ble_eq_true rfl)) dX7_bit__4 ⟨Nat.le_of_ble_eq_true rfl, Nat.le_of_ble_eq_true rfl⟩) (fun M1 H locs hm hf1 hw => ?_)
  have hf := hf.tr hf1
  refine lv_if_eq (tgt := 14) hx hb dX7_bit__7 (by decide) (fun c_1 => ?_) (fun c_1 => ?_)
  · skip
    refine lv_iconst (v := nI 1) hx hb dX7_bit__14 (by decide) ?_
    refine md_ci hC hw (va_runV (As := [.int (nI (1))]) (rest := []) ⟨hx, hb, hml, hown, hts⟩ (c_X7_refuses l G _ H.size h0 a c u A 1 hm (by omega)) (cwV 1 hts gX7_bit__X7_refuses rfl rfl rfl (by decide +kernel) ⟨Nat.le_of_ble_eq_true rfl, Nat.le_of_ble_eq_true rfl⟩) (mw_preV (ci := 7) hC hw rfl hm.1) rfl rfl hl.1 rfl (lv_room (Nat.le_of_ble_eq_true rfl)) dX7_bit__15 ⟨Nat.le_of_ble_eq_true rfl, Nat.le_of_ble_eq_true rfl⟩) (fun M1 H locs hm hf1 hw => ?_)
    have hf := hf.tr hf1
    refine mw_ti (v' := nI (1)) rfl ?_
    refine lv_if_eq (tgt := 23) hx hb dX7_bit__18 (by decide) (fun c_2 => ?_) (fun c_2 => ?_)
    · skip
      exact absurd c_2 (by decide)
    · skip
      refine lv_iconst (v := nI 0) hx hb dX7_bit__21 (by decide) ?_
      exact md_iret hx hb hr hlocks hw hm hf (rfl) dX7_bit__22
  · skip
    exact absurd c_1 (by decide)
def RM_X7_bit__badf : Room := { frames := 2, cells := 0, slots := 0, locals := 42 }
set_option maxHeartbeats 4000000 in
set_option maxRecDepth 100000 in
theorem c_X7_bit__badf (l : Launch) (G : mw_G) (M : mw_M) (sz : Nat) (h0 : Nat) (a : Nat → Nat) (c u : Nat) (A : md_S) (ed : Nat) (fx : Int32) (i : Int32) (hm : md_at G M h0 a c u A) (hed : ed ≤ 1) (hb1 : fx < 0 ∨ nI (A 1 ed) ≤ fx) : Met l yX7_bit_ wsX7_bit_ RM_X7_bit__badf (mw_pre G M sz [.ref (h0), .int (nI (ed)), .int (fx), .int (i)]) (md_Qi G M sz h0 a (nI (0)) 1 u A) 0 0 (mw_A M sz) := by
  refine Met.ofW (cc := cX7_bit_) (maxL := 5) (ret := (some .int)) (by decide) rfl ?_
  intro p e s m args below meth c0 s₁ B hml hv
  obtain ⟨rfl, rfl, hC, hw⟩ := mw_in hv
  have hx := B.exec
  have hb := B.bytes
  have hr := B.returns
  have hts := atoms_spec (ws := wsX7_bit_) B.pre
  have hown : s.vm.findClass RX7 = some m.cls := findClass_of_methodNamed B.named
  have hlocks := B.notSynchronized
  have hf : md_fr h0 a M M := md_fr.rf
  have hl := lv_entry ([.ref (h0), .int (nI (ed)), .int (fx), .int (i)]) (n := 5) (Nat.le_of_ble_eq_true rfl)
  rw [lg_entry_eq]
  generalize (lg_sl ([.ref (h0), .int (nI (ed)), .int (fx), .int (i)]) ++ List.replicate (5 - (lg_sl ([.ref (h0), .int (nI (ed)), .int (fx), .int (i)])).length) Slot.unset).toArray = ls at hl ⊢
  have hl : lv_has ls 5 [(0, .ref (h0)), (1, .int (nI (ed))), (2, .int (fx)), (3, .int (i))] := hl
  refine mw_start (fun H locs hw => ?_) hw
  refine lv_aload_n hx hb dX7_bit__0 rfl (lv_at hl 0 rfl) ?_
  refine lv_aload_n hx hb dX7_bit__1 rfl (lv_at hl 0 rfl) ?_
  refine lv_iload_n hx hb dX7_bit__2 rfl (lv_at hl 1 rfl) ?_
  refine lv_iload_n hx hb dX7_bit__3 rfl (lv_at hl 2 rfl) ?_
  refine md_ci hC hw (va_runV (As := [.int (nI (ed)), .int (fx)]) (rest := [.ref (h0)]) ⟨hx, hb, hml, hown, hts⟩ (c_X7_isFrame_badf l G _ H.size h0 a c u A ed fx hm (by omega) (hb1)) (cwV 2 hts gX7_bit__X7_isFrame rfl rfl rfl (by decide +kernel) ⟨Nat.le_of_ble_eq_true rfl, Nat.le_of_ble_eq_true rfl⟩) (mw_preV (ci := 7) hC hw rfl hm.1) rfl rfl hl.1 rfl (lv_room (Nat.le_of_ble_eq_true rfl)) dX7_bit__4 ⟨Nat.le_of_ble_eq_true rfl, Nat.le_of_ble_eq_true rfl⟩) (fun M1 H locs hm hf1 hw => ?_)
  have hf := hf.tr hf1
  refine lv_if_eq (tgt := 14) hx hb dX7_bit__7 (by decide) (fun c_1 => ?_) (fun c_1 => ?_)
  · skip
    refine lv_iconst (v := nI 1) hx hb dX7_bit__14 (by decide) ?_
    refine md_ci hC hw (va_runV (As := [.int (nI (1))]) (rest := []) ⟨hx, hb, hml, hown, hts⟩ (c_X7_refuses l G _ H.size h0 a c u A 1 hm (by omega)) (cwV 1 hts gX7_bit__X7_refuses rfl rfl rfl (by decide +kernel) ⟨Nat.le_of_ble_eq_true rfl, Nat.le_of_ble_eq_true rfl⟩) (mw_preV (ci := 7) hC hw rfl hm.1) rfl rfl hl.1 rfl (lv_room (Nat.le_of_ble_eq_true rfl)) dX7_bit__15 ⟨Nat.le_of_ble_eq_true rfl, Nat.le_of_ble_eq_true rfl⟩) (fun M1 H locs hm hf1 hw => ?_)
    have hf := hf.tr hf1
    refine mw_ti (v' := nI (1)) rfl ?_
    refine lv_if_eq (tgt := 23) hx hb dX7_bit__18 (by decide) (fun c_2 => ?_) (fun c_2 => ?_)
    · skip
      exact absurd c_2 (by decide)
    · skip
      refine lv_iconst (v := nI 0) hx hb dX7_bit__21 (by decide) ?_
      exact md_iret hx hb hr hlocks hw hm hf (rfl) dX7_bit__22
  · skip
    exact absurd c_1 (by decide)
theorem inX7_flip_X7 : ∀ w ∈ wsX70, w ∈ wsX7_flip := by decide +kernel
def RM_X7_flip_badi : Room := { frames := 2, cells := 0, slots := 0, locals := 42 }
set_option maxHeartbeats 4000000 in
set_option maxRecDepth 100000 in
theorem c_X7_flip_badi (l : Launch) (G : mw_G) (M : mw_M) (sz : Nat) (h0 : Nat) (a : Nat → Nat) (c u : Nat) (A : md_S) (ed fx : Nat) (i : Int32) (hm : md_at G M h0 a c u A) (hed : ed ≤ 1) (hfx : fx < A 1 ed) (hf2 : A 1 ed ≤ 40) (hb1 : i < 0 ∨ nI (A 2 (40 * ed + fx)) ≤ i) : Met l yX7_flip wsX7_flip RM_X7_flip_badi (mw_pre G M sz [.ref (h0), .int (nI (ed)), .int (nI (fx)), .int (i)]) (md_Qi G M sz h0 a (nI (0)) 1 u A) 0 0 (mw_A M sz) := by
  refine Met.ofW (cc := cX7_flip) (maxL := 5) (ret := (some .int)) (by decide) rfl ?_
  intro p e s m args below meth c0 s₁ B hml hv
  obtain ⟨rfl, rfl, hC, hw⟩ := mw_in hv
  have hx := B.exec
  have hb := B.bytes
  have hr := B.returns
  have hts := atoms_spec (ws := wsX7_flip) B.pre
  have hown : s.vm.findClass RX7 = some m.cls := findClass_of_methodNamed B.named
  have hlocks := B.notSynchronized
  have hf : md_fr h0 a M M := md_fr.rf
  have k_0 := hts (.fieldLink RX7 13 "LinkPairModel" "lengths" "[I") (by decide +kernel)
  have hl := lv_entry ([.ref (h0), .int (nI (ed)), .int (nI (fx)), .int (i)]) (n := 5) (Nat.le_of_ble_eq_true rfl)
  rw [lg_entry_eq]
  generalize (lg_sl ([.ref (h0), .int (nI (ed)), .int (nI (fx)), .int (i)]) ++ List.replicate (5 - (lg_sl ([.ref (h0), .int (nI (ed)), .int (nI (fx)), .int (i)])).length) Slot.unset).toArray = ls at hl ⊢
  have hl : lv_has ls 5 [(0, .ref (h0)), (1, .int (nI (ed))), (2, .int (nI (fx))), (3, .int (i))] := hl
  refine mw_start (fun H locs hw => ?_) hw
  refine lv_aload_n hx hb dX7_flip_0 rfl (lv_at hl 0 rfl) ?_
  refine lv_aload_n hx hb dX7_flip_1 rfl (lv_at hl 0 rfl) ?_
  refine lv_iload_n hx hb dX7_flip_2 rfl (lv_at hl 1 rfl) ?_
  refine lv_iload_n hx hb dX7_flip_3 rfl (lv_at hl 2 rfl) ?_
  refine md_ci hC hw (va_runV (As := [.int (nI (ed)), .int (nI (fx))]) (rest := [.ref (h0)]) ⟨hx, hb, hml, hown, hts⟩ (c_X7_isFrame l G _ H.size h0 a c u A ed fx hm (by omega) (by omega) (by omega)) (cwV 2 hts gX7_flip_X7_isFrame rfl rfl rfl (by decide +kernel) ⟨Nat.le_of_ble_eq_true rfl, Nat.le_of_ble_eq_true rfl⟩) (mw_preV (ci := 7) hC hw rfl hm.1) rfl rfl hl.1 rfl (lv_room (Nat.le_of_ble_eq_true rfl)) dX7_flip_4 ⟨Nat.le_of_ble_eq_true rfl, Nat.le_of_ble_eq_true rfl⟩) (fun M1 H locs hm hf1 hw => ?_)
  have hf := hf.tr hf1
  refine lv_if_eq (tgt := 29) hx hb dX7_flip_7 (by decide) (fun c_1 => ?_) (fun c_1 => ?_)
  · skip
    exact absurd c_1 (by decide)
  · skip
    refine lv_iload_n hx hb dX7_flip_10 rfl (lv_at hl 3 rfl) ?_
    refine lv_if_lt (tgt := 29) hx hb dX7_flip_11 (by decide) (fun c_2 => ?_) (fun c_2 => ?_)
    · skip
      refine lv_iconst (v := nI 1) hx hb dX7_flip_29 (by decide) ?_
      refine lv_goto (tgt := 34) hx hb dX7_flip_30 (by decide) ?_
      refine md_ci hC hw (va_runV (As := [.int (nI (1))]) (rest := []) ⟨hx, hb, hml, hown, hts⟩ (c_X7_refuses l G _ H.size h0 a c u A 1 hm (by omega)) (cwV 1 hts gX7_flip_X7_refuses rfl rfl rfl (by decide +kernel) ⟨Nat.le_of_ble_eq_true rfl, Nat.le_of_ble_eq_true rfl⟩) (mw_preV (ci := 7) hC hw rfl hm.1) rfl rfl hl.1 rfl (lv_room (Nat.le_of_ble_eq_true rfl)) dX7_flip_34 ⟨Nat.le_of_ble_eq_true rfl, Nat.le_of_ble_eq_true rfl⟩) (fun M1 H locs hm hf1 hw => ?_)
      have hf := hf.tr hf1
      refine mw_ti (v' := nI (1)) rfl ?_
      refine lv_if_eq (tgt := 42) hx hb dX7_flip_37 (by decide) (fun c_3 => ?_) (fun c_3 => ?_)
      · skip
        exact absurd c_3 (by decide)
      · skip
        refine lv_iconst (v := nI 0) hx hb dX7_flip_40 (by decide) ?_
        exact md_iret hx hb hr hlocks hw hm hf (rfl) dX7_flip_41
    · skip
      refine lv_iload_n hx hb dX7_flip_14 rfl (lv_at hl 3 rfl) ?_
      refine lv_aload_n hx hb dX7_flip_15 rfl (lv_at hl 0 rfl) ?_
      refine mw_get (C := RX7) (T := TX7) (N := 27) (v := .ref (a 2)) hx hb hts inX7_flip_X7 hown hC hw hm.1 rfl 2 (by decide) k_0 rfl dX7_flip_16 ?_
      refine lv_bipush (v := nI 40) hx hb dX7_flip_19 (by decide) ?_
      refine lv_iload_n hx hb dX7_flip_21 rfl (lv_at hl 1 rfl) ?_
      refine lv_imul hx hb dX7_flip_22 ?_
      refine mw_ti (v' := nI (40 * ed)) (pk_mul _ _) ?_
      refine lv_iload_n hx hb dX7_flip_23 rfl (lv_at hl 2 rfl) ?_
      refine lv_iadd hx hb dX7_flip_24 ?_
      refine mw_ti (v' := nI (40 * ed + fx)) (nI_add _ _) ?_
      refine md_ald 2 (n := 80) hx hb hC hw hm rfl (by decide) rfl (by omega) (by decide) dX7_flip_25 ?_
      refine lv_icmp_lt (tgt := 33) hx hb dX7_flip_26 (by decide) (fun c_4 => ?_) (fun c_4 => ?_)
      · skip
        exact hb1.elim (fun h => absurd h (by assumption)) (fun h => absurd c_4 (Int32.not_lt.mpr h))
      · skip
        refine lv_iconst (v := nI 1) hx hb dX7_flip_29 (by decide) ?_
        refine lv_goto (tgt := 34) hx hb dX7_flip_30 (by decide) ?_
        refine md_ci hC hw (va_runV (As := [.int (nI (1))]) (rest := []) ⟨hx, hb, hml, hown, hts⟩ (c_X7_refuses l G _ H.size h0 a c u A 1 hm (by omega)) (cwV 1 hts gX7_flip_X7_refuses rfl rfl rfl (by decide +kernel) ⟨Nat.le_of_ble_eq_true rfl, Nat.le_of_ble_eq_true rfl⟩) (mw_preV (ci := 7) hC hw rfl hm.1) rfl rfl hl.1 rfl (lv_room (Nat.le_of_ble_eq_true rfl)) dX7_flip_34 ⟨Nat.le_of_ble_eq_true rfl, Nat.le_of_ble_eq_true rfl⟩) (fun M1 H locs hm hf1 hw => ?_)
        have hf := hf.tr hf1
        refine mw_ti (v' := nI (1)) rfl ?_
        refine lv_if_eq (tgt := 42) hx hb dX7_flip_37 (by decide) (fun c_5 => ?_) (fun c_5 => ?_)
        · skip
          exact absurd c_5 (by decide)
        · skip
          refine lv_iconst (v := nI 0) hx hb dX7_flip_40 (by decide) ?_
          exact md_iret hx hb hr hlocks hw hm hf (rfl) dX7_flip_41
def RM_X7_flip : Room := { frames := 2, cells := 0, slots := 0, locals := 42 }
set_option maxHeartbeats 4000000 in
set_option maxRecDepth 100000 in
theorem c_X7_flip (l : Launch) (G : mw_G) (M : mw_M) (sz : Nat) (h0 : Nat) (a : Nat → Nat) (c u : Nat) (A : md_S) (ed fx i : Nat) (hm : md_at G M h0 a c u A) (hed : ed ≤ 1) (hfx : fx < A 1 ed) (hf2 : A 1 ed ≤ 40) (hi : i < A 2 (40 * ed + fx)) (hq : A 2 (40 * ed + fx) ≤ 3000) (hb_ : A 3 (3000 * (40 * ed + fx) + i) ≤ 1) : Met l yX7_flip wsX7_flip RM_X7_flip (mw_pre G M sz [.ref (h0), .int (nI (ed)), .int (nI (fx)), .int (nI (i))]) (md_Qi G M sz h0 a (nI (1 - A 3 (3000 * (40 * ed + fx) + i))) 0 u (md_u A 3 (3000 * (40 * ed + fx) + i) (1 - A 3 (3000 * (40 * ed + fx) + i)))) 0 0 (mw_A M sz) := by
  refine Met.ofW (cc := cX7_flip) (maxL := 5) (ret := (some .int)) (by decide) rfl ?_
  intro p e s m args below meth c0 s₁ B hml hv
  obtain ⟨rfl, rfl, hC, hw⟩ := mw_in hv
  have hx := B.exec
  have hb := B.bytes
  have hr := B.returns
  have hts := atoms_spec (ws := wsX7_flip) B.pre
  have hown : s.vm.findClass RX7 = some m.cls := findClass_of_methodNamed B.named
  have hlocks := B.notSynchronized
  have hf : md_fr h0 a M M := md_fr.rf
  have k_0 := hts (.fieldLink RX7 13 "LinkPairModel" "lengths" "[I") (by decide +kernel)
  have k_1 := hts (.fieldLink RX7 17 "LinkPairModel" "bits" "[I") (by decide +kernel)
  have hl := lv_entry ([.ref (h0), .int (nI (ed)), .int (nI (fx)), .int (nI (i))]) (n := 5) (Nat.le_of_ble_eq_true rfl)
  rw [lg_entry_eq]
  generalize (lg_sl ([.ref (h0), .int (nI (ed)), .int (nI (fx)), .int (nI (i))]) ++ List.replicate (5 - (lg_sl ([.ref (h0), .int (nI (ed)), .int (nI (fx)), .int (nI (i))])).length) Slot.unset).toArray = ls at hl ⊢
  have hl : lv_has ls 5 [(0, .ref (h0)), (1, .int (nI (ed))), (2, .int (nI (fx))), (3, .int (nI (i)))] := hl
  refine mw_start (fun H locs hw => ?_) hw
  refine lv_aload_n hx hb dX7_flip_0 rfl (lv_at hl 0 rfl) ?_
  refine lv_aload_n hx hb dX7_flip_1 rfl (lv_at hl 0 rfl) ?_
  refine lv_iload_n hx hb dX7_flip_2 rfl (lv_at hl 1 rfl) ?_
  refine lv_iload_n hx hb dX7_flip_3 rfl (lv_at hl 2 rfl) ?_
  refine md_ci hC hw (va_runV (As := [.int (nI (ed)), .int (nI (fx))]) (rest := [.ref (h0)]) ⟨hx, hb, hml, hown, hts⟩ (c_X7_isFrame l G _ H.size h0 a c u A ed fx hm (by omega) (by omega) (by omega)) (cwV 2 hts gX7_flip_X7_isFrame rfl rfl rfl (by decide +kernel) ⟨Nat.le_of_ble_eq_true rfl, Nat.le_of_ble_eq_true rfl⟩) (mw_preV (ci := 7) hC hw rfl hm.1) rfl rfl hl.1 rfl (lv_room (Nat.le_of_ble_eq_true rfl)) dX7_flip_4 ⟨Nat.le_of_ble_eq_true rfl, Nat.le_of_ble_eq_true rfl⟩) (fun M1 H locs hm hf1 hw => ?_)
  have hf := hf.tr hf1
  refine lv_if_eq (tgt := 29) hx hb dX7_flip_7 (by decide) (fun c_1 => ?_) (fun c_1 => ?_)
  · skip
    exact absurd c_1 (by decide)
  · skip
    refine lv_iload_n hx hb dX7_flip_10 rfl (lv_at hl 3 rfl) ?_
    refine lv_if_lt (tgt := 29) hx hb dX7_flip_11 (by decide) (fun c_2 => ?_) (fun c_2 => ?_)
    · skip
      have c_2 : i < 0 := (nI_ltI (a := i) (b := 0) (by omega) (by omega)).mp c_2
      exfalso; omega
    · skip
      have c_2 : i ≥ 0 := Nat.not_lt.mp (fun h => c_2 ((nI_ltI (a := i) (b := 0) (by omega) (by omega)).mpr h))
      refine lv_iload_n hx hb dX7_flip_14 rfl (lv_at hl 3 rfl) ?_
      refine lv_aload_n hx hb dX7_flip_15 rfl (lv_at hl 0 rfl) ?_
      refine mw_get (C := RX7) (T := TX7) (N := 27) (v := .ref (a 2)) hx hb hts inX7_flip_X7 hown hC hw hm.1 rfl 2 (by decide) k_0 rfl dX7_flip_16 ?_
      refine lv_bipush (v := nI 40) hx hb dX7_flip_19 (by decide) ?_
      refine lv_iload_n hx hb dX7_flip_21 rfl (lv_at hl 1 rfl) ?_
      refine lv_imul hx hb dX7_flip_22 ?_
      refine mw_ti (v' := nI (40 * ed)) (pk_mul _ _) ?_
      refine lv_iload_n hx hb dX7_flip_23 rfl (lv_at hl 2 rfl) ?_
      refine lv_iadd hx hb dX7_flip_24 ?_
      refine mw_ti (v' := nI (40 * ed + fx)) (nI_add _ _) ?_
      refine md_ald 2 (n := 80) hx hb hC hw hm rfl (by decide) rfl (by omega) (by decide) dX7_flip_25 ?_
      refine lv_icmp_lt (tgt := 33) hx hb dX7_flip_26 (by decide) (fun c_3 => ?_) (fun c_3 => ?_)
      · skip
        have c_3 : i < A 2 (40 * ed + fx) := (nI_ltI (a := i) (b := A 2 (40 * ed + fx)) (by omega) (by omega)).mp c_3
        refine lv_iconst (v := nI 0) hx hb dX7_flip_33 (by decide) ?_
        refine md_ci hC hw (va_runV (As := [.int (nI (0))]) (rest := []) ⟨hx, hb, hml, hown, hts⟩ (c_X7_refuses l G _ H.size h0 a c u A 0 hm (by omega)) (cwV 1 hts gX7_flip_X7_refuses rfl rfl rfl (by decide +kernel) ⟨Nat.le_of_ble_eq_true rfl, Nat.le_of_ble_eq_true rfl⟩) (mw_preV (ci := 7) hC hw rfl hm.1) rfl rfl hl.1 rfl (lv_room (Nat.le_of_ble_eq_true rfl)) dX7_flip_34 ⟨Nat.le_of_ble_eq_true rfl, Nat.le_of_ble_eq_true rfl⟩) (fun M1 H locs hm hf1 hw => ?_)
        have hf := hf.tr hf1
        refine mw_ti (v' := nI (0)) rfl ?_
        refine lv_if_eq (tgt := 42) hx hb dX7_flip_37 (by decide) (fun c_4 => ?_) (fun c_4 => ?_)
        · skip
          refine lv_sipush (v := nI 3000) hx hb dX7_flip_42 (by decide) ?_
          refine lv_bipush (v := nI 40) hx hb dX7_flip_45 (by decide) ?_
          refine lv_iload_n hx hb dX7_flip_47 rfl (lv_at hl 1 rfl) ?_
          refine lv_imul hx hb dX7_flip_48 ?_
          refine mw_ti (v' := nI (40 * ed)) (pk_mul _ _) ?_
          refine lv_iload_n hx hb dX7_flip_49 rfl (lv_at hl 2 rfl) ?_
          refine lv_iadd hx hb dX7_flip_50 ?_
          refine mw_ti (v' := nI (40 * ed + fx)) (nI_add _ _) ?_
          refine lv_imul hx hb dX7_flip_51 ?_
          refine mw_ti (v' := nI (3000 * (40 * ed + fx))) (pk_mul _ _) ?_
          refine lv_iload_n hx hb dX7_flip_52 rfl (lv_at hl 3 rfl) ?_
          refine lv_iadd hx hb dX7_flip_53 ?_
          refine mw_ti (v' := nI (3000 * (40 * ed + fx) + i)) (nI_add _ _) ?_
          refine lv_istore (lv' := [(4, .int (nI (3000 * (40 * ed + fx) + i))), (0, .ref (h0)), (1, .int (nI (ed))), (2, .int (nI (fx))), (3, .int (nI (i)))]) hx hb dX7_flip_54 hl (by decide) rfl (fun ls hl => ?_)
          refine lv_aload_n hx hb dX7_flip_56 rfl (lv_at hl 1 rfl) ?_
          refine mw_get (C := RX7) (T := TX7) (N := 27) (v := .ref (a 3)) hx hb hts inX7_flip_X7 hown hC hw hm.1 rfl 3 (by decide) k_1 rfl dX7_flip_57 ?_
          refine lv_iload hx hb dX7_flip_60 (lv_at hl 0 rfl) ?_
          refine lv_iconst (v := nI 1) hx hb dX7_flip_62 (by decide) ?_
          refine lv_aload_n hx hb dX7_flip_63 rfl (lv_at hl 1 rfl) ?_
          refine mw_get (C := RX7) (T := TX7) (N := 27) (v := .ref (a 3)) hx hb hts inX7_flip_X7 hown hC hw hm.1 rfl 3 (by decide) k_1 rfl dX7_flip_64 ?_
          refine lv_iload hx hb dX7_flip_67 (lv_at hl 0 rfl) ?_
          refine md_ald 3 (n := 240000) hx hb hC hw hm rfl (by decide) rfl (by omega) (by decide) dX7_flip_69 ?_
          refine lv_isub hx hb dX7_flip_70 ?_
          refine mw_ti (v' := nI (1 - (A 3 (3000 * (40 * ed + fx) + i)))) (pk_sub (by omega)) ?_
          refine md_ast 3 (n := 240000) (v := 1 - (A 3 (3000 * (40 * ed + fx) + i))) hx hb hC hw hm rfl (by decide) rfl (by omega) (by decide) dX7_flip_71 (fun M1 H locs hm hf1 hw => ?_)
          have hf := hf.tr hf1
          refine lv_aload_n hx hb dX7_flip_72 rfl (lv_at hl 1 rfl) ?_
          refine mw_get (C := RX7) (T := TX7) (N := 27) (v := .ref (a 3)) hx hb hts inX7_flip_X7 hown hC hw hm.1 rfl 3 (by decide) k_1 rfl dX7_flip_73 ?_
          refine lv_iload hx hb dX7_flip_76 (lv_at hl 0 rfl) ?_
          refine md_ald 3 (n := 240000) hx hb hC hw hm rfl (by decide) rfl (by omega) (by decide) dX7_flip_78 ?_
          refine mw_ti (v' := nI (1 - (A 3 (3000 * (40 * ed + fx) + i)))) (congrArg nI md_u_s) ?_
          have hA_5 : md_u A 3 (3000 * (40 * ed + fx) + i) (1 - (A 3 (3000 * (40 * ed + fx) + i))) = md_u A 3 (3000 * (40 * ed + fx) + i) (1 - A 3 (3000 * (40 * ed + fx) + i)) := by first | rfl | simp_all
          rw [hA_5] at hm
          exact md_iret hx hb hr hlocks hw hm hf (by first | rfl | simp_all | (congr 1; omega)) dX7_flip_79
        · skip
          exact absurd c_4 (by decide)
      · skip
        have c_3 : i ≥ A 2 (40 * ed + fx) := Nat.not_lt.mp (fun h => c_3 ((nI_ltI (a := i) (b := A 2 (40 * ed + fx)) (by omega) (by omega)).mpr h))
        exfalso; omega
def RM_X7_bit__neg : Room := { frames := 2, cells := 0, slots := 0, locals := 42 }
set_option maxHeartbeats 4000000 in
set_option maxRecDepth 100000 in
theorem c_X7_bit__neg (l : Launch) (G : mw_G) (M : mw_M) (sz : Nat) (h0 : Nat) (a : Nat → Nat) (c u : Nat) (A : md_S) (ed fx : Nat) (i : Int32) (hm : md_at G M h0 a c u A) (hed : ed ≤ 1) (hfx : fx < A 1 ed) (hf2 : A 1 ed ≤ 40) (hb1 : i < 0) : Met l yX7_bit_ wsX7_bit_ RM_X7_bit__neg (mw_pre G M sz [.ref (h0), .int (nI (ed)), .int (nI (fx)), .int (i)]) (md_Qi G M sz h0 a (-1) 0 u A) 0 0 (mw_A M sz) := by
  refine Met.ofW (cc := cX7_bit_) (maxL := 5) (ret := (some .int)) (by decide) rfl ?_
  intro p e s m args below meth c0 s₁ B hml hv
  obtain ⟨rfl, rfl, hC, hw⟩ := mw_in hv
  have hx := B.exec
  have hb := B.bytes
  have hr := B.returns
  have hts := atoms_spec (ws := wsX7_bit_) B.pre
  have hown : s.vm.findClass RX7 = some m.cls := findClass_of_methodNamed B.named
  have hlocks := B.notSynchronized
  have hf : md_fr h0 a M M := md_fr.rf
  have hl := lv_entry ([.ref (h0), .int (nI (ed)), .int (nI (fx)), .int (i)]) (n := 5) (Nat.le_of_ble_eq_true rfl)
  rw [lg_entry_eq]
  generalize (lg_sl ([.ref (h0), .int (nI (ed)), .int (nI (fx)), .int (i)]) ++ List.replicate (5 - (lg_sl ([.ref (h0), .int (nI (ed)), .int (nI (fx)), .int (i)])).length) Slot.unset).toArray = ls at hl ⊢
  have hl : lv_has ls 5 [(0, .ref (h0)), (1, .int (nI (ed))), (2, .int (nI (fx))), (3, .int (i))] := hl
  refine mw_start (fun H locs hw => ?_) hw
  refine lv_aload_n hx hb dX7_bit__0 rfl (lv_at hl 0 rfl) ?_
  refine lv_aload_n hx hb dX7_bit__1 rfl (lv_at hl 0 rfl) ?_
  refine lv_iload_n hx hb dX7_bit__2 rfl (lv_at hl 1 rfl) ?_
  refine lv_iload_n hx hb dX7_bit__3 rfl (lv_at hl 2 rfl) ?_
  refine md_ci hC hw (va_runV (As := [.int (nI (ed)), .int (nI (fx))]) (rest := [.ref (h0)]) ⟨hx, hb, hml, hown, hts⟩ (c_X7_isFrame l G _ H.size h0 a c u A ed fx hm (by omega) (by omega) (by omega)) (cwV 2 hts gX7_bit__X7_isFrame rfl rfl rfl (by decide +kernel) ⟨Nat.le_of_ble_eq_true rfl, Nat.le_of_ble_eq_true rfl⟩) (mw_preV (ci := 7) hC hw rfl hm.1) rfl rfl hl.1 rfl (lv_room (Nat.le_of_ble_eq_true rfl)) dX7_bit__4 ⟨Nat.le_of_ble_eq_true rfl, Nat.le_of_ble_eq_true rfl⟩) (fun M1 H locs hm hf1 hw => ?_)
  have hf := hf.tr hf1
  refine lv_if_eq (tgt := 14) hx hb dX7_bit__7 (by decide) (fun c_1 => ?_) (fun c_1 => ?_)
  · skip
    exact absurd c_1 (by decide)
  · skip
    refine lv_iconst (v := nI 0) hx hb dX7_bit__10 (by decide) ?_
    refine lv_goto (tgt := 15) hx hb dX7_bit__11 (by decide) ?_
    refine md_ci hC hw (va_runV (As := [.int (nI (0))]) (rest := []) ⟨hx, hb, hml, hown, hts⟩ (c_X7_refuses l G _ H.size h0 a c u A 0 hm (by omega)) (cwV 1 hts gX7_bit__X7_refuses rfl rfl rfl (by decide +kernel) ⟨Nat.le_of_ble_eq_true rfl, Nat.le_of_ble_eq_true rfl⟩) (mw_preV (ci := 7) hC hw rfl hm.1) rfl rfl hl.1 rfl (lv_room (Nat.le_of_ble_eq_true rfl)) dX7_bit__15 ⟨Nat.le_of_ble_eq_true rfl, Nat.le_of_ble_eq_true rfl⟩) (fun M1 H locs hm hf1 hw => ?_)
    have hf := hf.tr hf1
    refine mw_ti (v' := nI (0)) rfl ?_
    refine lv_if_eq (tgt := 23) hx hb dX7_bit__18 (by decide) (fun c_2 => ?_) (fun c_2 => ?_)
    · skip
      refine lv_bipush (v := nI 40) hx hb dX7_bit__23 (by decide) ?_
      refine lv_iload_n hx hb dX7_bit__25 rfl (lv_at hl 1 rfl) ?_
      refine lv_imul hx hb dX7_bit__26 ?_
      refine mw_ti (v' := nI (40 * ed)) (pk_mul _ _) ?_
      refine lv_iload_n hx hb dX7_bit__27 rfl (lv_at hl 2 rfl) ?_
      refine lv_iadd hx hb dX7_bit__28 ?_
      refine mw_ti (v' := nI (40 * ed + fx)) (nI_add _ _) ?_
      refine lv_istore (lv' := [(4, .int (nI (40 * ed + fx))), (0, .ref (h0)), (1, .int (nI (ed))), (2, .int (nI (fx))), (3, .int (i))]) hx hb dX7_bit__29 hl (by decide) rfl (fun ls hl => ?_)
      refine lv_iload_n hx hb dX7_bit__31 rfl (lv_at hl 4 rfl) ?_
      refine lv_if_lt (tgt := 62) hx hb dX7_bit__32 (by decide) (fun c_3 => ?_) (fun c_3 => ?_)
      · skip
        refine lv_iconst (v := -1) hx hb dX7_bit__62 (by decide) ?_
        exact md_iret hx hb hr hlocks hw hm hf (rfl) dX7_bit__63
      · skip
        exact absurd hb1 c_3
    · skip
      exact absurd c_2 (by decide)
theorem inX7_bit__X7 : ∀ w ∈ wsX70, w ∈ wsX7_bit_ := by decide +kernel
def RM_X7_bit_ : Room := { frames := 2, cells := 0, slots := 0, locals := 42 }
set_option maxHeartbeats 4000000 in
set_option maxRecDepth 100000 in
theorem c_X7_bit_ (l : Launch) (G : mw_G) (M : mw_M) (sz : Nat) (h0 : Nat) (a : Nat → Nat) (c u : Nat) (A : md_S) (ed fx i : Nat) (hm : md_at G M h0 a c u A) (hed : ed ≤ 1) (hfx : fx < A 1 ed) (hf2 : A 1 ed ≤ 40) (hi : i < 2 ^ 31) (hq : A 2 (40 * ed + fx) ≤ 3000) : Met l yX7_bit_ wsX7_bit_ RM_X7_bit_ (mw_pre G M sz [.ref (h0), .int (nI (ed)), .int (nI (fx)), .int (nI (i))]) (md_Qi G M sz h0 a (if i < A 2 (40 * ed + fx) then nI (A 3 (3000 * (40 * ed + fx) + i)) else -1) 0 u A) 0 0 (mw_A M sz) := by
  refine Met.ofW (cc := cX7_bit_) (maxL := 5) (ret := (some .int)) (by decide) rfl ?_
  intro p e s m args below meth c0 s₁ B hml hv
  obtain ⟨rfl, rfl, hC, hw⟩ := mw_in hv
  have hx := B.exec
  have hb := B.bytes
  have hr := B.returns
  have hts := atoms_spec (ws := wsX7_bit_) B.pre
  have hown : s.vm.findClass RX7 = some m.cls := findClass_of_methodNamed B.named
  have hlocks := B.notSynchronized
  have hf : md_fr h0 a M M := md_fr.rf
  have k_0 := hts (.fieldLink RX7 13 "LinkPairModel" "lengths" "[I") (by decide +kernel)
  have k_1 := hts (.fieldLink RX7 17 "LinkPairModel" "bits" "[I") (by decide +kernel)
  have hl := lv_entry ([.ref (h0), .int (nI (ed)), .int (nI (fx)), .int (nI (i))]) (n := 5) (Nat.le_of_ble_eq_true rfl)
  rw [lg_entry_eq]
  generalize (lg_sl ([.ref (h0), .int (nI (ed)), .int (nI (fx)), .int (nI (i))]) ++ List.replicate (5 - (lg_sl ([.ref (h0), .int (nI (ed)), .int (nI (fx)), .int (nI (i))])).length) Slot.unset).toArray = ls at hl ⊢
  have hl : lv_has ls 5 [(0, .ref (h0)), (1, .int (nI (ed))), (2, .int (nI (fx))), (3, .int (nI (i)))] := hl
  refine mw_start (fun H locs hw => ?_) hw
  refine lv_aload_n hx hb dX7_bit__0 rfl (lv_at hl 0 rfl) ?_
  refine lv_aload_n hx hb dX7_bit__1 rfl (lv_at hl 0 rfl) ?_
  refine lv_iload_n hx hb dX7_bit__2 rfl (lv_at hl 1 rfl) ?_
  refine lv_iload_n hx hb dX7_bit__3 rfl (lv_at hl 2 rfl) ?_
  refine md_ci hC hw (va_runV (As := [.int (nI (ed)), .int (nI (fx))]) (rest := [.ref (h0)]) ⟨hx, hb, hml, hown, hts⟩ (c_X7_isFrame l G _ H.size h0 a c u A ed fx hm (by omega) (by omega) (by omega)) (cwV 2 hts gX7_bit__X7_isFrame rfl rfl rfl (by decide +kernel) ⟨Nat.le_of_ble_eq_true rfl, Nat.le_of_ble_eq_true rfl⟩) (mw_preV (ci := 7) hC hw rfl hm.1) rfl rfl hl.1 rfl (lv_room (Nat.le_of_ble_eq_true rfl)) dX7_bit__4 ⟨Nat.le_of_ble_eq_true rfl, Nat.le_of_ble_eq_true rfl⟩) (fun M1 H locs hm hf1 hw => ?_)
  have hf := hf.tr hf1
  refine lv_if_eq (tgt := 14) hx hb dX7_bit__7 (by decide) (fun c_1 => ?_) (fun c_1 => ?_)
  · skip
    exact absurd c_1 (by decide)
  · skip
    refine lv_iconst (v := nI 0) hx hb dX7_bit__10 (by decide) ?_
    refine lv_goto (tgt := 15) hx hb dX7_bit__11 (by decide) ?_
    refine md_ci hC hw (va_runV (As := [.int (nI (0))]) (rest := []) ⟨hx, hb, hml, hown, hts⟩ (c_X7_refuses l G _ H.size h0 a c u A 0 hm (by omega)) (cwV 1 hts gX7_bit__X7_refuses rfl rfl rfl (by decide +kernel) ⟨Nat.le_of_ble_eq_true rfl, Nat.le_of_ble_eq_true rfl⟩) (mw_preV (ci := 7) hC hw rfl hm.1) rfl rfl hl.1 rfl (lv_room (Nat.le_of_ble_eq_true rfl)) dX7_bit__15 ⟨Nat.le_of_ble_eq_true rfl, Nat.le_of_ble_eq_true rfl⟩) (fun M1 H locs hm hf1 hw => ?_)
    have hf := hf.tr hf1
    refine mw_ti (v' := nI (0)) rfl ?_
    refine lv_if_eq (tgt := 23) hx hb dX7_bit__18 (by decide) (fun c_2 => ?_) (fun c_2 => ?_)
    · skip
      refine lv_bipush (v := nI 40) hx hb dX7_bit__23 (by decide) ?_
      refine lv_iload_n hx hb dX7_bit__25 rfl (lv_at hl 1 rfl) ?_
      refine lv_imul hx hb dX7_bit__26 ?_
      refine mw_ti (v' := nI (40 * ed)) (pk_mul _ _) ?_
      refine lv_iload_n hx hb dX7_bit__27 rfl (lv_at hl 2 rfl) ?_
      refine lv_iadd hx hb dX7_bit__28 ?_
      refine mw_ti (v' := nI (40 * ed + fx)) (nI_add _ _) ?_
      refine lv_istore (lv' := [(4, .int (nI (40 * ed + fx))), (0, .ref (h0)), (1, .int (nI (ed))), (2, .int (nI (fx))), (3, .int (nI (i)))]) hx hb dX7_bit__29 hl (by decide) rfl (fun ls hl => ?_)
      refine lv_iload_n hx hb dX7_bit__31 rfl (lv_at hl 4 rfl) ?_
      refine lv_if_lt (tgt := 62) hx hb dX7_bit__32 (by decide) (fun c_3 => ?_) (fun c_3 => ?_)
      · skip
        have c_3 : i < 0 := (nI_ltI (a := i) (b := 0) (by omega) (by omega)).mp c_3
        exfalso; omega
      · skip
        have c_3 : i ≥ 0 := Nat.not_lt.mp (fun h => c_3 ((nI_ltI (a := i) (b := 0) (by omega) (by omega)).mpr h))
        refine lv_iload_n hx hb dX7_bit__35 rfl (lv_at hl 4 rfl) ?_
        refine lv_aload_n hx hb dX7_bit__36 rfl (lv_at hl 1 rfl) ?_
        refine mw_get (C := RX7) (T := TX7) (N := 27) (v := .ref (a 2)) hx hb hts inX7_bit__X7 hown hC hw hm.1 rfl 2 (by decide) k_0 rfl dX7_bit__37 ?_
        refine lv_iload hx hb dX7_bit__40 (lv_at hl 0 rfl) ?_
        refine md_ald 2 (n := 80) hx hb hC hw hm rfl (by decide) rfl (by omega) (by decide) dX7_bit__42 ?_
        refine lv_icmp_ge (tgt := 62) hx hb dX7_bit__43 (by decide) (fun c_4 => ?_) (fun c_4 => ?_)
        · skip
          have c_4 : i ≥ A 2 (40 * ed + fx) := (nI_leI (a := A 2 (40 * ed + fx)) (b := i) (by omega) (by omega)).mp c_4
          refine lv_iconst (v := -1) hx hb dX7_bit__62 (by decide) ?_
          exact md_iret hx hb hr hlocks hw hm hf (by first | (rw [if_pos (by omega)]; done) | rw [if_neg (by omega)]) dX7_bit__63
        · skip
          have c_4 : i < A 2 (40 * ed + fx) := Nat.not_le.mp (fun h => c_4 ((nI_leI (a := A 2 (40 * ed + fx)) (b := i) (by omega) (by omega)).mpr h))
          refine lv_aload_n hx hb dX7_bit__46 rfl (lv_at hl 1 rfl) ?_
          refine mw_get (C := RX7) (T := TX7) (N := 27) (v := .ref (a 3)) hx hb hts inX7_bit__X7 hown hC hw hm.1 rfl 3 (by decide) k_1 rfl dX7_bit__47 ?_
          refine lv_sipush (v := nI 3000) hx hb dX7_bit__50 (by decide) ?_
          refine lv_iload hx hb dX7_bit__53 (lv_at hl 0 rfl) ?_
          refine lv_imul hx hb dX7_bit__55 ?_
          refine mw_ti (v' := nI (3000 * (40 * ed + fx))) (pk_mul _ _) ?_
          refine lv_iload_n hx hb dX7_bit__56 rfl (lv_at hl 4 rfl) ?_
          refine lv_iadd hx hb dX7_bit__57 ?_
          refine mw_ti (v' := nI (3000 * (40 * ed + fx) + i)) (nI_add _ _) ?_
          refine md_ald 3 (n := 240000) hx hb hC hw hm rfl (by decide) rfl (by omega) (by decide) dX7_bit__58 ?_
          refine lv_goto (tgt := 63) hx hb dX7_bit__59 (by decide) ?_
          exact md_iret hx hb hr hlocks hw hm hf (by first | (rw [if_pos (by omega)]; done) | rw [if_neg (by omega)]) dX7_bit__63
    · skip
      exact absurd c_2 (by decide)
def RM_X7_restart_bade : Room := { frames := 1, cells := 0, slots := 0, locals := 21 }
set_option maxHeartbeats 4000000 in
set_option maxRecDepth 100000 in
theorem c_X7_restart_bade (l : Launch) (G : mw_G) (M : mw_M) (sz : Nat) (h0 : Nat) (a : Nat → Nat) (c u : Nat) (A : md_S) (ed : Int32) (hm : md_at G M h0 a c u A) (hb1 : ed < 0 ∨ nI 1 < ed) : Met l yX7_restart wsX7_restart RM_X7_restart_bade (mw_pre G M sz [.ref (h0), .int (ed)]) (md_Qv G M sz h0 a 1 u A) 0 0 (mw_A M sz) := by
  refine Met.ofW (cc := cX7_restart) (maxL := 2) (ret := none) (by decide) rfl ?_
  intro p e s m args below meth c0 s₁ B hml hv
  obtain ⟨rfl, rfl, hC, hw⟩ := mw_in hv
  have hx := B.exec
  have hb := B.bytes
  have hr := B.returns
  have hts := atoms_spec (ws := wsX7_restart) B.pre
  have hown : s.vm.findClass RX7 = some m.cls := findClass_of_methodNamed B.named
  have hlocks := B.notSynchronized
  have hf : md_fr h0 a M M := md_fr.rf
  have hl := lv_entry ([.ref (h0), .int (ed)]) (n := 2) (Nat.le_of_ble_eq_true rfl)
  rw [lg_entry_eq]
  generalize (lg_sl ([.ref (h0), .int (ed)]) ++ List.replicate (2 - (lg_sl ([.ref (h0), .int (ed)])).length) Slot.unset).toArray = ls at hl ⊢
  have hl : lv_has ls 2 [(0, .ref (h0)), (1, .int (ed))] := hl
  refine mw_start (fun H locs hw => ?_) hw
  refine lv_aload_n hx hb dX7_restart_0 rfl (lv_at hl 0 rfl) ?_
  refine lv_iload_n hx hb dX7_restart_1 rfl (lv_at hl 1 rfl) ?_
  refine mw_ci hC hw (va_runS (As := [.int (ed)]) (rest := [.ref (h0)]) ⟨hx, hb, hml, hown, hts⟩ (c_X7_isEnd_bad l G _ H.size ed  (hb1)) (cwS 1 hts gX7_restart_X7_isEnd rfl rfl rfl (by decide +kernel) ⟨Nat.le_of_ble_eq_true rfl, Nat.le_of_ble_eq_true rfl⟩) (mw_preS hC hw) rfl rfl hl.1 rfl (lv_room (Nat.le_of_ble_eq_true rfl)) dX7_restart_2 ⟨Nat.le_of_ble_eq_true rfl, Nat.le_of_ble_eq_true rfl⟩) (fun H locs hz hw => ?_)
  refine lv_if_eq (tgt := 12) hx hb dX7_restart_5 (by decide) (fun c_1 => ?_) (fun c_1 => ?_)
  · skip
    refine lv_iconst (v := nI 1) hx hb dX7_restart_12 (by decide) ?_
    refine md_ci hC hw (va_runV (As := [.int (nI (1))]) (rest := []) ⟨hx, hb, hml, hown, hts⟩ (c_X7_refuses l G _ H.size h0 a c u A 1 hm (by omega)) (cwV 1 hts gX7_restart_X7_refuses rfl rfl rfl (by decide +kernel) ⟨Nat.le_of_ble_eq_true rfl, Nat.le_of_ble_eq_true rfl⟩) (mw_preV (ci := 7) hC hw rfl hm.1) rfl rfl hl.1 rfl (lv_room (Nat.le_of_ble_eq_true rfl)) dX7_restart_13 ⟨Nat.le_of_ble_eq_true rfl, Nat.le_of_ble_eq_true rfl⟩) (fun M1 H locs hm hf1 hw => ?_)
    have hf := hf.tr hf1
    refine mw_ti (v' := nI (1)) rfl ?_
    refine lv_if_ne (tgt := 24) hx hb dX7_restart_16 (by decide) (fun c_2 => ?_) (fun c_2 => ?_)
    · skip
      exact md_vret hx hb hr hlocks hw hm hf dX7_restart_24
    · skip
      exact absurd c_2 (by decide)
  · skip
    exact absurd c_1 (by decide)
def RM_X7_restart : Room := { frames := 1, cells := 0, slots := 0, locals := 21 }
set_option maxHeartbeats 4000000 in
set_option maxRecDepth 100000 in
theorem c_X7_restart (l : Launch) (G : mw_G) (M : mw_M) (sz : Nat) (h0 : Nat) (a : Nat → Nat) (c u : Nat) (A : md_S) (ed : Nat) (hm : md_at G M h0 a c u A) (hed : ed ≤ 1) : Met l yX7_restart wsX7_restart RM_X7_restart (mw_pre G M sz [.ref (h0), .int (nI (ed))]) (md_Qv G M sz h0 a 0 u (md_u ((md_u ((md_u ((md_u ((md_u ((md_u ((md_u ((md_u ((md_u ((md_u ((md_u ((md_u ((md_u A 1 ed 0)) 4 ed 1)) 5 ed 1)) 6 ed 127)) 7 ed 127)) 8 ed 127)) 9 ed 0)) 12 ed 0)) 16 ed 0)) 17 ed 0)) 18 ed 0)) 19 ed 0)) 20 ed 0)) 0 0 (mw_A M sz) := by
  refine Met.ofW (cc := cX7_restart) (maxL := 2) (ret := none) (by decide) rfl ?_
  intro p e s m args below meth c0 s₁ B hml hv
  obtain ⟨rfl, rfl, hC, hw⟩ := mw_in hv
  have hx := B.exec
  have hb := B.bytes
  have hr := B.returns
  have hts := atoms_spec (ws := wsX7_restart) B.pre
  have hown : s.vm.findClass RX7 = some m.cls := findClass_of_methodNamed B.named
  have hlocks := B.notSynchronized
  have hf : md_fr h0 a M M := md_fr.rf
  have hl := lv_entry ([.ref (h0), .int (nI (ed))]) (n := 2) (Nat.le_of_ble_eq_true rfl)
  rw [lg_entry_eq]
  generalize (lg_sl ([.ref (h0), .int (nI (ed))]) ++ List.replicate (2 - (lg_sl ([.ref (h0), .int (nI (ed))])).length) Slot.unset).toArray = ls at hl ⊢
  have hl : lv_has ls 2 [(0, .ref (h0)), (1, .int (nI (ed)))] := hl
  refine mw_start (fun H locs hw => ?_) hw
  refine lv_aload_n hx hb dX7_restart_0 rfl (lv_at hl 0 rfl) ?_
  refine lv_iload_n hx hb dX7_restart_1 rfl (lv_at hl 1 rfl) ?_
  refine mw_ci hC hw (va_runS (As := [.int (nI (ed))]) (rest := [.ref (h0)]) ⟨hx, hb, hml, hown, hts⟩ (c_X7_isEnd l G _ H.size ed  (by omega)) (cwS 1 hts gX7_restart_X7_isEnd rfl rfl rfl (by decide +kernel) ⟨Nat.le_of_ble_eq_true rfl, Nat.le_of_ble_eq_true rfl⟩) (mw_preS hC hw) rfl rfl hl.1 rfl (lv_room (Nat.le_of_ble_eq_true rfl)) dX7_restart_2 ⟨Nat.le_of_ble_eq_true rfl, Nat.le_of_ble_eq_true rfl⟩) (fun H locs hz hw => ?_)
  refine lv_if_eq (tgt := 12) hx hb dX7_restart_5 (by decide) (fun c_1 => ?_) (fun c_1 => ?_)
  · skip
    exact absurd c_1 (by decide)
  · skip
    refine lv_iconst (v := nI 0) hx hb dX7_restart_8 (by decide) ?_
    refine lv_goto (tgt := 13) hx hb dX7_restart_9 (by decide) ?_
    refine md_ci hC hw (va_runV (As := [.int (nI (0))]) (rest := []) ⟨hx, hb, hml, hown, hts⟩ (c_X7_refuses l G _ H.size h0 a c u A 0 hm (by omega)) (cwV 1 hts gX7_restart_X7_refuses rfl rfl rfl (by decide +kernel) ⟨Nat.le_of_ble_eq_true rfl, Nat.le_of_ble_eq_true rfl⟩) (mw_preV (ci := 7) hC hw rfl hm.1) rfl rfl hl.1 rfl (lv_room (Nat.le_of_ble_eq_true rfl)) dX7_restart_13 ⟨Nat.le_of_ble_eq_true rfl, Nat.le_of_ble_eq_true rfl⟩) (fun M1 H locs hm hf1 hw => ?_)
    have hf := hf.tr hf1
    refine mw_ti (v' := nI (0)) rfl ?_
    refine lv_if_ne (tgt := 24) hx hb dX7_restart_16 (by decide) (fun c_2 => ?_) (fun c_2 => ?_)
    · skip
      exact absurd c_2 (by decide)
    · skip
      refine lv_aload_n hx hb dX7_restart_19 rfl (lv_at hl 0 rfl) ?_
      refine lv_iload_n hx hb dX7_restart_20 rfl (lv_at hl 1 rfl) ?_
      refine md_cv hC hw (va_runV (As := [.int (nI (ed))]) (rest := []) ⟨hx, hb, hml, hown, hts⟩ (c_X7_begin l G _ H.size h0 a 0 u A ed hm (by omega)) (cwV 1 hts gX7_restart_X7_begin rfl rfl rfl (by decide +kernel) ⟨Nat.le_of_ble_eq_true rfl, Nat.le_of_ble_eq_true rfl⟩) (mw_preV (ci := 7) hC hw rfl hm.1) rfl rfl hl.1 rfl (lv_room (Nat.le_of_ble_eq_true rfl)) dX7_restart_21 ⟨Nat.le_of_ble_eq_true rfl, Nat.le_of_ble_eq_true rfl⟩) (fun M1 H locs hm hf1 hw => ?_)
      have hf := hf.tr hf1
      exact md_vret hx hb hr hlocks hw hm hf dX7_restart_24
def RM_X7_check_bad : Room := { frames := 1, cells := 0, slots := 0, locals := 21 }
set_option maxHeartbeats 4000000 in
set_option maxRecDepth 100000 in
theorem c_X7_check_bad (l : Launch) (G : mw_G) (M : mw_M) (sz : Nat) (h0 : Nat) (a : Nat → Nat) (c u : Nat) (A : md_S) (wv : Int64) (nb : Int32) (hm : md_at G M h0 a c u A) (hb1 : nb < 0 ∨ nI 8 < nb) : Met l yX7_check wsX7_check RM_X7_check_bad (mw_pre G M sz [.ref (h0), .long (wv), .int (nb)]) (md_Qi G M sz h0 a (nI (0)) 1 u A) 0 0 (mw_A M sz) := by
  refine Met.ofW (cc := cX7_check) (maxL := 6) (ret := (some .int)) (by decide) rfl ?_
  intro p e s m args below meth c0 s₁ B hml hv
  obtain ⟨rfl, rfl, hC, hw⟩ := mw_in hv
  have hx := B.exec
  have hb := B.bytes
  have hr := B.returns
  have hts := atoms_spec (ws := wsX7_check) B.pre
  have hown : s.vm.findClass RX7 = some m.cls := findClass_of_methodNamed B.named
  have hlocks := B.notSynchronized
  have hf : md_fr h0 a M M := md_fr.rf
  have hl := lv_entry ([.ref (h0), .long (wv), .int (nb)]) (n := 6) (Nat.le_of_ble_eq_true rfl)
  rw [lg_entry_eq]
  generalize (lg_sl ([.ref (h0), .long (wv), .int (nb)]) ++ List.replicate (6 - (lg_sl ([.ref (h0), .long (wv), .int (nb)])).length) Slot.unset).toArray = ls at hl ⊢
  have hl : lv_has ls 6 [(0, .ref (h0)), (1, .long (wv)), (3, .int (nb))] := hl
  refine mw_start (fun H locs hw => ?_) hw
  refine lv_aload_n hx hb dX7_check_0 rfl (lv_at hl 0 rfl) ?_
  refine lv_iload_n hx hb dX7_check_1 rfl (lv_at hl 2 rfl) ?_
  refine lv_if_lt (tgt := 11) hx hb dX7_check_2 (by decide) (fun c_1 => ?_) (fun c_1 => ?_)
  · skip
    refine lv_iconst (v := nI 1) hx hb dX7_check_11 (by decide) ?_
    refine lv_goto (tgt := 16) hx hb dX7_check_12 (by decide) ?_
    refine md_ci hC hw (va_runV (As := [.int (nI (1))]) (rest := []) ⟨hx, hb, hml, hown, hts⟩ (c_X7_refuses l G _ H.size h0 a c u A 1 hm (by omega)) (cwV 1 hts gX7_check_X7_refuses rfl rfl rfl (by decide +kernel) ⟨Nat.le_of_ble_eq_true rfl, Nat.le_of_ble_eq_true rfl⟩) (mw_preV (ci := 7) hC hw rfl hm.1) rfl rfl hl.1 rfl (lv_room (Nat.le_of_ble_eq_true rfl)) dX7_check_16 ⟨Nat.le_of_ble_eq_true rfl, Nat.le_of_ble_eq_true rfl⟩) (fun M1 H locs hm hf1 hw => ?_)
    have hf := hf.tr hf1
    refine mw_ti (v' := nI (1)) rfl ?_
    refine lv_if_eq (tgt := 24) hx hb dX7_check_19 (by decide) (fun c_2 => ?_) (fun c_2 => ?_)
    · skip
      exact absurd c_2 (by decide)
    · skip
      refine lv_iconst (v := nI 0) hx hb dX7_check_22 (by decide) ?_
      exact md_iret hx hb hr hlocks hw hm hf (rfl) dX7_check_23
  · skip
    refine lv_iload_n hx hb dX7_check_5 rfl (lv_at hl 2 rfl) ?_
    refine lv_bipush (v := nI 8) hx hb dX7_check_6 (by decide) ?_
    refine lv_icmp_le (tgt := 15) hx hb dX7_check_8 (by decide) (fun c_3 => ?_) (fun c_3 => ?_)
    · skip
      exact hb1.elim (fun h => absurd h (by assumption)) (fun h => absurd c_3 (Int32.not_le.mpr h))
    · skip
      refine lv_iconst (v := nI 1) hx hb dX7_check_11 (by decide) ?_
      refine lv_goto (tgt := 16) hx hb dX7_check_12 (by decide) ?_
      refine md_ci hC hw (va_runV (As := [.int (nI (1))]) (rest := []) ⟨hx, hb, hml, hown, hts⟩ (c_X7_refuses l G _ H.size h0 a c u A 1 hm (by omega)) (cwV 1 hts gX7_check_X7_refuses rfl rfl rfl (by decide +kernel) ⟨Nat.le_of_ble_eq_true rfl, Nat.le_of_ble_eq_true rfl⟩) (mw_preV (ci := 7) hC hw rfl hm.1) rfl rfl hl.1 rfl (lv_room (Nat.le_of_ble_eq_true rfl)) dX7_check_16 ⟨Nat.le_of_ble_eq_true rfl, Nat.le_of_ble_eq_true rfl⟩) (fun M1 H locs hm hf1 hw => ?_)
      have hf := hf.tr hf1
      refine mw_ti (v' := nI (1)) rfl ?_
      refine lv_if_eq (tgt := 24) hx hb dX7_check_19 (by decide) (fun c_4 => ?_) (fun c_4 => ?_)
      · skip
        exact absurd c_4 (by decide)
      · skip
        refine lv_iconst (v := nI 0) hx hb dX7_check_22 (by decide) ?_
        exact md_iret hx hb hr hlocks hw hm hf (rfl) dX7_check_23
def RM_X7_check : Room := { frames := 1, cells := 0, slots := 0, locals := 23 }
set_option maxHeartbeats 4000000 in
set_option maxRecDepth 100000 in
theorem c_X7_check (l : Launch) (G : mw_G) (M : mw_M) (sz : Nat) (h0 : Nat) (a : Nat → Nat) (c u : Nat) (A : md_S) (wv : Int64) (nb : Nat) (hm : md_at G M h0 a c u A) (hnb : nb ≤ 8) : Met l yX7_check wsX7_check RM_X7_check (mw_pre G M sz [.ref (h0), .long (wv), .int (nI (nb))]) (md_Qi G M sz h0 a (nI (65535 - ckl wv nb)) 0 u A) 0 0 (mw_A M sz) := by
  refine Met.ofW (cc := cX7_check) (maxL := 6) (ret := (some .int)) (by decide) rfl ?_
  intro p e s m args below meth c0 s₁ B hml hv
  obtain ⟨rfl, rfl, hC, hw⟩ := mw_in hv
  have hx := B.exec
  have hb := B.bytes
  have hr := B.returns
  have hts := atoms_spec (ws := wsX7_check) B.pre
  have hown : s.vm.findClass RX7 = some m.cls := findClass_of_methodNamed B.named
  have hlocks := B.notSynchronized
  have hf : md_fr h0 a M M := md_fr.rf
  have k_0 := hts (.constant RX7 96 (65535)) (by decide +kernel)
  have k_1 := hts (.constantLong RX7 105 (255)) (by decide +kernel)
  have hl := lv_entry ([.ref (h0), .long (wv), .int (nI (nb))]) (n := 6) (Nat.le_of_ble_eq_true rfl)
  rw [lg_entry_eq]
  generalize (lg_sl ([.ref (h0), .long (wv), .int (nI (nb))]) ++ List.replicate (6 - (lg_sl ([.ref (h0), .long (wv), .int (nI (nb))])).length) Slot.unset).toArray = ls at hl ⊢
  have hl : lv_has ls 6 [(0, .ref (h0)), (1, .long (wv)), (3, .int (nI (nb)))] := hl
  refine mw_start (fun H locs hw => ?_) hw
  refine lv_aload_n hx hb dX7_check_0 rfl (lv_at hl 0 rfl) ?_
  refine lv_iload_n hx hb dX7_check_1 rfl (lv_at hl 2 rfl) ?_
  refine lv_if_lt (tgt := 11) hx hb dX7_check_2 (by decide) (fun c_1 => ?_) (fun c_1 => ?_)
  · skip
    have c_1 : nb < 0 := (nI_ltI (a := nb) (b := 0) (by omega) (by omega)).mp c_1
    exfalso; omega
  · skip
    have c_1 : nb ≥ 0 := Nat.not_lt.mp (fun h => c_1 ((nI_ltI (a := nb) (b := 0) (by omega) (by omega)).mpr h))
    refine lv_iload_n hx hb dX7_check_5 rfl (lv_at hl 2 rfl) ?_
    refine lv_bipush (v := nI 8) hx hb dX7_check_6 (by decide) ?_
    refine lv_icmp_le (tgt := 15) hx hb dX7_check_8 (by decide) (fun c_2 => ?_) (fun c_2 => ?_)
    · skip
      have c_2 : nb ≤ 8 := (nI_leI (a := nb) (b := 8) (by omega) (by omega)).mp c_2
      refine lv_iconst (v := nI 0) hx hb dX7_check_15 (by decide) ?_
      refine md_ci hC hw (va_runV (As := [.int (nI (0))]) (rest := []) ⟨hx, hb, hml, hown, hts⟩ (c_X7_refuses l G _ H.size h0 a c u A 0 hm (by omega)) (cwV 1 hts gX7_check_X7_refuses rfl rfl rfl (by decide +kernel) ⟨Nat.le_of_ble_eq_true rfl, Nat.le_of_ble_eq_true rfl⟩) (mw_preV (ci := 7) hC hw rfl hm.1) rfl rfl hl.1 rfl (lv_room (Nat.le_of_ble_eq_true rfl)) dX7_check_16 ⟨Nat.le_of_ble_eq_true rfl, Nat.le_of_ble_eq_true rfl⟩) (fun M1 H locs hm hf1 hw => ?_)
      have hf := hf.tr hf1
      refine mw_ti (v' := nI (0)) rfl ?_
      refine lv_if_eq (tgt := 24) hx hb dX7_check_19 (by decide) (fun c_3 => ?_) (fun c_3 => ?_)
      · skip
        refine lv_ldc hx hb hown k_0 dX7_check_24 ?_
        refine mw_ti (show (65535 : Int32) = nI 65535 by decide) ?_
        refine lv_istore (lv' := [(4, .int (nI (65535))), (0, .ref (h0)), (1, .long (wv)), (3, .int (nI (nb)))]) hx hb dX7_check_26 hl (by decide) rfl (fun ls hl => ?_)
        refine lv_iconst (v := nI 0) hx hb dX7_check_28 (by decide) ?_
        refine lv_istore (lv' := [(5, .int (nI (0))), (4, .int (nI (65535))), (0, .ref (h0)), (1, .long (wv)), (3, .int (nI (nb)))]) hx hb dX7_check_29 hl (by decide) rfl (fun ls hl => ?_)
        have lp_4 : ∀ (n9 : Nat) (k : Nat), (hk : k ≤ nb) → nb - k < n9 → ∀ (M1 : mw_M) (H : Heap) (locs : List Loc) (ls : Array Slot), md_at G M1 h0 a 0 u A → md_fr h0 a M M1 → mw_St G (mw_A M s.heap.size) s M1 H locs → lv_has ls 6 [(1, .long (wv)), (3, .int (nI (nb))), (4, .int (nI (ckl wv k))), (5, .int (nI (k)))] → W p l e (headSpec wsX7_check RM_X7_check).room s m ([.ref (h0), .long (wv), .int (nI (nb))] : List Value).toArray below meth c0 H locs 0 0 (MQ below (md_Qi G M s.heap.size h0 a (nI (65535 - ckl wv nb)) 0 u A) ([.ref (h0), .long (wv), .int (nI (nb))] : List Value).toArray s 0 0 (mw_A M s.heap.size)) (F0 m 31 ls []) := by
          intro n9
          induction n9 with
          | zero => intro k hk h9; exact absurd h9 (Nat.not_lt_zero _)
          | succ n9 ih =>
            intro k hk h9 M1 H locs ls hm hf hw hl
            have hck := ckl_lt wv k
            have hwb := wby_lt wv k
            refine lv_iload hx hb dX7_check_31 (lv_at hl 3 rfl) ?_
            refine lv_iload_n hx hb dX7_check_33 rfl (lv_at hl 1 rfl) ?_
            refine lv_icmp_ge (tgt := 62) hx hb dX7_check_34 (by decide) (fun c_5 => ?_) (fun c_5 => ?_)
            · skip
              have c_5 : k ≥ nb := (nI_leI (a := nb) (b := k) (by omega) (by omega)).mp c_5
              obtain rfl : nb = k := by omega
              refine lv_ldc hx hb hown k_0 dX7_check_62 ?_
              refine mw_ti (show (65535 : Int32) = nI 65535 by decide) ?_
              refine lv_iload hx hb dX7_check_64 (lv_at hl 2 rfl) ?_
              refine lv_isub hx hb dX7_check_66 ?_
              refine mw_ti (v' := nI (65535 - (ckl wv nb))) (pk_sub (by omega)) ?_
              exact md_iret hx hb hr hlocks hw hm hf (by first | rfl | simp_all | (congr 1; omega)) dX7_check_67
            · skip
              have c_5 : k < nb := Nat.not_le.mp (fun h => c_5 ((nI_leI (a := nb) (b := k) (by omega) (by omega)).mpr h))
              refine lv_iload hx hb dX7_check_37 (lv_at hl 2 rfl) ?_
              refine lv_lload_n hx hb dX7_check_39 rfl (lv_at hl 0 rfl) ?_
              refine lv_bipush (v := nI 8) hx hb dX7_check_40 (by decide) ?_
              refine lv_iload hx hb dX7_check_42 (lv_at hl 3 rfl) ?_
              refine lv_imul hx hb dX7_check_44 ?_
              refine mw_ti (v' := nI (8 * k)) (pk_mul _ _) ?_
              refine lv_lshr hx hb dX7_check_45 rfl ?_
              refine lv_ldc2 hx hb hown k_1 dX7_check_46 ?_
              refine lv_land hx hb dX7_check_49 ?_
              refine lv_l2i hx hb dX7_check_50 rfl ?_
              refine mw_ti (v' := nI (wby wv k)) (wby_valS wv (by omega)) ?_
              refine mw_ci hC hw (va_runS (As := [.int (nI (ckl wv k)), .int (nI (wby wv k))]) (rest := []) ⟨hx, hb, hml, hown, hts⟩ (c_X7_checked l G _ H.size (ckl wv k) (wby wv k)  (by omega) (by omega)) (cwS 2 hts gX7_check_X7_checked rfl rfl rfl (by decide +kernel) ⟨Nat.le_of_ble_eq_true rfl, Nat.le_of_ble_eq_true rfl⟩) (mw_preS hC hw) rfl rfl hl.1 rfl (lv_room (Nat.le_of_ble_eq_true rfl)) dX7_check_51 ⟨Nat.le_of_ble_eq_true rfl, Nat.le_of_ble_eq_true rfl⟩) (fun H locs hz hw => ?_)
              refine lv_istore (lv' := [(4, .int (nI (rst (ckl wv k) (wby wv k) 8))), (1, .long (wv)), (3, .int (nI (nb))), (5, .int (nI (k)))]) hx hb dX7_check_54 hl (by decide) rfl (fun ls hl => ?_)
              refine lv_iinc (v := nI (k + 1)) (lv' := [(5, .int (nI (k + 1))), (4, .int (nI (rst (ckl wv k) (wby wv k) 8))), (1, .long (wv)), (3, .int (nI (nb)))]) hx hb dX7_check_56 hl (k := 3) rfl (by rw [show Int32.ofInt 1 = nI 1 by decide]; exact nI_add _ _) (by decide) rfl (fun ls hl => ?_)
              refine lv_goto (tgt := 31) hx hb dX7_check_59 (by decide) ?_
              have hv_6 : (.int (nI (rst (ckl wv k) (wby wv k) 8)) : Value) = .int (nI (ckl wv (k + 1))) := by first | rfl | simp_all
              rw [hv_6] at hl
              exact ih  (k + 1) (by omega) (by omega) _ _ _ ls hm hf hw (lv_sub hl [2, 3, 1, 0] rfl)
        have hv_7 : (.int (nI (65535)) : Value) = .int (nI (ckl wv 0)) := by first | rfl | simp_all
        rw [hv_7] at hl
        exact lp_4 (nb - 0 + 1) 0 (by omega) (Nat.lt_succ_self _) _ _ _ ls hm hf hw (lv_sub hl [3, 4, 1, 0] rfl)
      · skip
        exact absurd c_3 (by decide)
    · skip
      have c_2 : nb > 8 := Nat.not_le.mp (fun h => c_2 ((nI_leI (a := nb) (b := 8) (by omega) (by omega)).mpr h))
      exfalso; omega
def RM_X7_about_bade : Room := { frames := 1, cells := 0, slots := 0, locals := 21 }
set_option maxHeartbeats 4000000 in
set_option maxRecDepth 100000 in
theorem c_X7_about_bade (l : Launch) (G : mw_G) (M : mw_M) (sz : Nat) (h0 : Nat) (a : Nat → Nat) (c u : Nat) (A : md_S) (ed wh : Int32) (hm : md_at G M h0 a c u A) (hb1 : ed < 0 ∨ nI 1 < ed) : Met l yX7_about wsX7_about RM_X7_about_bade (mw_pre G M sz [.ref (h0), .int (ed), .int (wh)]) (md_Qi G M sz h0 a (nI (0)) 1 u A) 0 0 (mw_A M sz) := by
  refine Met.ofW (cc := cX7_about) (maxL := 3) (ret := (some .int)) (by decide) rfl ?_
  intro p e s m args below meth c0 s₁ B hml hv
  obtain ⟨rfl, rfl, hC, hw⟩ := mw_in hv
  have hx := B.exec
  have hb := B.bytes
  have hr := B.returns
  have hts := atoms_spec (ws := wsX7_about) B.pre
  have hown : s.vm.findClass RX7 = some m.cls := findClass_of_methodNamed B.named
  have hlocks := B.notSynchronized
  have hf : md_fr h0 a M M := md_fr.rf
  have hl := lv_entry ([.ref (h0), .int (ed), .int (wh)]) (n := 3) (Nat.le_of_ble_eq_true rfl)
  rw [lg_entry_eq]
  generalize (lg_sl ([.ref (h0), .int (ed), .int (wh)]) ++ List.replicate (3 - (lg_sl ([.ref (h0), .int (ed), .int (wh)])).length) Slot.unset).toArray = ls at hl ⊢
  have hl : lv_has ls 3 [(0, .ref (h0)), (1, .int (ed)), (2, .int (wh))] := hl
  refine mw_start (fun H locs hw => ?_) hw
  refine lv_aload_n hx hb dX7_about_0 rfl (lv_at hl 0 rfl) ?_
  refine lv_iload_n hx hb dX7_about_1 rfl (lv_at hl 1 rfl) ?_
  refine mw_ci hC hw (va_runS (As := [.int (ed)]) (rest := [.ref (h0)]) ⟨hx, hb, hml, hown, hts⟩ (c_X7_isEnd_bad l G _ H.size ed  (hb1)) (cwS 1 hts gX7_about_X7_isEnd rfl rfl rfl (by decide +kernel) ⟨Nat.le_of_ble_eq_true rfl, Nat.le_of_ble_eq_true rfl⟩) (mw_preS hC hw) rfl rfl hl.1 rfl (lv_room (Nat.le_of_ble_eq_true rfl)) dX7_about_2 ⟨Nat.le_of_ble_eq_true rfl, Nat.le_of_ble_eq_true rfl⟩) (fun H locs hz hw => ?_)
  refine lv_if_eq (tgt := 18) hx hb dX7_about_5 (by decide) (fun c_1 => ?_) (fun c_1 => ?_)
  · skip
    refine lv_iconst (v := nI 1) hx hb dX7_about_18 (by decide) ?_
    refine lv_goto (tgt := 23) hx hb dX7_about_19 (by decide) ?_
    refine md_ci hC hw (va_runV (As := [.int (nI (1))]) (rest := []) ⟨hx, hb, hml, hown, hts⟩ (c_X7_refuses l G _ H.size h0 a c u A 1 hm (by omega)) (cwV 1 hts gX7_about_X7_refuses rfl rfl rfl (by decide +kernel) ⟨Nat.le_of_ble_eq_true rfl, Nat.le_of_ble_eq_true rfl⟩) (mw_preV (ci := 7) hC hw rfl hm.1) rfl rfl hl.1 rfl (lv_room (Nat.le_of_ble_eq_true rfl)) dX7_about_23 ⟨Nat.le_of_ble_eq_true rfl, Nat.le_of_ble_eq_true rfl⟩) (fun M1 H locs hm hf1 hw => ?_)
    have hf := hf.tr hf1
    refine mw_ti (v' := nI (1)) rfl ?_
    refine lv_if_eq (tgt := 31) hx hb dX7_about_26 (by decide) (fun c_2 => ?_) (fun c_2 => ?_)
    · skip
      exact absurd c_2 (by decide)
    · skip
      refine lv_iconst (v := nI 0) hx hb dX7_about_29 (by decide) ?_
      exact md_iret hx hb hr hlocks hw hm hf (rfl) dX7_about_30
  · skip
    exact absurd c_1 (by decide)
def RM_X7_about_badw : Room := { frames := 1, cells := 0, slots := 0, locals := 21 }
set_option maxHeartbeats 4000000 in
set_option maxRecDepth 100000 in
theorem c_X7_about_badw (l : Launch) (G : mw_G) (M : mw_M) (sz : Nat) (h0 : Nat) (a : Nat → Nat) (c u : Nat) (A : md_S) (ed : Nat) (wh : Int32) (hm : md_at G M h0 a c u A) (hed : ed ≤ 1) (hb1 : wh < 0 ∨ nI 11 < wh) : Met l yX7_about wsX7_about RM_X7_about_badw (mw_pre G M sz [.ref (h0), .int (nI (ed)), .int (wh)]) (md_Qi G M sz h0 a (nI (0)) 1 u A) 0 0 (mw_A M sz) := by
  refine Met.ofW (cc := cX7_about) (maxL := 3) (ret := (some .int)) (by decide) rfl ?_
  intro p e s m args below meth c0 s₁ B hml hv
  obtain ⟨rfl, rfl, hC, hw⟩ := mw_in hv
  have hx := B.exec
  have hb := B.bytes
  have hr := B.returns
  have hts := atoms_spec (ws := wsX7_about) B.pre
  have hown : s.vm.findClass RX7 = some m.cls := findClass_of_methodNamed B.named
  have hlocks := B.notSynchronized
  have hf : md_fr h0 a M M := md_fr.rf
  have hl := lv_entry ([.ref (h0), .int (nI (ed)), .int (wh)]) (n := 3) (Nat.le_of_ble_eq_true rfl)
  rw [lg_entry_eq]
  generalize (lg_sl ([.ref (h0), .int (nI (ed)), .int (wh)]) ++ List.replicate (3 - (lg_sl ([.ref (h0), .int (nI (ed)), .int (wh)])).length) Slot.unset).toArray = ls at hl ⊢
  have hl : lv_has ls 3 [(0, .ref (h0)), (1, .int (nI (ed))), (2, .int (wh))] := hl
  refine mw_start (fun H locs hw => ?_) hw
  refine lv_aload_n hx hb dX7_about_0 rfl (lv_at hl 0 rfl) ?_
  refine lv_iload_n hx hb dX7_about_1 rfl (lv_at hl 1 rfl) ?_
  refine mw_ci hC hw (va_runS (As := [.int (nI (ed))]) (rest := [.ref (h0)]) ⟨hx, hb, hml, hown, hts⟩ (c_X7_isEnd l G _ H.size ed  (by omega)) (cwS 1 hts gX7_about_X7_isEnd rfl rfl rfl (by decide +kernel) ⟨Nat.le_of_ble_eq_true rfl, Nat.le_of_ble_eq_true rfl⟩) (mw_preS hC hw) rfl rfl hl.1 rfl (lv_room (Nat.le_of_ble_eq_true rfl)) dX7_about_2 ⟨Nat.le_of_ble_eq_true rfl, Nat.le_of_ble_eq_true rfl⟩) (fun H locs hz hw => ?_)
  refine lv_if_eq (tgt := 18) hx hb dX7_about_5 (by decide) (fun c_1 => ?_) (fun c_1 => ?_)
  · skip
    exact absurd c_1 (by decide)
  · skip
    refine lv_iload_n hx hb dX7_about_8 rfl (lv_at hl 2 rfl) ?_
    refine lv_if_lt (tgt := 18) hx hb dX7_about_9 (by decide) (fun c_2 => ?_) (fun c_2 => ?_)
    · skip
      refine lv_iconst (v := nI 1) hx hb dX7_about_18 (by decide) ?_
      refine lv_goto (tgt := 23) hx hb dX7_about_19 (by decide) ?_
      refine md_ci hC hw (va_runV (As := [.int (nI (1))]) (rest := []) ⟨hx, hb, hml, hown, hts⟩ (c_X7_refuses l G _ H.size h0 a c u A 1 hm (by omega)) (cwV 1 hts gX7_about_X7_refuses rfl rfl rfl (by decide +kernel) ⟨Nat.le_of_ble_eq_true rfl, Nat.le_of_ble_eq_true rfl⟩) (mw_preV (ci := 7) hC hw rfl hm.1) rfl rfl hl.1 rfl (lv_room (Nat.le_of_ble_eq_true rfl)) dX7_about_23 ⟨Nat.le_of_ble_eq_true rfl, Nat.le_of_ble_eq_true rfl⟩) (fun M1 H locs hm hf1 hw => ?_)
      have hf := hf.tr hf1
      refine mw_ti (v' := nI (1)) rfl ?_
      refine lv_if_eq (tgt := 31) hx hb dX7_about_26 (by decide) (fun c_3 => ?_) (fun c_3 => ?_)
      · skip
        exact absurd c_3 (by decide)
      · skip
        refine lv_iconst (v := nI 0) hx hb dX7_about_29 (by decide) ?_
        exact md_iret hx hb hr hlocks hw hm hf (rfl) dX7_about_30
    · skip
      refine lv_iload_n hx hb dX7_about_12 rfl (lv_at hl 2 rfl) ?_
      refine lv_bipush (v := nI 11) hx hb dX7_about_13 (by decide) ?_
      refine lv_icmp_le (tgt := 22) hx hb dX7_about_15 (by decide) (fun c_4 => ?_) (fun c_4 => ?_)
      · skip
        exact hb1.elim (fun h => absurd h (by assumption)) (fun h => absurd c_4 (Int32.not_le.mpr h))
      · skip
        refine lv_iconst (v := nI 1) hx hb dX7_about_18 (by decide) ?_
        refine lv_goto (tgt := 23) hx hb dX7_about_19 (by decide) ?_
        refine md_ci hC hw (va_runV (As := [.int (nI (1))]) (rest := []) ⟨hx, hb, hml, hown, hts⟩ (c_X7_refuses l G _ H.size h0 a c u A 1 hm (by omega)) (cwV 1 hts gX7_about_X7_refuses rfl rfl rfl (by decide +kernel) ⟨Nat.le_of_ble_eq_true rfl, Nat.le_of_ble_eq_true rfl⟩) (mw_preV (ci := 7) hC hw rfl hm.1) rfl rfl hl.1 rfl (lv_room (Nat.le_of_ble_eq_true rfl)) dX7_about_23 ⟨Nat.le_of_ble_eq_true rfl, Nat.le_of_ble_eq_true rfl⟩) (fun M1 H locs hm hf1 hw => ?_)
        have hf := hf.tr hf1
        refine mw_ti (v' := nI (1)) rfl ?_
        refine lv_if_eq (tgt := 31) hx hb dX7_about_26 (by decide) (fun c_5 => ?_) (fun c_5 => ?_)
        · skip
          exact absurd c_5 (by decide)
        · skip
          refine lv_iconst (v := nI 0) hx hb dX7_about_29 (by decide) ?_
          exact md_iret hx hb hr hlocks hw hm hf (rfl) dX7_about_30
theorem inX7_about_X7 : ∀ w ∈ wsX70, w ∈ wsX7_about := by decide +kernel
def RM_X7_about_0 : Room := { frames := 1, cells := 0, slots := 0, locals := 21 }
set_option maxHeartbeats 4000000 in
set_option maxRecDepth 100000 in
theorem c_X7_about_0 (l : Launch) (G : mw_G) (M : mw_M) (sz : Nat) (h0 : Nat) (a : Nat → Nat) (c u : Nat) (A : md_S) (ed : Nat) (hm : md_at G M h0 a c u A) (hed : ed ≤ 1) (h16 : A 16 ed ≤ A 12 ed) (h20 : A 20 ed ≤ 1) : Met l yX7_about wsX7_about RM_X7_about_0 (mw_pre G M sz [.ref (h0), .int (nI (ed)), .int (nI (0))]) (md_Qi G M sz h0 a (nI (A 4 ed)) 0 u A) 0 0 (mw_A M sz) := by
  refine Met.ofW (cc := cX7_about) (maxL := 3) (ret := (some .int)) (by decide) rfl ?_
  intro p e s m args below meth c0 s₁ B hml hv
  obtain ⟨rfl, rfl, hC, hw⟩ := mw_in hv
  have hx := B.exec
  have hb := B.bytes
  have hr := B.returns
  have hts := atoms_spec (ws := wsX7_about) B.pre
  have hown : s.vm.findClass RX7 = some m.cls := findClass_of_methodNamed B.named
  have hlocks := B.notSynchronized
  have hf : md_fr h0 a M M := md_fr.rf
  have k_0 := hts (.fieldLink RX7 20 "LinkPairModel" "fib" "[I") (by decide +kernel)
  have hl := lv_entry ([.ref (h0), .int (nI (ed)), .int (nI (0))]) (n := 3) (Nat.le_of_ble_eq_true rfl)
  rw [lg_entry_eq]
  generalize (lg_sl ([.ref (h0), .int (nI (ed)), .int (nI (0))]) ++ List.replicate (3 - (lg_sl ([.ref (h0), .int (nI (ed)), .int (nI (0))])).length) Slot.unset).toArray = ls at hl ⊢
  have hl : lv_has ls 3 [(0, .ref (h0)), (1, .int (nI (ed))), (2, .int (nI (0)))] := hl
  refine mw_start (fun H locs hw => ?_) hw
  refine lv_aload_n hx hb dX7_about_0 rfl (lv_at hl 0 rfl) ?_
  refine lv_iload_n hx hb dX7_about_1 rfl (lv_at hl 1 rfl) ?_
  refine mw_ci hC hw (va_runS (As := [.int (nI (ed))]) (rest := [.ref (h0)]) ⟨hx, hb, hml, hown, hts⟩ (c_X7_isEnd l G _ H.size ed  (by omega)) (cwS 1 hts gX7_about_X7_isEnd rfl rfl rfl (by decide +kernel) ⟨Nat.le_of_ble_eq_true rfl, Nat.le_of_ble_eq_true rfl⟩) (mw_preS hC hw) rfl rfl hl.1 rfl (lv_room (Nat.le_of_ble_eq_true rfl)) dX7_about_2 ⟨Nat.le_of_ble_eq_true rfl, Nat.le_of_ble_eq_true rfl⟩) (fun H locs hz hw => ?_)
  refine lv_if_eq (tgt := 18) hx hb dX7_about_5 (by decide) (fun c_1 => ?_) (fun c_1 => ?_)
  · skip
    exact absurd c_1 (by decide)
  · skip
    refine lv_iload_n hx hb dX7_about_8 rfl (lv_at hl 2 rfl) ?_
    refine lv_if_lt (tgt := 18) hx hb dX7_about_9 (by decide) (fun c_2 => ?_) (fun c_2 => ?_)
    · skip
      exact absurd c_2 (by decide)
    · skip
      refine lv_iload_n hx hb dX7_about_12 rfl (lv_at hl 2 rfl) ?_
      refine lv_bipush (v := nI 11) hx hb dX7_about_13 (by decide) ?_
      refine lv_icmp_le (tgt := 22) hx hb dX7_about_15 (by decide) (fun c_3 => ?_) (fun c_3 => ?_)
      · skip
        refine lv_iconst (v := nI 0) hx hb dX7_about_22 (by decide) ?_
        refine md_ci hC hw (va_runV (As := [.int (nI (0))]) (rest := []) ⟨hx, hb, hml, hown, hts⟩ (c_X7_refuses l G _ H.size h0 a c u A 0 hm (by omega)) (cwV 1 hts gX7_about_X7_refuses rfl rfl rfl (by decide +kernel) ⟨Nat.le_of_ble_eq_true rfl, Nat.le_of_ble_eq_true rfl⟩) (mw_preV (ci := 7) hC hw rfl hm.1) rfl rfl hl.1 rfl (lv_room (Nat.le_of_ble_eq_true rfl)) dX7_about_23 ⟨Nat.le_of_ble_eq_true rfl, Nat.le_of_ble_eq_true rfl⟩) (fun M1 H locs hm hf1 hw => ?_)
        have hf := hf.tr hf1
        refine mw_ti (v' := nI (0)) rfl ?_
        refine lv_if_eq (tgt := 31) hx hb dX7_about_26 (by decide) (fun c_4 => ?_) (fun c_4 => ?_)
        · skip
          refine lv_iload_n hx hb dX7_about_31 rfl (lv_at hl 2 rfl) ?_
          refine lv_tableIn (off := 60) (tgt := 92) hx hb dX7_about_32 (by decide) (by decide) (by decide) (by decide) ?_
          refine lv_aload_n hx hb dX7_about_92 rfl (lv_at hl 0 rfl) ?_
          refine mw_get (C := RX7) (T := TX7) (N := 27) (v := .ref (a 4)) hx hb hts inX7_about_X7 hown hC hw hm.1 rfl 4 (by decide) k_0 rfl dX7_about_93 ?_
          refine lv_iload_n hx hb dX7_about_96 rfl (lv_at hl 1 rfl) ?_
          refine md_ald 4 (n := 2) hx hb hC hw hm rfl (by decide) rfl (by omega) (by decide) dX7_about_97 ?_
          exact md_iret hx hb hr hlocks hw hm hf (rfl) dX7_about_98
        · skip
          exact absurd c_4 (by decide)
      · skip
        exact absurd c_3 (by decide)
def RM_X7_about_1 : Room := { frames := 1, cells := 0, slots := 0, locals := 21 }
set_option maxHeartbeats 4000000 in
set_option maxRecDepth 100000 in
theorem c_X7_about_1 (l : Launch) (G : mw_G) (M : mw_M) (sz : Nat) (h0 : Nat) (a : Nat → Nat) (c u : Nat) (A : md_S) (ed : Nat) (hm : md_at G M h0 a c u A) (hed : ed ≤ 1) (h16 : A 16 ed ≤ A 12 ed) (h20 : A 20 ed ≤ 1) : Met l yX7_about wsX7_about RM_X7_about_1 (mw_pre G M sz [.ref (h0), .int (nI (ed)), .int (nI (1))]) (md_Qi G M sz h0 a (nI (A 5 ed)) 0 u A) 0 0 (mw_A M sz) := by
  refine Met.ofW (cc := cX7_about) (maxL := 3) (ret := (some .int)) (by decide) rfl ?_
  intro p e s m args below meth c0 s₁ B hml hv
  obtain ⟨rfl, rfl, hC, hw⟩ := mw_in hv
  have hx := B.exec
  have hb := B.bytes
  have hr := B.returns
  have hts := atoms_spec (ws := wsX7_about) B.pre
  have hown : s.vm.findClass RX7 = some m.cls := findClass_of_methodNamed B.named
  have hlocks := B.notSynchronized
  have hf : md_fr h0 a M M := md_fr.rf
  have k_0 := hts (.fieldLink RX7 23 "LinkPairModel" "bib" "[I") (by decide +kernel)
  have hl := lv_entry ([.ref (h0), .int (nI (ed)), .int (nI (1))]) (n := 3) (Nat.le_of_ble_eq_true rfl)
  rw [lg_entry_eq]
  generalize (lg_sl ([.ref (h0), .int (nI (ed)), .int (nI (1))]) ++ List.replicate (3 - (lg_sl ([.ref (h0), .int (nI (ed)), .int (nI (1))])).length) Slot.unset).toArray = ls at hl ⊢
  have hl : lv_has ls 3 [(0, .ref (h0)), (1, .int (nI (ed))), (2, .int (nI (1)))] := hl
  refine mw_start (fun H locs hw => ?_) hw
  refine lv_aload_n hx hb dX7_about_0 rfl (lv_at hl 0 rfl) ?_
  refine lv_iload_n hx hb dX7_about_1 rfl (lv_at hl 1 rfl) ?_
  refine mw_ci hC hw (va_runS (As := [.int (nI (ed))]) (rest := [.ref (h0)]) ⟨hx, hb, hml, hown, hts⟩ (c_X7_isEnd l G _ H.size ed  (by omega)) (cwS 1 hts gX7_about_X7_isEnd rfl rfl rfl (by decide +kernel) ⟨Nat.le_of_ble_eq_true rfl, Nat.le_of_ble_eq_true rfl⟩) (mw_preS hC hw) rfl rfl hl.1 rfl (lv_room (Nat.le_of_ble_eq_true rfl)) dX7_about_2 ⟨Nat.le_of_ble_eq_true rfl, Nat.le_of_ble_eq_true rfl⟩) (fun H locs hz hw => ?_)
  refine lv_if_eq (tgt := 18) hx hb dX7_about_5 (by decide) (fun c_1 => ?_) (fun c_1 => ?_)
  · skip
    exact absurd c_1 (by decide)
  · skip
    refine lv_iload_n hx hb dX7_about_8 rfl (lv_at hl 2 rfl) ?_
    refine lv_if_lt (tgt := 18) hx hb dX7_about_9 (by decide) (fun c_2 => ?_) (fun c_2 => ?_)
    · skip
      exact absurd c_2 (by decide)
    · skip
      refine lv_iload_n hx hb dX7_about_12 rfl (lv_at hl 2 rfl) ?_
      refine lv_bipush (v := nI 11) hx hb dX7_about_13 (by decide) ?_
      refine lv_icmp_le (tgt := 22) hx hb dX7_about_15 (by decide) (fun c_3 => ?_) (fun c_3 => ?_)
      · skip
        refine lv_iconst (v := nI 0) hx hb dX7_about_22 (by decide) ?_
        refine md_ci hC hw (va_runV (As := [.int (nI (0))]) (rest := []) ⟨hx, hb, hml, hown, hts⟩ (c_X7_refuses l G _ H.size h0 a c u A 0 hm (by omega)) (cwV 1 hts gX7_about_X7_refuses rfl rfl rfl (by decide +kernel) ⟨Nat.le_of_ble_eq_true rfl, Nat.le_of_ble_eq_true rfl⟩) (mw_preV (ci := 7) hC hw rfl hm.1) rfl rfl hl.1 rfl (lv_room (Nat.le_of_ble_eq_true rfl)) dX7_about_23 ⟨Nat.le_of_ble_eq_true rfl, Nat.le_of_ble_eq_true rfl⟩) (fun M1 H locs hm hf1 hw => ?_)
        have hf := hf.tr hf1
        refine mw_ti (v' := nI (0)) rfl ?_
        refine lv_if_eq (tgt := 31) hx hb dX7_about_26 (by decide) (fun c_4 => ?_) (fun c_4 => ?_)
        · skip
          refine lv_iload_n hx hb dX7_about_31 rfl (lv_at hl 2 rfl) ?_
          refine lv_tableIn (off := 67) (tgt := 99) hx hb dX7_about_32 (by decide) (by decide) (by decide) (by decide) ?_
          refine lv_aload_n hx hb dX7_about_99 rfl (lv_at hl 0 rfl) ?_
          refine mw_get (C := RX7) (T := TX7) (N := 27) (v := .ref (a 5)) hx hb hts inX7_about_X7 hown hC hw hm.1 rfl 5 (by decide) k_0 rfl dX7_about_100 ?_
          refine lv_iload_n hx hb dX7_about_103 rfl (lv_at hl 1 rfl) ?_
          refine md_ald 5 (n := 2) hx hb hC hw hm rfl (by decide) rfl (by omega) (by decide) dX7_about_104 ?_
          exact md_iret hx hb hr hlocks hw hm hf (rfl) dX7_about_105
        · skip
          exact absurd c_4 (by decide)
      · skip
        exact absurd c_3 (by decide)
def RM_X7_about_2 : Room := { frames := 1, cells := 0, slots := 0, locals := 21 }
set_option maxHeartbeats 4000000 in
set_option maxRecDepth 100000 in
theorem c_X7_about_2 (l : Launch) (G : mw_G) (M : mw_M) (sz : Nat) (h0 : Nat) (a : Nat → Nat) (c u : Nat) (A : md_S) (ed : Nat) (hm : md_at G M h0 a c u A) (hed : ed ≤ 1) (h16 : A 16 ed ≤ A 12 ed) (h20 : A 20 ed ≤ 1) : Met l yX7_about wsX7_about RM_X7_about_2 (mw_pre G M sz [.ref (h0), .int (nI (ed)), .int (nI (2))]) (md_Qi G M sz h0 a (nI (A 6 ed)) 0 u A) 0 0 (mw_A M sz) := by
  refine Met.ofW (cc := cX7_about) (maxL := 3) (ret := (some .int)) (by decide) rfl ?_
  intro p e s m args below meth c0 s₁ B hml hv
  obtain ⟨rfl, rfl, hC, hw⟩ := mw_in hv
  have hx := B.exec
  have hb := B.bytes
  have hr := B.returns
  have hts := atoms_spec (ws := wsX7_about) B.pre
  have hown : s.vm.findClass RX7 = some m.cls := findClass_of_methodNamed B.named
  have hlocks := B.notSynchronized
  have hf : md_fr h0 a M M := md_fr.rf
  have k_0 := hts (.fieldLink RX7 26 "LinkPairModel" "sentLatest" "[I") (by decide +kernel)
  have hl := lv_entry ([.ref (h0), .int (nI (ed)), .int (nI (2))]) (n := 3) (Nat.le_of_ble_eq_true rfl)
  rw [lg_entry_eq]
  generalize (lg_sl ([.ref (h0), .int (nI (ed)), .int (nI (2))]) ++ List.replicate (3 - (lg_sl ([.ref (h0), .int (nI (ed)), .int (nI (2))])).length) Slot.unset).toArray = ls at hl ⊢
  have hl : lv_has ls 3 [(0, .ref (h0)), (1, .int (nI (ed))), (2, .int (nI (2)))] := hl
  refine mw_start (fun H locs hw => ?_) hw
  refine lv_aload_n hx hb dX7_about_0 rfl (lv_at hl 0 rfl) ?_
  refine lv_iload_n hx hb dX7_about_1 rfl (lv_at hl 1 rfl) ?_
  refine mw_ci hC hw (va_runS (As := [.int (nI (ed))]) (rest := [.ref (h0)]) ⟨hx, hb, hml, hown, hts⟩ (c_X7_isEnd l G _ H.size ed  (by omega)) (cwS 1 hts gX7_about_X7_isEnd rfl rfl rfl (by decide +kernel) ⟨Nat.le_of_ble_eq_true rfl, Nat.le_of_ble_eq_true rfl⟩) (mw_preS hC hw) rfl rfl hl.1 rfl (lv_room (Nat.le_of_ble_eq_true rfl)) dX7_about_2 ⟨Nat.le_of_ble_eq_true rfl, Nat.le_of_ble_eq_true rfl⟩) (fun H locs hz hw => ?_)
  refine lv_if_eq (tgt := 18) hx hb dX7_about_5 (by decide) (fun c_1 => ?_) (fun c_1 => ?_)
  · skip
    exact absurd c_1 (by decide)
  · skip
    refine lv_iload_n hx hb dX7_about_8 rfl (lv_at hl 2 rfl) ?_
    refine lv_if_lt (tgt := 18) hx hb dX7_about_9 (by decide) (fun c_2 => ?_) (fun c_2 => ?_)
    · skip
      exact absurd c_2 (by decide)
    · skip
      refine lv_iload_n hx hb dX7_about_12 rfl (lv_at hl 2 rfl) ?_
      refine lv_bipush (v := nI 11) hx hb dX7_about_13 (by decide) ?_
      refine lv_icmp_le (tgt := 22) hx hb dX7_about_15 (by decide) (fun c_3 => ?_) (fun c_3 => ?_)
      · skip
        refine lv_iconst (v := nI 0) hx hb dX7_about_22 (by decide) ?_
        refine md_ci hC hw (va_runV (As := [.int (nI (0))]) (rest := []) ⟨hx, hb, hml, hown, hts⟩ (c_X7_refuses l G _ H.size h0 a c u A 0 hm (by omega)) (cwV 1 hts gX7_about_X7_refuses rfl rfl rfl (by decide +kernel) ⟨Nat.le_of_ble_eq_true rfl, Nat.le_of_ble_eq_true rfl⟩) (mw_preV (ci := 7) hC hw rfl hm.1) rfl rfl hl.1 rfl (lv_room (Nat.le_of_ble_eq_true rfl)) dX7_about_23 ⟨Nat.le_of_ble_eq_true rfl, Nat.le_of_ble_eq_true rfl⟩) (fun M1 H locs hm hf1 hw => ?_)
        have hf := hf.tr hf1
        refine mw_ti (v' := nI (0)) rfl ?_
        refine lv_if_eq (tgt := 31) hx hb dX7_about_26 (by decide) (fun c_4 => ?_) (fun c_4 => ?_)
        · skip
          refine lv_iload_n hx hb dX7_about_31 rfl (lv_at hl 2 rfl) ?_
          refine lv_tableIn (off := 74) (tgt := 106) hx hb dX7_about_32 (by decide) (by decide) (by decide) (by decide) ?_
          refine lv_aload_n hx hb dX7_about_106 rfl (lv_at hl 0 rfl) ?_
          refine mw_get (C := RX7) (T := TX7) (N := 27) (v := .ref (a 6)) hx hb hts inX7_about_X7 hown hC hw hm.1 rfl 6 (by decide) k_0 rfl dX7_about_107 ?_
          refine lv_iload_n hx hb dX7_about_110 rfl (lv_at hl 1 rfl) ?_
          refine md_ald 6 (n := 2) hx hb hC hw hm rfl (by decide) rfl (by omega) (by decide) dX7_about_111 ?_
          exact md_iret hx hb hr hlocks hw hm hf (rfl) dX7_about_112
        · skip
          exact absurd c_4 (by decide)
      · skip
        exact absurd c_3 (by decide)
def RM_X7_about_3 : Room := { frames := 1, cells := 0, slots := 0, locals := 21 }
set_option maxHeartbeats 4000000 in
set_option maxRecDepth 100000 in
theorem c_X7_about_3 (l : Launch) (G : mw_G) (M : mw_M) (sz : Nat) (h0 : Nat) (a : Nat → Nat) (c u : Nat) (A : md_S) (ed : Nat) (hm : md_at G M h0 a c u A) (hed : ed ≤ 1) (h16 : A 16 ed ≤ A 12 ed) (h20 : A 20 ed ≤ 1) : Met l yX7_about wsX7_about RM_X7_about_3 (mw_pre G M sz [.ref (h0), .int (nI (ed)), .int (nI (3))]) (md_Qi G M sz h0 a (nI (A 7 ed)) 0 u A) 0 0 (mw_A M sz) := by
  refine Met.ofW (cc := cX7_about) (maxL := 3) (ret := (some .int)) (by decide) rfl ?_
  intro p e s m args below meth c0 s₁ B hml hv
  obtain ⟨rfl, rfl, hC, hw⟩ := mw_in hv
  have hx := B.exec
  have hb := B.bytes
  have hr := B.returns
  have hts := atoms_spec (ws := wsX7_about) B.pre
  have hown : s.vm.findClass RX7 = some m.cls := findClass_of_methodNamed B.named
  have hlocks := B.notSynchronized
  have hf : md_fr h0 a M M := md_fr.rf
  have k_0 := hts (.fieldLink RX7 29 "LinkPairModel" "takenLatest" "[I") (by decide +kernel)
  have hl := lv_entry ([.ref (h0), .int (nI (ed)), .int (nI (3))]) (n := 3) (Nat.le_of_ble_eq_true rfl)
  rw [lg_entry_eq]
  generalize (lg_sl ([.ref (h0), .int (nI (ed)), .int (nI (3))]) ++ List.replicate (3 - (lg_sl ([.ref (h0), .int (nI (ed)), .int (nI (3))])).length) Slot.unset).toArray = ls at hl ⊢
  have hl : lv_has ls 3 [(0, .ref (h0)), (1, .int (nI (ed))), (2, .int (nI (3)))] := hl
  refine mw_start (fun H locs hw => ?_) hw
  refine lv_aload_n hx hb dX7_about_0 rfl (lv_at hl 0 rfl) ?_
  refine lv_iload_n hx hb dX7_about_1 rfl (lv_at hl 1 rfl) ?_
  refine mw_ci hC hw (va_runS (As := [.int (nI (ed))]) (rest := [.ref (h0)]) ⟨hx, hb, hml, hown, hts⟩ (c_X7_isEnd l G _ H.size ed  (by omega)) (cwS 1 hts gX7_about_X7_isEnd rfl rfl rfl (by decide +kernel) ⟨Nat.le_of_ble_eq_true rfl, Nat.le_of_ble_eq_true rfl⟩) (mw_preS hC hw) rfl rfl hl.1 rfl (lv_room (Nat.le_of_ble_eq_true rfl)) dX7_about_2 ⟨Nat.le_of_ble_eq_true rfl, Nat.le_of_ble_eq_true rfl⟩) (fun H locs hz hw => ?_)
  refine lv_if_eq (tgt := 18) hx hb dX7_about_5 (by decide) (fun c_1 => ?_) (fun c_1 => ?_)
  · skip
    exact absurd c_1 (by decide)
  · skip
    refine lv_iload_n hx hb dX7_about_8 rfl (lv_at hl 2 rfl) ?_
    refine lv_if_lt (tgt := 18) hx hb dX7_about_9 (by decide) (fun c_2 => ?_) (fun c_2 => ?_)
    · skip
      exact absurd c_2 (by decide)
    · skip
      refine lv_iload_n hx hb dX7_about_12 rfl (lv_at hl 2 rfl) ?_
      refine lv_bipush (v := nI 11) hx hb dX7_about_13 (by decide) ?_
      refine lv_icmp_le (tgt := 22) hx hb dX7_about_15 (by decide) (fun c_3 => ?_) (fun c_3 => ?_)
      · skip
        refine lv_iconst (v := nI 0) hx hb dX7_about_22 (by decide) ?_
        refine md_ci hC hw (va_runV (As := [.int (nI (0))]) (rest := []) ⟨hx, hb, hml, hown, hts⟩ (c_X7_refuses l G _ H.size h0 a c u A 0 hm (by omega)) (cwV 1 hts gX7_about_X7_refuses rfl rfl rfl (by decide +kernel) ⟨Nat.le_of_ble_eq_true rfl, Nat.le_of_ble_eq_true rfl⟩) (mw_preV (ci := 7) hC hw rfl hm.1) rfl rfl hl.1 rfl (lv_room (Nat.le_of_ble_eq_true rfl)) dX7_about_23 ⟨Nat.le_of_ble_eq_true rfl, Nat.le_of_ble_eq_true rfl⟩) (fun M1 H locs hm hf1 hw => ?_)
        have hf := hf.tr hf1
        refine mw_ti (v' := nI (0)) rfl ?_
        refine lv_if_eq (tgt := 31) hx hb dX7_about_26 (by decide) (fun c_4 => ?_) (fun c_4 => ?_)
        · skip
          refine lv_iload_n hx hb dX7_about_31 rfl (lv_at hl 2 rfl) ?_
          refine lv_tableIn (off := 81) (tgt := 113) hx hb dX7_about_32 (by decide) (by decide) (by decide) (by decide) ?_
          refine lv_aload_n hx hb dX7_about_113 rfl (lv_at hl 0 rfl) ?_
          refine mw_get (C := RX7) (T := TX7) (N := 27) (v := .ref (a 7)) hx hb hts inX7_about_X7 hown hC hw hm.1 rfl 7 (by decide) k_0 rfl dX7_about_114 ?_
          refine lv_iload_n hx hb dX7_about_117 rfl (lv_at hl 1 rfl) ?_
          refine md_ald 7 (n := 2) hx hb hC hw hm rfl (by decide) rfl (by omega) (by decide) dX7_about_118 ?_
          exact md_iret hx hb hr hlocks hw hm hf (rfl) dX7_about_119
        · skip
          exact absurd c_4 (by decide)
      · skip
        exact absurd c_3 (by decide)
def RM_X7_about_4 : Room := { frames := 1, cells := 0, slots := 0, locals := 21 }
set_option maxHeartbeats 4000000 in
set_option maxRecDepth 100000 in
theorem c_X7_about_4 (l : Launch) (G : mw_G) (M : mw_M) (sz : Nat) (h0 : Nat) (a : Nat → Nat) (c u : Nat) (A : md_S) (ed : Nat) (hm : md_at G M h0 a c u A) (hed : ed ≤ 1) (h16 : A 16 ed ≤ A 12 ed) (h20 : A 20 ed ≤ 1) : Met l yX7_about wsX7_about RM_X7_about_4 (mw_pre G M sz [.ref (h0), .int (nI (ed)), .int (nI (4))]) (md_Qi G M sz h0 a (nI (A 9 ed)) 0 u A) 0 0 (mw_A M sz) := by
  refine Met.ofW (cc := cX7_about) (maxL := 3) (ret := (some .int)) (by decide) rfl ?_
  intro p e s m args below meth c0 s₁ B hml hv
  obtain ⟨rfl, rfl, hC, hw⟩ := mw_in hv
  have hx := B.exec
  have hb := B.bytes
  have hr := B.returns
  have hts := atoms_spec (ws := wsX7_about) B.pre
  have hown : s.vm.findClass RX7 = some m.cls := findClass_of_methodNamed B.named
  have hlocks := B.notSynchronized
  have hf : md_fr h0 a M M := md_fr.rf
  have k_0 := hts (.fieldLink RX7 35 "LinkPairModel" "waits" "[I") (by decide +kernel)
  have hl := lv_entry ([.ref (h0), .int (nI (ed)), .int (nI (4))]) (n := 3) (Nat.le_of_ble_eq_true rfl)
  rw [lg_entry_eq]
  generalize (lg_sl ([.ref (h0), .int (nI (ed)), .int (nI (4))]) ++ List.replicate (3 - (lg_sl ([.ref (h0), .int (nI (ed)), .int (nI (4))])).length) Slot.unset).toArray = ls at hl ⊢
  have hl : lv_has ls 3 [(0, .ref (h0)), (1, .int (nI (ed))), (2, .int (nI (4)))] := hl
  refine mw_start (fun H locs hw => ?_) hw
  refine lv_aload_n hx hb dX7_about_0 rfl (lv_at hl 0 rfl) ?_
  refine lv_iload_n hx hb dX7_about_1 rfl (lv_at hl 1 rfl) ?_
  refine mw_ci hC hw (va_runS (As := [.int (nI (ed))]) (rest := [.ref (h0)]) ⟨hx, hb, hml, hown, hts⟩ (c_X7_isEnd l G _ H.size ed  (by omega)) (cwS 1 hts gX7_about_X7_isEnd rfl rfl rfl (by decide +kernel) ⟨Nat.le_of_ble_eq_true rfl, Nat.le_of_ble_eq_true rfl⟩) (mw_preS hC hw) rfl rfl hl.1 rfl (lv_room (Nat.le_of_ble_eq_true rfl)) dX7_about_2 ⟨Nat.le_of_ble_eq_true rfl, Nat.le_of_ble_eq_true rfl⟩) (fun H locs hz hw => ?_)
  refine lv_if_eq (tgt := 18) hx hb dX7_about_5 (by decide) (fun c_1 => ?_) (fun c_1 => ?_)
  · skip
    exact absurd c_1 (by decide)
  · skip
    refine lv_iload_n hx hb dX7_about_8 rfl (lv_at hl 2 rfl) ?_
    refine lv_if_lt (tgt := 18) hx hb dX7_about_9 (by decide) (fun c_2 => ?_) (fun c_2 => ?_)
    · skip
      exact absurd c_2 (by decide)
    · skip
      refine lv_iload_n hx hb dX7_about_12 rfl (lv_at hl 2 rfl) ?_
      refine lv_bipush (v := nI 11) hx hb dX7_about_13 (by decide) ?_
      refine lv_icmp_le (tgt := 22) hx hb dX7_about_15 (by decide) (fun c_3 => ?_) (fun c_3 => ?_)
      · skip
        refine lv_iconst (v := nI 0) hx hb dX7_about_22 (by decide) ?_
        refine md_ci hC hw (va_runV (As := [.int (nI (0))]) (rest := []) ⟨hx, hb, hml, hown, hts⟩ (c_X7_refuses l G _ H.size h0 a c u A 0 hm (by omega)) (cwV 1 hts gX7_about_X7_refuses rfl rfl rfl (by decide +kernel) ⟨Nat.le_of_ble_eq_true rfl, Nat.le_of_ble_eq_true rfl⟩) (mw_preV (ci := 7) hC hw rfl hm.1) rfl rfl hl.1 rfl (lv_room (Nat.le_of_ble_eq_true rfl)) dX7_about_23 ⟨Nat.le_of_ble_eq_true rfl, Nat.le_of_ble_eq_true rfl⟩) (fun M1 H locs hm hf1 hw => ?_)
        have hf := hf.tr hf1
        refine mw_ti (v' := nI (0)) rfl ?_
        refine lv_if_eq (tgt := 31) hx hb dX7_about_26 (by decide) (fun c_4 => ?_) (fun c_4 => ?_)
        · skip
          refine lv_iload_n hx hb dX7_about_31 rfl (lv_at hl 2 rfl) ?_
          refine lv_tableIn (off := 88) (tgt := 120) hx hb dX7_about_32 (by decide) (by decide) (by decide) (by decide) ?_
          refine lv_aload_n hx hb dX7_about_120 rfl (lv_at hl 0 rfl) ?_
          refine mw_get (C := RX7) (T := TX7) (N := 27) (v := .ref (a 9)) hx hb hts inX7_about_X7 hown hC hw hm.1 rfl 9 (by decide) k_0 rfl dX7_about_121 ?_
          refine lv_iload_n hx hb dX7_about_124 rfl (lv_at hl 1 rfl) ?_
          refine md_ald 9 (n := 2) hx hb hC hw hm rfl (by decide) rfl (by omega) (by decide) dX7_about_125 ?_
          exact md_iret hx hb hr hlocks hw hm hf (rfl) dX7_about_126
        · skip
          exact absurd c_4 (by decide)
      · skip
        exact absurd c_3 (by decide)
def RM_X7_about_5 : Room := { frames := 1, cells := 0, slots := 0, locals := 21 }
set_option maxHeartbeats 4000000 in
set_option maxRecDepth 100000 in
theorem c_X7_about_5 (l : Launch) (G : mw_G) (M : mw_M) (sz : Nat) (h0 : Nat) (a : Nat → Nat) (c u : Nat) (A : md_S) (ed : Nat) (hm : md_at G M h0 a c u A) (hed : ed ≤ 1) (h16 : A 16 ed ≤ A 12 ed) (h20 : A 20 ed ≤ 1) : Met l yX7_about wsX7_about RM_X7_about_5 (mw_pre G M sz [.ref (h0), .int (nI (ed)), .int (nI (5))]) (md_Qi G M sz h0 a (nI (A 12 ed)) 0 u A) 0 0 (mw_A M sz) := by
  refine Met.ofW (cc := cX7_about) (maxL := 3) (ret := (some .int)) (by decide) rfl ?_
  intro p e s m args below meth c0 s₁ B hml hv
  obtain ⟨rfl, rfl, hC, hw⟩ := mw_in hv
  have hx := B.exec
  have hb := B.bytes
  have hr := B.returns
  have hts := atoms_spec (ws := wsX7_about) B.pre
  have hown : s.vm.findClass RX7 = some m.cls := findClass_of_methodNamed B.named
  have hlocks := B.notSynchronized
  have hf : md_fr h0 a M M := md_fr.rf
  have k_0 := hts (.fieldLink RX7 44 "LinkPairModel" "open" "[I") (by decide +kernel)
  have hl := lv_entry ([.ref (h0), .int (nI (ed)), .int (nI (5))]) (n := 3) (Nat.le_of_ble_eq_true rfl)
  rw [lg_entry_eq]
  generalize (lg_sl ([.ref (h0), .int (nI (ed)), .int (nI (5))]) ++ List.replicate (3 - (lg_sl ([.ref (h0), .int (nI (ed)), .int (nI (5))])).length) Slot.unset).toArray = ls at hl ⊢
  have hl : lv_has ls 3 [(0, .ref (h0)), (1, .int (nI (ed))), (2, .int (nI (5)))] := hl
  refine mw_start (fun H locs hw => ?_) hw
  refine lv_aload_n hx hb dX7_about_0 rfl (lv_at hl 0 rfl) ?_
  refine lv_iload_n hx hb dX7_about_1 rfl (lv_at hl 1 rfl) ?_
  refine mw_ci hC hw (va_runS (As := [.int (nI (ed))]) (rest := [.ref (h0)]) ⟨hx, hb, hml, hown, hts⟩ (c_X7_isEnd l G _ H.size ed  (by omega)) (cwS 1 hts gX7_about_X7_isEnd rfl rfl rfl (by decide +kernel) ⟨Nat.le_of_ble_eq_true rfl, Nat.le_of_ble_eq_true rfl⟩) (mw_preS hC hw) rfl rfl hl.1 rfl (lv_room (Nat.le_of_ble_eq_true rfl)) dX7_about_2 ⟨Nat.le_of_ble_eq_true rfl, Nat.le_of_ble_eq_true rfl⟩) (fun H locs hz hw => ?_)
  refine lv_if_eq (tgt := 18) hx hb dX7_about_5 (by decide) (fun c_1 => ?_) (fun c_1 => ?_)
  · skip
    exact absurd c_1 (by decide)
  · skip
    refine lv_iload_n hx hb dX7_about_8 rfl (lv_at hl 2 rfl) ?_
    refine lv_if_lt (tgt := 18) hx hb dX7_about_9 (by decide) (fun c_2 => ?_) (fun c_2 => ?_)
    · skip
      exact absurd c_2 (by decide)
    · skip
      refine lv_iload_n hx hb dX7_about_12 rfl (lv_at hl 2 rfl) ?_
      refine lv_bipush (v := nI 11) hx hb dX7_about_13 (by decide) ?_
      refine lv_icmp_le (tgt := 22) hx hb dX7_about_15 (by decide) (fun c_3 => ?_) (fun c_3 => ?_)
      · skip
        refine lv_iconst (v := nI 0) hx hb dX7_about_22 (by decide) ?_
        refine md_ci hC hw (va_runV (As := [.int (nI (0))]) (rest := []) ⟨hx, hb, hml, hown, hts⟩ (c_X7_refuses l G _ H.size h0 a c u A 0 hm (by omega)) (cwV 1 hts gX7_about_X7_refuses rfl rfl rfl (by decide +kernel) ⟨Nat.le_of_ble_eq_true rfl, Nat.le_of_ble_eq_true rfl⟩) (mw_preV (ci := 7) hC hw rfl hm.1) rfl rfl hl.1 rfl (lv_room (Nat.le_of_ble_eq_true rfl)) dX7_about_23 ⟨Nat.le_of_ble_eq_true rfl, Nat.le_of_ble_eq_true rfl⟩) (fun M1 H locs hm hf1 hw => ?_)
        have hf := hf.tr hf1
        refine mw_ti (v' := nI (0)) rfl ?_
        refine lv_if_eq (tgt := 31) hx hb dX7_about_26 (by decide) (fun c_4 => ?_) (fun c_4 => ?_)
        · skip
          refine lv_iload_n hx hb dX7_about_31 rfl (lv_at hl 2 rfl) ?_
          refine lv_tableIn (off := 95) (tgt := 127) hx hb dX7_about_32 (by decide) (by decide) (by decide) (by decide) ?_
          refine lv_aload_n hx hb dX7_about_127 rfl (lv_at hl 0 rfl) ?_
          refine mw_get (C := RX7) (T := TX7) (N := 27) (v := .ref (a 12)) hx hb hts inX7_about_X7 hown hC hw hm.1 rfl 12 (by decide) k_0 rfl dX7_about_128 ?_
          refine lv_iload_n hx hb dX7_about_131 rfl (lv_at hl 1 rfl) ?_
          refine md_ald 12 (n := 2) hx hb hC hw hm rfl (by decide) rfl (by omega) (by decide) dX7_about_132 ?_
          exact md_iret hx hb hr hlocks hw hm hf (rfl) dX7_about_133
        · skip
          exact absurd c_4 (by decide)
      · skip
        exact absurd c_3 (by decide)
def RM_X7_about_6 : Room := { frames := 1, cells := 0, slots := 0, locals := 21 }
set_option maxHeartbeats 4000000 in
set_option maxRecDepth 100000 in
theorem c_X7_about_6 (l : Launch) (G : mw_G) (M : mw_M) (sz : Nat) (h0 : Nat) (a : Nat → Nat) (c u : Nat) (A : md_S) (ed : Nat) (hm : md_at G M h0 a c u A) (hed : ed ≤ 1) (h16 : A 16 ed ≤ A 12 ed) (h20 : A 20 ed ≤ 1) : Met l yX7_about wsX7_about RM_X7_about_6 (mw_pre G M sz [.ref (h0), .int (nI (ed)), .int (nI (6))]) (md_Qi G M sz h0 a (nI (A 12 ed - A 16 ed)) 0 u A) 0 0 (mw_A M sz) := by
  refine Met.ofW (cc := cX7_about) (maxL := 3) (ret := (some .int)) (by decide) rfl ?_
  intro p e s m args below meth c0 s₁ B hml hv
  obtain ⟨rfl, rfl, hC, hw⟩ := mw_in hv
  have hx := B.exec
  have hb := B.bytes
  have hr := B.returns
  have hts := atoms_spec (ws := wsX7_about) B.pre
  have hown : s.vm.findClass RX7 = some m.cls := findClass_of_methodNamed B.named
  have hlocks := B.notSynchronized
  have hf : md_fr h0 a M M := md_fr.rf
  have k_0 := hts (.fieldLink RX7 44 "LinkPairModel" "open" "[I") (by decide +kernel)
  have k_1 := hts (.fieldLink RX7 56 "LinkPairModel" "again" "[I") (by decide +kernel)
  have hl := lv_entry ([.ref (h0), .int (nI (ed)), .int (nI (6))]) (n := 3) (Nat.le_of_ble_eq_true rfl)
  rw [lg_entry_eq]
  generalize (lg_sl ([.ref (h0), .int (nI (ed)), .int (nI (6))]) ++ List.replicate (3 - (lg_sl ([.ref (h0), .int (nI (ed)), .int (nI (6))])).length) Slot.unset).toArray = ls at hl ⊢
  have hl : lv_has ls 3 [(0, .ref (h0)), (1, .int (nI (ed))), (2, .int (nI (6)))] := hl
  refine mw_start (fun H locs hw => ?_) hw
  refine lv_aload_n hx hb dX7_about_0 rfl (lv_at hl 0 rfl) ?_
  refine lv_iload_n hx hb dX7_about_1 rfl (lv_at hl 1 rfl) ?_
  refine mw_ci hC hw (va_runS (As := [.int (nI (ed))]) (rest := [.ref (h0)]) ⟨hx, hb, hml, hown, hts⟩ (c_X7_isEnd l G _ H.size ed  (by omega)) (cwS 1 hts gX7_about_X7_isEnd rfl rfl rfl (by decide +kernel) ⟨Nat.le_of_ble_eq_true rfl, Nat.le_of_ble_eq_true rfl⟩) (mw_preS hC hw) rfl rfl hl.1 rfl (lv_room (Nat.le_of_ble_eq_true rfl)) dX7_about_2 ⟨Nat.le_of_ble_eq_true rfl, Nat.le_of_ble_eq_true rfl⟩) (fun H locs hz hw => ?_)
  refine lv_if_eq (tgt := 18) hx hb dX7_about_5 (by decide) (fun c_1 => ?_) (fun c_1 => ?_)
  · skip
    exact absurd c_1 (by decide)
  · skip
    refine lv_iload_n hx hb dX7_about_8 rfl (lv_at hl 2 rfl) ?_
    refine lv_if_lt (tgt := 18) hx hb dX7_about_9 (by decide) (fun c_2 => ?_) (fun c_2 => ?_)
    · skip
      exact absurd c_2 (by decide)
    · skip
      refine lv_iload_n hx hb dX7_about_12 rfl (lv_at hl 2 rfl) ?_
      refine lv_bipush (v := nI 11) hx hb dX7_about_13 (by decide) ?_
      refine lv_icmp_le (tgt := 22) hx hb dX7_about_15 (by decide) (fun c_3 => ?_) (fun c_3 => ?_)
      · skip
        refine lv_iconst (v := nI 0) hx hb dX7_about_22 (by decide) ?_
        refine md_ci hC hw (va_runV (As := [.int (nI (0))]) (rest := []) ⟨hx, hb, hml, hown, hts⟩ (c_X7_refuses l G _ H.size h0 a c u A 0 hm (by omega)) (cwV 1 hts gX7_about_X7_refuses rfl rfl rfl (by decide +kernel) ⟨Nat.le_of_ble_eq_true rfl, Nat.le_of_ble_eq_true rfl⟩) (mw_preV (ci := 7) hC hw rfl hm.1) rfl rfl hl.1 rfl (lv_room (Nat.le_of_ble_eq_true rfl)) dX7_about_23 ⟨Nat.le_of_ble_eq_true rfl, Nat.le_of_ble_eq_true rfl⟩) (fun M1 H locs hm hf1 hw => ?_)
        have hf := hf.tr hf1
        refine mw_ti (v' := nI (0)) rfl ?_
        refine lv_if_eq (tgt := 31) hx hb dX7_about_26 (by decide) (fun c_4 => ?_) (fun c_4 => ?_)
        · skip
          refine lv_iload_n hx hb dX7_about_31 rfl (lv_at hl 2 rfl) ?_
          refine lv_tableIn (off := 102) (tgt := 134) hx hb dX7_about_32 (by decide) (by decide) (by decide) (by decide) ?_
          refine lv_aload_n hx hb dX7_about_134 rfl (lv_at hl 0 rfl) ?_
          refine mw_get (C := RX7) (T := TX7) (N := 27) (v := .ref (a 12)) hx hb hts inX7_about_X7 hown hC hw hm.1 rfl 12 (by decide) k_0 rfl dX7_about_135 ?_
          refine lv_iload_n hx hb dX7_about_138 rfl (lv_at hl 1 rfl) ?_
          refine md_ald 12 (n := 2) hx hb hC hw hm rfl (by decide) rfl (by omega) (by decide) dX7_about_139 ?_
          refine lv_aload_n hx hb dX7_about_140 rfl (lv_at hl 0 rfl) ?_
          refine mw_get (C := RX7) (T := TX7) (N := 27) (v := .ref (a 16)) hx hb hts inX7_about_X7 hown hC hw hm.1 rfl 16 (by decide) k_1 rfl dX7_about_141 ?_
          refine lv_iload_n hx hb dX7_about_144 rfl (lv_at hl 1 rfl) ?_
          refine md_ald 16 (n := 2) hx hb hC hw hm rfl (by decide) rfl (by omega) (by decide) dX7_about_145 ?_
          refine lv_isub hx hb dX7_about_146 ?_
          refine mw_ti (v' := nI (A 12 ed - (A 16 ed))) (pk_sub (by omega)) ?_
          exact md_iret hx hb hr hlocks hw hm hf (by first | rfl | simp_all | (congr 1; omega)) dX7_about_147
        · skip
          exact absurd c_4 (by decide)
      · skip
        exact absurd c_3 (by decide)
def RM_X7_about_7 : Room := { frames := 1, cells := 0, slots := 0, locals := 21 }
set_option maxHeartbeats 4000000 in
set_option maxRecDepth 100000 in
theorem c_X7_about_7 (l : Launch) (G : mw_G) (M : mw_M) (sz : Nat) (h0 : Nat) (a : Nat → Nat) (c u : Nat) (A : md_S) (ed : Nat) (hm : md_at G M h0 a c u A) (hed : ed ≤ 1) (h16 : A 16 ed ≤ A 12 ed) (h20 : A 20 ed ≤ 1) : Met l yX7_about wsX7_about RM_X7_about_7 (mw_pre G M sz [.ref (h0), .int (nI (ed)), .int (nI (7))]) (md_Qi G M sz h0 a (nI (A 21 ed)) 0 u A) 0 0 (mw_A M sz) := by
  refine Met.ofW (cc := cX7_about) (maxL := 3) (ret := (some .int)) (by decide) rfl ?_
  intro p e s m args below meth c0 s₁ B hml hv
  obtain ⟨rfl, rfl, hC, hw⟩ := mw_in hv
  have hx := B.exec
  have hb := B.bytes
  have hr := B.returns
  have hts := atoms_spec (ws := wsX7_about) B.pre
  have hown : s.vm.findClass RX7 = some m.cls := findClass_of_methodNamed B.named
  have hlocks := B.notSynchronized
  have hf : md_fr h0 a M M := md_fr.rf
  have k_0 := hts (.fieldLink RX7 72 "LinkPairModel" "takenCount" "[I") (by decide +kernel)
  have hl := lv_entry ([.ref (h0), .int (nI (ed)), .int (nI (7))]) (n := 3) (Nat.le_of_ble_eq_true rfl)
  rw [lg_entry_eq]
  generalize (lg_sl ([.ref (h0), .int (nI (ed)), .int (nI (7))]) ++ List.replicate (3 - (lg_sl ([.ref (h0), .int (nI (ed)), .int (nI (7))])).length) Slot.unset).toArray = ls at hl ⊢
  have hl : lv_has ls 3 [(0, .ref (h0)), (1, .int (nI (ed))), (2, .int (nI (7)))] := hl
  refine mw_start (fun H locs hw => ?_) hw
  refine lv_aload_n hx hb dX7_about_0 rfl (lv_at hl 0 rfl) ?_
  refine lv_iload_n hx hb dX7_about_1 rfl (lv_at hl 1 rfl) ?_
  refine mw_ci hC hw (va_runS (As := [.int (nI (ed))]) (rest := [.ref (h0)]) ⟨hx, hb, hml, hown, hts⟩ (c_X7_isEnd l G _ H.size ed  (by omega)) (cwS 1 hts gX7_about_X7_isEnd rfl rfl rfl (by decide +kernel) ⟨Nat.le_of_ble_eq_true rfl, Nat.le_of_ble_eq_true rfl⟩) (mw_preS hC hw) rfl rfl hl.1 rfl (lv_room (Nat.le_of_ble_eq_true rfl)) dX7_about_2 ⟨Nat.le_of_ble_eq_true rfl, Nat.le_of_ble_eq_true rfl⟩) (fun H locs hz hw => ?_)
  refine lv_if_eq (tgt := 18) hx hb dX7_about_5 (by decide) (fun c_1 => ?_) (fun c_1 => ?_)
  · skip
    exact absurd c_1 (by decide)
  · skip
    refine lv_iload_n hx hb dX7_about_8 rfl (lv_at hl 2 rfl) ?_
    refine lv_if_lt (tgt := 18) hx hb dX7_about_9 (by decide) (fun c_2 => ?_) (fun c_2 => ?_)
    · skip
      exact absurd c_2 (by decide)
    · skip
      refine lv_iload_n hx hb dX7_about_12 rfl (lv_at hl 2 rfl) ?_
      refine lv_bipush (v := nI 11) hx hb dX7_about_13 (by decide) ?_
      refine lv_icmp_le (tgt := 22) hx hb dX7_about_15 (by decide) (fun c_3 => ?_) (fun c_3 => ?_)
      · skip
        refine lv_iconst (v := nI 0) hx hb dX7_about_22 (by decide) ?_
        refine md_ci hC hw (va_runV (As := [.int (nI (0))]) (rest := []) ⟨hx, hb, hml, hown, hts⟩ (c_X7_refuses l G _ H.size h0 a c u A 0 hm (by omega)) (cwV 1 hts gX7_about_X7_refuses rfl rfl rfl (by decide +kernel) ⟨Nat.le_of_ble_eq_true rfl, Nat.le_of_ble_eq_true rfl⟩) (mw_preV (ci := 7) hC hw rfl hm.1) rfl rfl hl.1 rfl (lv_room (Nat.le_of_ble_eq_true rfl)) dX7_about_23 ⟨Nat.le_of_ble_eq_true rfl, Nat.le_of_ble_eq_true rfl⟩) (fun M1 H locs hm hf1 hw => ?_)
        have hf := hf.tr hf1
        refine mw_ti (v' := nI (0)) rfl ?_
        refine lv_if_eq (tgt := 31) hx hb dX7_about_26 (by decide) (fun c_4 => ?_) (fun c_4 => ?_)
        · skip
          refine lv_iload_n hx hb dX7_about_31 rfl (lv_at hl 2 rfl) ?_
          refine lv_tableIn (off := 116) (tgt := 148) hx hb dX7_about_32 (by decide) (by decide) (by decide) (by decide) ?_
          refine lv_aload_n hx hb dX7_about_148 rfl (lv_at hl 0 rfl) ?_
          refine mw_get (C := RX7) (T := TX7) (N := 27) (v := .ref (a 21)) hx hb hts inX7_about_X7 hown hC hw hm.1 rfl 21 (by decide) k_0 rfl dX7_about_149 ?_
          refine lv_iload_n hx hb dX7_about_152 rfl (lv_at hl 1 rfl) ?_
          refine md_ald 21 (n := 2) hx hb hC hw hm rfl (by decide) rfl (by omega) (by decide) dX7_about_153 ?_
          exact md_iret hx hb hr hlocks hw hm hf (rfl) dX7_about_154
        · skip
          exact absurd c_4 (by decide)
      · skip
        exact absurd c_3 (by decide)
def RM_X7_about_8 : Room := { frames := 1, cells := 0, slots := 0, locals := 21 }
set_option maxHeartbeats 4000000 in
set_option maxRecDepth 100000 in
theorem c_X7_about_8 (l : Launch) (G : mw_G) (M : mw_M) (sz : Nat) (h0 : Nat) (a : Nat → Nat) (c u : Nat) (A : md_S) (ed : Nat) (hm : md_at G M h0 a c u A) (hed : ed ≤ 1) (h16 : A 16 ed ≤ A 12 ed) (h20 : A 20 ed ≤ 1) : Met l yX7_about wsX7_about RM_X7_about_8 (mw_pre G M sz [.ref (h0), .int (nI (ed)), .int (nI (8))]) (md_Qi G M sz h0 a (nI (A 1 ed)) 0 u A) 0 0 (mw_A M sz) := by
  refine Met.ofW (cc := cX7_about) (maxL := 3) (ret := (some .int)) (by decide) rfl ?_
  intro p e s m args below meth c0 s₁ B hml hv
  obtain ⟨rfl, rfl, hC, hw⟩ := mw_in hv
  have hx := B.exec
  have hb := B.bytes
  have hr := B.returns
  have hts := atoms_spec (ws := wsX7_about) B.pre
  have hown : s.vm.findClass RX7 = some m.cls := findClass_of_methodNamed B.named
  have hlocks := B.notSynchronized
  have hf : md_fr h0 a M M := md_fr.rf
  have k_0 := hts (.fieldLink RX7 7 "LinkPairModel" "frames" "[I") (by decide +kernel)
  have hl := lv_entry ([.ref (h0), .int (nI (ed)), .int (nI (8))]) (n := 3) (Nat.le_of_ble_eq_true rfl)
  rw [lg_entry_eq]
  generalize (lg_sl ([.ref (h0), .int (nI (ed)), .int (nI (8))]) ++ List.replicate (3 - (lg_sl ([.ref (h0), .int (nI (ed)), .int (nI (8))])).length) Slot.unset).toArray = ls at hl ⊢
  have hl : lv_has ls 3 [(0, .ref (h0)), (1, .int (nI (ed))), (2, .int (nI (8)))] := hl
  refine mw_start (fun H locs hw => ?_) hw
  refine lv_aload_n hx hb dX7_about_0 rfl (lv_at hl 0 rfl) ?_
  refine lv_iload_n hx hb dX7_about_1 rfl (lv_at hl 1 rfl) ?_
  refine mw_ci hC hw (va_runS (As := [.int (nI (ed))]) (rest := [.ref (h0)]) ⟨hx, hb, hml, hown, hts⟩ (c_X7_isEnd l G _ H.size ed  (by omega)) (cwS 1 hts gX7_about_X7_isEnd rfl rfl rfl (by decide +kernel) ⟨Nat.le_of_ble_eq_true rfl, Nat.le_of_ble_eq_true rfl⟩) (mw_preS hC hw) rfl rfl hl.1 rfl (lv_room (Nat.le_of_ble_eq_true rfl)) dX7_about_2 ⟨Nat.le_of_ble_eq_true rfl, Nat.le_of_ble_eq_true rfl⟩) (fun H locs hz hw => ?_)
  refine lv_if_eq (tgt := 18) hx hb dX7_about_5 (by decide) (fun c_1 => ?_) (fun c_1 => ?_)
  · skip
    exact absurd c_1 (by decide)
  · skip
    refine lv_iload_n hx hb dX7_about_8 rfl (lv_at hl 2 rfl) ?_
    refine lv_if_lt (tgt := 18) hx hb dX7_about_9 (by decide) (fun c_2 => ?_) (fun c_2 => ?_)
    · skip
      exact absurd c_2 (by decide)
    · skip
      refine lv_iload_n hx hb dX7_about_12 rfl (lv_at hl 2 rfl) ?_
      refine lv_bipush (v := nI 11) hx hb dX7_about_13 (by decide) ?_
      refine lv_icmp_le (tgt := 22) hx hb dX7_about_15 (by decide) (fun c_3 => ?_) (fun c_3 => ?_)
      · skip
        refine lv_iconst (v := nI 0) hx hb dX7_about_22 (by decide) ?_
        refine md_ci hC hw (va_runV (As := [.int (nI (0))]) (rest := []) ⟨hx, hb, hml, hown, hts⟩ (c_X7_refuses l G _ H.size h0 a c u A 0 hm (by omega)) (cwV 1 hts gX7_about_X7_refuses rfl rfl rfl (by decide +kernel) ⟨Nat.le_of_ble_eq_true rfl, Nat.le_of_ble_eq_true rfl⟩) (mw_preV (ci := 7) hC hw rfl hm.1) rfl rfl hl.1 rfl (lv_room (Nat.le_of_ble_eq_true rfl)) dX7_about_23 ⟨Nat.le_of_ble_eq_true rfl, Nat.le_of_ble_eq_true rfl⟩) (fun M1 H locs hm hf1 hw => ?_)
        have hf := hf.tr hf1
        refine mw_ti (v' := nI (0)) rfl ?_
        refine lv_if_eq (tgt := 31) hx hb dX7_about_26 (by decide) (fun c_4 => ?_) (fun c_4 => ?_)
        · skip
          refine lv_iload_n hx hb dX7_about_31 rfl (lv_at hl 2 rfl) ?_
          refine lv_tableIn (off := 123) (tgt := 155) hx hb dX7_about_32 (by decide) (by decide) (by decide) (by decide) ?_
          refine lv_aload_n hx hb dX7_about_155 rfl (lv_at hl 0 rfl) ?_
          refine mw_get (C := RX7) (T := TX7) (N := 27) (v := .ref (a 1)) hx hb hts inX7_about_X7 hown hC hw hm.1 rfl 1 (by decide) k_0 rfl dX7_about_156 ?_
          refine lv_iload_n hx hb dX7_about_159 rfl (lv_at hl 1 rfl) ?_
          refine md_ald 1 (n := 2) hx hb hC hw hm rfl (by decide) rfl (by omega) (by decide) dX7_about_160 ?_
          exact md_iret hx hb hr hlocks hw hm hf (rfl) dX7_about_161
        · skip
          exact absurd c_4 (by decide)
      · skip
        exact absurd c_3 (by decide)
def RM_X7_about_9 : Room := { frames := 1, cells := 0, slots := 0, locals := 21 }
set_option maxHeartbeats 4000000 in
set_option maxRecDepth 100000 in
theorem c_X7_about_9 (l : Launch) (G : mw_G) (M : mw_M) (sz : Nat) (h0 : Nat) (a : Nat → Nat) (c u : Nat) (A : md_S) (ed : Nat) (hm : md_at G M h0 a c u A) (hed : ed ≤ 1) (h16 : A 16 ed ≤ A 12 ed) (h20 : A 20 ed ≤ 1) : Met l yX7_about wsX7_about RM_X7_about_9 (mw_pre G M sz [.ref (h0), .int (nI (ed)), .int (nI (9))]) (md_Qi G M sz h0 a (nI (A 17 ed)) 0 u A) 0 0 (mw_A M sz) := by
  refine Met.ofW (cc := cX7_about) (maxL := 3) (ret := (some .int)) (by decide) rfl ?_
  intro p e s m args below meth c0 s₁ B hml hv
  obtain ⟨rfl, rfl, hC, hw⟩ := mw_in hv
  have hx := B.exec
  have hb := B.bytes
  have hr := B.returns
  have hts := atoms_spec (ws := wsX7_about) B.pre
  have hown : s.vm.findClass RX7 = some m.cls := findClass_of_methodNamed B.named
  have hlocks := B.notSynchronized
  have hf : md_fr h0 a M M := md_fr.rf
  have k_0 := hts (.fieldLink RX7 59 "LinkPairModel" "errors" "[I") (by decide +kernel)
  have hl := lv_entry ([.ref (h0), .int (nI (ed)), .int (nI (9))]) (n := 3) (Nat.le_of_ble_eq_true rfl)
  rw [lg_entry_eq]
  generalize (lg_sl ([.ref (h0), .int (nI (ed)), .int (nI (9))]) ++ List.replicate (3 - (lg_sl ([.ref (h0), .int (nI (ed)), .int (nI (9))])).length) Slot.unset).toArray = ls at hl ⊢
  have hl : lv_has ls 3 [(0, .ref (h0)), (1, .int (nI (ed))), (2, .int (nI (9)))] := hl
  refine mw_start (fun H locs hw => ?_) hw
  refine lv_aload_n hx hb dX7_about_0 rfl (lv_at hl 0 rfl) ?_
  refine lv_iload_n hx hb dX7_about_1 rfl (lv_at hl 1 rfl) ?_
  refine mw_ci hC hw (va_runS (As := [.int (nI (ed))]) (rest := [.ref (h0)]) ⟨hx, hb, hml, hown, hts⟩ (c_X7_isEnd l G _ H.size ed  (by omega)) (cwS 1 hts gX7_about_X7_isEnd rfl rfl rfl (by decide +kernel) ⟨Nat.le_of_ble_eq_true rfl, Nat.le_of_ble_eq_true rfl⟩) (mw_preS hC hw) rfl rfl hl.1 rfl (lv_room (Nat.le_of_ble_eq_true rfl)) dX7_about_2 ⟨Nat.le_of_ble_eq_true rfl, Nat.le_of_ble_eq_true rfl⟩) (fun H locs hz hw => ?_)
  refine lv_if_eq (tgt := 18) hx hb dX7_about_5 (by decide) (fun c_1 => ?_) (fun c_1 => ?_)
  · skip
    exact absurd c_1 (by decide)
  · skip
    refine lv_iload_n hx hb dX7_about_8 rfl (lv_at hl 2 rfl) ?_
    refine lv_if_lt (tgt := 18) hx hb dX7_about_9 (by decide) (fun c_2 => ?_) (fun c_2 => ?_)
    · skip
      exact absurd c_2 (by decide)
    · skip
      refine lv_iload_n hx hb dX7_about_12 rfl (lv_at hl 2 rfl) ?_
      refine lv_bipush (v := nI 11) hx hb dX7_about_13 (by decide) ?_
      refine lv_icmp_le (tgt := 22) hx hb dX7_about_15 (by decide) (fun c_3 => ?_) (fun c_3 => ?_)
      · skip
        refine lv_iconst (v := nI 0) hx hb dX7_about_22 (by decide) ?_
        refine md_ci hC hw (va_runV (As := [.int (nI (0))]) (rest := []) ⟨hx, hb, hml, hown, hts⟩ (c_X7_refuses l G _ H.size h0 a c u A 0 hm (by omega)) (cwV 1 hts gX7_about_X7_refuses rfl rfl rfl (by decide +kernel) ⟨Nat.le_of_ble_eq_true rfl, Nat.le_of_ble_eq_true rfl⟩) (mw_preV (ci := 7) hC hw rfl hm.1) rfl rfl hl.1 rfl (lv_room (Nat.le_of_ble_eq_true rfl)) dX7_about_23 ⟨Nat.le_of_ble_eq_true rfl, Nat.le_of_ble_eq_true rfl⟩) (fun M1 H locs hm hf1 hw => ?_)
        have hf := hf.tr hf1
        refine mw_ti (v' := nI (0)) rfl ?_
        refine lv_if_eq (tgt := 31) hx hb dX7_about_26 (by decide) (fun c_4 => ?_) (fun c_4 => ?_)
        · skip
          refine lv_iload_n hx hb dX7_about_31 rfl (lv_at hl 2 rfl) ?_
          refine lv_tableIn (off := 130) (tgt := 162) hx hb dX7_about_32 (by decide) (by decide) (by decide) (by decide) ?_
          refine lv_aload_n hx hb dX7_about_162 rfl (lv_at hl 0 rfl) ?_
          refine mw_get (C := RX7) (T := TX7) (N := 27) (v := .ref (a 17)) hx hb hts inX7_about_X7 hown hC hw hm.1 rfl 17 (by decide) k_0 rfl dX7_about_163 ?_
          refine lv_iload_n hx hb dX7_about_166 rfl (lv_at hl 1 rfl) ?_
          refine md_ald 17 (n := 2) hx hb hC hw hm rfl (by decide) rfl (by omega) (by decide) dX7_about_167 ?_
          exact md_iret hx hb hr hlocks hw hm hf (rfl) dX7_about_168
        · skip
          exact absurd c_4 (by decide)
      · skip
        exact absurd c_3 (by decide)
def RM_X7_about_10 : Room := { frames := 1, cells := 0, slots := 0, locals := 21 }
set_option maxHeartbeats 4000000 in
set_option maxRecDepth 100000 in
theorem c_X7_about_10 (l : Launch) (G : mw_G) (M : mw_M) (sz : Nat) (h0 : Nat) (a : Nat → Nat) (c u : Nat) (A : md_S) (ed : Nat) (hm : md_at G M h0 a c u A) (hed : ed ≤ 1) (h16 : A 16 ed ≤ A 12 ed) (h20 : A 20 ed ≤ 1) : Met l yX7_about wsX7_about RM_X7_about_10 (mw_pre G M sz [.ref (h0), .int (nI (ed)), .int (nI (10))]) (md_Qi G M sz h0 a (nI (A 18 ed)) 0 u A) 0 0 (mw_A M sz) := by
  refine Met.ofW (cc := cX7_about) (maxL := 3) (ret := (some .int)) (by decide) rfl ?_
  intro p e s m args below meth c0 s₁ B hml hv
  obtain ⟨rfl, rfl, hC, hw⟩ := mw_in hv
  have hx := B.exec
  have hb := B.bytes
  have hr := B.returns
  have hts := atoms_spec (ws := wsX7_about) B.pre
  have hown : s.vm.findClass RX7 = some m.cls := findClass_of_methodNamed B.named
  have hlocks := B.notSynchronized
  have hf : md_fr h0 a M M := md_fr.rf
  have k_0 := hts (.fieldLink RX7 62 "LinkPairModel" "units" "[I") (by decide +kernel)
  have hl := lv_entry ([.ref (h0), .int (nI (ed)), .int (nI (10))]) (n := 3) (Nat.le_of_ble_eq_true rfl)
  rw [lg_entry_eq]
  generalize (lg_sl ([.ref (h0), .int (nI (ed)), .int (nI (10))]) ++ List.replicate (3 - (lg_sl ([.ref (h0), .int (nI (ed)), .int (nI (10))])).length) Slot.unset).toArray = ls at hl ⊢
  have hl : lv_has ls 3 [(0, .ref (h0)), (1, .int (nI (ed))), (2, .int (nI (10)))] := hl
  refine mw_start (fun H locs hw => ?_) hw
  refine lv_aload_n hx hb dX7_about_0 rfl (lv_at hl 0 rfl) ?_
  refine lv_iload_n hx hb dX7_about_1 rfl (lv_at hl 1 rfl) ?_
  refine mw_ci hC hw (va_runS (As := [.int (nI (ed))]) (rest := [.ref (h0)]) ⟨hx, hb, hml, hown, hts⟩ (c_X7_isEnd l G _ H.size ed  (by omega)) (cwS 1 hts gX7_about_X7_isEnd rfl rfl rfl (by decide +kernel) ⟨Nat.le_of_ble_eq_true rfl, Nat.le_of_ble_eq_true rfl⟩) (mw_preS hC hw) rfl rfl hl.1 rfl (lv_room (Nat.le_of_ble_eq_true rfl)) dX7_about_2 ⟨Nat.le_of_ble_eq_true rfl, Nat.le_of_ble_eq_true rfl⟩) (fun H locs hz hw => ?_)
  refine lv_if_eq (tgt := 18) hx hb dX7_about_5 (by decide) (fun c_1 => ?_) (fun c_1 => ?_)
  · skip
    exact absurd c_1 (by decide)
  · skip
    refine lv_iload_n hx hb dX7_about_8 rfl (lv_at hl 2 rfl) ?_
    refine lv_if_lt (tgt := 18) hx hb dX7_about_9 (by decide) (fun c_2 => ?_) (fun c_2 => ?_)
    · skip
      exact absurd c_2 (by decide)
    · skip
      refine lv_iload_n hx hb dX7_about_12 rfl (lv_at hl 2 rfl) ?_
      refine lv_bipush (v := nI 11) hx hb dX7_about_13 (by decide) ?_
      refine lv_icmp_le (tgt := 22) hx hb dX7_about_15 (by decide) (fun c_3 => ?_) (fun c_3 => ?_)
      · skip
        refine lv_iconst (v := nI 0) hx hb dX7_about_22 (by decide) ?_
        refine md_ci hC hw (va_runV (As := [.int (nI (0))]) (rest := []) ⟨hx, hb, hml, hown, hts⟩ (c_X7_refuses l G _ H.size h0 a c u A 0 hm (by omega)) (cwV 1 hts gX7_about_X7_refuses rfl rfl rfl (by decide +kernel) ⟨Nat.le_of_ble_eq_true rfl, Nat.le_of_ble_eq_true rfl⟩) (mw_preV (ci := 7) hC hw rfl hm.1) rfl rfl hl.1 rfl (lv_room (Nat.le_of_ble_eq_true rfl)) dX7_about_23 ⟨Nat.le_of_ble_eq_true rfl, Nat.le_of_ble_eq_true rfl⟩) (fun M1 H locs hm hf1 hw => ?_)
        have hf := hf.tr hf1
        refine mw_ti (v' := nI (0)) rfl ?_
        refine lv_if_eq (tgt := 31) hx hb dX7_about_26 (by decide) (fun c_4 => ?_) (fun c_4 => ?_)
        · skip
          refine lv_iload_n hx hb dX7_about_31 rfl (lv_at hl 2 rfl) ?_
          refine lv_tableIn (off := 137) (tgt := 169) hx hb dX7_about_32 (by decide) (by decide) (by decide) (by decide) ?_
          refine lv_aload_n hx hb dX7_about_169 rfl (lv_at hl 0 rfl) ?_
          refine mw_get (C := RX7) (T := TX7) (N := 27) (v := .ref (a 18)) hx hb hts inX7_about_X7 hown hC hw hm.1 rfl 18 (by decide) k_0 rfl dX7_about_170 ?_
          refine lv_iload_n hx hb dX7_about_173 rfl (lv_at hl 1 rfl) ?_
          refine md_ald 18 (n := 2) hx hb hC hw hm rfl (by decide) rfl (by omega) (by decide) dX7_about_174 ?_
          exact md_iret hx hb hr hlocks hw hm hf (rfl) dX7_about_175
        · skip
          exact absurd c_4 (by decide)
      · skip
        exact absurd c_3 (by decide)
def RM_X7_about_11 : Room := { frames := 1, cells := 0, slots := 0, locals := 21 }
set_option maxHeartbeats 4000000 in
set_option maxRecDepth 100000 in
theorem c_X7_about_11 (l : Launch) (G : mw_G) (M : mw_M) (sz : Nat) (h0 : Nat) (a : Nat → Nat) (c u : Nat) (A : md_S) (ed : Nat) (hm : md_at G M h0 a c u A) (hed : ed ≤ 1) (h16 : A 16 ed ≤ A 12 ed) (h20 : A 20 ed ≤ 1) : Met l yX7_about wsX7_about RM_X7_about_11 (mw_pre G M sz [.ref (h0), .int (nI (ed)), .int (nI (11))]) (md_Qi G M sz h0 a (nI (A 20 ed)) 0 u A) 0 0 (mw_A M sz) := by
  refine Met.ofW (cc := cX7_about) (maxL := 3) (ret := (some .int)) (by decide) rfl ?_
  intro p e s m args below meth c0 s₁ B hml hv
  obtain ⟨rfl, rfl, hC, hw⟩ := mw_in hv
  have hx := B.exec
  have hb := B.bytes
  have hr := B.returns
  have hts := atoms_spec (ws := wsX7_about) B.pre
  have hown : s.vm.findClass RX7 = some m.cls := findClass_of_methodNamed B.named
  have hlocks := B.notSynchronized
  have hf : md_fr h0 a M M := md_fr.rf
  have k_0 := hts (.fieldLink RX7 68 "LinkPairModel" "failed" "[Z") (by decide +kernel)
  have hl := lv_entry ([.ref (h0), .int (nI (ed)), .int (nI (11))]) (n := 3) (Nat.le_of_ble_eq_true rfl)
  rw [lg_entry_eq]
  generalize (lg_sl ([.ref (h0), .int (nI (ed)), .int (nI (11))]) ++ List.replicate (3 - (lg_sl ([.ref (h0), .int (nI (ed)), .int (nI (11))])).length) Slot.unset).toArray = ls at hl ⊢
  have hl : lv_has ls 3 [(0, .ref (h0)), (1, .int (nI (ed))), (2, .int (nI (11)))] := hl
  refine mw_start (fun H locs hw => ?_) hw
  refine lv_aload_n hx hb dX7_about_0 rfl (lv_at hl 0 rfl) ?_
  refine lv_iload_n hx hb dX7_about_1 rfl (lv_at hl 1 rfl) ?_
  refine mw_ci hC hw (va_runS (As := [.int (nI (ed))]) (rest := [.ref (h0)]) ⟨hx, hb, hml, hown, hts⟩ (c_X7_isEnd l G _ H.size ed  (by omega)) (cwS 1 hts gX7_about_X7_isEnd rfl rfl rfl (by decide +kernel) ⟨Nat.le_of_ble_eq_true rfl, Nat.le_of_ble_eq_true rfl⟩) (mw_preS hC hw) rfl rfl hl.1 rfl (lv_room (Nat.le_of_ble_eq_true rfl)) dX7_about_2 ⟨Nat.le_of_ble_eq_true rfl, Nat.le_of_ble_eq_true rfl⟩) (fun H locs hz hw => ?_)
  refine lv_if_eq (tgt := 18) hx hb dX7_about_5 (by decide) (fun c_1 => ?_) (fun c_1 => ?_)
  · skip
    exact absurd c_1 (by decide)
  · skip
    refine lv_iload_n hx hb dX7_about_8 rfl (lv_at hl 2 rfl) ?_
    refine lv_if_lt (tgt := 18) hx hb dX7_about_9 (by decide) (fun c_2 => ?_) (fun c_2 => ?_)
    · skip
      exact absurd c_2 (by decide)
    · skip
      refine lv_iload_n hx hb dX7_about_12 rfl (lv_at hl 2 rfl) ?_
      refine lv_bipush (v := nI 11) hx hb dX7_about_13 (by decide) ?_
      refine lv_icmp_le (tgt := 22) hx hb dX7_about_15 (by decide) (fun c_3 => ?_) (fun c_3 => ?_)
      · skip
        refine lv_iconst (v := nI 0) hx hb dX7_about_22 (by decide) ?_
        refine md_ci hC hw (va_runV (As := [.int (nI (0))]) (rest := []) ⟨hx, hb, hml, hown, hts⟩ (c_X7_refuses l G _ H.size h0 a c u A 0 hm (by omega)) (cwV 1 hts gX7_about_X7_refuses rfl rfl rfl (by decide +kernel) ⟨Nat.le_of_ble_eq_true rfl, Nat.le_of_ble_eq_true rfl⟩) (mw_preV (ci := 7) hC hw rfl hm.1) rfl rfl hl.1 rfl (lv_room (Nat.le_of_ble_eq_true rfl)) dX7_about_23 ⟨Nat.le_of_ble_eq_true rfl, Nat.le_of_ble_eq_true rfl⟩) (fun M1 H locs hm hf1 hw => ?_)
        have hf := hf.tr hf1
        refine mw_ti (v' := nI (0)) rfl ?_
        refine lv_if_eq (tgt := 31) hx hb dX7_about_26 (by decide) (fun c_4 => ?_) (fun c_4 => ?_)
        · skip
          refine lv_iload_n hx hb dX7_about_31 rfl (lv_at hl 2 rfl) ?_
          refine lv_tableOut (tgt := 176) hx hb dX7_about_32 (Or.inr (by decide)) (by decide) ?_
          refine lv_aload_n hx hb dX7_about_176 rfl (lv_at hl 0 rfl) ?_
          refine mw_get (C := RX7) (T := TX7) (N := 27) (v := .ref (a 20)) hx hb hts inX7_about_X7 hown hC hw hm.1 rfl 20 (by decide) k_0 rfl dX7_about_177 ?_
          refine lv_iload_n hx hb dX7_about_180 rfl (lv_at hl 1 rfl) ?_
          refine md_zld 20 (n := 2) hx hb hC hw hm rfl (by decide) rfl (by omega) (by decide) dX7_about_181 ?_
          refine lv_if_eq (tgt := 189) hx hb dX7_about_182 (by decide) (fun c_5 => ?_) (fun c_5 => ?_)
          · skip
            have c_5 : A 20 ed = 0 := (nI_eq (a := A 20 ed) (b := 0) (by omega) (by omega)).mp c_5
            refine lv_iconst (v := nI 0) hx hb dX7_about_189 (by decide) ?_
            exact md_iret hx hb hr hlocks hw hm hf (congrArg nI (by omega)) dX7_about_190
          · skip
            have c_5 : A 20 ed ≠ 0 := fun h => c_5 ((nI_eq (a := A 20 ed) (b := 0) (by omega) (by omega)).mpr h)
            refine lv_iconst (v := nI 1) hx hb dX7_about_185 (by decide) ?_
            refine lv_goto (tgt := 190) hx hb dX7_about_186 (by decide) ?_
            exact md_iret hx hb hr hlocks hw hm hf (congrArg nI (by omega)) dX7_about_190
        · skip
          exact absurd c_4 (by decide)
      · skip
        exact absurd c_3 (by decide)
def RM_X7_taken_bade : Room := { frames := 1, cells := 0, slots := 0, locals := 21 }
set_option maxHeartbeats 4000000 in
set_option maxRecDepth 100000 in
theorem c_X7_taken_bade (l : Launch) (G : mw_G) (M : mw_M) (sz : Nat) (h0 : Nat) (a : Nat → Nat) (c u : Nat) (A : md_S) (ed kk i : Int32) (hm : md_at G M h0 a c u A) (hb1 : ed < 0 ∨ nI 1 < ed) : Met l yX7_taken wsX7_taken RM_X7_taken_bade (mw_pre G M sz [.ref (h0), .int (ed), .int (kk), .int (i)]) (md_Qi G M sz h0 a (nI (0)) 1 u A) 0 0 (mw_A M sz) := by
  refine Met.ofW (cc := cX7_taken) (maxL := 5) (ret := (some .int)) (by decide) rfl ?_
  intro p e s m args below meth c0 s₁ B hml hv
  obtain ⟨rfl, rfl, hC, hw⟩ := mw_in hv
  have hx := B.exec
  have hb := B.bytes
  have hr := B.returns
  have hts := atoms_spec (ws := wsX7_taken) B.pre
  have hown : s.vm.findClass RX7 = some m.cls := findClass_of_methodNamed B.named
  have hlocks := B.notSynchronized
  have hf : md_fr h0 a M M := md_fr.rf
  have hl := lv_entry ([.ref (h0), .int (ed), .int (kk), .int (i)]) (n := 5) (Nat.le_of_ble_eq_true rfl)
  rw [lg_entry_eq]
  generalize (lg_sl ([.ref (h0), .int (ed), .int (kk), .int (i)]) ++ List.replicate (5 - (lg_sl ([.ref (h0), .int (ed), .int (kk), .int (i)])).length) Slot.unset).toArray = ls at hl ⊢
  have hl : lv_has ls 5 [(0, .ref (h0)), (1, .int (ed)), (2, .int (kk)), (3, .int (i))] := hl
  refine mw_start (fun H locs hw => ?_) hw
  refine lv_aload_n hx hb dX7_taken_0 rfl (lv_at hl 0 rfl) ?_
  refine lv_iload_n hx hb dX7_taken_1 rfl (lv_at hl 1 rfl) ?_
  refine mw_ci hC hw (va_runS (As := [.int (ed)]) (rest := [.ref (h0)]) ⟨hx, hb, hml, hown, hts⟩ (c_X7_isEnd_bad l G _ H.size ed  (hb1)) (cwS 1 hts gX7_taken_X7_isEnd rfl rfl rfl (by decide +kernel) ⟨Nat.le_of_ble_eq_true rfl, Nat.le_of_ble_eq_true rfl⟩) (mw_preS hC hw) rfl rfl hl.1 rfl (lv_room (Nat.le_of_ble_eq_true rfl)) dX7_taken_2 ⟨Nat.le_of_ble_eq_true rfl, Nat.le_of_ble_eq_true rfl⟩) (fun H locs hz hw => ?_)
  refine lv_if_eq (tgt := 35) hx hb dX7_taken_5 (by decide) (fun c_1 => ?_) (fun c_1 => ?_)
  · skip
    refine lv_iconst (v := nI 1) hx hb dX7_taken_35 (by decide) ?_
    refine lv_goto (tgt := 40) hx hb dX7_taken_36 (by decide) ?_
    refine md_ci hC hw (va_runV (As := [.int (nI (1))]) (rest := []) ⟨hx, hb, hml, hown, hts⟩ (c_X7_refuses l G _ H.size h0 a c u A 1 hm (by omega)) (cwV 1 hts gX7_taken_X7_refuses rfl rfl rfl (by decide +kernel) ⟨Nat.le_of_ble_eq_true rfl, Nat.le_of_ble_eq_true rfl⟩) (mw_preV (ci := 7) hC hw rfl hm.1) rfl rfl hl.1 rfl (lv_room (Nat.le_of_ble_eq_true rfl)) dX7_taken_40 ⟨Nat.le_of_ble_eq_true rfl, Nat.le_of_ble_eq_true rfl⟩) (fun M1 H locs hm hf1 hw => ?_)
    have hf := hf.tr hf1
    refine mw_ti (v' := nI (1)) rfl ?_
    refine lv_if_eq (tgt := 48) hx hb dX7_taken_43 (by decide) (fun c_2 => ?_) (fun c_2 => ?_)
    · skip
      exact absurd c_2 (by decide)
    · skip
      refine lv_iconst (v := nI 0) hx hb dX7_taken_46 (by decide) ?_
      exact md_iret hx hb hr hlocks hw hm hf (rfl) dX7_taken_47
  · skip
    exact absurd c_1 (by decide)
def RM_X7_taken_neg : Room := { frames := 1, cells := 0, slots := 0, locals := 21 }
set_option maxHeartbeats 4000000 in
set_option maxRecDepth 100000 in
theorem c_X7_taken_neg (l : Launch) (G : mw_G) (M : mw_M) (sz : Nat) (h0 : Nat) (a : Nat → Nat) (c u : Nat) (A : md_S) (ed : Nat) (kk i : Int32) (hm : md_at G M h0 a c u A) (hed : ed ≤ 1) (hb1 : kk < 0) : Met l yX7_taken wsX7_taken RM_X7_taken_neg (mw_pre G M sz [.ref (h0), .int (nI (ed)), .int (kk), .int (i)]) (md_Qi G M sz h0 a (nI (0)) 1 u A) 0 0 (mw_A M sz) := by
  refine Met.ofW (cc := cX7_taken) (maxL := 5) (ret := (some .int)) (by decide) rfl ?_
  intro p e s m args below meth c0 s₁ B hml hv
  obtain ⟨rfl, rfl, hC, hw⟩ := mw_in hv
  have hx := B.exec
  have hb := B.bytes
  have hr := B.returns
  have hts := atoms_spec (ws := wsX7_taken) B.pre
  have hown : s.vm.findClass RX7 = some m.cls := findClass_of_methodNamed B.named
  have hlocks := B.notSynchronized
  have hf : md_fr h0 a M M := md_fr.rf
  have hl := lv_entry ([.ref (h0), .int (nI (ed)), .int (kk), .int (i)]) (n := 5) (Nat.le_of_ble_eq_true rfl)
  rw [lg_entry_eq]
  generalize (lg_sl ([.ref (h0), .int (nI (ed)), .int (kk), .int (i)]) ++ List.replicate (5 - (lg_sl ([.ref (h0), .int (nI (ed)), .int (kk), .int (i)])).length) Slot.unset).toArray = ls at hl ⊢
  have hl : lv_has ls 5 [(0, .ref (h0)), (1, .int (nI (ed))), (2, .int (kk)), (3, .int (i))] := hl
  refine mw_start (fun H locs hw => ?_) hw
  refine lv_aload_n hx hb dX7_taken_0 rfl (lv_at hl 0 rfl) ?_
  refine lv_iload_n hx hb dX7_taken_1 rfl (lv_at hl 1 rfl) ?_
  refine mw_ci hC hw (va_runS (As := [.int (nI (ed))]) (rest := [.ref (h0)]) ⟨hx, hb, hml, hown, hts⟩ (c_X7_isEnd l G _ H.size ed  (by omega)) (cwS 1 hts gX7_taken_X7_isEnd rfl rfl rfl (by decide +kernel) ⟨Nat.le_of_ble_eq_true rfl, Nat.le_of_ble_eq_true rfl⟩) (mw_preS hC hw) rfl rfl hl.1 rfl (lv_room (Nat.le_of_ble_eq_true rfl)) dX7_taken_2 ⟨Nat.le_of_ble_eq_true rfl, Nat.le_of_ble_eq_true rfl⟩) (fun H locs hz hw => ?_)
  refine lv_if_eq (tgt := 35) hx hb dX7_taken_5 (by decide) (fun c_1 => ?_) (fun c_1 => ?_)
  · skip
    exact absurd c_1 (by decide)
  · skip
    refine lv_iload_n hx hb dX7_taken_8 rfl (lv_at hl 2 rfl) ?_
    refine lv_if_lt (tgt := 35) hx hb dX7_taken_9 (by decide) (fun c_2 => ?_) (fun c_2 => ?_)
    · skip
      refine lv_iconst (v := nI 1) hx hb dX7_taken_35 (by decide) ?_
      refine lv_goto (tgt := 40) hx hb dX7_taken_36 (by decide) ?_
      refine md_ci hC hw (va_runV (As := [.int (nI (1))]) (rest := []) ⟨hx, hb, hml, hown, hts⟩ (c_X7_refuses l G _ H.size h0 a c u A 1 hm (by omega)) (cwV 1 hts gX7_taken_X7_refuses rfl rfl rfl (by decide +kernel) ⟨Nat.le_of_ble_eq_true rfl, Nat.le_of_ble_eq_true rfl⟩) (mw_preV (ci := 7) hC hw rfl hm.1) rfl rfl hl.1 rfl (lv_room (Nat.le_of_ble_eq_true rfl)) dX7_taken_40 ⟨Nat.le_of_ble_eq_true rfl, Nat.le_of_ble_eq_true rfl⟩) (fun M1 H locs hm hf1 hw => ?_)
      have hf := hf.tr hf1
      refine mw_ti (v' := nI (1)) rfl ?_
      refine lv_if_eq (tgt := 48) hx hb dX7_taken_43 (by decide) (fun c_3 => ?_) (fun c_3 => ?_)
      · skip
        exact absurd c_3 (by decide)
      · skip
        refine lv_iconst (v := nI 0) hx hb dX7_taken_46 (by decide) ?_
        exact md_iret hx hb hr hlocks hw hm hf (rfl) dX7_taken_47
    · skip
      exact absurd hb1 c_2
theorem inX7_taken_X7 : ∀ w ∈ wsX70, w ∈ wsX7_taken := by decide +kernel
def RM_X7_taken_bad : Room := { frames := 1, cells := 0, slots := 0, locals := 21 }
set_option maxHeartbeats 4000000 in
set_option maxRecDepth 100000 in
theorem c_X7_taken_bad (l : Launch) (G : mw_G) (M : mw_M) (sz : Nat) (h0 : Nat) (a : Nat → Nat) (c u : Nat) (A : md_S) (ed kk : Nat) (i : Int32) (hm : md_at G M h0 a c u A) (hed : ed ≤ 1) (ht : A 21 ed < 100000) (hkk : kk < 2 ^ 31) (hb1 : ¬ (kk < A 21 ed ∧ A 21 ed ≤ kk + 50)) : Met l yX7_taken wsX7_taken RM_X7_taken_bad (mw_pre G M sz [.ref (h0), .int (nI (ed)), .int (nI (kk)), .int (i)]) (md_Qi G M sz h0 a (nI (0)) 1 u A) 0 0 (mw_A M sz) := by
  refine Met.ofW (cc := cX7_taken) (maxL := 5) (ret := (some .int)) (by decide) rfl ?_
  intro p e s m args below meth c0 s₁ B hml hv
  obtain ⟨rfl, rfl, hC, hw⟩ := mw_in hv
  have hx := B.exec
  have hb := B.bytes
  have hr := B.returns
  have hts := atoms_spec (ws := wsX7_taken) B.pre
  have hown : s.vm.findClass RX7 = some m.cls := findClass_of_methodNamed B.named
  have hlocks := B.notSynchronized
  have hf : md_fr h0 a M M := md_fr.rf
  have k_0 := hts (.fieldLink RX7 72 "LinkPairModel" "takenCount" "[I") (by decide +kernel)
  have hl := lv_entry ([.ref (h0), .int (nI (ed)), .int (nI (kk)), .int (i)]) (n := 5) (Nat.le_of_ble_eq_true rfl)
  rw [lg_entry_eq]
  generalize (lg_sl ([.ref (h0), .int (nI (ed)), .int (nI (kk)), .int (i)]) ++ List.replicate (5 - (lg_sl ([.ref (h0), .int (nI (ed)), .int (nI (kk)), .int (i)])).length) Slot.unset).toArray = ls at hl ⊢
  have hl : lv_has ls 5 [(0, .ref (h0)), (1, .int (nI (ed))), (2, .int (nI (kk))), (3, .int (i))] := hl
  refine mw_start (fun H locs hw => ?_) hw
  refine lv_aload_n hx hb dX7_taken_0 rfl (lv_at hl 0 rfl) ?_
  refine lv_iload_n hx hb dX7_taken_1 rfl (lv_at hl 1 rfl) ?_
  refine mw_ci hC hw (va_runS (As := [.int (nI (ed))]) (rest := [.ref (h0)]) ⟨hx, hb, hml, hown, hts⟩ (c_X7_isEnd l G _ H.size ed  (by omega)) (cwS 1 hts gX7_taken_X7_isEnd rfl rfl rfl (by decide +kernel) ⟨Nat.le_of_ble_eq_true rfl, Nat.le_of_ble_eq_true rfl⟩) (mw_preS hC hw) rfl rfl hl.1 rfl (lv_room (Nat.le_of_ble_eq_true rfl)) dX7_taken_2 ⟨Nat.le_of_ble_eq_true rfl, Nat.le_of_ble_eq_true rfl⟩) (fun H locs hz hw => ?_)
  refine lv_if_eq (tgt := 35) hx hb dX7_taken_5 (by decide) (fun c_1 => ?_) (fun c_1 => ?_)
  · skip
    exact absurd c_1 (by decide)
  · skip
    refine lv_iload_n hx hb dX7_taken_8 rfl (lv_at hl 2 rfl) ?_
    refine lv_if_lt (tgt := 35) hx hb dX7_taken_9 (by decide) (fun c_2 => ?_) (fun c_2 => ?_)
    · skip
      have c_2 : kk < 0 := (nI_ltI (a := kk) (b := 0) (by omega) (by omega)).mp c_2
      exfalso; omega
    · skip
      have c_2 : kk ≥ 0 := Nat.not_lt.mp (fun h => c_2 ((nI_ltI (a := kk) (b := 0) (by omega) (by omega)).mpr h))
      refine lv_iload_n hx hb dX7_taken_12 rfl (lv_at hl 2 rfl) ?_
      refine lv_aload_n hx hb dX7_taken_13 rfl (lv_at hl 0 rfl) ?_
      refine mw_get (C := RX7) (T := TX7) (N := 27) (v := .ref (a 21)) hx hb hts inX7_taken_X7 hown hC hw hm.1 rfl 21 (by decide) k_0 rfl dX7_taken_14 ?_
      refine lv_iload_n hx hb dX7_taken_17 rfl (lv_at hl 1 rfl) ?_
      refine md_ald 21 (n := 2) hx hb hC hw hm rfl (by decide) rfl (by omega) (by decide) dX7_taken_18 ?_
      refine lv_icmp_ge (tgt := 35) hx hb dX7_taken_19 (by decide) (fun c_3 => ?_) (fun c_3 => ?_)
      · skip
        have c_3 : kk ≥ A 21 ed := (nI_leI (a := A 21 ed) (b := kk) (by omega) (by omega)).mp c_3
        refine lv_iconst (v := nI 1) hx hb dX7_taken_35 (by decide) ?_
        refine lv_goto (tgt := 40) hx hb dX7_taken_36 (by decide) ?_
        refine md_ci hC hw (va_runV (As := [.int (nI (1))]) (rest := []) ⟨hx, hb, hml, hown, hts⟩ (c_X7_refuses l G _ H.size h0 a c u A 1 hm (by omega)) (cwV 1 hts gX7_taken_X7_refuses rfl rfl rfl (by decide +kernel) ⟨Nat.le_of_ble_eq_true rfl, Nat.le_of_ble_eq_true rfl⟩) (mw_preV (ci := 7) hC hw rfl hm.1) rfl rfl hl.1 rfl (lv_room (Nat.le_of_ble_eq_true rfl)) dX7_taken_40 ⟨Nat.le_of_ble_eq_true rfl, Nat.le_of_ble_eq_true rfl⟩) (fun M1 H locs hm hf1 hw => ?_)
        have hf := hf.tr hf1
        refine mw_ti (v' := nI (1)) rfl ?_
        refine lv_if_eq (tgt := 48) hx hb dX7_taken_43 (by decide) (fun c_4 => ?_) (fun c_4 => ?_)
        · skip
          exact absurd c_4 (by decide)
        · skip
          refine lv_iconst (v := nI 0) hx hb dX7_taken_46 (by decide) ?_
          exact md_iret hx hb hr hlocks hw hm hf (rfl) dX7_taken_47
      · skip
        have c_3 : kk < A 21 ed := Nat.not_le.mp (fun h => c_3 ((nI_leI (a := A 21 ed) (b := kk) (by omega) (by omega)).mpr h))
        refine lv_iload_n hx hb dX7_taken_22 rfl (lv_at hl 2 rfl) ?_
        refine lv_aload_n hx hb dX7_taken_23 rfl (lv_at hl 0 rfl) ?_
        refine mw_get (C := RX7) (T := TX7) (N := 27) (v := .ref (a 21)) hx hb hts inX7_taken_X7 hown hC hw hm.1 rfl 21 (by decide) k_0 rfl dX7_taken_24 ?_
        refine lv_iload_n hx hb dX7_taken_27 rfl (lv_at hl 1 rfl) ?_
        refine md_ald 21 (n := 2) hx hb hC hw hm rfl (by decide) rfl (by omega) (by decide) dX7_taken_28 ?_
        refine lv_bipush (v := nI 50) hx hb dX7_taken_29 (by decide) ?_
        refine lv_isub hx hb dX7_taken_31 ?_
        refine mw_ti (v' := nI (A 21 ed) - nI 50) (rfl) ?_
        refine lv_icmp_ge (tgt := 39) hx hb dX7_taken_32 (by decide) (fun c_5 => ?_) (fun c_5 => ?_)
        · skip
          exact absurd ⟨by omega, (sub50 ht hkk).mp c_5⟩ hb1
        · skip
          refine lv_iconst (v := nI 1) hx hb dX7_taken_35 (by decide) ?_
          refine lv_goto (tgt := 40) hx hb dX7_taken_36 (by decide) ?_
          refine md_ci hC hw (va_runV (As := [.int (nI (1))]) (rest := []) ⟨hx, hb, hml, hown, hts⟩ (c_X7_refuses l G _ H.size h0 a c u A 1 hm (by omega)) (cwV 1 hts gX7_taken_X7_refuses rfl rfl rfl (by decide +kernel) ⟨Nat.le_of_ble_eq_true rfl, Nat.le_of_ble_eq_true rfl⟩) (mw_preV (ci := 7) hC hw rfl hm.1) rfl rfl hl.1 rfl (lv_room (Nat.le_of_ble_eq_true rfl)) dX7_taken_40 ⟨Nat.le_of_ble_eq_true rfl, Nat.le_of_ble_eq_true rfl⟩) (fun M1 H locs hm hf1 hw => ?_)
          have hf := hf.tr hf1
          refine mw_ti (v' := nI (1)) rfl ?_
          refine lv_if_eq (tgt := 48) hx hb dX7_taken_43 (by decide) (fun c_6 => ?_) (fun c_6 => ?_)
          · skip
            exact absurd c_6 (by decide)
          · skip
            refine lv_iconst (v := nI 0) hx hb dX7_taken_46 (by decide) ?_
            exact md_iret hx hb hr hlocks hw hm hf (rfl) dX7_taken_47
def RM_X7_taken_negi : Room := { frames := 1, cells := 0, slots := 0, locals := 21 }
set_option maxHeartbeats 4000000 in
set_option maxRecDepth 100000 in
theorem c_X7_taken_negi (l : Launch) (G : mw_G) (M : mw_M) (sz : Nat) (h0 : Nat) (a : Nat → Nat) (c u : Nat) (A : md_S) (ed kk : Nat) (i : Int32) (hm : md_at G M h0 a c u A) (hed : ed ≤ 1) (ht : A 21 ed < 100000) (hkk : kk < 2 ^ 31) (hk1 : kk < A 21 ed) (hk2 : A 21 ed ≤ kk + 50) (hb1 : i < 0) : Met l yX7_taken wsX7_taken RM_X7_taken_negi (mw_pre G M sz [.ref (h0), .int (nI (ed)), .int (nI (kk)), .int (i)]) (md_Qi G M sz h0 a (-1) 0 u A) 0 0 (mw_A M sz) := by
  refine Met.ofW (cc := cX7_taken) (maxL := 5) (ret := (some .int)) (by decide) rfl ?_
  intro p e s m args below meth c0 s₁ B hml hv
  obtain ⟨rfl, rfl, hC, hw⟩ := mw_in hv
  have hx := B.exec
  have hb := B.bytes
  have hr := B.returns
  have hts := atoms_spec (ws := wsX7_taken) B.pre
  have hown : s.vm.findClass RX7 = some m.cls := findClass_of_methodNamed B.named
  have hlocks := B.notSynchronized
  have hf : md_fr h0 a M M := md_fr.rf
  have k_0 := hts (.fieldLink RX7 72 "LinkPairModel" "takenCount" "[I") (by decide +kernel)
  have hl := lv_entry ([.ref (h0), .int (nI (ed)), .int (nI (kk)), .int (i)]) (n := 5) (Nat.le_of_ble_eq_true rfl)
  rw [lg_entry_eq]
  generalize (lg_sl ([.ref (h0), .int (nI (ed)), .int (nI (kk)), .int (i)]) ++ List.replicate (5 - (lg_sl ([.ref (h0), .int (nI (ed)), .int (nI (kk)), .int (i)])).length) Slot.unset).toArray = ls at hl ⊢
  have hl : lv_has ls 5 [(0, .ref (h0)), (1, .int (nI (ed))), (2, .int (nI (kk))), (3, .int (i))] := hl
  refine mw_start (fun H locs hw => ?_) hw
  refine lv_aload_n hx hb dX7_taken_0 rfl (lv_at hl 0 rfl) ?_
  refine lv_iload_n hx hb dX7_taken_1 rfl (lv_at hl 1 rfl) ?_
  refine mw_ci hC hw (va_runS (As := [.int (nI (ed))]) (rest := [.ref (h0)]) ⟨hx, hb, hml, hown, hts⟩ (c_X7_isEnd l G _ H.size ed  (by omega)) (cwS 1 hts gX7_taken_X7_isEnd rfl rfl rfl (by decide +kernel) ⟨Nat.le_of_ble_eq_true rfl, Nat.le_of_ble_eq_true rfl⟩) (mw_preS hC hw) rfl rfl hl.1 rfl (lv_room (Nat.le_of_ble_eq_true rfl)) dX7_taken_2 ⟨Nat.le_of_ble_eq_true rfl, Nat.le_of_ble_eq_true rfl⟩) (fun H locs hz hw => ?_)
  refine lv_if_eq (tgt := 35) hx hb dX7_taken_5 (by decide) (fun c_1 => ?_) (fun c_1 => ?_)
  · skip
    exact absurd c_1 (by decide)
  · skip
    refine lv_iload_n hx hb dX7_taken_8 rfl (lv_at hl 2 rfl) ?_
    refine lv_if_lt (tgt := 35) hx hb dX7_taken_9 (by decide) (fun c_2 => ?_) (fun c_2 => ?_)
    · skip
      have c_2 : kk < 0 := (nI_ltI (a := kk) (b := 0) (by omega) (by omega)).mp c_2
      exfalso; omega
    · skip
      have c_2 : kk ≥ 0 := Nat.not_lt.mp (fun h => c_2 ((nI_ltI (a := kk) (b := 0) (by omega) (by omega)).mpr h))
      refine lv_iload_n hx hb dX7_taken_12 rfl (lv_at hl 2 rfl) ?_
      refine lv_aload_n hx hb dX7_taken_13 rfl (lv_at hl 0 rfl) ?_
      refine mw_get (C := RX7) (T := TX7) (N := 27) (v := .ref (a 21)) hx hb hts inX7_taken_X7 hown hC hw hm.1 rfl 21 (by decide) k_0 rfl dX7_taken_14 ?_
      refine lv_iload_n hx hb dX7_taken_17 rfl (lv_at hl 1 rfl) ?_
      refine md_ald 21 (n := 2) hx hb hC hw hm rfl (by decide) rfl (by omega) (by decide) dX7_taken_18 ?_
      refine lv_icmp_ge (tgt := 35) hx hb dX7_taken_19 (by decide) (fun c_3 => ?_) (fun c_3 => ?_)
      · skip
        have c_3 : kk ≥ A 21 ed := (nI_leI (a := A 21 ed) (b := kk) (by omega) (by omega)).mp c_3
        exfalso; omega
      · skip
        have c_3 : kk < A 21 ed := Nat.not_le.mp (fun h => c_3 ((nI_leI (a := A 21 ed) (b := kk) (by omega) (by omega)).mpr h))
        refine lv_iload_n hx hb dX7_taken_22 rfl (lv_at hl 2 rfl) ?_
        refine lv_aload_n hx hb dX7_taken_23 rfl (lv_at hl 0 rfl) ?_
        refine mw_get (C := RX7) (T := TX7) (N := 27) (v := .ref (a 21)) hx hb hts inX7_taken_X7 hown hC hw hm.1 rfl 21 (by decide) k_0 rfl dX7_taken_24 ?_
        refine lv_iload_n hx hb dX7_taken_27 rfl (lv_at hl 1 rfl) ?_
        refine md_ald 21 (n := 2) hx hb hC hw hm rfl (by decide) rfl (by omega) (by decide) dX7_taken_28 ?_
        refine lv_bipush (v := nI 50) hx hb dX7_taken_29 (by decide) ?_
        refine lv_isub hx hb dX7_taken_31 ?_
        refine mw_ti (v' := nI (A 21 ed) - nI 50) (rfl) ?_
        refine lv_icmp_ge (tgt := 39) hx hb dX7_taken_32 (by decide) (fun c_4 => ?_) (fun c_4 => ?_)
        · skip
          refine lv_iconst (v := nI 0) hx hb dX7_taken_39 (by decide) ?_
          refine md_ci hC hw (va_runV (As := [.int (nI (0))]) (rest := []) ⟨hx, hb, hml, hown, hts⟩ (c_X7_refuses l G _ H.size h0 a c u A 0 hm (by omega)) (cwV 1 hts gX7_taken_X7_refuses rfl rfl rfl (by decide +kernel) ⟨Nat.le_of_ble_eq_true rfl, Nat.le_of_ble_eq_true rfl⟩) (mw_preV (ci := 7) hC hw rfl hm.1) rfl rfl hl.1 rfl (lv_room (Nat.le_of_ble_eq_true rfl)) dX7_taken_40 ⟨Nat.le_of_ble_eq_true rfl, Nat.le_of_ble_eq_true rfl⟩) (fun M1 H locs hm hf1 hw => ?_)
          have hf := hf.tr hf1
          refine mw_ti (v' := nI (0)) rfl ?_
          refine lv_if_eq (tgt := 48) hx hb dX7_taken_43 (by decide) (fun c_5 => ?_) (fun c_5 => ?_)
          · skip
            refine lv_bipush (v := nI 50) hx hb dX7_taken_48 (by decide) ?_
            refine lv_iload_n hx hb dX7_taken_50 rfl (lv_at hl 1 rfl) ?_
            refine lv_imul hx hb dX7_taken_51 ?_
            refine mw_ti (v' := nI (50 * ed)) (pk_mul _ _) ?_
            refine lv_iload_n hx hb dX7_taken_52 rfl (lv_at hl 2 rfl) ?_
            refine lv_bipush (v := nI 50) hx hb dX7_taken_53 (by decide) ?_
            refine lv_irem hx hb dX7_taken_55 (by decide) ?_
            refine mw_ti (v' := nI (kk % 50)) (pk_rem (by omega) (by omega) (by omega)) ?_
            refine lv_iadd hx hb dX7_taken_56 ?_
            refine mw_ti (v' := nI (50 * ed + kk % 50)) (nI_add _ _) ?_
            refine lv_istore (lv' := [(4, .int (nI (50 * ed + kk % 50))), (0, .ref (h0)), (1, .int (nI (ed))), (2, .int (nI (kk))), (3, .int (i))]) hx hb dX7_taken_57 hl (by decide) rfl (fun ls hl => ?_)
            refine lv_iload_n hx hb dX7_taken_59 rfl (lv_at hl 4 rfl) ?_
            refine lv_if_lt (tgt := 90) hx hb dX7_taken_60 (by decide) (fun c_6 => ?_) (fun c_6 => ?_)
            · skip
              refine lv_iconst (v := -1) hx hb dX7_taken_90 (by decide) ?_
              exact md_iret hx hb hr hlocks hw hm hf (rfl) dX7_taken_91
            · skip
              exact absurd hb1 c_6
          · skip
            exact absurd c_5 (by decide)
        · skip
          exact absurd ((sub50 ht hkk).mpr hk2) c_4
def RM_X7_taken : Room := { frames := 1, cells := 0, slots := 0, locals := 21 }
set_option maxHeartbeats 4000000 in
set_option maxRecDepth 100000 in
theorem c_X7_taken (l : Launch) (G : mw_G) (M : mw_M) (sz : Nat) (h0 : Nat) (a : Nat → Nat) (c u : Nat) (A : md_S) (ed kk i : Nat) (hm : md_at G M h0 a c u A) (hed : ed ≤ 1) (ht : A 21 ed < 100000) (hkk : kk < 2 ^ 31) (hk1 : kk < A 21 ed) (hk2 : A 21 ed ≤ kk + 50) (hi : i < 2 ^ 31) (hq : A 22 (50 * ed + kk % 50) ≤ 272) : Met l yX7_taken wsX7_taken RM_X7_taken (mw_pre G M sz [.ref (h0), .int (nI (ed)), .int (nI (kk)), .int (nI (i))]) (md_Qi G M sz h0 a (if i < A 22 (50 * ed + kk % 50) then nI (A 23 (272 * (50 * ed + kk % 50) + i)) else -1) 0 u A) 0 0 (mw_A M sz) := by
  refine Met.ofW (cc := cX7_taken) (maxL := 5) (ret := (some .int)) (by decide) rfl ?_
  intro p e s m args below meth c0 s₁ B hml hv
  obtain ⟨rfl, rfl, hC, hw⟩ := mw_in hv
  have hx := B.exec
  have hb := B.bytes
  have hr := B.returns
  have hts := atoms_spec (ws := wsX7_taken) B.pre
  have hown : s.vm.findClass RX7 = some m.cls := findClass_of_methodNamed B.named
  have hlocks := B.notSynchronized
  have hf : md_fr h0 a M M := md_fr.rf
  have k_0 := hts (.fieldLink RX7 72 "LinkPairModel" "takenCount" "[I") (by decide +kernel)
  have k_1 := hts (.fieldLink RX7 75 "LinkPairModel" "takenLength" "[I") (by decide +kernel)
  have k_2 := hts (.fieldLink RX7 78 "LinkPairModel" "takenBytes" "[I") (by decide +kernel)
  have hl := lv_entry ([.ref (h0), .int (nI (ed)), .int (nI (kk)), .int (nI (i))]) (n := 5) (Nat.le_of_ble_eq_true rfl)
  rw [lg_entry_eq]
  generalize (lg_sl ([.ref (h0), .int (nI (ed)), .int (nI (kk)), .int (nI (i))]) ++ List.replicate (5 - (lg_sl ([.ref (h0), .int (nI (ed)), .int (nI (kk)), .int (nI (i))])).length) Slot.unset).toArray = ls at hl ⊢
  have hl : lv_has ls 5 [(0, .ref (h0)), (1, .int (nI (ed))), (2, .int (nI (kk))), (3, .int (nI (i)))] := hl
  refine mw_start (fun H locs hw => ?_) hw
  refine lv_aload_n hx hb dX7_taken_0 rfl (lv_at hl 0 rfl) ?_
  refine lv_iload_n hx hb dX7_taken_1 rfl (lv_at hl 1 rfl) ?_
  refine mw_ci hC hw (va_runS (As := [.int (nI (ed))]) (rest := [.ref (h0)]) ⟨hx, hb, hml, hown, hts⟩ (c_X7_isEnd l G _ H.size ed  (by omega)) (cwS 1 hts gX7_taken_X7_isEnd rfl rfl rfl (by decide +kernel) ⟨Nat.le_of_ble_eq_true rfl, Nat.le_of_ble_eq_true rfl⟩) (mw_preS hC hw) rfl rfl hl.1 rfl (lv_room (Nat.le_of_ble_eq_true rfl)) dX7_taken_2 ⟨Nat.le_of_ble_eq_true rfl, Nat.le_of_ble_eq_true rfl⟩) (fun H locs hz hw => ?_)
  refine lv_if_eq (tgt := 35) hx hb dX7_taken_5 (by decide) (fun c_1 => ?_) (fun c_1 => ?_)
  · skip
    exact absurd c_1 (by decide)
  · skip
    refine lv_iload_n hx hb dX7_taken_8 rfl (lv_at hl 2 rfl) ?_
    refine lv_if_lt (tgt := 35) hx hb dX7_taken_9 (by decide) (fun c_2 => ?_) (fun c_2 => ?_)
    · skip
      have c_2 : kk < 0 := (nI_ltI (a := kk) (b := 0) (by omega) (by omega)).mp c_2
      exfalso; omega
    · skip
      have c_2 : kk ≥ 0 := Nat.not_lt.mp (fun h => c_2 ((nI_ltI (a := kk) (b := 0) (by omega) (by omega)).mpr h))
      refine lv_iload_n hx hb dX7_taken_12 rfl (lv_at hl 2 rfl) ?_
      refine lv_aload_n hx hb dX7_taken_13 rfl (lv_at hl 0 rfl) ?_
      refine mw_get (C := RX7) (T := TX7) (N := 27) (v := .ref (a 21)) hx hb hts inX7_taken_X7 hown hC hw hm.1 rfl 21 (by decide) k_0 rfl dX7_taken_14 ?_
      refine lv_iload_n hx hb dX7_taken_17 rfl (lv_at hl 1 rfl) ?_
      refine md_ald 21 (n := 2) hx hb hC hw hm rfl (by decide) rfl (by omega) (by decide) dX7_taken_18 ?_
      refine lv_icmp_ge (tgt := 35) hx hb dX7_taken_19 (by decide) (fun c_3 => ?_) (fun c_3 => ?_)
      · skip
        have c_3 : kk ≥ A 21 ed := (nI_leI (a := A 21 ed) (b := kk) (by omega) (by omega)).mp c_3
        exfalso; omega
      · skip
        have c_3 : kk < A 21 ed := Nat.not_le.mp (fun h => c_3 ((nI_leI (a := A 21 ed) (b := kk) (by omega) (by omega)).mpr h))
        refine lv_iload_n hx hb dX7_taken_22 rfl (lv_at hl 2 rfl) ?_
        refine lv_aload_n hx hb dX7_taken_23 rfl (lv_at hl 0 rfl) ?_
        refine mw_get (C := RX7) (T := TX7) (N := 27) (v := .ref (a 21)) hx hb hts inX7_taken_X7 hown hC hw hm.1 rfl 21 (by decide) k_0 rfl dX7_taken_24 ?_
        refine lv_iload_n hx hb dX7_taken_27 rfl (lv_at hl 1 rfl) ?_
        refine md_ald 21 (n := 2) hx hb hC hw hm rfl (by decide) rfl (by omega) (by decide) dX7_taken_28 ?_
        refine lv_bipush (v := nI 50) hx hb dX7_taken_29 (by decide) ?_
        refine lv_isub hx hb dX7_taken_31 ?_
        refine mw_ti (v' := nI (A 21 ed) - nI 50) (rfl) ?_
        refine lv_icmp_ge (tgt := 39) hx hb dX7_taken_32 (by decide) (fun c_4 => ?_) (fun c_4 => ?_)
        · skip
          refine lv_iconst (v := nI 0) hx hb dX7_taken_39 (by decide) ?_
          refine md_ci hC hw (va_runV (As := [.int (nI (0))]) (rest := []) ⟨hx, hb, hml, hown, hts⟩ (c_X7_refuses l G _ H.size h0 a c u A 0 hm (by omega)) (cwV 1 hts gX7_taken_X7_refuses rfl rfl rfl (by decide +kernel) ⟨Nat.le_of_ble_eq_true rfl, Nat.le_of_ble_eq_true rfl⟩) (mw_preV (ci := 7) hC hw rfl hm.1) rfl rfl hl.1 rfl (lv_room (Nat.le_of_ble_eq_true rfl)) dX7_taken_40 ⟨Nat.le_of_ble_eq_true rfl, Nat.le_of_ble_eq_true rfl⟩) (fun M1 H locs hm hf1 hw => ?_)
          have hf := hf.tr hf1
          refine mw_ti (v' := nI (0)) rfl ?_
          refine lv_if_eq (tgt := 48) hx hb dX7_taken_43 (by decide) (fun c_5 => ?_) (fun c_5 => ?_)
          · skip
            refine lv_bipush (v := nI 50) hx hb dX7_taken_48 (by decide) ?_
            refine lv_iload_n hx hb dX7_taken_50 rfl (lv_at hl 1 rfl) ?_
            refine lv_imul hx hb dX7_taken_51 ?_
            refine mw_ti (v' := nI (50 * ed)) (pk_mul _ _) ?_
            refine lv_iload_n hx hb dX7_taken_52 rfl (lv_at hl 2 rfl) ?_
            refine lv_bipush (v := nI 50) hx hb dX7_taken_53 (by decide) ?_
            refine lv_irem hx hb dX7_taken_55 (by decide) ?_
            refine mw_ti (v' := nI (kk % 50)) (pk_rem (by omega) (by omega) (by omega)) ?_
            refine lv_iadd hx hb dX7_taken_56 ?_
            refine mw_ti (v' := nI (50 * ed + kk % 50)) (nI_add _ _) ?_
            refine lv_istore (lv' := [(4, .int (nI (50 * ed + kk % 50))), (0, .ref (h0)), (1, .int (nI (ed))), (2, .int (nI (kk))), (3, .int (nI (i)))]) hx hb dX7_taken_57 hl (by decide) rfl (fun ls hl => ?_)
            refine lv_iload_n hx hb dX7_taken_59 rfl (lv_at hl 4 rfl) ?_
            refine lv_if_lt (tgt := 90) hx hb dX7_taken_60 (by decide) (fun c_6 => ?_) (fun c_6 => ?_)
            · skip
              have c_6 : i < 0 := (nI_ltI (a := i) (b := 0) (by omega) (by omega)).mp c_6
              exfalso; omega
            · skip
              have c_6 : i ≥ 0 := Nat.not_lt.mp (fun h => c_6 ((nI_ltI (a := i) (b := 0) (by omega) (by omega)).mpr h))
              refine lv_iload_n hx hb dX7_taken_63 rfl (lv_at hl 4 rfl) ?_
              refine lv_aload_n hx hb dX7_taken_64 rfl (lv_at hl 1 rfl) ?_
              refine mw_get (C := RX7) (T := TX7) (N := 27) (v := .ref (a 22)) hx hb hts inX7_taken_X7 hown hC hw hm.1 rfl 22 (by decide) k_1 rfl dX7_taken_65 ?_
              refine lv_iload hx hb dX7_taken_68 (lv_at hl 0 rfl) ?_
              refine md_ald 22 (n := 100) hx hb hC hw hm rfl (by decide) rfl (by omega) (by decide) dX7_taken_70 ?_
              refine lv_icmp_ge (tgt := 90) hx hb dX7_taken_71 (by decide) (fun c_7 => ?_) (fun c_7 => ?_)
              · skip
                have c_7 : i ≥ A 22 (50 * ed + kk % 50) := (nI_leI (a := A 22 (50 * ed + kk % 50)) (b := i) (by omega) (by omega)).mp c_7
                refine lv_iconst (v := -1) hx hb dX7_taken_90 (by decide) ?_
                exact md_iret hx hb hr hlocks hw hm hf (by first | (rw [if_pos (by omega)]; done) | rw [if_neg (by omega)]) dX7_taken_91
              · skip
                have c_7 : i < A 22 (50 * ed + kk % 50) := Nat.not_le.mp (fun h => c_7 ((nI_leI (a := A 22 (50 * ed + kk % 50)) (b := i) (by omega) (by omega)).mpr h))
                refine lv_aload_n hx hb dX7_taken_74 rfl (lv_at hl 1 rfl) ?_
                refine mw_get (C := RX7) (T := TX7) (N := 27) (v := .ref (a 23)) hx hb hts inX7_taken_X7 hown hC hw hm.1 rfl 23 (by decide) k_2 rfl dX7_taken_75 ?_
                refine lv_sipush (v := nI 272) hx hb dX7_taken_78 (by decide) ?_
                refine lv_iload hx hb dX7_taken_81 (lv_at hl 0 rfl) ?_
                refine lv_imul hx hb dX7_taken_83 ?_
                refine mw_ti (v' := nI (272 * (50 * ed + kk % 50))) (pk_mul _ _) ?_
                refine lv_iload_n hx hb dX7_taken_84 rfl (lv_at hl 4 rfl) ?_
                refine lv_iadd hx hb dX7_taken_85 ?_
                refine mw_ti (v' := nI (272 * (50 * ed + kk % 50) + i)) (nI_add _ _) ?_
                refine md_ald 23 (n := 27200) hx hb hC hw hm rfl (by decide) rfl (by omega) (by decide) dX7_taken_86 ?_
                refine lv_goto (tgt := 91) hx hb dX7_taken_87 (by decide) ?_
                exact md_iret hx hb hr hlocks hw hm hf (by first | (rw [if_pos (by omega)]; done) | rw [if_neg (by omega)]) dX7_taken_91
          · skip
            exact absurd c_5 (by decide)
        · skip
          exact absurd ((sub50 ht hkk).mpr hk2) c_4
