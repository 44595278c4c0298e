/-! ===== LinkPair.put ===== -/
def RM_X6_put_bade : Room := { frames := 7, cells := 1, slots := 6, locals := 102 }
set_option maxHeartbeats 4000000 in
set_option maxRecDepth 100000 in
theorem t_X6_put_bade (l : Launch) (hlt : l.stackTraces = false) (G : mw_G) (M : mw_M) (sz : Nat) (h0 ea hu : Nat) (en : Nat → Option Nat) (ed ln se : Int32) (e0 : M h0 = some (.inr (6, [.ref (ea), .ref (hu)]))) (e1 : M ea = some (.inl (G.2 4, 2, .inr (.inr (.inr (.inr (en))))))) (hb1 : ed < 0 ∨ nI 1 < ed)  : vx_Met l yX6_put wsX6_put RM_X6_put_bade (mw_pre G M sz [.ref (h0), .int (ed), .int (ln), .int (se)]) mw_no (mw_X G M sz exA M) 1 6 (mw_A M sz) := by
  refine vx_ofW (cc := cX6_put) (maxL := 5) (ret := (some .int)) (by decide) rfl ?_
  intro p e s m args below meth c s₁ B hml hex hv
  obtain ⟨rfl, rfl, hC, hw⟩ := mw_in hv
  have hx := B.exec
  have hb := B.bytes
  have hr := B.returns
  have hts := atoms_spec (ws := wsX6_put) B.pre
  have hown : s.vm.findClass RX6 = some m.cls := findClass_of_methodNamed B.named
  have hlocks := B.notSynchronized
  have hl := lv_entry ([.ref (h0), .int (ed), .int (ln), .int (se)]) (n := 5) (Nat.le_of_ble_eq_true rfl)
  rw [lg_entry_eq]
  generalize (lg_sl ([.ref (h0), .int (ed), .int (ln), .int (se)]) ++ List.replicate (5 - (lg_sl ([.ref (h0), .int (ed), .int (ln), .int (se)])).length) Slot.unset).toArray = ls at hl ⊢
  have hl : lv_has ls 5 [(0, .ref (h0)), (1, .int (ed)), (2, .int (ln)), (3, .int (se))] := hl
  refine mw_start (fun H locs hw => ?_) hw
  refine lv_aload_n hx hb dX6_put_0 rfl (lv_at hl 0 rfl) ?_
  refine lv_iload_n hx hb dX6_put_1 rfl (lv_at hl 1 rfl) ?_
  refine mw_ct hC hw (vx_runV (As := [.int (ed)]) (rest := []) ⟨hx, hb, hml, hown, hts⟩ (t_X6_endOf_bad l hlt G _ H.size h0 ea hu en ed e0 e1 (hb1)) (cwV 1 hts gX6_put_X6_endOf rfl rfl rfl (by decide +kernel) ⟨Nat.le_of_ble_eq_true rfl, Nat.le_of_ble_eq_true rfl⟩) (mw_preV (ci := 6) hC hw rfl e0) rfl rfl hl.1 rfl (lv_room (Nat.le_of_ble_eq_true rfl)) dX6_put_2 ⟨Nat.le_of_ble_eq_true rfl, Nat.le_of_ble_eq_true rfl⟩) (fun ce q9 H locs hw hce hcv hcl => ?_)
  exact mw_pass hlocks hex hw hce hcv hcl (Nat.le_of_ble_eq_true rfl) (Nat.le_of_ble_eq_true rfl)
theorem inexA_X6_put : ∀ w ∈ (vx_at0 RX6 29 exA exN).filter goodWord, w ∈ wsX6_put := by decide +kernel
def RM_X6_put_bada : Room := { frames := 6, cells := 1, slots := 6, locals := 81 }
set_option maxHeartbeats 4000000 in
set_option maxRecDepth 100000 in
theorem t_X6_put_bada (l : Launch) (hlt : l.stackTraces = false) (G : mw_G) (M : mw_M) (sz : Nat) (h0 ea hu : Nat) (en : Nat → Option Nat) (ed : Nat) (x li me so fi bi sn tn er un : Nat) (fl al ab : Bool) (ln se : Int32) (e0 : M h0 = some (.inr (6, [.ref (ea), .ref (hu)]))) (e1 : M ea = some (.inl (G.2 4, 2, .inr (.inr (.inr (.inr (en))))))) (e2 : M x = some (.inr (0, [.ref (li), .ref (me), .ref (so), .int (nI (fi)), .int (nI (bi)), .int (nI (sn)), .int (nI (tn)), .int (nI (er)), .int (nI (un)), .int (nI (b2n fl)), .int (nI (b2n al)), .int (nI (b2n ab))]))) (he : ed ≤ 1) (hen : en ed = some x) (hb1 : ln < nI 1 ∨ nI 272 < ln ∨ se < 0 ∨ nI 255 < se)  : vx_Met l yX6_put wsX6_put RM_X6_put_bada (mw_pre G M sz [.ref (h0), .int (nI (ed)), .int (ln), .int (se)]) mw_no (mw_X G M sz exA M) 1 6 (mw_A M sz) := by
  refine vx_ofW (cc := cX6_put) (maxL := 5) (ret := (some .int)) (by decide) rfl ?_
  intro p e s m args below meth c s₁ B hml hex hv
  obtain ⟨rfl, rfl, hC, hw⟩ := mw_in hv
  have hx := B.exec
  have hb := B.bytes
  have hr := B.returns
  have hts := atoms_spec (ws := wsX6_put) B.pre
  have hown : s.vm.findClass RX6 = some m.cls := findClass_of_methodNamed B.named
  have hlocks := B.notSynchronized
  have k_0 := hts (.classLink RX6 27 exA) (by decide +kernel)
  have k_1 := hts (.initialized exA) (by decide +kernel)
  have hl := lv_entry ([.ref (h0), .int (nI (ed)), .int (ln), .int (se)]) (n := 5) (Nat.le_of_ble_eq_true rfl)
  rw [lg_entry_eq]
  generalize (lg_sl ([.ref (h0), .int (nI (ed)), .int (ln), .int (se)]) ++ List.replicate (5 - (lg_sl ([.ref (h0), .int (nI (ed)), .int (ln), .int (se)])).length) Slot.unset).toArray = ls at hl ⊢
  have hl : lv_has ls 5 [(0, .ref (h0)), (1, .int (nI (ed))), (2, .int (ln)), (3, .int (se))] := hl
  refine mw_start (fun H locs hw => ?_) hw
  refine lv_aload_n hx hb dX6_put_0 rfl (lv_at hl 0 rfl) ?_
  refine lv_iload_n hx hb dX6_put_1 rfl (lv_at hl 1 rfl) ?_
  refine mw_cr hC hw (va_runV (As := [.int (nI (ed))]) (rest := []) ⟨hx, hb, hml, hown, hts⟩ (c_X6_endOf l G _ H.size h0 ea hu en ed x e0 e1 (by omega) (hen)) (cwV 1 hts gX6_put_X6_endOf rfl rfl rfl (by decide +kernel) ⟨Nat.le_of_ble_eq_true rfl, Nat.le_of_ble_eq_true rfl⟩) (mw_preV (ci := 6) hC hw rfl e0) rfl rfl hl.1 rfl (lv_room (Nat.le_of_ble_eq_true rfl)) dX6_put_2 ⟨Nat.le_of_ble_eq_true rfl, Nat.le_of_ble_eq_true rfl⟩) (fun H locs hz hw => ?_)
  refine lv_astore (lv' := [(4, .ref (x)), (0, .ref (h0)), (1, .int (nI (ed))), (2, .int (ln)), (3, .int (se))]) hx hb dX6_put_5 hl (by decide) rfl (fun ls hl => ?_)
  refine lv_iload_n hx hb dX6_put_7 rfl (lv_at hl 3 rfl) ?_
  refine lv_iconst (v := nI 1) hx hb dX6_put_8 (by decide) ?_
  refine lv_icmp_lt (tgt := 30) hx hb dX6_put_9 (by decide) (fun c_1 => ?_) (fun c_1 => ?_)
  · skip
    exact mw_throw hx hb hlt hown (by decide +kernel) k_0 k_1 (fun w h => hts w (inexA_X6_put w h)) exA_bad exA_ot hC hw (hl.1.trans hml.symm) hex dX6_put_30 dX6_put_33 dX6_put_34 dX6_put_37 (Nat.le_of_ble_eq_true rfl) (Nat.le_of_ble_eq_true rfl) (Nat.le_of_ble_eq_true rfl) (Nat.le_of_ble_eq_true rfl) hlocks (Nat.le_of_ble_eq_true rfl) (Nat.le_of_ble_eq_true rfl)
  · skip
    refine lv_iload_n hx hb dX6_put_12 rfl (lv_at hl 3 rfl) ?_
    refine lv_sipush (v := nI 272) hx hb dX6_put_13 (by decide) ?_
    refine lv_icmp_gt (tgt := 30) hx hb dX6_put_16 (by decide) (fun c_2 => ?_) (fun c_2 => ?_)
    · skip
      exact mw_throw hx hb hlt hown (by decide +kernel) k_0 k_1 (fun w h => hts w (inexA_X6_put w h)) exA_bad exA_ot hC hw (hl.1.trans hml.symm) hex dX6_put_30 dX6_put_33 dX6_put_34 dX6_put_37 (Nat.le_of_ble_eq_true rfl) (Nat.le_of_ble_eq_true rfl) (Nat.le_of_ble_eq_true rfl) (Nat.le_of_ble_eq_true rfl) hlocks (Nat.le_of_ble_eq_true rfl) (Nat.le_of_ble_eq_true rfl)
    · skip
      refine lv_iload_n hx hb dX6_put_19 rfl (lv_at hl 4 rfl) ?_
      refine lv_if_lt (tgt := 30) hx hb dX6_put_20 (by decide) (fun c_3 => ?_) (fun c_3 => ?_)
      · skip
        exact mw_throw hx hb hlt hown (by decide +kernel) k_0 k_1 (fun w h => hts w (inexA_X6_put w h)) exA_bad exA_ot hC hw (hl.1.trans hml.symm) hex dX6_put_30 dX6_put_33 dX6_put_34 dX6_put_37 (Nat.le_of_ble_eq_true rfl) (Nat.le_of_ble_eq_true rfl) (Nat.le_of_ble_eq_true rfl) (Nat.le_of_ble_eq_true rfl) hlocks (Nat.le_of_ble_eq_true rfl) (Nat.le_of_ble_eq_true rfl)
      · skip
        refine lv_iload_n hx hb dX6_put_23 rfl (lv_at hl 4 rfl) ?_
        refine lv_sipush (v := nI 255) hx hb dX6_put_24 (by decide) ?_
        refine lv_icmp_le (tgt := 38) hx hb dX6_put_27 (by decide) (fun c_4 => ?_) (fun c_4 => ?_)
        · skip
          exact hb1.elim (fun h => absurd h (by assumption)) (fun h => h.elim (fun h => absurd h (by assumption)) (fun h => h.elim (fun h => absurd h (by assumption)) (fun h => absurd c_4 (Int32.not_le.mpr h))))
        · skip
          exact mw_throw hx hb hlt hown (by decide +kernel) k_0 k_1 (fun w h => hts w (inexA_X6_put w h)) exA_bad exA_ot hC hw (hl.1.trans hml.symm) hex dX6_put_30 dX6_put_33 dX6_put_34 dX6_put_37 (Nat.le_of_ble_eq_true rfl) (Nat.le_of_ble_eq_true rfl) (Nat.le_of_ble_eq_true rfl) (Nat.le_of_ble_eq_true rfl) hlocks (Nat.le_of_ble_eq_true rfl) (Nat.le_of_ble_eq_true rfl)
theorem inexS_X6_put : ∀ w ∈ (vx_at0 RX6 46 exS exN).filter goodWord, w ∈ wsX6_put := by decide +kernel
theorem inX6_put_X0 : ∀ w ∈ wsX00, w ∈ wsX6_put := by decide +kernel
theorem inX6_put_X3 : ∀ w ∈ wsX30, w ∈ wsX6_put := by decide +kernel
def RM_X6_put_bads : Room := { frames := 6, cells := 1, slots := 6, locals := 81 }
set_option maxHeartbeats 4000000 in
set_option maxRecDepth 100000 in
theorem t_X6_put_bads (l : Launch) (hlt : l.stackTraces = false) (G : mw_G) (M : mw_M) (sz : Nat) (h0 ea hu : Nat) (en : Nat → Option Nat) (ed : Nat) (x li me so fi bi sn tn er un : Nat) (fl al ab : Bool) (la sa mf mu ma mw : Nat) (ln se : Nat) (e0 : M h0 = some (.inr (6, [.ref (ea), .ref (hu)]))) (e1 : M ea = some (.inl (G.2 4, 2, .inr (.inr (.inr (.inr (en))))))) (e2 : M x = some (.inr (0, [.ref (li), .ref (me), .ref (so), .int (nI (fi)), .int (nI (bi)), .int (nI (sn)), .int (nI (tn)), .int (nI (er)), .int (nI (un)), .int (nI (b2n fl)), .int (nI (b2n al)), .int (nI (b2n ab))]))) (e3 : M me = some (.inr (3, [.ref (la), .ref (sa), .int (nI (mf)), .int (nI (mu)), .int (nI (ma)), .int (nI (mw))]))) (he : ed ≤ 1) (hen : en ed = some x) (hln : 1 ≤ ln) (hln2 : ln ≤ 272) (hse : se ≤ 255) (hmw : mw ≤ 60) (hb1 : fl = true ∨ mw = 60)  : vx_Met l yX6_put wsX6_put RM_X6_put_bads (mw_pre G M sz [.ref (h0), .int (nI (ed)), .int (nI (ln)), .int (nI (se))]) mw_no (mw_X G M sz exS M) 1 6 (mw_A M sz) := by
  refine vx_ofW (cc := cX6_put) (maxL := 5) (ret := (some .int)) (by decide) rfl ?_
  intro p e s m args below meth c s₁ B hml hex hv
  obtain ⟨rfl, rfl, hC, hw⟩ := mw_in hv
  have hx := B.exec
  have hb := B.bytes
  have hr := B.returns
  have hts := atoms_spec (ws := wsX6_put) B.pre
  have hown : s.vm.findClass RX6 = some m.cls := findClass_of_methodNamed B.named
  have hlocks := B.notSynchronized
  have k_0 := hts (.classLink RX6 44 exS) (by decide +kernel)
  have k_1 := hts (.initialized exS) (by decide +kernel)
  have hl := lv_entry ([.ref (h0), .int (nI (ed)), .int (nI (ln)), .int (nI (se))]) (n := 5) (Nat.le_of_ble_eq_true rfl)
  rw [lg_entry_eq]
  generalize (lg_sl ([.ref (h0), .int (nI (ed)), .int (nI (ln)), .int (nI (se))]) ++ List.replicate (5 - (lg_sl ([.ref (h0), .int (nI (ed)), .int (nI (ln)), .int (nI (se))])).length) Slot.unset).toArray = ls at hl ⊢
  have hl : lv_has ls 5 [(0, .ref (h0)), (1, .int (nI (ed))), (2, .int (nI (ln))), (3, .int (nI (se)))] := hl
  refine mw_start (fun H locs hw => ?_) hw
  refine lv_aload_n hx hb dX6_put_0 rfl (lv_at hl 0 rfl) ?_
  refine lv_iload_n hx hb dX6_put_1 rfl (lv_at hl 1 rfl) ?_
  refine mw_cr hC hw (va_runV (As := [.int (nI (ed))]) (rest := []) ⟨hx, hb, hml, hown, hts⟩ (c_X6_endOf l G _ H.size h0 ea hu en ed x e0 e1 (by omega) (hen)) (cwV 1 hts gX6_put_X6_endOf rfl rfl rfl (by decide +kernel) ⟨Nat.le_of_ble_eq_true rfl, Nat.le_of_ble_eq_true rfl⟩) (mw_preV (ci := 6) hC hw rfl e0) rfl rfl hl.1 rfl (lv_room (Nat.le_of_ble_eq_true rfl)) dX6_put_2 ⟨Nat.le_of_ble_eq_true rfl, Nat.le_of_ble_eq_true rfl⟩) (fun H locs hz hw => ?_)
  refine lv_astore (lv' := [(4, .ref (x)), (0, .ref (h0)), (1, .int (nI (ed))), (2, .int (nI (ln))), (3, .int (nI (se)))]) hx hb dX6_put_5 hl (by decide) rfl (fun ls hl => ?_)
  refine lv_iload_n hx hb dX6_put_7 rfl (lv_at hl 3 rfl) ?_
  refine lv_iconst (v := nI 1) hx hb dX6_put_8 (by decide) ?_
  refine lv_icmp_lt (tgt := 30) hx hb dX6_put_9 (by decide) (fun c_1 => ?_) (fun c_1 => ?_)
  · skip
    have c_1 : ln < 1 := (nI_ltI (a := ln) (b := 1) (by omega) (by omega)).mp c_1
    exfalso; omega
  · skip
    have c_1 : ln ≥ 1 := Nat.not_lt.mp (fun h => c_1 ((nI_ltI (a := ln) (b := 1) (by omega) (by omega)).mpr h))
    refine lv_iload_n hx hb dX6_put_12 rfl (lv_at hl 3 rfl) ?_
    refine lv_sipush (v := nI 272) hx hb dX6_put_13 (by decide) ?_
    refine lv_icmp_gt (tgt := 30) hx hb dX6_put_16 (by decide) (fun c_2 => ?_) (fun c_2 => ?_)
    · skip
      have c_2 : ln > 272 := (nI_ltI (a := 272) (b := ln) (by omega) (by omega)).mp c_2
      exfalso; omega
    · skip
      have c_2 : ln ≤ 272 := Nat.not_lt.mp (fun h => c_2 ((nI_ltI (a := 272) (b := ln) (by omega) (by omega)).mpr h))
      refine lv_iload_n hx hb dX6_put_19 rfl (lv_at hl 4 rfl) ?_
      refine lv_if_lt (tgt := 30) hx hb dX6_put_20 (by decide) (fun c_3 => ?_) (fun c_3 => ?_)
      · skip
        have c_3 : se < 0 := (nI_ltI (a := se) (b := 0) (by omega) (by omega)).mp c_3
        exfalso; omega
      · skip
        have c_3 : se ≥ 0 := Nat.not_lt.mp (fun h => c_3 ((nI_ltI (a := se) (b := 0) (by omega) (by omega)).mpr h))
        refine lv_iload_n hx hb dX6_put_23 rfl (lv_at hl 4 rfl) ?_
        refine lv_sipush (v := nI 255) hx hb dX6_put_24 (by decide) ?_
        refine lv_icmp_le (tgt := 38) hx hb dX6_put_27 (by decide) (fun c_4 => ?_) (fun c_4 => ?_)
        · skip
          have c_4 : se ≤ 255 := (nI_leI (a := se) (b := 255) (by omega) (by omega)).mp c_4
          refine lv_aload hx hb dX6_put_38 (lv_at hl 0 rfl) ?_
          refine mw_getN (C := RX0) (T := TX0) (N := 12) (v := .int (nI (b2n fl))) hx hb hts inX6_put_X0 hown hC hw e2 rfl 9 (by decide) (show Cond.fieldLinkNest RX6 30 (TX0 9).1 (TX0 9).2.1 (TX0 9).2.2.1 "LinkPair" ∈ mw_nestF by decide +kernel) rfl dX6_put_40 ?_
          have hbz := b2n_le fl
          refine lv_if_ne (tgt := 59) hx hb dX6_put_43 (by decide) (fun c_5 => ?_) (fun c_5 => ?_)
          · skip
            have c_5 : b2n fl ≠ 0 := fun h => c_5 ((nI_eq (a := b2n fl) (b := 0) (by omega) (by omega)).mpr h)
            exact mw_throw hx hb hlt hown (by decide +kernel) k_0 k_1 (fun w h => hts w (inexS_X6_put w h)) exS_bad exS_ot hC hw (hl.1.trans hml.symm) hex dX6_put_59 dX6_put_62 dX6_put_63 dX6_put_66 (Nat.le_of_ble_eq_true rfl) (Nat.le_of_ble_eq_true rfl) (Nat.le_of_ble_eq_true rfl) (Nat.le_of_ble_eq_true rfl) hlocks (Nat.le_of_ble_eq_true rfl) (Nat.le_of_ble_eq_true rfl)
          · skip
            have c_5 : b2n fl = 0 := (nI_eq (a := b2n fl) (b := 0) (by omega) (by omega)).mp c_5
            refine lv_aload hx hb dX6_put_46 (lv_at hl 0 rfl) ?_
            refine mw_getN (C := RX0) (T := TX0) (N := 12) (v := .ref (me)) hx hb hts inX6_put_X0 hown hC hw e2 rfl 1 (by decide) (show Cond.fieldLinkNest RX6 34 (TX0 1).1 (TX0 1).2.1 (TX0 1).2.2.1 "LinkPair" ∈ mw_nestF by decide +kernel) rfl dX6_put_48 ?_
            refine mw_getN (C := RX3) (T := TX3) (N := 6) (v := .int (nI (mw))) hx hb hts inX6_put_X3 hown hC hw e3 rfl 5 (by decide) (show Cond.fieldLinkNest RX6 38 (TX3 5).1 (TX3 5).2.1 (TX3 5).2.2.1 "LinkPair" ∈ mw_nestF by decide +kernel) rfl dX6_put_51 ?_
            refine lv_bipush (v := nI 60) hx hb dX6_put_54 (by decide) ?_
            refine lv_icmp_ne (tgt := 67) hx hb dX6_put_56 (by decide) (fun c_6 => ?_) (fun c_6 => ?_)
            · skip
              have c_6 : mw ≠ 60 := fun h => c_6 ((nI_eq (a := mw) (b := 60) (by omega) (by omega)).mpr h)
              exact hb1.elim (fun h => by rw [h] at *; simp_all [b2n]) (fun h => by omega)
            · skip
              have c_6 : mw = 60 := (nI_eq (a := mw) (b := 60) (by omega) (by omega)).mp c_6
              exact mw_throw hx hb hlt hown (by decide +kernel) k_0 k_1 (fun w h => hts w (inexS_X6_put w h)) exS_bad exS_ot hC hw (hl.1.trans hml.symm) hex dX6_put_59 dX6_put_62 dX6_put_63 dX6_put_66 (Nat.le_of_ble_eq_true rfl) (Nat.le_of_ble_eq_true rfl) (Nat.le_of_ble_eq_true rfl) (Nat.le_of_ble_eq_true rfl) hlocks (Nat.le_of_ble_eq_true rfl) (Nat.le_of_ble_eq_true rfl)
        · skip
          have c_4 : se > 255 := Nat.not_le.mp (fun h => c_4 ((nI_leI (a := se) (b := 255) (by omega) (by omega)).mpr h))
          exfalso; omega
def RM_X6_put : Room := { frames := 2, cells := 0, slots := 0, locals := 44 }
set_option maxHeartbeats 4000000 in
set_option maxRecDepth 100000 in
theorem c_X6_put (l : Launch) (G : mw_G) (M : mw_M) (sz : Nat) (h0 ea hu : Nat) (en : Nat → Option Nat) (ed : Nat) (x li me so fi bi sn tn er un : Nat) (fl al ab : Bool) (la sa mf mu ma mw : Nat) (lg sd : Nat → Nat) (ln se : Nat) (e0 : M h0 = some (.inr (6, [.ref (ea), .ref (hu)]))) (e1 : M ea = some (.inl (G.2 4, 2, .inr (.inr (.inr (.inr (en))))))) (e2 : M x = some (.inr (0, [.ref (li), .ref (me), .ref (so), .int (nI (fi)), .int (nI (bi)), .int (nI (sn)), .int (nI (tn)), .int (nI (er)), .int (nI (un)), .int (nI (b2n fl)), .int (nI (b2n al)), .int (nI (b2n ab))]))) (e3 : M me = some (.inr (3, [.ref (la), .ref (sa), .int (nI (mf)), .int (nI (mu)), .int (nI (ma)), .int (nI (mw))]))) (e4 : M la = some (.inl (G.2 1, 187, .inl (fun j => nI (lg j))))) (e5 : M sa = some (.inl (G.2 1, 187, .inl (fun j => nI (sd j))))) (he : ed ≤ 1) (hen : en ed = some x) (hln : 1 ≤ ln) (hln2 : ln ≤ 272) (hse : se ≤ 255) (hmf : mf < 187) (hmu : mu ≤ 127) (hmw : mw < 60) (hfl : fl = false) (nlasa : la ≠ sa) : Met l yX6_put wsX6_put RM_X6_put (mw_pre G M sz [.ref (h0), .int (nI (ed)), .int (nI (ln)), .int (nI (se))]) (mw_Qi G M sz (nI (mw + 1)) (va_up (va_up (va_up M me (some (.inr (3, [.ref (la), .ref (sa), .int (nI (mf)), .int (nI (mu)), .int (nI (ma)), .int (nI (mw + 1))])))) la (some (.inl (G.2 1, 187, .inl (fun j => nI ((va_up lg ((mf + (mu + mw)) % 187) ln) j)))))) sa (some (.inl (G.2 1, 187, .inl (fun j => nI ((va_up sd ((mf + (mu + mw)) % 187) se) j))))))) 0 0 (mw_A M sz) := by
  refine Met.ofW (cc := cX6_put) (maxL := 5) (ret := (some .int)) (by decide) rfl ?_
  intro p e s m args below meth c s₁ B hml hv
  obtain ⟨rfl, rfl, hC, hw⟩ := mw_in hv
  have hx := B.exec
  have hb := B.bytes
  have hr := B.returns
  have hts := atoms_spec (ws := wsX6_put) B.pre
  have hown : s.vm.findClass RX6 = some m.cls := findClass_of_methodNamed B.named
  have hlocks := B.notSynchronized
  have m2_3 : x ≠ me := mw_ne e2 e3 (by intro h9; cases h9)
  have m2_4 : x ≠ la := mw_ne e2 e4 (by intro h9; cases h9)
  have m2_5 : x ≠ sa := mw_ne e2 e5 (by intro h9; cases h9)
  have m3_4 : me ≠ la := mw_ne e3 e4 (by intro h9; cases h9)
  have m3_5 : me ≠ sa := mw_ne e3 e5 (by intro h9; cases h9)
  have hl := lv_entry ([.ref (h0), .int (nI (ed)), .int (nI (ln)), .int (nI (se))]) (n := 5) (Nat.le_of_ble_eq_true rfl)
  rw [lg_entry_eq]
  generalize (lg_sl ([.ref (h0), .int (nI (ed)), .int (nI (ln)), .int (nI (se))]) ++ List.replicate (5 - (lg_sl ([.ref (h0), .int (nI (ed)), .int (nI (ln)), .int (nI (se))])).length) Slot.unset).toArray = ls at hl ⊢
  have hl : lv_has ls 5 [(0, .ref (h0)), (1, .int (nI (ed))), (2, .int (nI (ln))), (3, .int (nI (se)))] := hl
  refine mw_start (fun H locs hw => ?_) hw
  refine lv_aload_n hx hb dX6_put_0 rfl (lv_at hl 0 rfl) ?_
  refine lv_iload_n hx hb dX6_put_1 rfl (lv_at hl 1 rfl) ?_
  refine mw_cr hC hw (va_runV (As := [.int (nI (ed))]) (rest := []) ⟨hx, hb, hml, hown, hts⟩ (c_X6_endOf l G _ H.size h0 ea hu en ed x e0 e1 (by omega) (hen)) (cwV 1 hts gX6_put_X6_endOf rfl rfl rfl (by decide +kernel) ⟨Nat.le_of_ble_eq_true rfl, Nat.le_of_ble_eq_true rfl⟩) (mw_preV (ci := 6) hC hw rfl e0) rfl rfl hl.1 rfl (lv_room (Nat.le_of_ble_eq_true rfl)) dX6_put_2 ⟨Nat.le_of_ble_eq_true rfl, Nat.le_of_ble_eq_true rfl⟩) (fun H locs hz hw => ?_)
  refine lv_astore (lv' := [(4, .ref (x)), (0, .ref (h0)), (1, .int (nI (ed))), (2, .int (nI (ln))), (3, .int (nI (se)))]) hx hb dX6_put_5 hl (by decide) rfl (fun ls hl => ?_)
  refine lv_iload_n hx hb dX6_put_7 rfl (lv_at hl 3 rfl) ?_
  refine lv_iconst (v := nI 1) hx hb dX6_put_8 (by decide) ?_
  refine lv_icmp_lt (tgt := 30) hx hb dX6_put_9 (by decide) (fun c_1 => ?_) (fun c_1 => ?_)
  · skip
    have c_1 : ln < 1 := (nI_ltI (a := ln) (b := 1) (by omega) (by omega)).mp c_1
    exfalso; omega
  · skip
    have c_1 : ln ≥ 1 := Nat.not_lt.mp (fun h => c_1 ((nI_ltI (a := ln) (b := 1) (by omega) (by omega)).mpr h))
    refine lv_iload_n hx hb dX6_put_12 rfl (lv_at hl 3 rfl) ?_
    refine lv_sipush (v := nI 272) hx hb dX6_put_13 (by decide) ?_
    refine lv_icmp_gt (tgt := 30) hx hb dX6_put_16 (by decide) (fun c_2 => ?_) (fun c_2 => ?_)
    · skip
      have c_2 : ln > 272 := (nI_ltI (a := 272) (b := ln) (by omega) (by omega)).mp c_2
      exfalso; omega
    · skip
      have c_2 : ln ≤ 272 := Nat.not_lt.mp (fun h => c_2 ((nI_ltI (a := 272) (b := ln) (by omega) (by omega)).mpr h))
      refine lv_iload_n hx hb dX6_put_19 rfl (lv_at hl 4 rfl) ?_
      refine lv_if_lt (tgt := 30) hx hb dX6_put_20 (by decide) (fun c_3 => ?_) (fun c_3 => ?_)
      · skip
        have c_3 : se < 0 := (nI_ltI (a := se) (b := 0) (by omega) (by omega)).mp c_3
        exfalso; omega
      · skip
        have c_3 : se ≥ 0 := Nat.not_lt.mp (fun h => c_3 ((nI_ltI (a := se) (b := 0) (by omega) (by omega)).mpr h))
        refine lv_iload_n hx hb dX6_put_23 rfl (lv_at hl 4 rfl) ?_
        refine lv_sipush (v := nI 255) hx hb dX6_put_24 (by decide) ?_
        refine lv_icmp_le (tgt := 38) hx hb dX6_put_27 (by decide) (fun c_4 => ?_) (fun c_4 => ?_)
        · skip
          have c_4 : se ≤ 255 := (nI_leI (a := se) (b := 255) (by omega) (by omega)).mp c_4
          refine lv_aload hx hb dX6_put_38 (lv_at hl 0 rfl) ?_
          refine mw_getN (C := RX0) (T := TX0) (N := 12) (v := .int (nI (b2n fl))) hx hb hts inX6_put_X0 hown hC hw e2 rfl 9 (by decide) (show Cond.fieldLinkNest RX6 30 (TX0 9).1 (TX0 9).2.1 (TX0 9).2.2.1 "LinkPair" ∈ mw_nestF by decide +kernel) rfl dX6_put_40 ?_
          have hbz := b2n_le fl
          refine lv_if_ne (tgt := 59) hx hb dX6_put_43 (by decide) (fun c_5 => ?_) (fun c_5 => ?_)
          · skip
            have c_5 : b2n fl ≠ 0 := fun h => c_5 ((nI_eq (a := b2n fl) (b := 0) (by omega) (by omega)).mpr h)
            exfalso; rw [hfl] at *; simp_all [b2n]
          · skip
            have c_5 : b2n fl = 0 := (nI_eq (a := b2n fl) (b := 0) (by omega) (by omega)).mp c_5
            refine lv_aload hx hb dX6_put_46 (lv_at hl 0 rfl) ?_
            refine mw_getN (C := RX0) (T := TX0) (N := 12) (v := .ref (me)) hx hb hts inX6_put_X0 hown hC hw e2 rfl 1 (by decide) (show Cond.fieldLinkNest RX6 34 (TX0 1).1 (TX0 1).2.1 (TX0 1).2.2.1 "LinkPair" ∈ mw_nestF by decide +kernel) rfl dX6_put_48 ?_
            refine mw_getN (C := RX3) (T := TX3) (N := 6) (v := .int (nI (mw))) hx hb hts inX6_put_X3 hown hC hw e3 rfl 5 (by decide) (show Cond.fieldLinkNest RX6 38 (TX3 5).1 (TX3 5).2.1 (TX3 5).2.2.1 "LinkPair" ∈ mw_nestF by decide +kernel) rfl dX6_put_51 ?_
            refine lv_bipush (v := nI 60) hx hb dX6_put_54 (by decide) ?_
            refine lv_icmp_ne (tgt := 67) hx hb dX6_put_56 (by decide) (fun c_6 => ?_) (fun c_6 => ?_)
            · skip
              have c_6 : mw ≠ 60 := fun h => c_6 ((nI_eq (a := mw) (b := 60) (by omega) (by omega)).mpr h)
              refine lv_aload hx hb dX6_put_67 (lv_at hl 0 rfl) ?_
              refine mw_getN (C := RX0) (T := TX0) (N := 12) (v := .ref (me)) hx hb hts inX6_put_X0 hown hC hw e2 rfl 1 (by decide) (show Cond.fieldLinkNest RX6 34 (TX0 1).1 (TX0 1).2.1 (TX0 1).2.2.1 "LinkPair" ∈ mw_nestF by decide +kernel) rfl dX6_put_69 ?_
              refine lv_iload_n hx hb dX6_put_72 rfl (lv_at hl 3 rfl) ?_
              refine lv_iload_n hx hb dX6_put_73 rfl (lv_at hl 4 rfl) ?_
              refine mw_cv hC hw (va_runV (As := [.int (nI (ln)), .int (nI (se))]) (rest := []) ⟨hx, hb, hml, hown, hts⟩ (c_X3_join l G _ H.size me la sa mf mu ma mw lg sd ln se e3 e4 e5 (by omega) (by omega) (by omega) nlasa) (cwV 2 hts gX6_put_X3_join rfl rfl rfl (by decide +kernel) ⟨Nat.le_of_ble_eq_true rfl, Nat.le_of_ble_eq_true rfl⟩) (mw_preV (ci := 3) hC hw rfl e3) rfl rfl hl.1 rfl (lv_room (Nat.le_of_ble_eq_true rfl)) dX6_put_74 ⟨Nat.le_of_ble_eq_true rfl, Nat.le_of_ble_eq_true rfl⟩) (fun H locs hz hw => ?_)
              refine lv_aload hx hb dX6_put_77 (lv_at hl 0 rfl) ?_
              refine mw_getN (C := RX0) (T := TX0) (N := 12) (v := .ref (me)) hx hb hts inX6_put_X0 hown hC hw (mw_u1 m2_5 (mw_u1 m2_4 (mw_u1 m2_3 e2))) rfl 1 (by decide) (show Cond.fieldLinkNest RX6 34 (TX0 1).1 (TX0 1).2.1 (TX0 1).2.2.1 "LinkPair" ∈ mw_nestF by decide +kernel) rfl dX6_put_79 ?_
              refine mw_getN (C := RX3) (T := TX3) (N := 6) (v := .int (nI (mw + 1))) hx hb hts inX6_put_X3 hown hC hw (mw_u1 m3_5 (mw_u1 m3_4 mw_u0)) rfl 5 (by decide) (show Cond.fieldLinkNest RX6 38 (TX3 5).1 (TX3 5).2.1 (TX3 5).2.2.1 "LinkPair" ∈ mw_nestF by decide +kernel) rfl dX6_put_82 ?_
              exact mw_iret hx hb hr hlocks hw (rfl) (fun _ _ h9 => h9) dX6_put_85
            · skip
              have c_6 : mw = 60 := (nI_eq (a := mw) (b := 60) (by omega) (by omega)).mp c_6
              exfalso; omega
        · skip
          have c_4 : se > 255 := Nat.not_le.mp (fun h => c_4 ((nI_leI (a := se) (b := 255) (by omega) (by omega)).mpr h))
          exfalso; omega
