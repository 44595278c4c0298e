/-! ===== LinkPair.bits ===== -/
def RM_X6_bits_bade : Room := { frames := 7, cells := 1, slots := 6, locals := 102 }
set_option maxHeartbeats 4000000 in
set_option maxRecDepth 100000 in
theorem t_X6_bits_bade (l : Launch) (hlt : l.stackTraces = false) (G : mw_G) (M : mw_M) (sz : Nat) (h0 ea hu : Nat) (en : Nat → Option Nat) (ed : Int32) (wv : Int64) (nb fz : Int32) (e0 : M h0 = some (.inr (6, [.ref (ea), .ref (hu)]))) (e1 : M ea = some (.inl (G.2 4, 2, .inr (.inr (.inr (.inr (en))))))) (hb1 : ed < 0 ∨ nI 1 < ed)  : vx_Met l yX6_bits wsX6_bits RM_X6_bits_bade (mw_pre G M sz [.ref (h0), .int (ed), .long (wv), .int (nb), .int (fz)]) mw_no (mw_X G M sz exA M) 1 6 (mw_A M sz) := by
  refine vx_ofW (cc := cX6_bits) (maxL := 10) (ret := (some .int)) (by decide) rfl ?_
  intro p e s m args below meth c s₁ B hml hex hv
  obtain ⟨rfl, rfl, hC, hw⟩ := mw_in hv
  have hx := B.exec
  have hb := B.bytes
  have hr := B.returns
  have hts := atoms_spec (ws := wsX6_bits) B.pre
  have hown : s.vm.findClass RX6 = some m.cls := findClass_of_methodNamed B.named
  have hlocks := B.notSynchronized
  have hl := lv_entry ([.ref (h0), .int (ed), .long (wv), .int (nb), .int (fz)]) (n := 10) (Nat.le_of_ble_eq_true rfl)
  rw [lg_entry_eq]
  generalize (lg_sl ([.ref (h0), .int (ed), .long (wv), .int (nb), .int (fz)]) ++ List.replicate (10 - (lg_sl ([.ref (h0), .int (ed), .long (wv), .int (nb), .int (fz)])).length) Slot.unset).toArray = ls at hl ⊢
  have hl : lv_has ls 10 [(0, .ref (h0)), (1, .int (ed)), (2, .long (wv)), (4, .int (nb)), (5, .int (fz))] := hl
  refine mw_start (fun H locs hw => ?_) hw
  refine lv_aload_n hx hb dX6_bits_0 rfl (lv_at hl 0 rfl) ?_
  refine lv_iload_n hx hb dX6_bits_1 rfl (lv_at hl 1 rfl) ?_
  refine mw_ct hC hw (vx_runV (As := [.int (ed)]) (rest := []) ⟨hx, hb, hml, hown, hts⟩ (t_X6_endOf_bad l hlt G _ H.size h0 ea hu en ed e0 e1 (hb1)) (cwV 1 hts gX6_bits_X6_endOf rfl rfl rfl (by decide +kernel) ⟨Nat.le_of_ble_eq_true rfl, Nat.le_of_ble_eq_true rfl⟩) (mw_preV (ci := 6) hC hw rfl e0) rfl rfl hl.1 rfl (lv_room (Nat.le_of_ble_eq_true rfl)) dX6_bits_2 ⟨Nat.le_of_ble_eq_true rfl, Nat.le_of_ble_eq_true rfl⟩) (fun ce q9 H locs hw hce hcv hcl => ?_)
  exact mw_pass hlocks hex hw hce hcv hcl (Nat.le_of_ble_eq_true rfl) (Nat.le_of_ble_eq_true rfl)
theorem inexA_X6_bits : ∀ w ∈ (vx_at0 RX6 29 exA exN).filter goodWord, w ∈ wsX6_bits := by decide +kernel
theorem inX6_bits_X0 : ∀ w ∈ wsX00, w ∈ wsX6_bits := by decide +kernel
def RM_X6_bits_badn : Room := { frames := 6, cells := 1, slots := 6, locals := 81 }
set_option maxHeartbeats 4000000 in
set_option maxRecDepth 100000 in
theorem t_X6_bits_badn (l : Launch) (hlt : l.stackTraces = false) (G : mw_G) (M : mw_M) (sz : Nat) (h0 ea hu : Nat) (en : Nat → Option Nat) (ed : Nat) (x li me so fi bi sn tn er un : Nat) (fl al ab : Bool) (fa n : Nat) (fr : Nat → Option Nat) (wv : Int64) (nb fz : Int32) (e0 : M h0 = some (.inr (6, [.ref (ea), .ref (hu)]))) (e1 : M ea = some (.inl (G.2 4, 2, .inr (.inr (.inr (.inr (en))))))) (e2 : M x = some (.inr (0, [.ref (li), .ref (me), .ref (so), .int (nI (fi)), .int (nI (bi)), .int (nI (sn)), .int (nI (tn)), .int (nI (er)), .int (nI (un)), .int (nI (b2n fl)), .int (nI (b2n al)), .int (nI (b2n ab))]))) (e3 : M li = some (.inr (2, [.ref (fa), .int (nI (n))]))) (e4 : M fa = some (.inl (G.2 5, 40, .inr (.inr (.inr (.inr (fr))))))) (he : ed ≤ 1) (hen : en ed = some x) (hb1 : nb < nI 1 ∨ nI 64 < nb)  : vx_Met l yX6_bits wsX6_bits RM_X6_bits_badn (mw_pre G M sz [.ref (h0), .int (nI (ed)), .long (wv), .int (nb), .int (fz)]) mw_no (mw_X G M sz exA M) 1 6 (mw_A M sz) := by
  refine vx_ofW (cc := cX6_bits) (maxL := 10) (ret := (some .int)) (by decide) rfl ?_
  intro p e s m args below meth c s₁ B hml hex hv
  obtain ⟨rfl, rfl, hC, hw⟩ := mw_in hv
  have hx := B.exec
  have hb := B.bytes
  have hr := B.returns
  have hts := atoms_spec (ws := wsX6_bits) B.pre
  have hown : s.vm.findClass RX6 = some m.cls := findClass_of_methodNamed B.named
  have hlocks := B.notSynchronized
  have k_0 := hts (.classLink RX6 27 exA) (by decide +kernel)
  have k_1 := hts (.initialized exA) (by decide +kernel)
  have hl := lv_entry ([.ref (h0), .int (nI (ed)), .long (wv), .int (nb), .int (fz)]) (n := 10) (Nat.le_of_ble_eq_true rfl)
  rw [lg_entry_eq]
  generalize (lg_sl ([.ref (h0), .int (nI (ed)), .long (wv), .int (nb), .int (fz)]) ++ List.replicate (10 - (lg_sl ([.ref (h0), .int (nI (ed)), .long (wv), .int (nb), .int (fz)])).length) Slot.unset).toArray = ls at hl ⊢
  have hl : lv_has ls 10 [(0, .ref (h0)), (1, .int (nI (ed))), (2, .long (wv)), (4, .int (nb)), (5, .int (fz))] := hl
  refine mw_start (fun H locs hw => ?_) hw
  refine lv_aload_n hx hb dX6_bits_0 rfl (lv_at hl 0 rfl) ?_
  refine lv_iload_n hx hb dX6_bits_1 rfl (lv_at hl 1 rfl) ?_
  refine mw_cr hC hw (va_runV (As := [.int (nI (ed))]) (rest := []) ⟨hx, hb, hml, hown, hts⟩ (c_X6_endOf l G _ H.size h0 ea hu en ed x e0 e1 (by omega) (hen)) (cwV 1 hts gX6_bits_X6_endOf rfl rfl rfl (by decide +kernel) ⟨Nat.le_of_ble_eq_true rfl, Nat.le_of_ble_eq_true rfl⟩) (mw_preV (ci := 6) hC hw rfl e0) rfl rfl hl.1 rfl (lv_room (Nat.le_of_ble_eq_true rfl)) dX6_bits_2 ⟨Nat.le_of_ble_eq_true rfl, Nat.le_of_ble_eq_true rfl⟩) (fun H locs hz hw => ?_)
  refine mw_getN (C := RX0) (T := TX0) (N := 12) (v := .ref (li)) hx hb hts inX6_bits_X0 hown hC hw e2 rfl 0 (by decide) (show Cond.fieldLinkNest RX6 51 (TX0 0).1 (TX0 0).2.1 (TX0 0).2.2.1 "LinkPair" ∈ mw_nestF by decide +kernel) rfl dX6_bits_5 ?_
  refine lv_astore (lv' := [(6, .ref (li)), (0, .ref (h0)), (1, .int (nI (ed))), (2, .long (wv)), (4, .int (nb)), (5, .int (fz))]) hx hb dX6_bits_8 hl (by decide) rfl (fun ls hl => ?_)
  refine lv_iload hx hb dX6_bits_10 (lv_at hl 4 rfl) ?_
  refine lv_iconst (v := nI 1) hx hb dX6_bits_12 (by decide) ?_
  refine lv_icmp_lt (tgt := 23) hx hb dX6_bits_13 (by decide) (fun c_1 => ?_) (fun c_1 => ?_)
  · skip
    exact mw_throw hx hb hlt hown (by decide +kernel) k_0 k_1 (fun w h => hts w (inexA_X6_bits w h)) exA_bad exA_ot hC hw (hl.1.trans hml.symm) hex dX6_bits_23 dX6_bits_26 dX6_bits_27 dX6_bits_30 (Nat.le_of_ble_eq_true rfl) (Nat.le_of_ble_eq_true rfl) (Nat.le_of_ble_eq_true rfl) (Nat.le_of_ble_eq_true rfl) hlocks (Nat.le_of_ble_eq_true rfl) (Nat.le_of_ble_eq_true rfl)
  · skip
    refine lv_iload hx hb dX6_bits_16 (lv_at hl 4 rfl) ?_
    refine lv_bipush (v := nI 64) hx hb dX6_bits_18 (by decide) ?_
    refine lv_icmp_le (tgt := 31) hx hb dX6_bits_20 (by decide) (fun c_2 => ?_) (fun c_2 => ?_)
    · skip
      exact hb1.elim (fun h => absurd h (by assumption)) (fun h => absurd c_2 (Int32.not_le.mpr h))
    · skip
      exact mw_throw hx hb hlt hown (by decide +kernel) k_0 k_1 (fun w h => hts w (inexA_X6_bits w h)) exA_bad exA_ot hC hw (hl.1.trans hml.symm) hex dX6_bits_23 dX6_bits_26 dX6_bits_27 dX6_bits_30 (Nat.le_of_ble_eq_true rfl) (Nat.le_of_ble_eq_true rfl) (Nat.le_of_ble_eq_true rfl) (Nat.le_of_ble_eq_true rfl) hlocks (Nat.le_of_ble_eq_true rfl) (Nat.le_of_ble_eq_true rfl)
theorem inexS_X6_bits : ∀ w ∈ (vx_at0 RX6 46 exS exN).filter goodWord, w ∈ wsX6_bits := by decide +kernel
theorem inX6_bits_X2 : ∀ w ∈ wsX20, w ∈ wsX6_bits := by decide +kernel
def RM_X6_bits_full : Room := { frames := 6, cells := 1, slots := 6, locals := 81 }
set_option maxHeartbeats 4000000 in
set_option maxRecDepth 100000 in
theorem t_X6_bits_full (l : Launch) (hlt : l.stackTraces = false) (G : mw_G) (M : mw_M) (sz : Nat) (h0 ea hu : Nat) (en : Nat → Option Nat) (ed : Nat) (x li me so fi bi sn tn er un : Nat) (fl al ab : Bool) (fa n : Nat) (fr : Nat → Option Nat) (wv : Int64) (nb fz : Nat) (e0 : M h0 = some (.inr (6, [.ref (ea), .ref (hu)]))) (e1 : M ea = some (.inl (G.2 4, 2, .inr (.inr (.inr (.inr (en))))))) (e2 : M x = some (.inr (0, [.ref (li), .ref (me), .ref (so), .int (nI (fi)), .int (nI (bi)), .int (nI (sn)), .int (nI (tn)), .int (nI (er)), .int (nI (un)), .int (nI (b2n fl)), .int (nI (b2n al)), .int (nI (b2n ab))]))) (e3 : M li = some (.inr (2, [.ref (fa), .int (nI (n))]))) (e4 : M fa = some (.inl (G.2 5, 40, .inr (.inr (.inr (.inr (fr))))))) (he : ed ≤ 1) (hen : en ed = some x) (hnb : 1 ≤ nb) (hnb2 : nb ≤ 64) (hfz : fz ≤ 1) (hn : n ≤ 40) (hop : fz = 1 ∨ n = 0) (hb1 : n = 40)  : vx_Met l yX6_bits wsX6_bits RM_X6_bits_full (mw_pre G M sz [.ref (h0), .int (nI (ed)), .long (wv), .int (nI (nb)), .int (nI (fz))]) mw_no (mw_X G M sz exS M) 1 6 (mw_A M sz) := by
  refine vx_ofW (cc := cX6_bits) (maxL := 10) (ret := (some .int)) (by decide) rfl ?_
  intro p e s m args below meth c s₁ B hml hex hv
  obtain ⟨rfl, rfl, hC, hw⟩ := mw_in hv
  have hx := B.exec
  have hb := B.bytes
  have hr := B.returns
  have hts := atoms_spec (ws := wsX6_bits) B.pre
  have hown : s.vm.findClass RX6 = some m.cls := findClass_of_methodNamed B.named
  have hlocks := B.notSynchronized
  have k_0 := hts (.classLink RX6 44 exS) (by decide +kernel)
  have k_1 := hts (.initialized exS) (by decide +kernel)
  have hl := lv_entry ([.ref (h0), .int (nI (ed)), .long (wv), .int (nI (nb)), .int (nI (fz))]) (n := 10) (Nat.le_of_ble_eq_true rfl)
  rw [lg_entry_eq]
  generalize (lg_sl ([.ref (h0), .int (nI (ed)), .long (wv), .int (nI (nb)), .int (nI (fz))]) ++ List.replicate (10 - (lg_sl ([.ref (h0), .int (nI (ed)), .long (wv), .int (nI (nb)), .int (nI (fz))])).length) Slot.unset).toArray = ls at hl ⊢
  have hl : lv_has ls 10 [(0, .ref (h0)), (1, .int (nI (ed))), (2, .long (wv)), (4, .int (nI (nb))), (5, .int (nI (fz)))] := hl
  refine mw_start (fun H locs hw => ?_) hw
  refine lv_aload_n hx hb dX6_bits_0 rfl (lv_at hl 0 rfl) ?_
  refine lv_iload_n hx hb dX6_bits_1 rfl (lv_at hl 1 rfl) ?_
  refine mw_cr hC hw (va_runV (As := [.int (nI (ed))]) (rest := []) ⟨hx, hb, hml, hown, hts⟩ (c_X6_endOf l G _ H.size h0 ea hu en ed x e0 e1 (by omega) (hen)) (cwV 1 hts gX6_bits_X6_endOf rfl rfl rfl (by decide +kernel) ⟨Nat.le_of_ble_eq_true rfl, Nat.le_of_ble_eq_true rfl⟩) (mw_preV (ci := 6) hC hw rfl e0) rfl rfl hl.1 rfl (lv_room (Nat.le_of_ble_eq_true rfl)) dX6_bits_2 ⟨Nat.le_of_ble_eq_true rfl, Nat.le_of_ble_eq_true rfl⟩) (fun H locs hz hw => ?_)
  refine mw_getN (C := RX0) (T := TX0) (N := 12) (v := .ref (li)) hx hb hts inX6_bits_X0 hown hC hw e2 rfl 0 (by decide) (show Cond.fieldLinkNest RX6 51 (TX0 0).1 (TX0 0).2.1 (TX0 0).2.2.1 "LinkPair" ∈ mw_nestF by decide +kernel) rfl dX6_bits_5 ?_
  refine lv_astore (lv' := [(6, .ref (li)), (0, .ref (h0)), (1, .int (nI (ed))), (2, .long (wv)), (4, .int (nI (nb))), (5, .int (nI (fz)))]) hx hb dX6_bits_8 hl (by decide) rfl (fun ls hl => ?_)
  refine lv_iload hx hb dX6_bits_10 (lv_at hl 4 rfl) ?_
  refine lv_iconst (v := nI 1) hx hb dX6_bits_12 (by decide) ?_
  refine lv_icmp_lt (tgt := 23) hx hb dX6_bits_13 (by decide) (fun c_1 => ?_) (fun c_1 => ?_)
  · skip
    have c_1 : nb < 1 := (nI_ltI (a := nb) (b := 1) (by omega) (by omega)).mp c_1
    exfalso; omega
  · skip
    have c_1 : nb ≥ 1 := Nat.not_lt.mp (fun h => c_1 ((nI_ltI (a := nb) (b := 1) (by omega) (by omega)).mpr h))
    refine lv_iload hx hb dX6_bits_16 (lv_at hl 4 rfl) ?_
    refine lv_bipush (v := nI 64) hx hb dX6_bits_18 (by decide) ?_
    refine lv_icmp_le (tgt := 31) hx hb dX6_bits_20 (by decide) (fun c_2 => ?_) (fun c_2 => ?_)
    · skip
      have c_2 : nb ≤ 64 := (nI_leI (a := nb) (b := 64) (by omega) (by omega)).mp c_2
      refine lv_iload hx hb dX6_bits_31 (lv_at hl 5 rfl) ?_
      refine lv_if_ne (tgt := 44) hx hb dX6_bits_33 (by decide) (fun c_3 => ?_) (fun c_3 => ?_)
      · skip
        have c_3 : fz ≠ 0 := fun h => c_3 ((nI_eq (a := fz) (b := 0) (by omega) (by omega)).mpr h)
        refine lv_iconst (v := nI 1) hx hb dX6_bits_44 (by decide) ?_
        refine lv_goto (tgt := 49) hx hb dX6_bits_45 (by decide) ?_
        refine lv_istore (lv' := [(7, .int (nI (1))), (6, .ref (li)), (0, .ref (h0)), (1, .int (nI (ed))), (2, .long (wv)), (4, .int (nI (nb))), (5, .int (nI (fz)))]) hx hb dX6_bits_49 hl (by decide) rfl (fun ls hl => ?_)
        refine lv_iload hx hb dX6_bits_51 (lv_at hl 0 rfl) ?_
        refine lv_if_eq (tgt := 67) hx hb dX6_bits_53 (by decide) (fun c_4 => ?_) (fun c_4 => ?_)
        · skip
          exact absurd c_4 (by decide)
        · skip
          refine lv_aload hx hb dX6_bits_56 (lv_at hl 1 rfl) ?_
          refine mw_ci hC hw (va_runV (As := []) (rest := []) ⟨hx, hb, hml, hown, hts⟩ (c_X2_isFull l G _ H.size li fa n e3 (by omega)) (cwV 0 hts gX6_bits_X2_isFull rfl rfl rfl (by decide +kernel) ⟨Nat.le_of_ble_eq_true rfl, Nat.le_of_ble_eq_true rfl⟩) (mw_preV (ci := 2) hC hw rfl e3) rfl rfl hl.1 rfl (lv_room (Nat.le_of_ble_eq_true rfl)) dX6_bits_58 ⟨Nat.le_of_ble_eq_true rfl, Nat.le_of_ble_eq_true rfl⟩) (fun H locs hz hw => ?_)
          refine mw_ti (v' := nI (1)) (by rw [decide_eq_true hb1]; rfl) ?_
          refine lv_if_eq (tgt := 92) hx hb dX6_bits_61 (by decide) (fun c_5 => ?_) (fun c_5 => ?_)
          · skip
            exact absurd c_5 (by decide)
          · skip
            refine lv_goto (tgt := 84) hx hb dX6_bits_64 (by decide) ?_
            exact mw_throw hx hb hlt hown (by decide +kernel) k_0 k_1 (fun w h => hts w (inexS_X6_bits w h)) exS_bad exS_ot hC hw (hl.1.trans hml.symm) hex dX6_bits_84 dX6_bits_87 dX6_bits_88 dX6_bits_91 (Nat.le_of_ble_eq_true rfl) (Nat.le_of_ble_eq_true rfl) (Nat.le_of_ble_eq_true rfl) (Nat.le_of_ble_eq_true rfl) hlocks (Nat.le_of_ble_eq_true rfl) (Nat.le_of_ble_eq_true rfl)
      · skip
        have c_3 : fz = 0 := (nI_eq (a := fz) (b := 0) (by omega) (by omega)).mp c_3
        refine lv_aload hx hb dX6_bits_36 (lv_at hl 0 rfl) ?_
        refine mw_getN (C := RX2) (T := TX2) (N := 2) (v := .int (nI (n))) hx hb hts inX6_bits_X2 hown hC hw e3 rfl 1 (by decide) (show Cond.fieldLinkNest RX6 73 (TX2 1).1 (TX2 1).2.1 (TX2 1).2.2.1 "LinkPair" ∈ mw_nestF by decide +kernel) rfl dX6_bits_38 ?_
        refine lv_if_ne (tgt := 48) hx hb dX6_bits_41 (by decide) (fun c_6 => ?_) (fun c_6 => ?_)
        · skip
          have c_6 : n ≠ 0 := fun h => c_6 ((nI_eq (a := n) (b := 0) (by omega) (by omega)).mpr h)
          exfalso; omega
        · skip
          have c_6 : n = 0 := (nI_eq (a := n) (b := 0) (by omega) (by omega)).mp c_6
          refine lv_iconst (v := nI 1) hx hb dX6_bits_44 (by decide) ?_
          refine lv_goto (tgt := 49) hx hb dX6_bits_45 (by decide) ?_
          refine lv_istore (lv' := [(7, .int (nI (1))), (6, .ref (li)), (0, .ref (h0)), (1, .int (nI (ed))), (2, .long (wv)), (4, .int (nI (nb))), (5, .int (nI (fz)))]) hx hb dX6_bits_49 hl (by decide) rfl (fun ls hl => ?_)
          refine lv_iload hx hb dX6_bits_51 (lv_at hl 0 rfl) ?_
          refine lv_if_eq (tgt := 67) hx hb dX6_bits_53 (by decide) (fun c_7 => ?_) (fun c_7 => ?_)
          · skip
            exact absurd c_7 (by decide)
          · skip
            refine lv_aload hx hb dX6_bits_56 (lv_at hl 1 rfl) ?_
            refine mw_ci hC hw (va_runV (As := []) (rest := []) ⟨hx, hb, hml, hown, hts⟩ (c_X2_isFull l G _ H.size li fa n e3 (by omega)) (cwV 0 hts gX6_bits_X2_isFull rfl rfl rfl (by decide +kernel) ⟨Nat.le_of_ble_eq_true rfl, Nat.le_of_ble_eq_true rfl⟩) (mw_preV (ci := 2) hC hw rfl e3) rfl rfl hl.1 rfl (lv_room (Nat.le_of_ble_eq_true rfl)) dX6_bits_58 ⟨Nat.le_of_ble_eq_true rfl, Nat.le_of_ble_eq_true rfl⟩) (fun H locs hz hw => ?_)
            refine mw_ti (v' := nI (1)) (by rw [decide_eq_true hb1]; rfl) ?_
            refine lv_if_eq (tgt := 92) hx hb dX6_bits_61 (by decide) (fun c_8 => ?_) (fun c_8 => ?_)
            · skip
              exact absurd c_8 (by decide)
            · skip
              refine lv_goto (tgt := 84) hx hb dX6_bits_64 (by decide) ?_
              exact mw_throw hx hb hlt hown (by decide +kernel) k_0 k_1 (fun w h => hts w (inexS_X6_bits w h)) exS_bad exS_ot hC hw (hl.1.trans hml.symm) hex dX6_bits_84 dX6_bits_87 dX6_bits_88 dX6_bits_91 (Nat.le_of_ble_eq_true rfl) (Nat.le_of_ble_eq_true rfl) (Nat.le_of_ble_eq_true rfl) (Nat.le_of_ble_eq_true rfl) hlocks (Nat.le_of_ble_eq_true rfl) (Nat.le_of_ble_eq_true rfl)
    · skip
      have c_2 : nb > 64 := Nat.not_le.mp (fun h => c_2 ((nI_leI (a := nb) (b := 64) (by omega) (by omega)).mpr h))
      exfalso; omega
theorem inX6_bits_X1 : ∀ w ∈ wsX10, w ∈ wsX6_bits := by decide +kernel
def RM_X6_bits_long : Room := { frames := 6, cells := 1, slots := 6, locals := 81 }
set_option maxHeartbeats 4000000 in
set_option maxRecDepth 100000 in
theorem t_X6_bits_long (l : Launch) (hlt : l.stackTraces = false) (G : mw_G) (M : mw_M) (sz : Nat) (h0 ea hu : Nat) (en : Nat → Option Nat) (ed : Nat) (x li me so fi bi sn tn er un : Nat) (fl al ab : Bool) (fa n : Nat) (fr : Nat → Option Nat) (y w q : Nat) (f : Nat → Int64) (wv : Int64) (nb fz : Nat) (e0 : M h0 = some (.inr (6, [.ref (ea), .ref (hu)]))) (e1 : M ea = some (.inl (G.2 4, 2, .inr (.inr (.inr (.inr (en))))))) (e2 : M x = some (.inr (0, [.ref (li), .ref (me), .ref (so), .int (nI (fi)), .int (nI (bi)), .int (nI (sn)), .int (nI (tn)), .int (nI (er)), .int (nI (un)), .int (nI (b2n fl)), .int (nI (b2n al)), .int (nI (b2n ab))]))) (e3 : M li = some (.inr (2, [.ref (fa), .int (nI (n))]))) (e4 : M fa = some (.inl (G.2 5, 40, .inr (.inr (.inr (.inr (fr))))))) (e5 : M y = some (.inr (1, [.ref (w), .int (nI (q))]))) (e6 : M w = some (.inl (G.2 2, 47, .inr (.inl (f))))) (he : ed ≤ 1) (hen : en ed = some x) (hnb : 1 ≤ nb) (hnb2 : nb ≤ 64) (hfz : fz ≤ 1) (hn : n ≤ 40) (hop : fz = 0) (hop2 : 0 < n) (hy : fr (n - 1) = some y) (hq : q ≤ 3000) (hb1 : 3000 < q + nb)  : vx_Met l yX6_bits wsX6_bits RM_X6_bits_long (mw_pre G M sz [.ref (h0), .int (nI (ed)), .long (wv), .int (nI (nb)), .int (nI (fz))]) mw_no (mw_X G M sz exS M) 1 6 (mw_A M sz) := by
  refine vx_ofW (cc := cX6_bits) (maxL := 10) (ret := (some .int)) (by decide) rfl ?_
  intro p e s m args below meth c s₁ B hml hex hv
  obtain ⟨rfl, rfl, hC, hw⟩ := mw_in hv
  have hx := B.exec
  have hb := B.bytes
  have hr := B.returns
  have hts := atoms_spec (ws := wsX6_bits) B.pre
  have hown : s.vm.findClass RX6 = some m.cls := findClass_of_methodNamed B.named
  have hlocks := B.notSynchronized
  have k_0 := hts (.classLink RX6 44 exS) (by decide +kernel)
  have k_1 := hts (.initialized exS) (by decide +kernel)
  have hl := lv_entry ([.ref (h0), .int (nI (ed)), .long (wv), .int (nI (nb)), .int (nI (fz))]) (n := 10) (Nat.le_of_ble_eq_true rfl)
  rw [lg_entry_eq]
  generalize (lg_sl ([.ref (h0), .int (nI (ed)), .long (wv), .int (nI (nb)), .int (nI (fz))]) ++ List.replicate (10 - (lg_sl ([.ref (h0), .int (nI (ed)), .long (wv), .int (nI (nb)), .int (nI (fz))])).length) Slot.unset).toArray = ls at hl ⊢
  have hl : lv_has ls 10 [(0, .ref (h0)), (1, .int (nI (ed))), (2, .long (wv)), (4, .int (nI (nb))), (5, .int (nI (fz)))] := hl
  refine mw_start (fun H locs hw => ?_) hw
  refine lv_aload_n hx hb dX6_bits_0 rfl (lv_at hl 0 rfl) ?_
  refine lv_iload_n hx hb dX6_bits_1 rfl (lv_at hl 1 rfl) ?_
  refine mw_cr hC hw (va_runV (As := [.int (nI (ed))]) (rest := []) ⟨hx, hb, hml, hown, hts⟩ (c_X6_endOf l G _ H.size h0 ea hu en ed x e0 e1 (by omega) (hen)) (cwV 1 hts gX6_bits_X6_endOf rfl rfl rfl (by decide +kernel) ⟨Nat.le_of_ble_eq_true rfl, Nat.le_of_ble_eq_true rfl⟩) (mw_preV (ci := 6) hC hw rfl e0) rfl rfl hl.1 rfl (lv_room (Nat.le_of_ble_eq_true rfl)) dX6_bits_2 ⟨Nat.le_of_ble_eq_true rfl, Nat.le_of_ble_eq_true rfl⟩) (fun H locs hz hw => ?_)
  refine mw_getN (C := RX0) (T := TX0) (N := 12) (v := .ref (li)) hx hb hts inX6_bits_X0 hown hC hw e2 rfl 0 (by decide) (show Cond.fieldLinkNest RX6 51 (TX0 0).1 (TX0 0).2.1 (TX0 0).2.2.1 "LinkPair" ∈ mw_nestF by decide +kernel) rfl dX6_bits_5 ?_
  refine lv_astore (lv' := [(6, .ref (li)), (0, .ref (h0)), (1, .int (nI (ed))), (2, .long (wv)), (4, .int (nI (nb))), (5, .int (nI (fz)))]) hx hb dX6_bits_8 hl (by decide) rfl (fun ls hl => ?_)
  refine lv_iload hx hb dX6_bits_10 (lv_at hl 4 rfl) ?_
  refine lv_iconst (v := nI 1) hx hb dX6_bits_12 (by decide) ?_
  refine lv_icmp_lt (tgt := 23) hx hb dX6_bits_13 (by decide) (fun c_1 => ?_) (fun c_1 => ?_)
  · skip
    have c_1 : nb < 1 := (nI_ltI (a := nb) (b := 1) (by omega) (by omega)).mp c_1
    exfalso; omega
  · skip
    have c_1 : nb ≥ 1 := Nat.not_lt.mp (fun h => c_1 ((nI_ltI (a := nb) (b := 1) (by omega) (by omega)).mpr h))
    refine lv_iload hx hb dX6_bits_16 (lv_at hl 4 rfl) ?_
    refine lv_bipush (v := nI 64) hx hb dX6_bits_18 (by decide) ?_
    refine lv_icmp_le (tgt := 31) hx hb dX6_bits_20 (by decide) (fun c_2 => ?_) (fun c_2 => ?_)
    · skip
      have c_2 : nb ≤ 64 := (nI_leI (a := nb) (b := 64) (by omega) (by omega)).mp c_2
      refine lv_iload hx hb dX6_bits_31 (lv_at hl 5 rfl) ?_
      refine lv_if_ne (tgt := 44) hx hb dX6_bits_33 (by decide) (fun c_3 => ?_) (fun c_3 => ?_)
      · skip
        have c_3 : fz ≠ 0 := fun h => c_3 ((nI_eq (a := fz) (b := 0) (by omega) (by omega)).mpr h)
        exfalso; omega
      · skip
        have c_3 : fz = 0 := (nI_eq (a := fz) (b := 0) (by omega) (by omega)).mp c_3
        refine lv_aload hx hb dX6_bits_36 (lv_at hl 0 rfl) ?_
        refine mw_getN (C := RX2) (T := TX2) (N := 2) (v := .int (nI (n))) hx hb hts inX6_bits_X2 hown hC hw e3 rfl 1 (by decide) (show Cond.fieldLinkNest RX6 73 (TX2 1).1 (TX2 1).2.1 (TX2 1).2.2.1 "LinkPair" ∈ mw_nestF by decide +kernel) rfl dX6_bits_38 ?_
        refine lv_if_ne (tgt := 48) hx hb dX6_bits_41 (by decide) (fun c_4 => ?_) (fun c_4 => ?_)
        · skip
          have c_4 : n ≠ 0 := fun h => c_4 ((nI_eq (a := n) (b := 0) (by omega) (by omega)).mpr h)
          refine lv_iconst (v := nI 0) hx hb dX6_bits_48 (by decide) ?_
          refine lv_istore (lv' := [(7, .int (nI (0))), (6, .ref (li)), (0, .ref (h0)), (1, .int (nI (ed))), (2, .long (wv)), (4, .int (nI (nb))), (5, .int (nI (fz)))]) hx hb dX6_bits_49 hl (by decide) rfl (fun ls hl => ?_)
          refine lv_iload hx hb dX6_bits_51 (lv_at hl 0 rfl) ?_
          refine lv_if_eq (tgt := 67) hx hb dX6_bits_53 (by decide) (fun c_5 => ?_) (fun c_5 => ?_)
          · skip
            refine lv_aload hx hb dX6_bits_67 (lv_at hl 1 rfl) ?_
            refine mw_cr hC hw (va_runV (As := []) (rest := []) ⟨hx, hb, hml, hown, hts⟩ (c_X2_last l G _ H.size li fa n fr y e3 e4 (by omega) (by omega) (hy)) (cwV 0 hts gX6_bits_X2_last rfl rfl rfl (by decide +kernel) ⟨Nat.le_of_ble_eq_true rfl, Nat.le_of_ble_eq_true rfl⟩) (mw_preV (ci := 2) hC hw rfl e3) rfl rfl hl.1 rfl (lv_room (Nat.le_of_ble_eq_true rfl)) dX6_bits_69 ⟨Nat.le_of_ble_eq_true rfl, Nat.le_of_ble_eq_true rfl⟩) (fun H locs hz hw => ?_)
            refine mw_getN (C := RX1) (T := TX1) (N := 2) (v := .int (nI (q))) hx hb hts inX6_bits_X1 hown hC hw e5 rfl 1 (by decide) (show Cond.fieldLinkNest RX6 96 (TX1 1).1 (TX1 1).2.1 (TX1 1).2.2.1 "LinkPair" ∈ mw_nestF by decide +kernel) rfl dX6_bits_72 ?_
            refine lv_iload hx hb dX6_bits_75 (lv_at hl 5 rfl) ?_
            refine lv_iadd hx hb dX6_bits_77 ?_
            refine mw_ti (v' := nI (q + nb)) (nI_add _ _) ?_
            refine lv_sipush (v := nI 3000) hx hb dX6_bits_78 (by decide) ?_
            refine lv_icmp_le (tgt := 92) hx hb dX6_bits_81 (by decide) (fun c_6 => ?_) (fun c_6 => ?_)
            · skip
              have c_6 : q + nb ≤ 3000 := (nI_leI (a := q + nb) (b := 3000) (by omega) (by omega)).mp c_6
              exfalso; omega
            · skip
              have c_6 : q + nb > 3000 := Nat.not_le.mp (fun h => c_6 ((nI_leI (a := q + nb) (b := 3000) (by omega) (by omega)).mpr h))
              exact mw_throw hx hb hlt hown (by decide +kernel) k_0 k_1 (fun w h => hts w (inexS_X6_bits w h)) exS_bad exS_ot hC hw (hl.1.trans hml.symm) hex dX6_bits_84 dX6_bits_87 dX6_bits_88 dX6_bits_91 (Nat.le_of_ble_eq_true rfl) (Nat.le_of_ble_eq_true rfl) (Nat.le_of_ble_eq_true rfl) (Nat.le_of_ble_eq_true rfl) hlocks (Nat.le_of_ble_eq_true rfl) (Nat.le_of_ble_eq_true rfl)
          · skip
            exact absurd c_5 (by decide)
        · skip
          have c_4 : n = 0 := (nI_eq (a := n) (b := 0) (by omega) (by omega)).mp c_4
          exfalso; omega
    · skip
      have c_2 : nb > 64 := Nat.not_le.mp (fun h => c_2 ((nI_leI (a := nb) (b := 64) (by omega) (by omega)).mpr h))
      exfalso; omega
def RM_X6_bits_fresh : Room := { frames := 2, cells := 0, slots := 0, locals := 42 }
set_option maxHeartbeats 4000000 in
set_option maxRecDepth 100000 in
theorem c_X6_bits_fresh (l : Launch) (G : mw_G) (M : mw_M) (sz : Nat) (h0 ea hu : Nat) (en : Nat → Option Nat) (ed : Nat) (x li me so fi bi sn tn er un : Nat) (fl al ab : Bool) (fa n : Nat) (fr : Nat → Option Nat) (y w q : Nat) (f : Nat → Int64) (wv : Int64) (nb fz : Nat) (e0 : M h0 = some (.inr (6, [.ref (ea), .ref (hu)]))) (e1 : M ea = some (.inl (G.2 4, 2, .inr (.inr (.inr (.inr (en))))))) (e2 : M x = some (.inr (0, [.ref (li), .ref (me), .ref (so), .int (nI (fi)), .int (nI (bi)), .int (nI (sn)), .int (nI (tn)), .int (nI (er)), .int (nI (un)), .int (nI (b2n fl)), .int (nI (b2n al)), .int (nI (b2n ab))]))) (e3 : M li = some (.inr (2, [.ref (fa), .int (nI (n))]))) (e4 : M fa = some (.inl (G.2 5, 40, .inr (.inr (.inr (.inr (fr))))))) (e5 : M y = some (.inr (1, [.ref (w), .int (nI (q))]))) (e6 : M w = some (.inl (G.2 2, 47, .inr (.inl (f))))) (he : ed ≤ 1) (hen : en ed = some x) (hnb : 1 ≤ nb) (hnb2 : nb ≤ 64) (hfz : fz ≤ 1) (hn : n ≤ 40) (hop : fz = 1 ∨ n = 0) (hn2 : n < 40) (hy : fr n = some y)  : Met l yX6_bits wsX6_bits RM_X6_bits_fresh (mw_pre G M sz [.ref (h0), .int (nI (ed)), .long (wv), .int (nI (nb)), .int (nI (fz))]) (mw_Qi G M sz (nI (0 + nb)) (va_up (va_up (va_up M li (some (.inr (2, [.ref (fa), .int (nI (n + 1))])))) y (some (.inr (1, [.ref (w), .int (nI (0 + nb))])))) w (some (.inl (G.2 2, 47, .inr (.inl (bts f 0 wv nb))))))) 0 0 (mw_A M sz) := by
  refine Met.ofW (cc := cX6_bits) (maxL := 10) (ret := (some .int)) (by decide) rfl ?_
  intro p e s m args below meth c s₁ B hml hv
  obtain ⟨rfl, rfl, hC, hw⟩ := mw_in hv
  have hx := B.exec
  have hb := B.bytes
  have hr := B.returns
  have hts := atoms_spec (ws := wsX6_bits) B.pre
  have hown : s.vm.findClass RX6 = some m.cls := findClass_of_methodNamed B.named
  have hlocks := B.notSynchronized
  have m3_5 : li ≠ y := mw_ne e3 e5 (by intro h9; cases h9)
  have m3_6 : li ≠ w := mw_ne e3 e6 (by intro h9; cases h9)
  have m5_6 : y ≠ w := mw_ne e5 e6 (by intro h9; cases h9)
  have hl := lv_entry ([.ref (h0), .int (nI (ed)), .long (wv), .int (nI (nb)), .int (nI (fz))]) (n := 10) (Nat.le_of_ble_eq_true rfl)
  rw [lg_entry_eq]
  generalize (lg_sl ([.ref (h0), .int (nI (ed)), .long (wv), .int (nI (nb)), .int (nI (fz))]) ++ List.replicate (10 - (lg_sl ([.ref (h0), .int (nI (ed)), .long (wv), .int (nI (nb)), .int (nI (fz))])).length) Slot.unset).toArray = ls at hl ⊢
  have hl : lv_has ls 10 [(0, .ref (h0)), (1, .int (nI (ed))), (2, .long (wv)), (4, .int (nI (nb))), (5, .int (nI (fz)))] := hl
  refine mw_start (fun H locs hw => ?_) hw
  refine lv_aload_n hx hb dX6_bits_0 rfl (lv_at hl 0 rfl) ?_
  refine lv_iload_n hx hb dX6_bits_1 rfl (lv_at hl 1 rfl) ?_
  refine mw_cr hC hw (va_runV (As := [.int (nI (ed))]) (rest := []) ⟨hx, hb, hml, hown, hts⟩ (c_X6_endOf l G _ H.size h0 ea hu en ed x e0 e1 (by omega) (hen)) (cwV 1 hts gX6_bits_X6_endOf rfl rfl rfl (by decide +kernel) ⟨Nat.le_of_ble_eq_true rfl, Nat.le_of_ble_eq_true rfl⟩) (mw_preV (ci := 6) hC hw rfl e0) rfl rfl hl.1 rfl (lv_room (Nat.le_of_ble_eq_true rfl)) dX6_bits_2 ⟨Nat.le_of_ble_eq_true rfl, Nat.le_of_ble_eq_true rfl⟩) (fun H locs hz hw => ?_)
  refine mw_getN (C := RX0) (T := TX0) (N := 12) (v := .ref (li)) hx hb hts inX6_bits_X0 hown hC hw e2 rfl 0 (by decide) (show Cond.fieldLinkNest RX6 51 (TX0 0).1 (TX0 0).2.1 (TX0 0).2.2.1 "LinkPair" ∈ mw_nestF by decide +kernel) rfl dX6_bits_5 ?_
  refine lv_astore (lv' := [(6, .ref (li)), (0, .ref (h0)), (1, .int (nI (ed))), (2, .long (wv)), (4, .int (nI (nb))), (5, .int (nI (fz)))]) hx hb dX6_bits_8 hl (by decide) rfl (fun ls hl => ?_)
  refine lv_iload hx hb dX6_bits_10 (lv_at hl 4 rfl) ?_
  refine lv_iconst (v := nI 1) hx hb dX6_bits_12 (by decide) ?_
  refine lv_icmp_lt (tgt := 23) hx hb dX6_bits_13 (by decide) (fun c_1 => ?_) (fun c_1 => ?_)
  · skip
    have c_1 : nb < 1 := (nI_ltI (a := nb) (b := 1) (by omega) (by omega)).mp c_1
    exfalso; omega
  · skip
    have c_1 : nb ≥ 1 := Nat.not_lt.mp (fun h => c_1 ((nI_ltI (a := nb) (b := 1) (by omega) (by omega)).mpr h))
    refine lv_iload hx hb dX6_bits_16 (lv_at hl 4 rfl) ?_
    refine lv_bipush (v := nI 64) hx hb dX6_bits_18 (by decide) ?_
    refine lv_icmp_le (tgt := 31) hx hb dX6_bits_20 (by decide) (fun c_2 => ?_) (fun c_2 => ?_)
    · skip
      have c_2 : nb ≤ 64 := (nI_leI (a := nb) (b := 64) (by omega) (by omega)).mp c_2
      refine lv_iload hx hb dX6_bits_31 (lv_at hl 5 rfl) ?_
      refine lv_if_ne (tgt := 44) hx hb dX6_bits_33 (by decide) (fun c_3 => ?_) (fun c_3 => ?_)
      · skip
        have c_3 : fz ≠ 0 := fun h => c_3 ((nI_eq (a := fz) (b := 0) (by omega) (by omega)).mpr h)
        refine lv_iconst (v := nI 1) hx hb dX6_bits_44 (by decide) ?_
        refine lv_goto (tgt := 49) hx hb dX6_bits_45 (by decide) ?_
        refine lv_istore (lv' := [(7, .int (nI (1))), (6, .ref (li)), (0, .ref (h0)), (1, .int (nI (ed))), (2, .long (wv)), (4, .int (nI (nb))), (5, .int (nI (fz)))]) hx hb dX6_bits_49 hl (by decide) rfl (fun ls hl => ?_)
        refine lv_iload hx hb dX6_bits_51 (lv_at hl 0 rfl) ?_
        refine lv_if_eq (tgt := 67) hx hb dX6_bits_53 (by decide) (fun c_4 => ?_) (fun c_4 => ?_)
        · skip
          exact absurd c_4 (by decide)
        · skip
          refine lv_aload hx hb dX6_bits_56 (lv_at hl 1 rfl) ?_
          refine mw_ci hC hw (va_runV (As := []) (rest := []) ⟨hx, hb, hml, hown, hts⟩ (c_X2_isFull l G _ H.size li fa n e3 (by omega)) (cwV 0 hts gX6_bits_X2_isFull rfl rfl rfl (by decide +kernel) ⟨Nat.le_of_ble_eq_true rfl, Nat.le_of_ble_eq_true rfl⟩) (mw_preV (ci := 2) hC hw rfl e3) rfl rfl hl.1 rfl (lv_room (Nat.le_of_ble_eq_true rfl)) dX6_bits_58 ⟨Nat.le_of_ble_eq_true rfl, Nat.le_of_ble_eq_true rfl⟩) (fun H locs hz hw => ?_)
          refine mw_ti (v' := nI (0)) (by rw [decide_eq_false (by omega)]; rfl) ?_
          refine lv_if_eq (tgt := 92) hx hb dX6_bits_61 (by decide) (fun c_5 => ?_) (fun c_5 => ?_)
          · skip
            refine lv_iload hx hb dX6_bits_92 (lv_at hl 0 rfl) ?_
            refine lv_if_eq (tgt := 105) hx hb dX6_bits_94 (by decide) (fun c_6 => ?_) (fun c_6 => ?_)
            · skip
              exact absurd c_6 (by decide)
            · skip
              refine lv_aload hx hb dX6_bits_97 (lv_at hl 1 rfl) ?_
              refine mw_cr hC hw (va_runV (As := []) (rest := []) ⟨hx, hb, hml, hown, hts⟩ (c_X2_open l G _ H.size li fa n fr y w q e3 e4 e5 (by omega) (hy)) (cwV 0 hts gX6_bits_X2_open rfl rfl rfl (by decide +kernel) ⟨Nat.le_of_ble_eq_true rfl, Nat.le_of_ble_eq_true rfl⟩) (mw_preV (ci := 2) hC hw rfl e3) rfl rfl hl.1 rfl (lv_room (Nat.le_of_ble_eq_true rfl)) dX6_bits_99 ⟨Nat.le_of_ble_eq_true rfl, Nat.le_of_ble_eq_true rfl⟩) (fun H locs hz hw => ?_)
              refine lv_goto (tgt := 110) hx hb dX6_bits_102 (by decide) ?_
              refine lv_astore (lv' := [(8, .ref (y)), (7, .int (nI (1))), (6, .ref (li)), (0, .ref (h0)), (1, .int (nI (ed))), (2, .long (wv)), (4, .int (nI (nb))), (5, .int (nI (fz)))]) hx hb dX6_bits_110 hl (by decide) rfl (fun ls hl => ?_)
              refine lv_iconst (v := nI 0) hx hb dX6_bits_112 (by decide) ?_
              refine lv_istore (lv' := [(9, .int (nI (0))), (8, .ref (y)), (7, .int (nI (1))), (6, .ref (li)), (0, .ref (h0)), (1, .int (nI (ed))), (2, .long (wv)), (4, .int (nI (nb))), (5, .int (nI (fz)))]) hx hb dX6_bits_113 hl (by decide) rfl (fun ls hl => ?_)
              have lp_7 : ∀ (n9 : Nat) (k : Nat), (hk : k ≤ nb) → nb - k < n9 → ∀ (H : Heap) (locs : List Loc) (ls : Array Slot), mw_St G (mw_A M s.heap.size) s (va_up (va_up (va_up M li (some (.inr (2, [.ref (fa), .int (nI (n + 1))])))) y (some (.inr (1, [.ref (w), .int (nI (0 + k))])))) w (some (.inl (G.2 2, 47, .inr (.inl (bts f 0 wv k)))))) H locs → lv_has ls 10 [(2, .long (wv)), (4, .int (nI (nb))), (8, .ref (y)), (9, .int (nI (k)))] → W p l e (headSpec wsX6_bits RM_X6_bits_fresh).room s m ([.ref (h0), .int (nI (ed)), .long (wv), .int (nI (nb)), .int (nI (fz))] : List Value).toArray below meth c H locs 0 0 (MQ below (mw_Qi G M s.heap.size (nI (0 + nb)) (va_up (va_up (va_up M li (some (.inr (2, [.ref (fa), .int (nI (n + 1))])))) y (some (.inr (1, [.ref (w), .int (nI (0 + nb))])))) w (some (.inl (G.2 2, 47, .inr (.inl (bts f 0 wv nb))))))) ([.ref (h0), .int (nI (ed)), .long (wv), .int (nI (nb)), .int (nI (fz))] : List Value).toArray s 0 0 (mw_A M s.heap.size)) (F0 m 115 ls []) := by
                intro n9
                induction n9 with
                | zero => intro k hk h9; exact absurd h9 (Nat.not_lt_zero _)
                | succ n9 ih =>
                  intro k hk h9 H locs ls hw hl
                  refine lv_iload hx hb dX6_bits_115 (lv_at hl 3 rfl) ?_
                  refine lv_iload hx hb dX6_bits_117 (lv_at hl 1 rfl) ?_
                  refine lv_icmp_ge (tgt := 140) hx hb dX6_bits_119 (by decide) (fun c_8 => ?_) (fun c_8 => ?_)
                  · skip
                    have c_8 : k ≥ nb := (nI_leI (a := nb) (b := k) (by omega) (by omega)).mp c_8
                    obtain rfl : nb = k := by omega
                    refine lv_aload hx hb dX6_bits_140 (lv_at hl 2 rfl) ?_
                    refine mw_getN (C := RX1) (T := TX1) (N := 2) (v := .int (nI (0 + nb))) hx hb hts inX6_bits_X1 hown hC hw (mw_u1 m5_6 mw_u0) rfl 1 (by decide) (show Cond.fieldLinkNest RX6 96 (TX1 1).1 (TX1 1).2.1 (TX1 1).2.2.1 "LinkPair" ∈ mw_nestF by decide +kernel) rfl dX6_bits_142 ?_
                    exact mw_iret hx hb hr hlocks hw (rfl) (fun _ _ h9 => h9) dX6_bits_145
                  · skip
                    have c_8 : k < nb := Nat.not_le.mp (fun h => c_8 ((nI_leI (a := nb) (b := k) (by omega) (by omega)).mpr h))
                    refine lv_aload hx hb dX6_bits_122 (lv_at hl 2 rfl) ?_
                    refine lv_lload_n hx hb dX6_bits_124 rfl (lv_at hl 0 rfl) ?_
                    refine lv_iload hx hb dX6_bits_125 (lv_at hl 3 rfl) ?_
                    refine lv_lushr hx hb dX6_bits_127 rfl ?_
                    refine lv_l2i hx hb dX6_bits_128 rfl ?_
                    refine lv_iconst (v := nI 1) hx hb dX6_bits_129 (by decide) ?_
                    refine lv_iand hx hb dX6_bits_130 ?_
                    refine mw_ti (v' := nI (wbt wv k)) (wbt_val wv (by omega)) ?_
                    refine mw_cv hC hw (va_runV (As := [.int (nI (wbt wv k))]) (rest := []) ⟨hx, hb, hml, hown, hts⟩ (c_X1_add l G _ H.size y w (0 + k) (bts f 0 wv k) (wbt wv k) (mw_u1 m5_6 mw_u0) mw_u0 (by omega) (wbt_le wv k)) (cwV 1 hts gX6_bits_X1_add rfl rfl rfl (by decide +kernel) ⟨Nat.le_of_ble_eq_true rfl, Nat.le_of_ble_eq_true rfl⟩) (mw_preV (ci := 1) hC hw rfl (mw_u1 m5_6 mw_u0)) rfl rfl hl.1 rfl (lv_room (Nat.le_of_ble_eq_true rfl)) dX6_bits_131 ⟨Nat.le_of_ble_eq_true rfl, Nat.le_of_ble_eq_true rfl⟩) (fun H locs hz hw => ?_)
                    refine lv_iinc (v := nI (k + 1)) (lv' := [(9, .int (nI (k + 1))), (2, .long (wv)), (4, .int (nI (nb))), (8, .ref (y))]) hx hb dX6_bits_134 hl (k := 3) rfl (by rw [show Int32.ofInt 1 = nI 1 by decide]; exact nI_add _ _) (by decide) rfl (fun ls hl => ?_)
                    refine lv_goto (tgt := 115) hx hb dX6_bits_137 (by decide) ?_
                    have hc_10 : (.inr (1, [.ref (w), .int (nI ((0 + k) + 1))]) : va_E) = .inr (1, [.ref (w), .int (nI (0 + (k + 1)))]) := by first | rfl | (congr 2; omega) | simp_all
                    have hc_11 : (.inl (G.2 2, 47, .inr (.inl (fadd (bts f 0 wv k) (0 + k) (wbt wv k)))) : va_E) = .inl (G.2 2, 47, .inr (.inl (bts f 0 wv (k + 1)))) := by first | rfl | (congr 2; omega) | simp_all
                    have hw : mw_St G (mw_A M s.heap.size) s (va_up (va_up (va_up M li (some (.inr (2, [.ref (fa), .int (nI (n + 1))])))) y (some (.inr (1, [.ref (w), .int (nI (0 + (k + 1)))])))) w (some (.inl (G.2 2, 47, .inr (.inl (bts f 0 wv (k + 1))))))) H locs := hw.to (fun q8 x8 h8 => by
                      by_cases b_12 : q8 = li
                      · rw [b_12] at h8 ⊢; exact (mw_u1 m3_6 (mw_u1 m3_5 (mw_u1 m3_6 (mw_u1 m3_5 mw_u0)))).trans (((mw_u1 m3_6 (mw_u1 m3_5 mw_u0)).symm.trans h8))
                      by_cases b_13 : q8 = y
                      · rw [b_13] at h8 ⊢; exact (mw_u1 m5_6 mw_u0).trans ((congrArg some hc_10).trans ((mw_u1 m5_6 mw_u0).symm.trans h8))
                      by_cases b_14 : q8 = w
                      · rw [b_14] at h8 ⊢; exact mw_u0.trans ((congrArg some hc_11).trans (mw_u0.symm.trans h8))
                      simp only [va_up_ne _ _ b_12, va_up_ne _ _ b_13, va_up_ne _ _ b_14] at h8 ⊢; exact h8)
                    exact ih (k + 1) (by omega) (by omega) _ _ ls hw (lv_sub hl [1, 2, 3, 0] rfl)
              have hc_16 : (.inr (1, [.ref (w), .int (nI (0))]) : va_E) = .inr (1, [.ref (w), .int (nI (0 + 0))]) := by first | rfl | (congr 2; omega) | simp_all
              have hc_17 : (.inl (G.2 2, 47, .inr (.inl (f))) : va_E) = .inl (G.2 2, 47, .inr (.inl (bts f 0 wv 0))) := by first | rfl | (congr 2; omega) | simp_all
              have hw : mw_St G (mw_A M s.heap.size) s (va_up (va_up (va_up M li (some (.inr (2, [.ref (fa), .int (nI (n + 1))])))) y (some (.inr (1, [.ref (w), .int (nI (0 + 0))])))) w (some (.inl (G.2 2, 47, .inr (.inl (bts f 0 wv 0)))))) H locs := hw.to (fun q8 x8 h8 => by
                by_cases b_18 : q8 = li
                · rw [b_18] at h8 ⊢; exact (mw_u1 m3_5 mw_u0).trans (((mw_u1 m3_6 (mw_u1 m3_5 mw_u0)).symm.trans h8))
                by_cases b_19 : q8 = y
                · rw [b_19] at h8 ⊢; exact mw_u0.trans ((congrArg some hc_16).trans ((mw_u1 m5_6 mw_u0).symm.trans h8))
                by_cases b_20 : q8 = w
                · rw [b_20] at h8 ⊢; exact (mw_u1 (Ne.symm m5_6) (mw_u1 (Ne.symm m3_6) e6)).trans ((congrArg some hc_17).trans (mw_u0.symm.trans h8))
                simp only [va_up_ne _ _ b_18, va_up_ne _ _ b_19, va_up_ne _ _ b_20] at h8 ⊢; exact h8)
              exact lp_7 (nb - 0 + 1) 0 (by omega) (Nat.lt_succ_self _) _ _ ls hw (lv_sub hl [6, 7, 1, 0] rfl)
          · skip
            exact absurd c_5 (by decide)
      · skip
        have c_3 : fz = 0 := (nI_eq (a := fz) (b := 0) (by omega) (by omega)).mp c_3
        refine lv_aload hx hb dX6_bits_36 (lv_at hl 0 rfl) ?_
        refine mw_getN (C := RX2) (T := TX2) (N := 2) (v := .int (nI (n))) hx hb hts inX6_bits_X2 hown hC hw e3 rfl 1 (by decide) (show Cond.fieldLinkNest RX6 73 (TX2 1).1 (TX2 1).2.1 (TX2 1).2.2.1 "LinkPair" ∈ mw_nestF by decide +kernel) rfl dX6_bits_38 ?_
        refine lv_if_ne (tgt := 48) hx hb dX6_bits_41 (by decide) (fun c_21 => ?_) (fun c_21 => ?_)
        · skip
          have c_21 : n ≠ 0 := fun h => c_21 ((nI_eq (a := n) (b := 0) (by omega) (by omega)).mpr h)
          exfalso; omega
        · skip
          have c_21 : n = 0 := (nI_eq (a := n) (b := 0) (by omega) (by omega)).mp c_21
          refine lv_iconst (v := nI 1) hx hb dX6_bits_44 (by decide) ?_
          refine lv_goto (tgt := 49) hx hb dX6_bits_45 (by decide) ?_
          refine lv_istore (lv' := [(7, .int (nI (1))), (6, .ref (li)), (0, .ref (h0)), (1, .int (nI (ed))), (2, .long (wv)), (4, .int (nI (nb))), (5, .int (nI (fz)))]) hx hb dX6_bits_49 hl (by decide) rfl (fun ls hl => ?_)
          refine lv_iload hx hb dX6_bits_51 (lv_at hl 0 rfl) ?_
          refine lv_if_eq (tgt := 67) hx hb dX6_bits_53 (by decide) (fun c_22 => ?_) (fun c_22 => ?_)
          · skip
            exact absurd c_22 (by decide)
          · skip
            refine lv_aload hx hb dX6_bits_56 (lv_at hl 1 rfl) ?_
            refine mw_ci hC hw (va_runV (As := []) (rest := []) ⟨hx, hb, hml, hown, hts⟩ (c_X2_isFull l G _ H.size li fa n e3 (by omega)) (cwV 0 hts gX6_bits_X2_isFull rfl rfl rfl (by decide +kernel) ⟨Nat.le_of_ble_eq_true rfl, Nat.le_of_ble_eq_true rfl⟩) (mw_preV (ci := 2) hC hw rfl e3) rfl rfl hl.1 rfl (lv_room (Nat.le_of_ble_eq_true rfl)) dX6_bits_58 ⟨Nat.le_of_ble_eq_true rfl, Nat.le_of_ble_eq_true rfl⟩) (fun H locs hz hw => ?_)
            refine mw_ti (v' := nI (0)) (by rw [decide_eq_false (by omega)]; rfl) ?_
            refine lv_if_eq (tgt := 92) hx hb dX6_bits_61 (by decide) (fun c_23 => ?_) (fun c_23 => ?_)
            · skip
              refine lv_iload hx hb dX6_bits_92 (lv_at hl 0 rfl) ?_
              refine lv_if_eq (tgt := 105) hx hb dX6_bits_94 (by decide) (fun c_24 => ?_) (fun c_24 => ?_)
              · skip
                exact absurd c_24 (by decide)
              · skip
                refine lv_aload hx hb dX6_bits_97 (lv_at hl 1 rfl) ?_
                refine mw_cr hC hw (va_runV (As := []) (rest := []) ⟨hx, hb, hml, hown, hts⟩ (c_X2_open l G _ H.size li fa n fr y w q e3 e4 e5 (by omega) (hy)) (cwV 0 hts gX6_bits_X2_open rfl rfl rfl (by decide +kernel) ⟨Nat.le_of_ble_eq_true rfl, Nat.le_of_ble_eq_true rfl⟩) (mw_preV (ci := 2) hC hw rfl e3) rfl rfl hl.1 rfl (lv_room (Nat.le_of_ble_eq_true rfl)) dX6_bits_99 ⟨Nat.le_of_ble_eq_true rfl, Nat.le_of_ble_eq_true rfl⟩) (fun H locs hz hw => ?_)
                refine lv_goto (tgt := 110) hx hb dX6_bits_102 (by decide) ?_
                refine lv_astore (lv' := [(8, .ref (y)), (7, .int (nI (1))), (6, .ref (li)), (0, .ref (h0)), (1, .int (nI (ed))), (2, .long (wv)), (4, .int (nI (nb))), (5, .int (nI (fz)))]) hx hb dX6_bits_110 hl (by decide) rfl (fun ls hl => ?_)
                refine lv_iconst (v := nI 0) hx hb dX6_bits_112 (by decide) ?_
                refine lv_istore (lv' := [(9, .int (nI (0))), (8, .ref (y)), (7, .int (nI (1))), (6, .ref (li)), (0, .ref (h0)), (1, .int (nI (ed))), (2, .long (wv)), (4, .int (nI (nb))), (5, .int (nI (fz)))]) hx hb dX6_bits_113 hl (by decide) rfl (fun ls hl => ?_)
                have lp_25 : ∀ (n9 : Nat) (k : Nat), (hk : k ≤ nb) → nb - k < n9 → ∀ (H : Heap) (locs : List Loc) (ls : Array Slot), mw_St G (mw_A M s.heap.size) s (va_up (va_up (va_up M li (some (.inr (2, [.ref (fa), .int (nI (n + 1))])))) y (some (.inr (1, [.ref (w), .int (nI (0 + k))])))) w (some (.inl (G.2 2, 47, .inr (.inl (bts f 0 wv k)))))) H locs → lv_has ls 10 [(2, .long (wv)), (4, .int (nI (nb))), (8, .ref (y)), (9, .int (nI (k)))] → W p l e (headSpec wsX6_bits RM_X6_bits_fresh).room s m ([.ref (h0), .int (nI (ed)), .long (wv), .int (nI (nb)), .int (nI (fz))] : List Value).toArray below meth c H locs 0 0 (MQ below (mw_Qi G M s.heap.size (nI (0 + nb)) (va_up (va_up (va_up M li (some (.inr (2, [.ref (fa), .int (nI (n + 1))])))) y (some (.inr (1, [.ref (w), .int (nI (0 + nb))])))) w (some (.inl (G.2 2, 47, .inr (.inl (bts f 0 wv nb))))))) ([.ref (h0), .int (nI (ed)), .long (wv), .int (nI (nb)), .int (nI (fz))] : List Value).toArray s 0 0 (mw_A M s.heap.size)) (F0 m 115 ls []) := by
                  intro n9
                  induction n9 with
                  | zero => intro k hk h9; exact absurd h9 (Nat.not_lt_zero _)
                  | succ n9 ih =>
                    intro k hk h9 H locs ls hw hl
                    refine lv_iload hx hb dX6_bits_115 (lv_at hl 3 rfl) ?_
                    refine lv_iload hx hb dX6_bits_117 (lv_at hl 1 rfl) ?_
                    refine lv_icmp_ge (tgt := 140) hx hb dX6_bits_119 (by decide) (fun c_26 => ?_) (fun c_26 => ?_)
                    · skip
                      have c_26 : k ≥ nb := (nI_leI (a := nb) (b := k) (by omega) (by omega)).mp c_26
                      obtain rfl : nb = k := by omega
                      refine lv_aload hx hb dX6_bits_140 (lv_at hl 2 rfl) ?_
                      refine mw_getN (C := RX1) (T := TX1) (N := 2) (v := .int (nI (0 + nb))) hx hb hts inX6_bits_X1 hown hC hw (mw_u1 m5_6 mw_u0) rfl 1 (by decide) (show Cond.fieldLinkNest RX6 96 (TX1 1).1 (TX1 1).2.1 (TX1 1).2.2.1 "LinkPair" ∈ mw_nestF by decide +kernel) rfl dX6_bits_142 ?_
                      exact mw_iret hx hb hr hlocks hw (rfl) (fun _ _ h9 => h9) dX6_bits_145
                    · skip
                      have c_26 : k < nb := Nat.not_le.mp (fun h => c_26 ((nI_leI (a := nb) (b := k) (by omega) (by omega)).mpr h))
                      refine lv_aload hx hb dX6_bits_122 (lv_at hl 2 rfl) ?_
                      refine lv_lload_n hx hb dX6_bits_124 rfl (lv_at hl 0 rfl) ?_
                      refine lv_iload hx hb dX6_bits_125 (lv_at hl 3 rfl) ?_
                      refine lv_lushr hx hb dX6_bits_127 rfl ?_
                      refine lv_l2i hx hb dX6_bits_128 rfl ?_
                      refine lv_iconst (v := nI 1) hx hb dX6_bits_129 (by decide) ?_
                      refine lv_iand hx hb dX6_bits_130 ?_
                      refine mw_ti (v' := nI (wbt wv k)) (wbt_val wv (by omega)) ?_
                      refine mw_cv hC hw (va_runV (As := [.int (nI (wbt wv k))]) (rest := []) ⟨hx, hb, hml, hown, hts⟩ (c_X1_add l G _ H.size y w (0 + k) (bts f 0 wv k) (wbt wv k) (mw_u1 m5_6 mw_u0) mw_u0 (by omega) (wbt_le wv k)) (cwV 1 hts gX6_bits_X1_add rfl rfl rfl (by decide +kernel) ⟨Nat.le_of_ble_eq_true rfl, Nat.le_of_ble_eq_true rfl⟩) (mw_preV (ci := 1) hC hw rfl (mw_u1 m5_6 mw_u0)) rfl rfl hl.1 rfl (lv_room (Nat.le_of_ble_eq_true rfl)) dX6_bits_131 ⟨Nat.le_of_ble_eq_true rfl, Nat.le_of_ble_eq_true rfl⟩) (fun H locs hz hw => ?_)
                      refine lv_iinc (v := nI (k + 1)) (lv' := [(9, .int (nI (k + 1))), (2, .long (wv)), (4, .int (nI (nb))), (8, .ref (y))]) hx hb dX6_bits_134 hl (k := 3) rfl (by rw [show Int32.ofInt 1 = nI 1 by decide]; exact nI_add _ _) (by decide) rfl (fun ls hl => ?_)
                      refine lv_goto (tgt := 115) hx hb dX6_bits_137 (by decide) ?_
                      have hc_28 : (.inr (1, [.ref (w), .int (nI ((0 + k) + 1))]) : va_E) = .inr (1, [.ref (w), .int (nI (0 + (k + 1)))]) := by first | rfl | (congr 2; omega) | simp_all
                      have hc_29 : (.inl (G.2 2, 47, .inr (.inl (fadd (bts f 0 wv k) (0 + k) (wbt wv k)))) : va_E) = .inl (G.2 2, 47, .inr (.inl (bts f 0 wv (k + 1)))) := by first | rfl | (congr 2; omega) | simp_all
                      have hw : mw_St G (mw_A M s.heap.size) s (va_up (va_up (va_up M li (some (.inr (2, [.ref (fa), .int (nI (n + 1))])))) y (some (.inr (1, [.ref (w), .int (nI (0 + (k + 1)))])))) w (some (.inl (G.2 2, 47, .inr (.inl (bts f 0 wv (k + 1))))))) H locs := hw.to (fun q8 x8 h8 => by
                        by_cases b_30 : q8 = li
                        · rw [b_30] at h8 ⊢; exact (mw_u1 m3_6 (mw_u1 m3_5 (mw_u1 m3_6 (mw_u1 m3_5 mw_u0)))).trans (((mw_u1 m3_6 (mw_u1 m3_5 mw_u0)).symm.trans h8))
                        by_cases b_31 : q8 = y
                        · rw [b_31] at h8 ⊢; exact (mw_u1 m5_6 mw_u0).trans ((congrArg some hc_28).trans ((mw_u1 m5_6 mw_u0).symm.trans h8))
                        by_cases b_32 : q8 = w
                        · rw [b_32] at h8 ⊢; exact mw_u0.trans ((congrArg some hc_29).trans (mw_u0.symm.trans h8))
                        simp only [va_up_ne _ _ b_30, va_up_ne _ _ b_31, va_up_ne _ _ b_32] at h8 ⊢; exact h8)
                      exact ih (k + 1) (by omega) (by omega) _ _ ls hw (lv_sub hl [1, 2, 3, 0] rfl)
                have hc_34 : (.inr (1, [.ref (w), .int (nI (0))]) : va_E) = .inr (1, [.ref (w), .int (nI (0 + 0))]) := by first | rfl | (congr 2; omega) | simp_all
                have hc_35 : (.inl (G.2 2, 47, .inr (.inl (f))) : va_E) = .inl (G.2 2, 47, .inr (.inl (bts f 0 wv 0))) := by first | rfl | (congr 2; omega) | simp_all
                have hw : mw_St G (mw_A M s.heap.size) s (va_up (va_up (va_up M li (some (.inr (2, [.ref (fa), .int (nI (n + 1))])))) y (some (.inr (1, [.ref (w), .int (nI (0 + 0))])))) w (some (.inl (G.2 2, 47, .inr (.inl (bts f 0 wv 0)))))) H locs := hw.to (fun q8 x8 h8 => by
                  by_cases b_36 : q8 = li
                  · rw [b_36] at h8 ⊢; exact (mw_u1 m3_5 mw_u0).trans (((mw_u1 m3_6 (mw_u1 m3_5 mw_u0)).symm.trans h8))
                  by_cases b_37 : q8 = y
                  · rw [b_37] at h8 ⊢; exact mw_u0.trans ((congrArg some hc_34).trans ((mw_u1 m5_6 mw_u0).symm.trans h8))
                  by_cases b_38 : q8 = w
                  · rw [b_38] at h8 ⊢; exact (mw_u1 (Ne.symm m5_6) (mw_u1 (Ne.symm m3_6) e6)).trans ((congrArg some hc_35).trans (mw_u0.symm.trans h8))
                  simp only [va_up_ne _ _ b_36, va_up_ne _ _ b_37, va_up_ne _ _ b_38] at h8 ⊢; exact h8)
                exact lp_25 (nb - 0 + 1) 0 (by omega) (Nat.lt_succ_self _) _ _ ls hw (lv_sub hl [6, 7, 1, 0] rfl)
            · skip
              exact absurd c_23 (by decide)
    · skip
      have c_2 : nb > 64 := Nat.not_le.mp (fun h => c_2 ((nI_leI (a := nb) (b := 64) (by omega) (by omega)).mpr h))
      exfalso; omega
def RM_X6_bits_app : Room := { frames := 2, cells := 0, slots := 0, locals := 42 }
set_option maxHeartbeats 4000000 in
set_option maxRecDepth 100000 in
theorem c_X6_bits_app (l : Launch) (G : mw_G) (M : mw_M) (sz : Nat) (h0 ea hu : Nat) (en : Nat → Option Nat) (ed : Nat) (x li me so fi bi sn tn er un : Nat) (fl al ab : Bool) (fa n : Nat) (fr : Nat → Option Nat) (y w q : Nat) (f : Nat → Int64) (wv : Int64) (nb fz : Nat) (e0 : M h0 = some (.inr (6, [.ref (ea), .ref (hu)]))) (e1 : M ea = some (.inl (G.2 4, 2, .inr (.inr (.inr (.inr (en))))))) (e2 : M x = some (.inr (0, [.ref (li), .ref (me), .ref (so), .int (nI (fi)), .int (nI (bi)), .int (nI (sn)), .int (nI (tn)), .int (nI (er)), .int (nI (un)), .int (nI (b2n fl)), .int (nI (b2n al)), .int (nI (b2n ab))]))) (e3 : M li = some (.inr (2, [.ref (fa), .int (nI (n))]))) (e4 : M fa = some (.inl (G.2 5, 40, .inr (.inr (.inr (.inr (fr))))))) (e5 : M y = some (.inr (1, [.ref (w), .int (nI (q))]))) (e6 : M w = some (.inl (G.2 2, 47, .inr (.inl (f))))) (he : ed ≤ 1) (hen : en ed = some x) (hnb : 1 ≤ nb) (hnb2 : nb ≤ 64) (hfz : fz ≤ 1) (hn : n ≤ 40) (hop : fz = 0) (hop2 : 0 < n) (hy : fr (n - 1) = some y) (hq : q + nb ≤ 3000)  : Met l yX6_bits wsX6_bits RM_X6_bits_app (mw_pre G M sz [.ref (h0), .int (nI (ed)), .long (wv), .int (nI (nb)), .int (nI (fz))]) (mw_Qi G M sz (nI (q + nb)) (va_up (va_up M y (some (.inr (1, [.ref (w), .int (nI (q + nb))])))) w (some (.inl (G.2 2, 47, .inr (.inl (bts f q wv nb))))))) 0 0 (mw_A M sz) := by
  refine Met.ofW (cc := cX6_bits) (maxL := 10) (ret := (some .int)) (by decide) rfl ?_
  intro p e s m args below meth c s₁ B hml hv
  obtain ⟨rfl, rfl, hC, hw⟩ := mw_in hv
  have hx := B.exec
  have hb := B.bytes
  have hr := B.returns
  have hts := atoms_spec (ws := wsX6_bits) B.pre
  have hown : s.vm.findClass RX6 = some m.cls := findClass_of_methodNamed B.named
  have hlocks := B.notSynchronized
  have m5_6 : y ≠ w := mw_ne e5 e6 (by intro h9; cases h9)
  have hl := lv_entry ([.ref (h0), .int (nI (ed)), .long (wv), .int (nI (nb)), .int (nI (fz))]) (n := 10) (Nat.le_of_ble_eq_true rfl)
  rw [lg_entry_eq]
  generalize (lg_sl ([.ref (h0), .int (nI (ed)), .long (wv), .int (nI (nb)), .int (nI (fz))]) ++ List.replicate (10 - (lg_sl ([.ref (h0), .int (nI (ed)), .long (wv), .int (nI (nb)), .int (nI (fz))])).length) Slot.unset).toArray = ls at hl ⊢
  have hl : lv_has ls 10 [(0, .ref (h0)), (1, .int (nI (ed))), (2, .long (wv)), (4, .int (nI (nb))), (5, .int (nI (fz)))] := hl
  refine mw_start (fun H locs hw => ?_) hw
  refine lv_aload_n hx hb dX6_bits_0 rfl (lv_at hl 0 rfl) ?_
  refine lv_iload_n hx hb dX6_bits_1 rfl (lv_at hl 1 rfl) ?_
  refine mw_cr hC hw (va_runV (As := [.int (nI (ed))]) (rest := []) ⟨hx, hb, hml, hown, hts⟩ (c_X6_endOf l G _ H.size h0 ea hu en ed x e0 e1 (by omega) (hen)) (cwV 1 hts gX6_bits_X6_endOf rfl rfl rfl (by decide +kernel) ⟨Nat.le_of_ble_eq_true rfl, Nat.le_of_ble_eq_true rfl⟩) (mw_preV (ci := 6) hC hw rfl e0) rfl rfl hl.1 rfl (lv_room (Nat.le_of_ble_eq_true rfl)) dX6_bits_2 ⟨Nat.le_of_ble_eq_true rfl, Nat.le_of_ble_eq_true rfl⟩) (fun H locs hz hw => ?_)
  refine mw_getN (C := RX0) (T := TX0) (N := 12) (v := .ref (li)) hx hb hts inX6_bits_X0 hown hC hw e2 rfl 0 (by decide) (show Cond.fieldLinkNest RX6 51 (TX0 0).1 (TX0 0).2.1 (TX0 0).2.2.1 "LinkPair" ∈ mw_nestF by decide +kernel) rfl dX6_bits_5 ?_
  refine lv_astore (lv' := [(6, .ref (li)), (0, .ref (h0)), (1, .int (nI (ed))), (2, .long (wv)), (4, .int (nI (nb))), (5, .int (nI (fz)))]) hx hb dX6_bits_8 hl (by decide) rfl (fun ls hl => ?_)
  refine lv_iload hx hb dX6_bits_10 (lv_at hl 4 rfl) ?_
  refine lv_iconst (v := nI 1) hx hb dX6_bits_12 (by decide) ?_
  refine lv_icmp_lt (tgt := 23) hx hb dX6_bits_13 (by decide) (fun c_1 => ?_) (fun c_1 => ?_)
  · skip
    have c_1 : nb < 1 := (nI_ltI (a := nb) (b := 1) (by omega) (by omega)).mp c_1
    exfalso; omega
  · skip
    have c_1 : nb ≥ 1 := Nat.not_lt.mp (fun h => c_1 ((nI_ltI (a := nb) (b := 1) (by omega) (by omega)).mpr h))
    refine lv_iload hx hb dX6_bits_16 (lv_at hl 4 rfl) ?_
    refine lv_bipush (v := nI 64) hx hb dX6_bits_18 (by decide) ?_
    refine lv_icmp_le (tgt := 31) hx hb dX6_bits_20 (by decide) (fun c_2 => ?_) (fun c_2 => ?_)
    · skip
      have c_2 : nb ≤ 64 := (nI_leI (a := nb) (b := 64) (by omega) (by omega)).mp c_2
      refine lv_iload hx hb dX6_bits_31 (lv_at hl 5 rfl) ?_
      refine lv_if_ne (tgt := 44) hx hb dX6_bits_33 (by decide) (fun c_3 => ?_) (fun c_3 => ?_)
      · skip
        have c_3 : fz ≠ 0 := fun h => c_3 ((nI_eq (a := fz) (b := 0) (by omega) (by omega)).mpr h)
        exfalso; omega
      · skip
        have c_3 : fz = 0 := (nI_eq (a := fz) (b := 0) (by omega) (by omega)).mp c_3
        refine lv_aload hx hb dX6_bits_36 (lv_at hl 0 rfl) ?_
        refine mw_getN (C := RX2) (T := TX2) (N := 2) (v := .int (nI (n))) hx hb hts inX6_bits_X2 hown hC hw e3 rfl 1 (by decide) (show Cond.fieldLinkNest RX6 73 (TX2 1).1 (TX2 1).2.1 (TX2 1).2.2.1 "LinkPair" ∈ mw_nestF by decide +kernel) rfl dX6_bits_38 ?_
        refine lv_if_ne (tgt := 48) hx hb dX6_bits_41 (by decide) (fun c_4 => ?_) (fun c_4 => ?_)
        · skip
          have c_4 : n ≠ 0 := fun h => c_4 ((nI_eq (a := n) (b := 0) (by omega) (by omega)).mpr h)
          refine lv_iconst (v := nI 0) hx hb dX6_bits_48 (by decide) ?_
          refine lv_istore (lv' := [(7, .int (nI (0))), (6, .ref (li)), (0, .ref (h0)), (1, .int (nI (ed))), (2, .long (wv)), (4, .int (nI (nb))), (5, .int (nI (fz)))]) hx hb dX6_bits_49 hl (by decide) rfl (fun ls hl => ?_)
          refine lv_iload hx hb dX6_bits_51 (lv_at hl 0 rfl) ?_
          refine lv_if_eq (tgt := 67) hx hb dX6_bits_53 (by decide) (fun c_5 => ?_) (fun c_5 => ?_)
          · skip
            refine lv_aload hx hb dX6_bits_67 (lv_at hl 1 rfl) ?_
            refine mw_cr hC hw (va_runV (As := []) (rest := []) ⟨hx, hb, hml, hown, hts⟩ (c_X2_last l G _ H.size li fa n fr y e3 e4 (by omega) (by omega) (hy)) (cwV 0 hts gX6_bits_X2_last rfl rfl rfl (by decide +kernel) ⟨Nat.le_of_ble_eq_true rfl, Nat.le_of_ble_eq_true rfl⟩) (mw_preV (ci := 2) hC hw rfl e3) rfl rfl hl.1 rfl (lv_room (Nat.le_of_ble_eq_true rfl)) dX6_bits_69 ⟨Nat.le_of_ble_eq_true rfl, Nat.le_of_ble_eq_true rfl⟩) (fun H locs hz hw => ?_)
            refine mw_getN (C := RX1) (T := TX1) (N := 2) (v := .int (nI (q))) hx hb hts inX6_bits_X1 hown hC hw e5 rfl 1 (by decide) (show Cond.fieldLinkNest RX6 96 (TX1 1).1 (TX1 1).2.1 (TX1 1).2.2.1 "LinkPair" ∈ mw_nestF by decide +kernel) rfl dX6_bits_72 ?_
            refine lv_iload hx hb dX6_bits_75 (lv_at hl 5 rfl) ?_
            refine lv_iadd hx hb dX6_bits_77 ?_
            refine mw_ti (v' := nI (q + nb)) (nI_add _ _) ?_
            refine lv_sipush (v := nI 3000) hx hb dX6_bits_78 (by decide) ?_
            refine lv_icmp_le (tgt := 92) hx hb dX6_bits_81 (by decide) (fun c_6 => ?_) (fun c_6 => ?_)
            · skip
              have c_6 : q + nb ≤ 3000 := (nI_leI (a := q + nb) (b := 3000) (by omega) (by omega)).mp c_6
              refine lv_iload hx hb dX6_bits_92 (lv_at hl 0 rfl) ?_
              refine lv_if_eq (tgt := 105) hx hb dX6_bits_94 (by decide) (fun c_7 => ?_) (fun c_7 => ?_)
              · skip
                refine lv_aload hx hb dX6_bits_105 (lv_at hl 1 rfl) ?_
                refine mw_cr hC hw (va_runV (As := []) (rest := []) ⟨hx, hb, hml, hown, hts⟩ (c_X2_last l G _ H.size li fa n fr y e3 e4 (by omega) (by omega) (hy)) (cwV 0 hts gX6_bits_X2_last rfl rfl rfl (by decide +kernel) ⟨Nat.le_of_ble_eq_true rfl, Nat.le_of_ble_eq_true rfl⟩) (mw_preV (ci := 2) hC hw rfl e3) rfl rfl hl.1 rfl (lv_room (Nat.le_of_ble_eq_true rfl)) dX6_bits_107 ⟨Nat.le_of_ble_eq_true rfl, Nat.le_of_ble_eq_true rfl⟩) (fun H locs hz hw => ?_)
                refine lv_astore (lv' := [(8, .ref (y)), (7, .int (nI (0))), (6, .ref (li)), (0, .ref (h0)), (1, .int (nI (ed))), (2, .long (wv)), (4, .int (nI (nb))), (5, .int (nI (fz)))]) hx hb dX6_bits_110 hl (by decide) rfl (fun ls hl => ?_)
                refine lv_iconst (v := nI 0) hx hb dX6_bits_112 (by decide) ?_
                refine lv_istore (lv' := [(9, .int (nI (0))), (8, .ref (y)), (7, .int (nI (0))), (6, .ref (li)), (0, .ref (h0)), (1, .int (nI (ed))), (2, .long (wv)), (4, .int (nI (nb))), (5, .int (nI (fz)))]) hx hb dX6_bits_113 hl (by decide) rfl (fun ls hl => ?_)
                have lp_8 : ∀ (n9 : Nat) (k : Nat), (hk : k ≤ nb) → nb - k < n9 → ∀ (H : Heap) (locs : List Loc) (ls : Array Slot), mw_St G (mw_A M s.heap.size) s (va_up (va_up M y (some (.inr (1, [.ref (w), .int (nI (q + k))])))) w (some (.inl (G.2 2, 47, .inr (.inl (bts f q wv k)))))) H locs → lv_has ls 10 [(2, .long (wv)), (4, .int (nI (nb))), (8, .ref (y)), (9, .int (nI (k)))] → W p l e (headSpec wsX6_bits RM_X6_bits_app).room s m ([.ref (h0), .int (nI (ed)), .long (wv), .int (nI (nb)), .int (nI (fz))] : List Value).toArray below meth c H locs 0 0 (MQ below (mw_Qi G M s.heap.size (nI (q + nb)) (va_up (va_up M y (some (.inr (1, [.ref (w), .int (nI (q + nb))])))) w (some (.inl (G.2 2, 47, .inr (.inl (bts f q wv nb))))))) ([.ref (h0), .int (nI (ed)), .long (wv), .int (nI (nb)), .int (nI (fz))] : List Value).toArray s 0 0 (mw_A M s.heap.size)) (F0 m 115 ls []) := by
                  intro n9
                  induction n9 with
                  | zero => intro k hk h9; exact absurd h9 (Nat.not_lt_zero _)
                  | succ n9 ih =>
                    intro k hk h9 H locs ls hw hl
                    refine lv_iload hx hb dX6_bits_115 (lv_at hl 3 rfl) ?_
                    refine lv_iload hx hb dX6_bits_117 (lv_at hl 1 rfl) ?_
                    refine lv_icmp_ge (tgt := 140) hx hb dX6_bits_119 (by decide) (fun c_9 => ?_) (fun c_9 => ?_)
                    · skip
                      have c_9 : k ≥ nb := (nI_leI (a := nb) (b := k) (by omega) (by omega)).mp c_9
                      obtain rfl : nb = k := by omega
                      refine lv_aload hx hb dX6_bits_140 (lv_at hl 2 rfl) ?_
                      refine mw_getN (C := RX1) (T := TX1) (N := 2) (v := .int (nI (q + nb))) hx hb hts inX6_bits_X1 hown hC hw (mw_u1 m5_6 mw_u0) rfl 1 (by decide) (show Cond.fieldLinkNest RX6 96 (TX1 1).1 (TX1 1).2.1 (TX1 1).2.2.1 "LinkPair" ∈ mw_nestF by decide +kernel) rfl dX6_bits_142 ?_
                      exact mw_iret hx hb hr hlocks hw (rfl) (fun _ _ h9 => h9) dX6_bits_145
                    · skip
                      have c_9 : k < nb := Nat.not_le.mp (fun h => c_9 ((nI_leI (a := nb) (b := k) (by omega) (by omega)).mpr h))
                      refine lv_aload hx hb dX6_bits_122 (lv_at hl 2 rfl) ?_
                      refine lv_lload_n hx hb dX6_bits_124 rfl (lv_at hl 0 rfl) ?_
                      refine lv_iload hx hb dX6_bits_125 (lv_at hl 3 rfl) ?_
                      refine lv_lushr hx hb dX6_bits_127 rfl ?_
                      refine lv_l2i hx hb dX6_bits_128 rfl ?_
                      refine lv_iconst (v := nI 1) hx hb dX6_bits_129 (by decide) ?_
                      refine lv_iand hx hb dX6_bits_130 ?_
                      refine mw_ti (v' := nI (wbt wv k)) (wbt_val wv (by omega)) ?_
                      refine mw_cv hC hw (va_runV (As := [.int (nI (wbt wv k))]) (rest := []) ⟨hx, hb, hml, hown, hts⟩ (c_X1_add l G _ H.size y w (q + k) (bts f q wv k) (wbt wv k) (mw_u1 m5_6 mw_u0) mw_u0 (by omega) (wbt_le wv k)) (cwV 1 hts gX6_bits_X1_add rfl rfl rfl (by decide +kernel) ⟨Nat.le_of_ble_eq_true rfl, Nat.le_of_ble_eq_true rfl⟩) (mw_preV (ci := 1) hC hw rfl (mw_u1 m5_6 mw_u0)) rfl rfl hl.1 rfl (lv_room (Nat.le_of_ble_eq_true rfl)) dX6_bits_131 ⟨Nat.le_of_ble_eq_true rfl, Nat.le_of_ble_eq_true rfl⟩) (fun H locs hz hw => ?_)
                      refine lv_iinc (v := nI (k + 1)) (lv' := [(9, .int (nI (k + 1))), (2, .long (wv)), (4, .int (nI (nb))), (8, .ref (y))]) hx hb dX6_bits_134 hl (k := 3) rfl (by rw [show Int32.ofInt 1 = nI 1 by decide]; exact nI_add _ _) (by decide) rfl (fun ls hl => ?_)
                      refine lv_goto (tgt := 115) hx hb dX6_bits_137 (by decide) ?_
                      have hc_11 : (.inr (1, [.ref (w), .int (nI ((q + k) + 1))]) : va_E) = .inr (1, [.ref (w), .int (nI (q + (k + 1)))]) := by first | rfl | (congr 2; omega) | simp_all
                      have hc_12 : (.inl (G.2 2, 47, .inr (.inl (fadd (bts f q wv k) (q + k) (wbt wv k)))) : va_E) = .inl (G.2 2, 47, .inr (.inl (bts f q wv (k + 1)))) := by first | rfl | (congr 2; omega) | simp_all
                      have hw : mw_St G (mw_A M s.heap.size) s (va_up (va_up M y (some (.inr (1, [.ref (w), .int (nI (q + (k + 1)))])))) w (some (.inl (G.2 2, 47, .inr (.inl (bts f q wv (k + 1))))))) H locs := hw.to (fun q8 x8 h8 => by
                        by_cases b_13 : q8 = y
                        · rw [b_13] at h8 ⊢; exact (mw_u1 m5_6 mw_u0).trans ((congrArg some hc_11).trans ((mw_u1 m5_6 mw_u0).symm.trans h8))
                        by_cases b_14 : q8 = w
                        · rw [b_14] at h8 ⊢; exact mw_u0.trans ((congrArg some hc_12).trans (mw_u0.symm.trans h8))
                        simp only [va_up_ne _ _ b_13, va_up_ne _ _ b_14] at h8 ⊢; exact h8)
                      exact ih (k + 1) (by omega) (by omega) _ _ ls hw (lv_sub hl [1, 2, 3, 0] rfl)
                have hc_16 : (.inr (1, [.ref (w), .int (nI (q))]) : va_E) = .inr (1, [.ref (w), .int (nI (q + 0))]) := by first | rfl | (congr 2; omega) | simp_all
                have hc_17 : (.inl (G.2 2, 47, .inr (.inl (f))) : va_E) = .inl (G.2 2, 47, .inr (.inl (bts f q wv 0))) := by first | rfl | (congr 2; omega) | simp_all
                have hw : mw_St G (mw_A M s.heap.size) s (va_up (va_up M y (some (.inr (1, [.ref (w), .int (nI (q + 0))])))) w (some (.inl (G.2 2, 47, .inr (.inl (bts f q wv 0)))))) H locs := hw.to (fun q8 x8 h8 => by
                  by_cases b_18 : q8 = y
                  · rw [b_18] at h8 ⊢; exact e5.trans ((congrArg some hc_16).trans ((mw_u1 m5_6 mw_u0).symm.trans h8))
                  by_cases b_19 : q8 = w
                  · rw [b_19] at h8 ⊢; exact e6.trans ((congrArg some hc_17).trans (mw_u0.symm.trans h8))
                  simp only [va_up_ne _ _ b_18, va_up_ne _ _ b_19] at h8 ⊢; exact h8)
                exact lp_8 (nb - 0 + 1) 0 (by omega) (Nat.lt_succ_self _) _ _ ls hw (lv_sub hl [6, 7, 1, 0] rfl)
              · skip
                exact absurd c_7 (by decide)
            · skip
              have c_6 : q + nb > 3000 := Nat.not_le.mp (fun h => c_6 ((nI_leI (a := q + nb) (b := 3000) (by omega) (by omega)).mpr h))
              exfalso; omega
          · skip
            exact absurd c_5 (by decide)
        · skip
          have c_4 : n = 0 := (nI_eq (a := n) (b := 0) (by omega) (by omega)).mp c_4
          exfalso; omega
    · skip
      have c_2 : nb > 64 := Nat.not_le.mp (fun h => c_2 ((nI_leI (a := nb) (b := 64) (by omega) (by omega)).mpr h))
      exfalso; omega
