/-! ===== LinkPair.about, restart ===== -/
def RM_X6_about_bade : Room := { frames := 7, cells := 1, slots := 6, locals := 102 }
set_option maxHeartbeats 4000000 in
set_option maxRecDepth 100000 in
theorem t_X6_about_bade (l : Launch) (hlt : l.stackTraces = false) (G : mw_G) (M : mw_M) (sz : Nat) (h0 ea hu : Nat) (en : Nat → Option Nat) (ed wh : Int32) (e0 : M h0 = some (.inr (6, [.ref (ea), .ref (hu)]))) (e1 : M ea = some (.inl (G.2 4, 2, .inr (.inr (.inr (.inr (en))))))) (hb1 : ed < 0 ∨ nI 1 < ed)  : vx_Met l yX6_about wsX6_about RM_X6_about_bade (mw_pre G M sz [.ref (h0), .int (ed), .int (wh)]) mw_no (mw_X G M sz exA M) 1 6 (mw_A M sz) := by
  refine vx_ofW (cc := cX6_about) (maxL := 4) (ret := (some .int)) (by decide) rfl ?_
  intro p e s m args below meth c s₁ B hml hex hv
  obtain ⟨rfl, rfl, hC, hw⟩ := mw_in hv
  have hx := B.exec
  have hb := B.bytes
  have hr := B.returns
  have hts := atoms_spec (ws := wsX6_about) B.pre
  have hown : s.vm.findClass RX6 = some m.cls := findClass_of_methodNamed B.named
  have hlocks := B.notSynchronized
  have hl := lv_entry ([.ref (h0), .int (ed), .int (wh)]) (n := 4) (Nat.le_of_ble_eq_true rfl)
  rw [lg_entry_eq]
  generalize (lg_sl ([.ref (h0), .int (ed), .int (wh)]) ++ List.replicate (4 - (lg_sl ([.ref (h0), .int (ed), .int (wh)])).length) Slot.unset).toArray = ls at hl ⊢
  have hl : lv_has ls 4 [(0, .ref (h0)), (1, .int (ed)), (2, .int (wh))] := hl
  refine mw_start (fun H locs hw => ?_) hw
  refine lv_aload_n hx hb dX6_about_0 rfl (lv_at hl 0 rfl) ?_
  refine lv_iload_n hx hb dX6_about_1 rfl (lv_at hl 1 rfl) ?_
  refine mw_ct hC hw (vx_runV (As := [.int (ed)]) (rest := []) ⟨hx, hb, hml, hown, hts⟩ (t_X6_endOf_bad l hlt G _ H.size h0 ea hu en ed e0 e1 (hb1)) (cwV 1 hts gX6_about_X6_endOf rfl rfl rfl (by decide +kernel) ⟨Nat.le_of_ble_eq_true rfl, Nat.le_of_ble_eq_true rfl⟩) (mw_preV (ci := 6) hC hw rfl e0) rfl rfl hl.1 rfl (lv_room (Nat.le_of_ble_eq_true rfl)) dX6_about_2 ⟨Nat.le_of_ble_eq_true rfl, Nat.le_of_ble_eq_true rfl⟩) (fun ce q9 H locs hw hce hcv hcl => ?_)
  exact mw_pass hlocks hex hw hce hcv hcl (Nat.le_of_ble_eq_true rfl) (Nat.le_of_ble_eq_true rfl)
theorem inexA_X6_about : ∀ w ∈ (vx_at0 RX6 29 exA exN).filter goodWord, w ∈ wsX6_about := by decide +kernel
def RM_X6_about_badw : Room := { frames := 6, cells := 1, slots := 6, locals := 81 }
set_option maxHeartbeats 4000000 in
set_option maxRecDepth 100000 in
theorem t_X6_about_badw (l : Launch) (hlt : l.stackTraces = false) (G : mw_G) (M : mw_M) (sz : Nat) (h0 ea hu : Nat) (en : Nat → Option Nat) (ed : Nat) (x li me so fi bi sn tn er un : Nat) (fl al ab : Bool) (wh : Int32) (e0 : M h0 = some (.inr (6, [.ref (ea), .ref (hu)]))) (e1 : M ea = some (.inl (G.2 4, 2, .inr (.inr (.inr (.inr (en))))))) (e2 : M x = some (.inr (0, [.ref (li), .ref (me), .ref (so), .int (nI (fi)), .int (nI (bi)), .int (nI (sn)), .int (nI (tn)), .int (nI (er)), .int (nI (un)), .int (nI (b2n fl)), .int (nI (b2n al)), .int (nI (b2n ab))]))) (he : ed ≤ 1) (hen : en ed = some x) (hb1 : wh < 0 ∨ nI 11 < wh)  : vx_Met l yX6_about wsX6_about RM_X6_about_badw (mw_pre G M sz [.ref (h0), .int (nI (ed)), .int (wh)]) mw_no (mw_X G M sz exA M) 1 6 (mw_A M sz) := by
  refine vx_ofW (cc := cX6_about) (maxL := 4) (ret := (some .int)) (by decide) rfl ?_
  intro p e s m args below meth c s₁ B hml hex hv
  obtain ⟨rfl, rfl, hC, hw⟩ := mw_in hv
  have hx := B.exec
  have hb := B.bytes
  have hr := B.returns
  have hts := atoms_spec (ws := wsX6_about) B.pre
  have hown : s.vm.findClass RX6 = some m.cls := findClass_of_methodNamed B.named
  have hlocks := B.notSynchronized
  have k_0 := hts (.classLink RX6 27 exA) (by decide +kernel)
  have k_1 := hts (.initialized exA) (by decide +kernel)
  have hl := lv_entry ([.ref (h0), .int (nI (ed)), .int (wh)]) (n := 4) (Nat.le_of_ble_eq_true rfl)
  rw [lg_entry_eq]
  generalize (lg_sl ([.ref (h0), .int (nI (ed)), .int (wh)]) ++ List.replicate (4 - (lg_sl ([.ref (h0), .int (nI (ed)), .int (wh)])).length) Slot.unset).toArray = ls at hl ⊢
  have hl : lv_has ls 4 [(0, .ref (h0)), (1, .int (nI (ed))), (2, .int (wh))] := hl
  refine mw_start (fun H locs hw => ?_) hw
  refine lv_aload_n hx hb dX6_about_0 rfl (lv_at hl 0 rfl) ?_
  refine lv_iload_n hx hb dX6_about_1 rfl (lv_at hl 1 rfl) ?_
  refine mw_cr hC hw (va_runV (As := [.int (nI (ed))]) (rest := []) ⟨hx, hb, hml, hown, hts⟩ (c_X6_endOf l G _ H.size h0 ea hu en ed x e0 e1 (by omega) (hen)) (cwV 1 hts gX6_about_X6_endOf rfl rfl rfl (by decide +kernel) ⟨Nat.le_of_ble_eq_true rfl, Nat.le_of_ble_eq_true rfl⟩) (mw_preV (ci := 6) hC hw rfl e0) rfl rfl hl.1 rfl (lv_room (Nat.le_of_ble_eq_true rfl)) dX6_about_2 ⟨Nat.le_of_ble_eq_true rfl, Nat.le_of_ble_eq_true rfl⟩) (fun H locs hz hw => ?_)
  refine lv_astore_n (lv' := [(3, .ref (x)), (0, .ref (h0)), (1, .int (nI (ed))), (2, .int (wh))]) hx hb dX6_about_5 rfl hl (by decide) rfl (fun ls hl => ?_)
  refine lv_iload_n hx hb dX6_about_6 rfl (lv_at hl 3 rfl) ?_
  refine lv_if_lt (tgt := 16) hx hb dX6_about_7 (by decide) (fun c_1 => ?_) (fun c_1 => ?_)
  · skip
    exact mw_throw hx hb hlt hown (by decide +kernel) k_0 k_1 (fun w h => hts w (inexA_X6_about w h)) exA_bad exA_ot hC hw (hl.1.trans hml.symm) hex dX6_about_16 dX6_about_19 dX6_about_20 dX6_about_23 (Nat.le_of_ble_eq_true rfl) (Nat.le_of_ble_eq_true rfl) (Nat.le_of_ble_eq_true rfl) (Nat.le_of_ble_eq_true rfl) hlocks (Nat.le_of_ble_eq_true rfl) (Nat.le_of_ble_eq_true rfl)
  · skip
    refine lv_iload_n hx hb dX6_about_10 rfl (lv_at hl 3 rfl) ?_
    refine lv_bipush (v := nI 11) hx hb dX6_about_11 (by decide) ?_
    refine lv_icmp_le (tgt := 24) hx hb dX6_about_13 (by decide) (fun c_2 => ?_) (fun c_2 => ?_)
    · skip
      exact hb1.elim (fun h => absurd h (by assumption)) (fun h => absurd c_2 (Int32.not_le.mpr h))
    · skip
      exact mw_throw hx hb hlt hown (by decide +kernel) k_0 k_1 (fun w h => hts w (inexA_X6_about w h)) exA_bad exA_ot hC hw (hl.1.trans hml.symm) hex dX6_about_16 dX6_about_19 dX6_about_20 dX6_about_23 (Nat.le_of_ble_eq_true rfl) (Nat.le_of_ble_eq_true rfl) (Nat.le_of_ble_eq_true rfl) (Nat.le_of_ble_eq_true rfl) hlocks (Nat.le_of_ble_eq_true rfl) (Nat.le_of_ble_eq_true rfl)
def RM_X6_about_0 : Room := { frames := 1, cells := 0, slots := 0, locals := 21 }
set_option maxHeartbeats 4000000 in
set_option maxRecDepth 100000 in
theorem c_X6_about_0 (l : Launch) (G : mw_G) (M : mw_M) (sz : Nat) (h0 ea hu : Nat) (en : Nat → Option Nat) (ed : Nat) (x li me so fi bi sn tn er un : Nat) (fl al ab : Bool) (fa n : Nat) (la sa mf mu ma mw : Nat) (ba sl t : Nat) (e0 : M h0 = some (.inr (6, [.ref (ea), .ref (hu)]))) (e1 : M ea = some (.inl (G.2 4, 2, .inr (.inr (.inr (.inr (en))))))) (e2 : M x = some (.inr (0, [.ref (li), .ref (me), .ref (so), .int (nI (fi)), .int (nI (bi)), .int (nI (sn)), .int (nI (tn)), .int (nI (er)), .int (nI (un)), .int (nI (b2n fl)), .int (nI (b2n al)), .int (nI (b2n ab))]))) (e3 : M li = some (.inr (2, [.ref (fa), .int (nI (n))]))) (e4 : M me = some (.inr (3, [.ref (la), .ref (sa), .int (nI (mf)), .int (nI (mu)), .int (nI (ma)), .int (nI (mw))]))) (e5 : M so = some (.inr (4, [.ref (ba), .ref (sl), .int (nI (t))]))) (he : ed ≤ 1) (hen : en ed = some x)  : Met l yX6_about wsX6_about RM_X6_about_0 (mw_pre G M sz [.ref (h0), .int (nI (ed)), .int (nI (0))]) (mw_Qi G M sz (nI (fi)) M) 0 0 (mw_A M sz) := by
  refine Met.ofW (cc := cX6_about) (maxL := 4) (ret := (some .int)) (by decide) rfl ?_
  intro p e s m args below meth c s₁ B hml hv
  obtain ⟨rfl, rfl, hC, hw⟩ := mw_in hv
  have hx := B.exec
  have hb := B.bytes
  have hr := B.returns
  have hts := atoms_spec (ws := wsX6_about) B.pre
  have hown : s.vm.findClass RX6 = some m.cls := findClass_of_methodNamed B.named
  have hlocks := B.notSynchronized
  have hl := lv_entry ([.ref (h0), .int (nI (ed)), .int (nI (0))]) (n := 4) (Nat.le_of_ble_eq_true rfl)
  rw [lg_entry_eq]
  generalize (lg_sl ([.ref (h0), .int (nI (ed)), .int (nI (0))]) ++ List.replicate (4 - (lg_sl ([.ref (h0), .int (nI (ed)), .int (nI (0))])).length) Slot.unset).toArray = ls at hl ⊢
  have hl : lv_has ls 4 [(0, .ref (h0)), (1, .int (nI (ed))), (2, .int (nI (0)))] := hl
  refine mw_start (fun H locs hw => ?_) hw
  refine lv_aload_n hx hb dX6_about_0 rfl (lv_at hl 0 rfl) ?_
  refine lv_iload_n hx hb dX6_about_1 rfl (lv_at hl 1 rfl) ?_
  refine mw_cr hC hw (va_runV (As := [.int (nI (ed))]) (rest := []) ⟨hx, hb, hml, hown, hts⟩ (c_X6_endOf l G _ H.size h0 ea hu en ed x e0 e1 (by omega) (hen)) (cwV 1 hts gX6_about_X6_endOf rfl rfl rfl (by decide +kernel) ⟨Nat.le_of_ble_eq_true rfl, Nat.le_of_ble_eq_true rfl⟩) (mw_preV (ci := 6) hC hw rfl e0) rfl rfl hl.1 rfl (lv_room (Nat.le_of_ble_eq_true rfl)) dX6_about_2 ⟨Nat.le_of_ble_eq_true rfl, Nat.le_of_ble_eq_true rfl⟩) (fun H locs hz hw => ?_)
  refine lv_astore_n (lv' := [(3, .ref (x)), (0, .ref (h0)), (1, .int (nI (ed))), (2, .int (nI (0)))]) hx hb dX6_about_5 rfl hl (by decide) rfl (fun ls hl => ?_)
  refine lv_iload_n hx hb dX6_about_6 rfl (lv_at hl 3 rfl) ?_
  refine lv_if_lt (tgt := 16) hx hb dX6_about_7 (by decide) (fun c_1 => ?_) (fun c_1 => ?_)
  · skip
    exact absurd c_1 (by decide)
  · skip
    refine lv_iload_n hx hb dX6_about_10 rfl (lv_at hl 3 rfl) ?_
    refine lv_bipush (v := nI 11) hx hb dX6_about_11 (by decide) ?_
    refine lv_icmp_le (tgt := 24) hx hb dX6_about_13 (by decide) (fun c_2 => ?_) (fun c_2 => ?_)
    · skip
      refine lv_aload_n hx hb dX6_about_24 rfl (lv_at hl 0 rfl) ?_
      refine lv_iload_n hx hb dX6_about_25 rfl (lv_at hl 3 rfl) ?_
      refine mw_ci hC hw (va_runV (As := [.int (nI (0))]) (rest := []) ⟨hx, hb, hml, hown, hts⟩ (c_X0_fact_0 l G _ H.size x li me so fi bi sn tn er un fl al ab fa n la sa mf mu ma mw ba sl t e2 e3 e4 e5 ) (cwV 1 hts gX6_about_X0_fact rfl rfl rfl (by decide +kernel) ⟨Nat.le_of_ble_eq_true rfl, Nat.le_of_ble_eq_true rfl⟩) (mw_preV (ci := 0) hC hw rfl e2) rfl rfl hl.1 rfl (lv_room (Nat.le_of_ble_eq_true rfl)) dX6_about_26 ⟨Nat.le_of_ble_eq_true rfl, Nat.le_of_ble_eq_true rfl⟩) (fun H locs hz hw => ?_)
      exact mw_iret hx hb hr hlocks hw (rfl) (fun _ _ h9 => h9) dX6_about_29
    · skip
      exact absurd c_2 (by decide)
def RM_X6_about_1 : Room := { frames := 1, cells := 0, slots := 0, locals := 21 }
set_option maxHeartbeats 4000000 in
set_option maxRecDepth 100000 in
theorem c_X6_about_1 (l : Launch) (G : mw_G) (M : mw_M) (sz : Nat) (h0 ea hu : Nat) (en : Nat → Option Nat) (ed : Nat) (x li me so fi bi sn tn er un : Nat) (fl al ab : Bool) (fa n : Nat) (la sa mf mu ma mw : Nat) (ba sl t : Nat) (e0 : M h0 = some (.inr (6, [.ref (ea), .ref (hu)]))) (e1 : M ea = some (.inl (G.2 4, 2, .inr (.inr (.inr (.inr (en))))))) (e2 : M x = some (.inr (0, [.ref (li), .ref (me), .ref (so), .int (nI (fi)), .int (nI (bi)), .int (nI (sn)), .int (nI (tn)), .int (nI (er)), .int (nI (un)), .int (nI (b2n fl)), .int (nI (b2n al)), .int (nI (b2n ab))]))) (e3 : M li = some (.inr (2, [.ref (fa), .int (nI (n))]))) (e4 : M me = some (.inr (3, [.ref (la), .ref (sa), .int (nI (mf)), .int (nI (mu)), .int (nI (ma)), .int (nI (mw))]))) (e5 : M so = some (.inr (4, [.ref (ba), .ref (sl), .int (nI (t))]))) (he : ed ≤ 1) (hen : en ed = some x)  : Met l yX6_about wsX6_about RM_X6_about_1 (mw_pre G M sz [.ref (h0), .int (nI (ed)), .int (nI (1))]) (mw_Qi G M sz (nI (bi)) M) 0 0 (mw_A M sz) := by
  refine Met.ofW (cc := cX6_about) (maxL := 4) (ret := (some .int)) (by decide) rfl ?_
  intro p e s m args below meth c s₁ B hml hv
  obtain ⟨rfl, rfl, hC, hw⟩ := mw_in hv
  have hx := B.exec
  have hb := B.bytes
  have hr := B.returns
  have hts := atoms_spec (ws := wsX6_about) B.pre
  have hown : s.vm.findClass RX6 = some m.cls := findClass_of_methodNamed B.named
  have hlocks := B.notSynchronized
  have hl := lv_entry ([.ref (h0), .int (nI (ed)), .int (nI (1))]) (n := 4) (Nat.le_of_ble_eq_true rfl)
  rw [lg_entry_eq]
  generalize (lg_sl ([.ref (h0), .int (nI (ed)), .int (nI (1))]) ++ List.replicate (4 - (lg_sl ([.ref (h0), .int (nI (ed)), .int (nI (1))])).length) Slot.unset).toArray = ls at hl ⊢
  have hl : lv_has ls 4 [(0, .ref (h0)), (1, .int (nI (ed))), (2, .int (nI (1)))] := hl
  refine mw_start (fun H locs hw => ?_) hw
  refine lv_aload_n hx hb dX6_about_0 rfl (lv_at hl 0 rfl) ?_
  refine lv_iload_n hx hb dX6_about_1 rfl (lv_at hl 1 rfl) ?_
  refine mw_cr hC hw (va_runV (As := [.int (nI (ed))]) (rest := []) ⟨hx, hb, hml, hown, hts⟩ (c_X6_endOf l G _ H.size h0 ea hu en ed x e0 e1 (by omega) (hen)) (cwV 1 hts gX6_about_X6_endOf rfl rfl rfl (by decide +kernel) ⟨Nat.le_of_ble_eq_true rfl, Nat.le_of_ble_eq_true rfl⟩) (mw_preV (ci := 6) hC hw rfl e0) rfl rfl hl.1 rfl (lv_room (Nat.le_of_ble_eq_true rfl)) dX6_about_2 ⟨Nat.le_of_ble_eq_true rfl, Nat.le_of_ble_eq_true rfl⟩) (fun H locs hz hw => ?_)
  refine lv_astore_n (lv' := [(3, .ref (x)), (0, .ref (h0)), (1, .int (nI (ed))), (2, .int (nI (1)))]) hx hb dX6_about_5 rfl hl (by decide) rfl (fun ls hl => ?_)
  refine lv_iload_n hx hb dX6_about_6 rfl (lv_at hl 3 rfl) ?_
  refine lv_if_lt (tgt := 16) hx hb dX6_about_7 (by decide) (fun c_1 => ?_) (fun c_1 => ?_)
  · skip
    exact absurd c_1 (by decide)
  · skip
    refine lv_iload_n hx hb dX6_about_10 rfl (lv_at hl 3 rfl) ?_
    refine lv_bipush (v := nI 11) hx hb dX6_about_11 (by decide) ?_
    refine lv_icmp_le (tgt := 24) hx hb dX6_about_13 (by decide) (fun c_2 => ?_) (fun c_2 => ?_)
    · skip
      refine lv_aload_n hx hb dX6_about_24 rfl (lv_at hl 0 rfl) ?_
      refine lv_iload_n hx hb dX6_about_25 rfl (lv_at hl 3 rfl) ?_
      refine mw_ci hC hw (va_runV (As := [.int (nI (1))]) (rest := []) ⟨hx, hb, hml, hown, hts⟩ (c_X0_fact_1 l G _ H.size x li me so fi bi sn tn er un fl al ab fa n la sa mf mu ma mw ba sl t e2 e3 e4 e5 ) (cwV 1 hts gX6_about_X0_fact rfl rfl rfl (by decide +kernel) ⟨Nat.le_of_ble_eq_true rfl, Nat.le_of_ble_eq_true rfl⟩) (mw_preV (ci := 0) hC hw rfl e2) rfl rfl hl.1 rfl (lv_room (Nat.le_of_ble_eq_true rfl)) dX6_about_26 ⟨Nat.le_of_ble_eq_true rfl, Nat.le_of_ble_eq_true rfl⟩) (fun H locs hz hw => ?_)
      exact mw_iret hx hb hr hlocks hw (rfl) (fun _ _ h9 => h9) dX6_about_29
    · skip
      exact absurd c_2 (by decide)
def RM_X6_about_2 : Room := { frames := 1, cells := 0, slots := 0, locals := 21 }
set_option maxHeartbeats 4000000 in
set_option maxRecDepth 100000 in
theorem c_X6_about_2 (l : Launch) (G : mw_G) (M : mw_M) (sz : Nat) (h0 ea hu : Nat) (en : Nat → Option Nat) (ed : Nat) (x li me so fi bi sn tn er un : Nat) (fl al ab : Bool) (fa n : Nat) (la sa mf mu ma mw : Nat) (ba sl t : Nat) (e0 : M h0 = some (.inr (6, [.ref (ea), .ref (hu)]))) (e1 : M ea = some (.inl (G.2 4, 2, .inr (.inr (.inr (.inr (en))))))) (e2 : M x = some (.inr (0, [.ref (li), .ref (me), .ref (so), .int (nI (fi)), .int (nI (bi)), .int (nI (sn)), .int (nI (tn)), .int (nI (er)), .int (nI (un)), .int (nI (b2n fl)), .int (nI (b2n al)), .int (nI (b2n ab))]))) (e3 : M li = some (.inr (2, [.ref (fa), .int (nI (n))]))) (e4 : M me = some (.inr (3, [.ref (la), .ref (sa), .int (nI (mf)), .int (nI (mu)), .int (nI (ma)), .int (nI (mw))]))) (e5 : M so = some (.inr (4, [.ref (ba), .ref (sl), .int (nI (t))]))) (he : ed ≤ 1) (hen : en ed = some x)  : Met l yX6_about wsX6_about RM_X6_about_2 (mw_pre G M sz [.ref (h0), .int (nI (ed)), .int (nI (2))]) (mw_Qi G M sz (nI (sn)) M) 0 0 (mw_A M sz) := by
  refine Met.ofW (cc := cX6_about) (maxL := 4) (ret := (some .int)) (by decide) rfl ?_
  intro p e s m args below meth c s₁ B hml hv
  obtain ⟨rfl, rfl, hC, hw⟩ := mw_in hv
  have hx := B.exec
  have hb := B.bytes
  have hr := B.returns
  have hts := atoms_spec (ws := wsX6_about) B.pre
  have hown : s.vm.findClass RX6 = some m.cls := findClass_of_methodNamed B.named
  have hlocks := B.notSynchronized
  have hl := lv_entry ([.ref (h0), .int (nI (ed)), .int (nI (2))]) (n := 4) (Nat.le_of_ble_eq_true rfl)
  rw [lg_entry_eq]
  generalize (lg_sl ([.ref (h0), .int (nI (ed)), .int (nI (2))]) ++ List.replicate (4 - (lg_sl ([.ref (h0), .int (nI (ed)), .int (nI (2))])).length) Slot.unset).toArray = ls at hl ⊢
  have hl : lv_has ls 4 [(0, .ref (h0)), (1, .int (nI (ed))), (2, .int (nI (2)))] := hl
  refine mw_start (fun H locs hw => ?_) hw
  refine lv_aload_n hx hb dX6_about_0 rfl (lv_at hl 0 rfl) ?_
  refine lv_iload_n hx hb dX6_about_1 rfl (lv_at hl 1 rfl) ?_
  refine mw_cr hC hw (va_runV (As := [.int (nI (ed))]) (rest := []) ⟨hx, hb, hml, hown, hts⟩ (c_X6_endOf l G _ H.size h0 ea hu en ed x e0 e1 (by omega) (hen)) (cwV 1 hts gX6_about_X6_endOf rfl rfl rfl (by decide +kernel) ⟨Nat.le_of_ble_eq_true rfl, Nat.le_of_ble_eq_true rfl⟩) (mw_preV (ci := 6) hC hw rfl e0) rfl rfl hl.1 rfl (lv_room (Nat.le_of_ble_eq_true rfl)) dX6_about_2 ⟨Nat.le_of_ble_eq_true rfl, Nat.le_of_ble_eq_true rfl⟩) (fun H locs hz hw => ?_)
  refine lv_astore_n (lv' := [(3, .ref (x)), (0, .ref (h0)), (1, .int (nI (ed))), (2, .int (nI (2)))]) hx hb dX6_about_5 rfl hl (by decide) rfl (fun ls hl => ?_)
  refine lv_iload_n hx hb dX6_about_6 rfl (lv_at hl 3 rfl) ?_
  refine lv_if_lt (tgt := 16) hx hb dX6_about_7 (by decide) (fun c_1 => ?_) (fun c_1 => ?_)
  · skip
    exact absurd c_1 (by decide)
  · skip
    refine lv_iload_n hx hb dX6_about_10 rfl (lv_at hl 3 rfl) ?_
    refine lv_bipush (v := nI 11) hx hb dX6_about_11 (by decide) ?_
    refine lv_icmp_le (tgt := 24) hx hb dX6_about_13 (by decide) (fun c_2 => ?_) (fun c_2 => ?_)
    · skip
      refine lv_aload_n hx hb dX6_about_24 rfl (lv_at hl 0 rfl) ?_
      refine lv_iload_n hx hb dX6_about_25 rfl (lv_at hl 3 rfl) ?_
      refine mw_ci hC hw (va_runV (As := [.int (nI (2))]) (rest := []) ⟨hx, hb, hml, hown, hts⟩ (c_X0_fact_2 l G _ H.size x li me so fi bi sn tn er un fl al ab fa n la sa mf mu ma mw ba sl t e2 e3 e4 e5 ) (cwV 1 hts gX6_about_X0_fact rfl rfl rfl (by decide +kernel) ⟨Nat.le_of_ble_eq_true rfl, Nat.le_of_ble_eq_true rfl⟩) (mw_preV (ci := 0) hC hw rfl e2) rfl rfl hl.1 rfl (lv_room (Nat.le_of_ble_eq_true rfl)) dX6_about_26 ⟨Nat.le_of_ble_eq_true rfl, Nat.le_of_ble_eq_true rfl⟩) (fun H locs hz hw => ?_)
      exact mw_iret hx hb hr hlocks hw (rfl) (fun _ _ h9 => h9) dX6_about_29
    · skip
      exact absurd c_2 (by decide)
def RM_X6_about_3 : Room := { frames := 1, cells := 0, slots := 0, locals := 21 }
set_option maxHeartbeats 4000000 in
set_option maxRecDepth 100000 in
theorem c_X6_about_3 (l : Launch) (G : mw_G) (M : mw_M) (sz : Nat) (h0 ea hu : Nat) (en : Nat → Option Nat) (ed : Nat) (x li me so fi bi sn tn er un : Nat) (fl al ab : Bool) (fa n : Nat) (la sa mf mu ma mw : Nat) (ba sl t : Nat) (e0 : M h0 = some (.inr (6, [.ref (ea), .ref (hu)]))) (e1 : M ea = some (.inl (G.2 4, 2, .inr (.inr (.inr (.inr (en))))))) (e2 : M x = some (.inr (0, [.ref (li), .ref (me), .ref (so), .int (nI (fi)), .int (nI (bi)), .int (nI (sn)), .int (nI (tn)), .int (nI (er)), .int (nI (un)), .int (nI (b2n fl)), .int (nI (b2n al)), .int (nI (b2n ab))]))) (e3 : M li = some (.inr (2, [.ref (fa), .int (nI (n))]))) (e4 : M me = some (.inr (3, [.ref (la), .ref (sa), .int (nI (mf)), .int (nI (mu)), .int (nI (ma)), .int (nI (mw))]))) (e5 : M so = some (.inr (4, [.ref (ba), .ref (sl), .int (nI (t))]))) (he : ed ≤ 1) (hen : en ed = some x)  : Met l yX6_about wsX6_about RM_X6_about_3 (mw_pre G M sz [.ref (h0), .int (nI (ed)), .int (nI (3))]) (mw_Qi G M sz (nI (tn)) M) 0 0 (mw_A M sz) := by
  refine Met.ofW (cc := cX6_about) (maxL := 4) (ret := (some .int)) (by decide) rfl ?_
  intro p e s m args below meth c s₁ B hml hv
  obtain ⟨rfl, rfl, hC, hw⟩ := mw_in hv
  have hx := B.exec
  have hb := B.bytes
  have hr := B.returns
  have hts := atoms_spec (ws := wsX6_about) B.pre
  have hown : s.vm.findClass RX6 = some m.cls := findClass_of_methodNamed B.named
  have hlocks := B.notSynchronized
  have hl := lv_entry ([.ref (h0), .int (nI (ed)), .int (nI (3))]) (n := 4) (Nat.le_of_ble_eq_true rfl)
  rw [lg_entry_eq]
  generalize (lg_sl ([.ref (h0), .int (nI (ed)), .int (nI (3))]) ++ List.replicate (4 - (lg_sl ([.ref (h0), .int (nI (ed)), .int (nI (3))])).length) Slot.unset).toArray = ls at hl ⊢
  have hl : lv_has ls 4 [(0, .ref (h0)), (1, .int (nI (ed))), (2, .int (nI (3)))] := hl
  refine mw_start (fun H locs hw => ?_) hw
  refine lv_aload_n hx hb dX6_about_0 rfl (lv_at hl 0 rfl) ?_
  refine lv_iload_n hx hb dX6_about_1 rfl (lv_at hl 1 rfl) ?_
  refine mw_cr hC hw (va_runV (As := [.int (nI (ed))]) (rest := []) ⟨hx, hb, hml, hown, hts⟩ (c_X6_endOf l G _ H.size h0 ea hu en ed x e0 e1 (by omega) (hen)) (cwV 1 hts gX6_about_X6_endOf rfl rfl rfl (by decide +kernel) ⟨Nat.le_of_ble_eq_true rfl, Nat.le_of_ble_eq_true rfl⟩) (mw_preV (ci := 6) hC hw rfl e0) rfl rfl hl.1 rfl (lv_room (Nat.le_of_ble_eq_true rfl)) dX6_about_2 ⟨Nat.le_of_ble_eq_true rfl, Nat.le_of_ble_eq_true rfl⟩) (fun H locs hz hw => ?_)
  refine lv_astore_n (lv' := [(3, .ref (x)), (0, .ref (h0)), (1, .int (nI (ed))), (2, .int (nI (3)))]) hx hb dX6_about_5 rfl hl (by decide) rfl (fun ls hl => ?_)
  refine lv_iload_n hx hb dX6_about_6 rfl (lv_at hl 3 rfl) ?_
  refine lv_if_lt (tgt := 16) hx hb dX6_about_7 (by decide) (fun c_1 => ?_) (fun c_1 => ?_)
  · skip
    exact absurd c_1 (by decide)
  · skip
    refine lv_iload_n hx hb dX6_about_10 rfl (lv_at hl 3 rfl) ?_
    refine lv_bipush (v := nI 11) hx hb dX6_about_11 (by decide) ?_
    refine lv_icmp_le (tgt := 24) hx hb dX6_about_13 (by decide) (fun c_2 => ?_) (fun c_2 => ?_)
    · skip
      refine lv_aload_n hx hb dX6_about_24 rfl (lv_at hl 0 rfl) ?_
      refine lv_iload_n hx hb dX6_about_25 rfl (lv_at hl 3 rfl) ?_
      refine mw_ci hC hw (va_runV (As := [.int (nI (3))]) (rest := []) ⟨hx, hb, hml, hown, hts⟩ (c_X0_fact_3 l G _ H.size x li me so fi bi sn tn er un fl al ab fa n la sa mf mu ma mw ba sl t e2 e3 e4 e5 ) (cwV 1 hts gX6_about_X0_fact rfl rfl rfl (by decide +kernel) ⟨Nat.le_of_ble_eq_true rfl, Nat.le_of_ble_eq_true rfl⟩) (mw_preV (ci := 0) hC hw rfl e2) rfl rfl hl.1 rfl (lv_room (Nat.le_of_ble_eq_true rfl)) dX6_about_26 ⟨Nat.le_of_ble_eq_true rfl, Nat.le_of_ble_eq_true rfl⟩) (fun H locs hz hw => ?_)
      exact mw_iret hx hb hr hlocks hw (rfl) (fun _ _ h9 => h9) dX6_about_29
    · skip
      exact absurd c_2 (by decide)
def RM_X6_about_4 : Room := { frames := 1, cells := 0, slots := 0, locals := 21 }
set_option maxHeartbeats 4000000 in
set_option maxRecDepth 100000 in
theorem c_X6_about_4 (l : Launch) (G : mw_G) (M : mw_M) (sz : Nat) (h0 ea hu : Nat) (en : Nat → Option Nat) (ed : Nat) (x li me so fi bi sn tn er un : Nat) (fl al ab : Bool) (fa n : Nat) (la sa mf mu ma mw : Nat) (ba sl t : Nat) (e0 : M h0 = some (.inr (6, [.ref (ea), .ref (hu)]))) (e1 : M ea = some (.inl (G.2 4, 2, .inr (.inr (.inr (.inr (en))))))) (e2 : M x = some (.inr (0, [.ref (li), .ref (me), .ref (so), .int (nI (fi)), .int (nI (bi)), .int (nI (sn)), .int (nI (tn)), .int (nI (er)), .int (nI (un)), .int (nI (b2n fl)), .int (nI (b2n al)), .int (nI (b2n ab))]))) (e3 : M li = some (.inr (2, [.ref (fa), .int (nI (n))]))) (e4 : M me = some (.inr (3, [.ref (la), .ref (sa), .int (nI (mf)), .int (nI (mu)), .int (nI (ma)), .int (nI (mw))]))) (e5 : M so = some (.inr (4, [.ref (ba), .ref (sl), .int (nI (t))]))) (he : ed ≤ 1) (hen : en ed = some x)  : Met l yX6_about wsX6_about RM_X6_about_4 (mw_pre G M sz [.ref (h0), .int (nI (ed)), .int (nI (4))]) (mw_Qi G M sz (nI (mw)) M) 0 0 (mw_A M sz) := by
  refine Met.ofW (cc := cX6_about) (maxL := 4) (ret := (some .int)) (by decide) rfl ?_
  intro p e s m args below meth c s₁ B hml hv
  obtain ⟨rfl, rfl, hC, hw⟩ := mw_in hv
  have hx := B.exec
  have hb := B.bytes
  have hr := B.returns
  have hts := atoms_spec (ws := wsX6_about) B.pre
  have hown : s.vm.findClass RX6 = some m.cls := findClass_of_methodNamed B.named
  have hlocks := B.notSynchronized
  have hl := lv_entry ([.ref (h0), .int (nI (ed)), .int (nI (4))]) (n := 4) (Nat.le_of_ble_eq_true rfl)
  rw [lg_entry_eq]
  generalize (lg_sl ([.ref (h0), .int (nI (ed)), .int (nI (4))]) ++ List.replicate (4 - (lg_sl ([.ref (h0), .int (nI (ed)), .int (nI (4))])).length) Slot.unset).toArray = ls at hl ⊢
  have hl : lv_has ls 4 [(0, .ref (h0)), (1, .int (nI (ed))), (2, .int (nI (4)))] := hl
  refine mw_start (fun H locs hw => ?_) hw
  refine lv_aload_n hx hb dX6_about_0 rfl (lv_at hl 0 rfl) ?_
  refine lv_iload_n hx hb dX6_about_1 rfl (lv_at hl 1 rfl) ?_
  refine mw_cr hC hw (va_runV (As := [.int (nI (ed))]) (rest := []) ⟨hx, hb, hml, hown, hts⟩ (c_X6_endOf l G _ H.size h0 ea hu en ed x e0 e1 (by omega) (hen)) (cwV 1 hts gX6_about_X6_endOf rfl rfl rfl (by decide +kernel) ⟨Nat.le_of_ble_eq_true rfl, Nat.le_of_ble_eq_true rfl⟩) (mw_preV (ci := 6) hC hw rfl e0) rfl rfl hl.1 rfl (lv_room (Nat.le_of_ble_eq_true rfl)) dX6_about_2 ⟨Nat.le_of_ble_eq_true rfl, Nat.le_of_ble_eq_true rfl⟩) (fun H locs hz hw => ?_)
  refine lv_astore_n (lv' := [(3, .ref (x)), (0, .ref (h0)), (1, .int (nI (ed))), (2, .int (nI (4)))]) hx hb dX6_about_5 rfl hl (by decide) rfl (fun ls hl => ?_)
  refine lv_iload_n hx hb dX6_about_6 rfl (lv_at hl 3 rfl) ?_
  refine lv_if_lt (tgt := 16) hx hb dX6_about_7 (by decide) (fun c_1 => ?_) (fun c_1 => ?_)
  · skip
    exact absurd c_1 (by decide)
  · skip
    refine lv_iload_n hx hb dX6_about_10 rfl (lv_at hl 3 rfl) ?_
    refine lv_bipush (v := nI 11) hx hb dX6_about_11 (by decide) ?_
    refine lv_icmp_le (tgt := 24) hx hb dX6_about_13 (by decide) (fun c_2 => ?_) (fun c_2 => ?_)
    · skip
      refine lv_aload_n hx hb dX6_about_24 rfl (lv_at hl 0 rfl) ?_
      refine lv_iload_n hx hb dX6_about_25 rfl (lv_at hl 3 rfl) ?_
      refine mw_ci hC hw (va_runV (As := [.int (nI (4))]) (rest := []) ⟨hx, hb, hml, hown, hts⟩ (c_X0_fact_4 l G _ H.size x li me so fi bi sn tn er un fl al ab fa n la sa mf mu ma mw ba sl t e2 e3 e4 e5 ) (cwV 1 hts gX6_about_X0_fact rfl rfl rfl (by decide +kernel) ⟨Nat.le_of_ble_eq_true rfl, Nat.le_of_ble_eq_true rfl⟩) (mw_preV (ci := 0) hC hw rfl e2) rfl rfl hl.1 rfl (lv_room (Nat.le_of_ble_eq_true rfl)) dX6_about_26 ⟨Nat.le_of_ble_eq_true rfl, Nat.le_of_ble_eq_true rfl⟩) (fun H locs hz hw => ?_)
      exact mw_iret hx hb hr hlocks hw (rfl) (fun _ _ h9 => h9) dX6_about_29
    · skip
      exact absurd c_2 (by decide)
def RM_X6_about_5 : Room := { frames := 1, cells := 0, slots := 0, locals := 21 }
set_option maxHeartbeats 4000000 in
set_option maxRecDepth 100000 in
theorem c_X6_about_5 (l : Launch) (G : mw_G) (M : mw_M) (sz : Nat) (h0 ea hu : Nat) (en : Nat → Option Nat) (ed : Nat) (x li me so fi bi sn tn er un : Nat) (fl al ab : Bool) (fa n : Nat) (la sa mf mu ma mw : Nat) (ba sl t : Nat) (e0 : M h0 = some (.inr (6, [.ref (ea), .ref (hu)]))) (e1 : M ea = some (.inl (G.2 4, 2, .inr (.inr (.inr (.inr (en))))))) (e2 : M x = some (.inr (0, [.ref (li), .ref (me), .ref (so), .int (nI (fi)), .int (nI (bi)), .int (nI (sn)), .int (nI (tn)), .int (nI (er)), .int (nI (un)), .int (nI (b2n fl)), .int (nI (b2n al)), .int (nI (b2n ab))]))) (e3 : M li = some (.inr (2, [.ref (fa), .int (nI (n))]))) (e4 : M me = some (.inr (3, [.ref (la), .ref (sa), .int (nI (mf)), .int (nI (mu)), .int (nI (ma)), .int (nI (mw))]))) (e5 : M so = some (.inr (4, [.ref (ba), .ref (sl), .int (nI (t))]))) (he : ed ≤ 1) (hen : en ed = some x)  : Met l yX6_about wsX6_about RM_X6_about_5 (mw_pre G M sz [.ref (h0), .int (nI (ed)), .int (nI (5))]) (mw_Qi G M sz (nI (mu)) M) 0 0 (mw_A M sz) := by
  refine Met.ofW (cc := cX6_about) (maxL := 4) (ret := (some .int)) (by decide) rfl ?_
  intro p e s m args below meth c s₁ B hml hv
  obtain ⟨rfl, rfl, hC, hw⟩ := mw_in hv
  have hx := B.exec
  have hb := B.bytes
  have hr := B.returns
  have hts := atoms_spec (ws := wsX6_about) B.pre
  have hown : s.vm.findClass RX6 = some m.cls := findClass_of_methodNamed B.named
  have hlocks := B.notSynchronized
  have hl := lv_entry ([.ref (h0), .int (nI (ed)), .int (nI (5))]) (n := 4) (Nat.le_of_ble_eq_true rfl)
  rw [lg_entry_eq]
  generalize (lg_sl ([.ref (h0), .int (nI (ed)), .int (nI (5))]) ++ List.replicate (4 - (lg_sl ([.ref (h0), .int (nI (ed)), .int (nI (5))])).length) Slot.unset).toArray = ls at hl ⊢
  have hl : lv_has ls 4 [(0, .ref (h0)), (1, .int (nI (ed))), (2, .int (nI (5)))] := hl
  refine mw_start (fun H locs hw => ?_) hw
  refine lv_aload_n hx hb dX6_about_0 rfl (lv_at hl 0 rfl) ?_
  refine lv_iload_n hx hb dX6_about_1 rfl (lv_at hl 1 rfl) ?_
  refine mw_cr hC hw (va_runV (As := [.int (nI (ed))]) (rest := []) ⟨hx, hb, hml, hown, hts⟩ (c_X6_endOf l G _ H.size h0 ea hu en ed x e0 e1 (by omega) (hen)) (cwV 1 hts gX6_about_X6_endOf rfl rfl rfl (by decide +kernel) ⟨Nat.le_of_ble_eq_true rfl, Nat.le_of_ble_eq_true rfl⟩) (mw_preV (ci := 6) hC hw rfl e0) rfl rfl hl.1 rfl (lv_room (Nat.le_of_ble_eq_true rfl)) dX6_about_2 ⟨Nat.le_of_ble_eq_true rfl, Nat.le_of_ble_eq_true rfl⟩) (fun H locs hz hw => ?_)
  refine lv_astore_n (lv' := [(3, .ref (x)), (0, .ref (h0)), (1, .int (nI (ed))), (2, .int (nI (5)))]) hx hb dX6_about_5 rfl hl (by decide) rfl (fun ls hl => ?_)
  refine lv_iload_n hx hb dX6_about_6 rfl (lv_at hl 3 rfl) ?_
  refine lv_if_lt (tgt := 16) hx hb dX6_about_7 (by decide) (fun c_1 => ?_) (fun c_1 => ?_)
  · skip
    exact absurd c_1 (by decide)
  · skip
    refine lv_iload_n hx hb dX6_about_10 rfl (lv_at hl 3 rfl) ?_
    refine lv_bipush (v := nI 11) hx hb dX6_about_11 (by decide) ?_
    refine lv_icmp_le (tgt := 24) hx hb dX6_about_13 (by decide) (fun c_2 => ?_) (fun c_2 => ?_)
    · skip
      refine lv_aload_n hx hb dX6_about_24 rfl (lv_at hl 0 rfl) ?_
      refine lv_iload_n hx hb dX6_about_25 rfl (lv_at hl 3 rfl) ?_
      refine mw_ci hC hw (va_runV (As := [.int (nI (5))]) (rest := []) ⟨hx, hb, hml, hown, hts⟩ (c_X0_fact_5 l G _ H.size x li me so fi bi sn tn er un fl al ab fa n la sa mf mu ma mw ba sl t e2 e3 e4 e5 ) (cwV 1 hts gX6_about_X0_fact rfl rfl rfl (by decide +kernel) ⟨Nat.le_of_ble_eq_true rfl, Nat.le_of_ble_eq_true rfl⟩) (mw_preV (ci := 0) hC hw rfl e2) rfl rfl hl.1 rfl (lv_room (Nat.le_of_ble_eq_true rfl)) dX6_about_26 ⟨Nat.le_of_ble_eq_true rfl, Nat.le_of_ble_eq_true rfl⟩) (fun H locs hz hw => ?_)
      exact mw_iret hx hb hr hlocks hw (rfl) (fun _ _ h9 => h9) dX6_about_29
    · skip
      exact absurd c_2 (by decide)
def RM_X6_about_6 : Room := { frames := 1, cells := 0, slots := 0, locals := 21 }
set_option maxHeartbeats 4000000 in
set_option maxRecDepth 100000 in
theorem c_X6_about_6 (l : Launch) (G : mw_G) (M : mw_M) (sz : Nat) (h0 ea hu : Nat) (en : Nat → Option Nat) (ed : Nat) (x li me so fi bi sn tn er un : Nat) (fl al ab : Bool) (fa n : Nat) (la sa mf mu ma mw : Nat) (ba sl t : Nat) (e0 : M h0 = some (.inr (6, [.ref (ea), .ref (hu)]))) (e1 : M ea = some (.inl (G.2 4, 2, .inr (.inr (.inr (.inr (en))))))) (e2 : M x = some (.inr (0, [.ref (li), .ref (me), .ref (so), .int (nI (fi)), .int (nI (bi)), .int (nI (sn)), .int (nI (tn)), .int (nI (er)), .int (nI (un)), .int (nI (b2n fl)), .int (nI (b2n al)), .int (nI (b2n ab))]))) (e3 : M li = some (.inr (2, [.ref (fa), .int (nI (n))]))) (e4 : M me = some (.inr (3, [.ref (la), .ref (sa), .int (nI (mf)), .int (nI (mu)), .int (nI (ma)), .int (nI (mw))]))) (e5 : M so = some (.inr (4, [.ref (ba), .ref (sl), .int (nI (t))]))) (he : ed ≤ 1) (hen : en ed = some x)  : Met l yX6_about wsX6_about RM_X6_about_6 (mw_pre G M sz [.ref (h0), .int (nI (ed)), .int (nI (6))]) (mw_Qi G M sz (nI (ma)) M) 0 0 (mw_A M sz) := by
  refine Met.ofW (cc := cX6_about) (maxL := 4) (ret := (some .int)) (by decide) rfl ?_
  intro p e s m args below meth c s₁ B hml hv
  obtain ⟨rfl, rfl, hC, hw⟩ := mw_in hv
  have hx := B.exec
  have hb := B.bytes
  have hr := B.returns
  have hts := atoms_spec (ws := wsX6_about) B.pre
  have hown : s.vm.findClass RX6 = some m.cls := findClass_of_methodNamed B.named
  have hlocks := B.notSynchronized
  have hl := lv_entry ([.ref (h0), .int (nI (ed)), .int (nI (6))]) (n := 4) (Nat.le_of_ble_eq_true rfl)
  rw [lg_entry_eq]
  generalize (lg_sl ([.ref (h0), .int (nI (ed)), .int (nI (6))]) ++ List.replicate (4 - (lg_sl ([.ref (h0), .int (nI (ed)), .int (nI (6))])).length) Slot.unset).toArray = ls at hl ⊢
  have hl : lv_has ls 4 [(0, .ref (h0)), (1, .int (nI (ed))), (2, .int (nI (6)))] := hl
  refine mw_start (fun H locs hw => ?_) hw
  refine lv_aload_n hx hb dX6_about_0 rfl (lv_at hl 0 rfl) ?_
  refine lv_iload_n hx hb dX6_about_1 rfl (lv_at hl 1 rfl) ?_
  refine mw_cr hC hw (va_runV (As := [.int (nI (ed))]) (rest := []) ⟨hx, hb, hml, hown, hts⟩ (c_X6_endOf l G _ H.size h0 ea hu en ed x e0 e1 (by omega) (hen)) (cwV 1 hts gX6_about_X6_endOf rfl rfl rfl (by decide +kernel) ⟨Nat.le_of_ble_eq_true rfl, Nat.le_of_ble_eq_true rfl⟩) (mw_preV (ci := 6) hC hw rfl e0) rfl rfl hl.1 rfl (lv_room (Nat.le_of_ble_eq_true rfl)) dX6_about_2 ⟨Nat.le_of_ble_eq_true rfl, Nat.le_of_ble_eq_true rfl⟩) (fun H locs hz hw => ?_)
  refine lv_astore_n (lv' := [(3, .ref (x)), (0, .ref (h0)), (1, .int (nI (ed))), (2, .int (nI (6)))]) hx hb dX6_about_5 rfl hl (by decide) rfl (fun ls hl => ?_)
  refine lv_iload_n hx hb dX6_about_6 rfl (lv_at hl 3 rfl) ?_
  refine lv_if_lt (tgt := 16) hx hb dX6_about_7 (by decide) (fun c_1 => ?_) (fun c_1 => ?_)
  · skip
    exact absurd c_1 (by decide)
  · skip
    refine lv_iload_n hx hb dX6_about_10 rfl (lv_at hl 3 rfl) ?_
    refine lv_bipush (v := nI 11) hx hb dX6_about_11 (by decide) ?_
    refine lv_icmp_le (tgt := 24) hx hb dX6_about_13 (by decide) (fun c_2 => ?_) (fun c_2 => ?_)
    · skip
      refine lv_aload_n hx hb dX6_about_24 rfl (lv_at hl 0 rfl) ?_
      refine lv_iload_n hx hb dX6_about_25 rfl (lv_at hl 3 rfl) ?_
      refine mw_ci hC hw (va_runV (As := [.int (nI (6))]) (rest := []) ⟨hx, hb, hml, hown, hts⟩ (c_X0_fact_6 l G _ H.size x li me so fi bi sn tn er un fl al ab fa n la sa mf mu ma mw ba sl t e2 e3 e4 e5 ) (cwV 1 hts gX6_about_X0_fact rfl rfl rfl (by decide +kernel) ⟨Nat.le_of_ble_eq_true rfl, Nat.le_of_ble_eq_true rfl⟩) (mw_preV (ci := 0) hC hw rfl e2) rfl rfl hl.1 rfl (lv_room (Nat.le_of_ble_eq_true rfl)) dX6_about_26 ⟨Nat.le_of_ble_eq_true rfl, Nat.le_of_ble_eq_true rfl⟩) (fun H locs hz hw => ?_)
      exact mw_iret hx hb hr hlocks hw (rfl) (fun _ _ h9 => h9) dX6_about_29
    · skip
      exact absurd c_2 (by decide)
def RM_X6_about_7 : Room := { frames := 1, cells := 0, slots := 0, locals := 21 }
set_option maxHeartbeats 4000000 in
set_option maxRecDepth 100000 in
theorem c_X6_about_7 (l : Launch) (G : mw_G) (M : mw_M) (sz : Nat) (h0 ea hu : Nat) (en : Nat → Option Nat) (ed : Nat) (x li me so fi bi sn tn er un : Nat) (fl al ab : Bool) (fa n : Nat) (la sa mf mu ma mw : Nat) (ba sl t : Nat) (e0 : M h0 = some (.inr (6, [.ref (ea), .ref (hu)]))) (e1 : M ea = some (.inl (G.2 4, 2, .inr (.inr (.inr (.inr (en))))))) (e2 : M x = some (.inr (0, [.ref (li), .ref (me), .ref (so), .int (nI (fi)), .int (nI (bi)), .int (nI (sn)), .int (nI (tn)), .int (nI (er)), .int (nI (un)), .int (nI (b2n fl)), .int (nI (b2n al)), .int (nI (b2n ab))]))) (e3 : M li = some (.inr (2, [.ref (fa), .int (nI (n))]))) (e4 : M me = some (.inr (3, [.ref (la), .ref (sa), .int (nI (mf)), .int (nI (mu)), .int (nI (ma)), .int (nI (mw))]))) (e5 : M so = some (.inr (4, [.ref (ba), .ref (sl), .int (nI (t))]))) (he : ed ≤ 1) (hen : en ed = some x)  : Met l yX6_about wsX6_about RM_X6_about_7 (mw_pre G M sz [.ref (h0), .int (nI (ed)), .int (nI (7))]) (mw_Qi G M sz (nI (t)) M) 0 0 (mw_A M sz) := by
  refine Met.ofW (cc := cX6_about) (maxL := 4) (ret := (some .int)) (by decide) rfl ?_
  intro p e s m args below meth c s₁ B hml hv
  obtain ⟨rfl, rfl, hC, hw⟩ := mw_in hv
  have hx := B.exec
  have hb := B.bytes
  have hr := B.returns
  have hts := atoms_spec (ws := wsX6_about) B.pre
  have hown : s.vm.findClass RX6 = some m.cls := findClass_of_methodNamed B.named
  have hlocks := B.notSynchronized
  have hl := lv_entry ([.ref (h0), .int (nI (ed)), .int (nI (7))]) (n := 4) (Nat.le_of_ble_eq_true rfl)
  rw [lg_entry_eq]
  generalize (lg_sl ([.ref (h0), .int (nI (ed)), .int (nI (7))]) ++ List.replicate (4 - (lg_sl ([.ref (h0), .int (nI (ed)), .int (nI (7))])).length) Slot.unset).toArray = ls at hl ⊢
  have hl : lv_has ls 4 [(0, .ref (h0)), (1, .int (nI (ed))), (2, .int (nI (7)))] := hl
  refine mw_start (fun H locs hw => ?_) hw
  refine lv_aload_n hx hb dX6_about_0 rfl (lv_at hl 0 rfl) ?_
  refine lv_iload_n hx hb dX6_about_1 rfl (lv_at hl 1 rfl) ?_
  refine mw_cr hC hw (va_runV (As := [.int (nI (ed))]) (rest := []) ⟨hx, hb, hml, hown, hts⟩ (c_X6_endOf l G _ H.size h0 ea hu en ed x e0 e1 (by omega) (hen)) (cwV 1 hts gX6_about_X6_endOf rfl rfl rfl (by decide +kernel) ⟨Nat.le_of_ble_eq_true rfl, Nat.le_of_ble_eq_true rfl⟩) (mw_preV (ci := 6) hC hw rfl e0) rfl rfl hl.1 rfl (lv_room (Nat.le_of_ble_eq_true rfl)) dX6_about_2 ⟨Nat.le_of_ble_eq_true rfl, Nat.le_of_ble_eq_true rfl⟩) (fun H locs hz hw => ?_)
  refine lv_astore_n (lv' := [(3, .ref (x)), (0, .ref (h0)), (1, .int (nI (ed))), (2, .int (nI (7)))]) hx hb dX6_about_5 rfl hl (by decide) rfl (fun ls hl => ?_)
  refine lv_iload_n hx hb dX6_about_6 rfl (lv_at hl 3 rfl) ?_
  refine lv_if_lt (tgt := 16) hx hb dX6_about_7 (by decide) (fun c_1 => ?_) (fun c_1 => ?_)
  · skip
    exact absurd c_1 (by decide)
  · skip
    refine lv_iload_n hx hb dX6_about_10 rfl (lv_at hl 3 rfl) ?_
    refine lv_bipush (v := nI 11) hx hb dX6_about_11 (by decide) ?_
    refine lv_icmp_le (tgt := 24) hx hb dX6_about_13 (by decide) (fun c_2 => ?_) (fun c_2 => ?_)
    · skip
      refine lv_aload_n hx hb dX6_about_24 rfl (lv_at hl 0 rfl) ?_
      refine lv_iload_n hx hb dX6_about_25 rfl (lv_at hl 3 rfl) ?_
      refine mw_ci hC hw (va_runV (As := [.int (nI (7))]) (rest := []) ⟨hx, hb, hml, hown, hts⟩ (c_X0_fact_7 l G _ H.size x li me so fi bi sn tn er un fl al ab fa n la sa mf mu ma mw ba sl t e2 e3 e4 e5 ) (cwV 1 hts gX6_about_X0_fact rfl rfl rfl (by decide +kernel) ⟨Nat.le_of_ble_eq_true rfl, Nat.le_of_ble_eq_true rfl⟩) (mw_preV (ci := 0) hC hw rfl e2) rfl rfl hl.1 rfl (lv_room (Nat.le_of_ble_eq_true rfl)) dX6_about_26 ⟨Nat.le_of_ble_eq_true rfl, Nat.le_of_ble_eq_true rfl⟩) (fun H locs hz hw => ?_)
      exact mw_iret hx hb hr hlocks hw (rfl) (fun _ _ h9 => h9) dX6_about_29
    · skip
      exact absurd c_2 (by decide)
def RM_X6_about_8 : Room := { frames := 1, cells := 0, slots := 0, locals := 21 }
set_option maxHeartbeats 4000000 in
set_option maxRecDepth 100000 in
theorem c_X6_about_8 (l : Launch) (G : mw_G) (M : mw_M) (sz : Nat) (h0 ea hu : Nat) (en : Nat → Option Nat) (ed : Nat) (x li me so fi bi sn tn er un : Nat) (fl al ab : Bool) (fa n : Nat) (la sa mf mu ma mw : Nat) (ba sl t : Nat) (e0 : M h0 = some (.inr (6, [.ref (ea), .ref (hu)]))) (e1 : M ea = some (.inl (G.2 4, 2, .inr (.inr (.inr (.inr (en))))))) (e2 : M x = some (.inr (0, [.ref (li), .ref (me), .ref (so), .int (nI (fi)), .int (nI (bi)), .int (nI (sn)), .int (nI (tn)), .int (nI (er)), .int (nI (un)), .int (nI (b2n fl)), .int (nI (b2n al)), .int (nI (b2n ab))]))) (e3 : M li = some (.inr (2, [.ref (fa), .int (nI (n))]))) (e4 : M me = some (.inr (3, [.ref (la), .ref (sa), .int (nI (mf)), .int (nI (mu)), .int (nI (ma)), .int (nI (mw))]))) (e5 : M so = some (.inr (4, [.ref (ba), .ref (sl), .int (nI (t))]))) (he : ed ≤ 1) (hen : en ed = some x)  : Met l yX6_about wsX6_about RM_X6_about_8 (mw_pre G M sz [.ref (h0), .int (nI (ed)), .int (nI (8))]) (mw_Qi G M sz (nI (n)) M) 0 0 (mw_A M sz) := by
  refine Met.ofW (cc := cX6_about) (maxL := 4) (ret := (some .int)) (by decide) rfl ?_
  intro p e s m args below meth c s₁ B hml hv
  obtain ⟨rfl, rfl, hC, hw⟩ := mw_in hv
  have hx := B.exec
  have hb := B.bytes
  have hr := B.returns
  have hts := atoms_spec (ws := wsX6_about) B.pre
  have hown : s.vm.findClass RX6 = some m.cls := findClass_of_methodNamed B.named
  have hlocks := B.notSynchronized
  have hl := lv_entry ([.ref (h0), .int (nI (ed)), .int (nI (8))]) (n := 4) (Nat.le_of_ble_eq_true rfl)
  rw [lg_entry_eq]
  generalize (lg_sl ([.ref (h0), .int (nI (ed)), .int (nI (8))]) ++ List.replicate (4 - (lg_sl ([.ref (h0), .int (nI (ed)), .int (nI (8))])).length) Slot.unset).toArray = ls at hl ⊢
  have hl : lv_has ls 4 [(0, .ref (h0)), (1, .int (nI (ed))), (2, .int (nI (8)))] := hl
  refine mw_start (fun H locs hw => ?_) hw
  refine lv_aload_n hx hb dX6_about_0 rfl (lv_at hl 0 rfl) ?_
  refine lv_iload_n hx hb dX6_about_1 rfl (lv_at hl 1 rfl) ?_
  refine mw_cr hC hw (va_runV (As := [.int (nI (ed))]) (rest := []) ⟨hx, hb, hml, hown, hts⟩ (c_X6_endOf l G _ H.size h0 ea hu en ed x e0 e1 (by omega) (hen)) (cwV 1 hts gX6_about_X6_endOf rfl rfl rfl (by decide +kernel) ⟨Nat.le_of_ble_eq_true rfl, Nat.le_of_ble_eq_true rfl⟩) (mw_preV (ci := 6) hC hw rfl e0) rfl rfl hl.1 rfl (lv_room (Nat.le_of_ble_eq_true rfl)) dX6_about_2 ⟨Nat.le_of_ble_eq_true rfl, Nat.le_of_ble_eq_true rfl⟩) (fun H locs hz hw => ?_)
  refine lv_astore_n (lv' := [(3, .ref (x)), (0, .ref (h0)), (1, .int (nI (ed))), (2, .int (nI (8)))]) hx hb dX6_about_5 rfl hl (by decide) rfl (fun ls hl => ?_)
  refine lv_iload_n hx hb dX6_about_6 rfl (lv_at hl 3 rfl) ?_
  refine lv_if_lt (tgt := 16) hx hb dX6_about_7 (by decide) (fun c_1 => ?_) (fun c_1 => ?_)
  · skip
    exact absurd c_1 (by decide)
  · skip
    refine lv_iload_n hx hb dX6_about_10 rfl (lv_at hl 3 rfl) ?_
    refine lv_bipush (v := nI 11) hx hb dX6_about_11 (by decide) ?_
    refine lv_icmp_le (tgt := 24) hx hb dX6_about_13 (by decide) (fun c_2 => ?_) (fun c_2 => ?_)
    · skip
      refine lv_aload_n hx hb dX6_about_24 rfl (lv_at hl 0 rfl) ?_
      refine lv_iload_n hx hb dX6_about_25 rfl (lv_at hl 3 rfl) ?_
      refine mw_ci hC hw (va_runV (As := [.int (nI (8))]) (rest := []) ⟨hx, hb, hml, hown, hts⟩ (c_X0_fact_8 l G _ H.size x li me so fi bi sn tn er un fl al ab fa n la sa mf mu ma mw ba sl t e2 e3 e4 e5 ) (cwV 1 hts gX6_about_X0_fact rfl rfl rfl (by decide +kernel) ⟨Nat.le_of_ble_eq_true rfl, Nat.le_of_ble_eq_true rfl⟩) (mw_preV (ci := 0) hC hw rfl e2) rfl rfl hl.1 rfl (lv_room (Nat.le_of_ble_eq_true rfl)) dX6_about_26 ⟨Nat.le_of_ble_eq_true rfl, Nat.le_of_ble_eq_true rfl⟩) (fun H locs hz hw => ?_)
      exact mw_iret hx hb hr hlocks hw (rfl) (fun _ _ h9 => h9) dX6_about_29
    · skip
      exact absurd c_2 (by decide)
def RM_X6_about_9 : Room := { frames := 1, cells := 0, slots := 0, locals := 21 }
set_option maxHeartbeats 4000000 in
set_option maxRecDepth 100000 in
theorem c_X6_about_9 (l : Launch) (G : mw_G) (M : mw_M) (sz : Nat) (h0 ea hu : Nat) (en : Nat → Option Nat) (ed : Nat) (x li me so fi bi sn tn er un : Nat) (fl al ab : Bool) (fa n : Nat) (la sa mf mu ma mw : Nat) (ba sl t : Nat) (e0 : M h0 = some (.inr (6, [.ref (ea), .ref (hu)]))) (e1 : M ea = some (.inl (G.2 4, 2, .inr (.inr (.inr (.inr (en))))))) (e2 : M x = some (.inr (0, [.ref (li), .ref (me), .ref (so), .int (nI (fi)), .int (nI (bi)), .int (nI (sn)), .int (nI (tn)), .int (nI (er)), .int (nI (un)), .int (nI (b2n fl)), .int (nI (b2n al)), .int (nI (b2n ab))]))) (e3 : M li = some (.inr (2, [.ref (fa), .int (nI (n))]))) (e4 : M me = some (.inr (3, [.ref (la), .ref (sa), .int (nI (mf)), .int (nI (mu)), .int (nI (ma)), .int (nI (mw))]))) (e5 : M so = some (.inr (4, [.ref (ba), .ref (sl), .int (nI (t))]))) (he : ed ≤ 1) (hen : en ed = some x)  : Met l yX6_about wsX6_about RM_X6_about_9 (mw_pre G M sz [.ref (h0), .int (nI (ed)), .int (nI (9))]) (mw_Qi G M sz (nI (er)) M) 0 0 (mw_A M sz) := by
  refine Met.ofW (cc := cX6_about) (maxL := 4) (ret := (some .int)) (by decide) rfl ?_
  intro p e s m args below meth c s₁ B hml hv
  obtain ⟨rfl, rfl, hC, hw⟩ := mw_in hv
  have hx := B.exec
  have hb := B.bytes
  have hr := B.returns
  have hts := atoms_spec (ws := wsX6_about) B.pre
  have hown : s.vm.findClass RX6 = some m.cls := findClass_of_methodNamed B.named
  have hlocks := B.notSynchronized
  have hl := lv_entry ([.ref (h0), .int (nI (ed)), .int (nI (9))]) (n := 4) (Nat.le_of_ble_eq_true rfl)
  rw [lg_entry_eq]
  generalize (lg_sl ([.ref (h0), .int (nI (ed)), .int (nI (9))]) ++ List.replicate (4 - (lg_sl ([.ref (h0), .int (nI (ed)), .int (nI (9))])).length) Slot.unset).toArray = ls at hl ⊢
  have hl : lv_has ls 4 [(0, .ref (h0)), (1, .int (nI (ed))), (2, .int (nI (9)))] := hl
  refine mw_start (fun H locs hw => ?_) hw
  refine lv_aload_n hx hb dX6_about_0 rfl (lv_at hl 0 rfl) ?_
  refine lv_iload_n hx hb dX6_about_1 rfl (lv_at hl 1 rfl) ?_
  refine mw_cr hC hw (va_runV (As := [.int (nI (ed))]) (rest := []) ⟨hx, hb, hml, hown, hts⟩ (c_X6_endOf l G _ H.size h0 ea hu en ed x e0 e1 (by omega) (hen)) (cwV 1 hts gX6_about_X6_endOf rfl rfl rfl (by decide +kernel) ⟨Nat.le_of_ble_eq_true rfl, Nat.le_of_ble_eq_true rfl⟩) (mw_preV (ci := 6) hC hw rfl e0) rfl rfl hl.1 rfl (lv_room (Nat.le_of_ble_eq_true rfl)) dX6_about_2 ⟨Nat.le_of_ble_eq_true rfl, Nat.le_of_ble_eq_true rfl⟩) (fun H locs hz hw => ?_)
  refine lv_astore_n (lv' := [(3, .ref (x)), (0, .ref (h0)), (1, .int (nI (ed))), (2, .int (nI (9)))]) hx hb dX6_about_5 rfl hl (by decide) rfl (fun ls hl => ?_)
  refine lv_iload_n hx hb dX6_about_6 rfl (lv_at hl 3 rfl) ?_
  refine lv_if_lt (tgt := 16) hx hb dX6_about_7 (by decide) (fun c_1 => ?_) (fun c_1 => ?_)
  · skip
    exact absurd c_1 (by decide)
  · skip
    refine lv_iload_n hx hb dX6_about_10 rfl (lv_at hl 3 rfl) ?_
    refine lv_bipush (v := nI 11) hx hb dX6_about_11 (by decide) ?_
    refine lv_icmp_le (tgt := 24) hx hb dX6_about_13 (by decide) (fun c_2 => ?_) (fun c_2 => ?_)
    · skip
      refine lv_aload_n hx hb dX6_about_24 rfl (lv_at hl 0 rfl) ?_
      refine lv_iload_n hx hb dX6_about_25 rfl (lv_at hl 3 rfl) ?_
      refine mw_ci hC hw (va_runV (As := [.int (nI (9))]) (rest := []) ⟨hx, hb, hml, hown, hts⟩ (c_X0_fact_9 l G _ H.size x li me so fi bi sn tn er un fl al ab fa n la sa mf mu ma mw ba sl t e2 e3 e4 e5 ) (cwV 1 hts gX6_about_X0_fact rfl rfl rfl (by decide +kernel) ⟨Nat.le_of_ble_eq_true rfl, Nat.le_of_ble_eq_true rfl⟩) (mw_preV (ci := 0) hC hw rfl e2) rfl rfl hl.1 rfl (lv_room (Nat.le_of_ble_eq_true rfl)) dX6_about_26 ⟨Nat.le_of_ble_eq_true rfl, Nat.le_of_ble_eq_true rfl⟩) (fun H locs hz hw => ?_)
      exact mw_iret hx hb hr hlocks hw (rfl) (fun _ _ h9 => h9) dX6_about_29
    · skip
      exact absurd c_2 (by decide)
def RM_X6_about_10 : Room := { frames := 1, cells := 0, slots := 0, locals := 21 }
set_option maxHeartbeats 4000000 in
set_option maxRecDepth 100000 in
theorem c_X6_about_10 (l : Launch) (G : mw_G) (M : mw_M) (sz : Nat) (h0 ea hu : Nat) (en : Nat → Option Nat) (ed : Nat) (x li me so fi bi sn tn er un : Nat) (fl al ab : Bool) (fa n : Nat) (la sa mf mu ma mw : Nat) (ba sl t : Nat) (e0 : M h0 = some (.inr (6, [.ref (ea), .ref (hu)]))) (e1 : M ea = some (.inl (G.2 4, 2, .inr (.inr (.inr (.inr (en))))))) (e2 : M x = some (.inr (0, [.ref (li), .ref (me), .ref (so), .int (nI (fi)), .int (nI (bi)), .int (nI (sn)), .int (nI (tn)), .int (nI (er)), .int (nI (un)), .int (nI (b2n fl)), .int (nI (b2n al)), .int (nI (b2n ab))]))) (e3 : M li = some (.inr (2, [.ref (fa), .int (nI (n))]))) (e4 : M me = some (.inr (3, [.ref (la), .ref (sa), .int (nI (mf)), .int (nI (mu)), .int (nI (ma)), .int (nI (mw))]))) (e5 : M so = some (.inr (4, [.ref (ba), .ref (sl), .int (nI (t))]))) (he : ed ≤ 1) (hen : en ed = some x)  : Met l yX6_about wsX6_about RM_X6_about_10 (mw_pre G M sz [.ref (h0), .int (nI (ed)), .int (nI (10))]) (mw_Qi G M sz (nI (un)) M) 0 0 (mw_A M sz) := by
  refine Met.ofW (cc := cX6_about) (maxL := 4) (ret := (some .int)) (by decide) rfl ?_
  intro p e s m args below meth c s₁ B hml hv
  obtain ⟨rfl, rfl, hC, hw⟩ := mw_in hv
  have hx := B.exec
  have hb := B.bytes
  have hr := B.returns
  have hts := atoms_spec (ws := wsX6_about) B.pre
  have hown : s.vm.findClass RX6 = some m.cls := findClass_of_methodNamed B.named
  have hlocks := B.notSynchronized
  have hl := lv_entry ([.ref (h0), .int (nI (ed)), .int (nI (10))]) (n := 4) (Nat.le_of_ble_eq_true rfl)
  rw [lg_entry_eq]
  generalize (lg_sl ([.ref (h0), .int (nI (ed)), .int (nI (10))]) ++ List.replicate (4 - (lg_sl ([.ref (h0), .int (nI (ed)), .int (nI (10))])).length) Slot.unset).toArray = ls at hl ⊢
  have hl : lv_has ls 4 [(0, .ref (h0)), (1, .int (nI (ed))), (2, .int (nI (10)))] := hl
  refine mw_start (fun H locs hw => ?_) hw
  refine lv_aload_n hx hb dX6_about_0 rfl (lv_at hl 0 rfl) ?_
  refine lv_iload_n hx hb dX6_about_1 rfl (lv_at hl 1 rfl) ?_
  refine mw_cr hC hw (va_runV (As := [.int (nI (ed))]) (rest := []) ⟨hx, hb, hml, hown, hts⟩ (c_X6_endOf l G _ H.size h0 ea hu en ed x e0 e1 (by omega) (hen)) (cwV 1 hts gX6_about_X6_endOf rfl rfl rfl (by decide +kernel) ⟨Nat.le_of_ble_eq_true rfl, Nat.le_of_ble_eq_true rfl⟩) (mw_preV (ci := 6) hC hw rfl e0) rfl rfl hl.1 rfl (lv_room (Nat.le_of_ble_eq_true rfl)) dX6_about_2 ⟨Nat.le_of_ble_eq_true rfl, Nat.le_of_ble_eq_true rfl⟩) (fun H locs hz hw => ?_)
  refine lv_astore_n (lv' := [(3, .ref (x)), (0, .ref (h0)), (1, .int (nI (ed))), (2, .int (nI (10)))]) hx hb dX6_about_5 rfl hl (by decide) rfl (fun ls hl => ?_)
  refine lv_iload_n hx hb dX6_about_6 rfl (lv_at hl 3 rfl) ?_
  refine lv_if_lt (tgt := 16) hx hb dX6_about_7 (by decide) (fun c_1 => ?_) (fun c_1 => ?_)
  · skip
    exact absurd c_1 (by decide)
  · skip
    refine lv_iload_n hx hb dX6_about_10 rfl (lv_at hl 3 rfl) ?_
    refine lv_bipush (v := nI 11) hx hb dX6_about_11 (by decide) ?_
    refine lv_icmp_le (tgt := 24) hx hb dX6_about_13 (by decide) (fun c_2 => ?_) (fun c_2 => ?_)
    · skip
      refine lv_aload_n hx hb dX6_about_24 rfl (lv_at hl 0 rfl) ?_
      refine lv_iload_n hx hb dX6_about_25 rfl (lv_at hl 3 rfl) ?_
      refine mw_ci hC hw (va_runV (As := [.int (nI (10))]) (rest := []) ⟨hx, hb, hml, hown, hts⟩ (c_X0_fact_10 l G _ H.size x li me so fi bi sn tn er un fl al ab fa n la sa mf mu ma mw ba sl t e2 e3 e4 e5 ) (cwV 1 hts gX6_about_X0_fact rfl rfl rfl (by decide +kernel) ⟨Nat.le_of_ble_eq_true rfl, Nat.le_of_ble_eq_true rfl⟩) (mw_preV (ci := 0) hC hw rfl e2) rfl rfl hl.1 rfl (lv_room (Nat.le_of_ble_eq_true rfl)) dX6_about_26 ⟨Nat.le_of_ble_eq_true rfl, Nat.le_of_ble_eq_true rfl⟩) (fun H locs hz hw => ?_)
      exact mw_iret hx hb hr hlocks hw (rfl) (fun _ _ h9 => h9) dX6_about_29
    · skip
      exact absurd c_2 (by decide)
def RM_X6_about_11 : Room := { frames := 1, cells := 0, slots := 0, locals := 21 }
set_option maxHeartbeats 4000000 in
set_option maxRecDepth 100000 in
theorem c_X6_about_11 (l : Launch) (G : mw_G) (M : mw_M) (sz : Nat) (h0 ea hu : Nat) (en : Nat → Option Nat) (ed : Nat) (x li me so fi bi sn tn er un : Nat) (fl al ab : Bool) (fa n : Nat) (la sa mf mu ma mw : Nat) (ba sl t : Nat) (e0 : M h0 = some (.inr (6, [.ref (ea), .ref (hu)]))) (e1 : M ea = some (.inl (G.2 4, 2, .inr (.inr (.inr (.inr (en))))))) (e2 : M x = some (.inr (0, [.ref (li), .ref (me), .ref (so), .int (nI (fi)), .int (nI (bi)), .int (nI (sn)), .int (nI (tn)), .int (nI (er)), .int (nI (un)), .int (nI (b2n fl)), .int (nI (b2n al)), .int (nI (b2n ab))]))) (e3 : M li = some (.inr (2, [.ref (fa), .int (nI (n))]))) (e4 : M me = some (.inr (3, [.ref (la), .ref (sa), .int (nI (mf)), .int (nI (mu)), .int (nI (ma)), .int (nI (mw))]))) (e5 : M so = some (.inr (4, [.ref (ba), .ref (sl), .int (nI (t))]))) (he : ed ≤ 1) (hen : en ed = some x)  : Met l yX6_about wsX6_about RM_X6_about_11 (mw_pre G M sz [.ref (h0), .int (nI (ed)), .int (nI (11))]) (mw_Qi G M sz (nI (b2n fl)) M) 0 0 (mw_A M sz) := by
  refine Met.ofW (cc := cX6_about) (maxL := 4) (ret := (some .int)) (by decide) rfl ?_
  intro p e s m args below meth c s₁ B hml hv
  obtain ⟨rfl, rfl, hC, hw⟩ := mw_in hv
  have hx := B.exec
  have hb := B.bytes
  have hr := B.returns
  have hts := atoms_spec (ws := wsX6_about) B.pre
  have hown : s.vm.findClass RX6 = some m.cls := findClass_of_methodNamed B.named
  have hlocks := B.notSynchronized
  have hl := lv_entry ([.ref (h0), .int (nI (ed)), .int (nI (11))]) (n := 4) (Nat.le_of_ble_eq_true rfl)
  rw [lg_entry_eq]
  generalize (lg_sl ([.ref (h0), .int (nI (ed)), .int (nI (11))]) ++ List.replicate (4 - (lg_sl ([.ref (h0), .int (nI (ed)), .int (nI (11))])).length) Slot.unset).toArray = ls at hl ⊢
  have hl : lv_has ls 4 [(0, .ref (h0)), (1, .int (nI (ed))), (2, .int (nI (11)))] := hl
  refine mw_start (fun H locs hw => ?_) hw
  refine lv_aload_n hx hb dX6_about_0 rfl (lv_at hl 0 rfl) ?_
  refine lv_iload_n hx hb dX6_about_1 rfl (lv_at hl 1 rfl) ?_
  refine mw_cr hC hw (va_runV (As := [.int (nI (ed))]) (rest := []) ⟨hx, hb, hml, hown, hts⟩ (c_X6_endOf l G _ H.size h0 ea hu en ed x e0 e1 (by omega) (hen)) (cwV 1 hts gX6_about_X6_endOf rfl rfl rfl (by decide +kernel) ⟨Nat.le_of_ble_eq_true rfl, Nat.le_of_ble_eq_true rfl⟩) (mw_preV (ci := 6) hC hw rfl e0) rfl rfl hl.1 rfl (lv_room (Nat.le_of_ble_eq_true rfl)) dX6_about_2 ⟨Nat.le_of_ble_eq_true rfl, Nat.le_of_ble_eq_true rfl⟩) (fun H locs hz hw => ?_)
  refine lv_astore_n (lv' := [(3, .ref (x)), (0, .ref (h0)), (1, .int (nI (ed))), (2, .int (nI (11)))]) hx hb dX6_about_5 rfl hl (by decide) rfl (fun ls hl => ?_)
  refine lv_iload_n hx hb dX6_about_6 rfl (lv_at hl 3 rfl) ?_
  refine lv_if_lt (tgt := 16) hx hb dX6_about_7 (by decide) (fun c_1 => ?_) (fun c_1 => ?_)
  · skip
    exact absurd c_1 (by decide)
  · skip
    refine lv_iload_n hx hb dX6_about_10 rfl (lv_at hl 3 rfl) ?_
    refine lv_bipush (v := nI 11) hx hb dX6_about_11 (by decide) ?_
    refine lv_icmp_le (tgt := 24) hx hb dX6_about_13 (by decide) (fun c_2 => ?_) (fun c_2 => ?_)
    · skip
      refine lv_aload_n hx hb dX6_about_24 rfl (lv_at hl 0 rfl) ?_
      refine lv_iload_n hx hb dX6_about_25 rfl (lv_at hl 3 rfl) ?_
      refine mw_ci hC hw (va_runV (As := [.int (nI (11))]) (rest := []) ⟨hx, hb, hml, hown, hts⟩ (c_X0_fact_11 l G _ H.size x li me so fi bi sn tn er un fl al ab fa n la sa mf mu ma mw ba sl t e2 e3 e4 e5 ) (cwV 1 hts gX6_about_X0_fact rfl rfl rfl (by decide +kernel) ⟨Nat.le_of_ble_eq_true rfl, Nat.le_of_ble_eq_true rfl⟩) (mw_preV (ci := 0) hC hw rfl e2) rfl rfl hl.1 rfl (lv_room (Nat.le_of_ble_eq_true rfl)) dX6_about_26 ⟨Nat.le_of_ble_eq_true rfl, Nat.le_of_ble_eq_true rfl⟩) (fun H locs hz hw => ?_)
      exact mw_iret hx hb hr hlocks hw (rfl) (fun _ _ h9 => h9) dX6_about_29
    · skip
      exact absurd c_2 (by decide)
def RM_X6_restart_bade : Room := { frames := 7, cells := 1, slots := 6, locals := 102 }
set_option maxHeartbeats 4000000 in
set_option maxRecDepth 100000 in
theorem t_X6_restart_bade (l : Launch) (hlt : l.stackTraces = false) (G : mw_G) (M : mw_M) (sz : Nat) (h0 ea hu : Nat) (en : Nat → Option Nat) (ed : Int32) (e0 : M h0 = some (.inr (6, [.ref (ea), .ref (hu)]))) (e1 : M ea = some (.inl (G.2 4, 2, .inr (.inr (.inr (.inr (en))))))) (hb1 : ed < 0 ∨ nI 1 < ed)  : vx_Met l yX6_restart wsX6_restart RM_X6_restart_bade (mw_pre G M sz [.ref (h0), .int (ed)]) mw_no (mw_X G M sz exA M) 1 6 (mw_A M sz) := by
  refine vx_ofW (cc := cX6_restart) (maxL := 2) (ret := none) (by decide) rfl ?_
  intro p e s m args below meth c s₁ B hml hex hv
  obtain ⟨rfl, rfl, hC, hw⟩ := mw_in hv
  have hx := B.exec
  have hb := B.bytes
  have hr := B.returns
  have hts := atoms_spec (ws := wsX6_restart) B.pre
  have hown : s.vm.findClass RX6 = some m.cls := findClass_of_methodNamed B.named
  have hlocks := B.notSynchronized
  have hl := lv_entry ([.ref (h0), .int (ed)]) (n := 2) (Nat.le_of_ble_eq_true rfl)
  rw [lg_entry_eq]
  generalize (lg_sl ([.ref (h0), .int (ed)]) ++ List.replicate (2 - (lg_sl ([.ref (h0), .int (ed)])).length) Slot.unset).toArray = ls at hl ⊢
  have hl : lv_has ls 2 [(0, .ref (h0)), (1, .int (ed))] := hl
  refine mw_start (fun H locs hw => ?_) hw
  refine lv_aload_n hx hb dX6_restart_0 rfl (lv_at hl 0 rfl) ?_
  refine lv_iload_n hx hb dX6_restart_1 rfl (lv_at hl 1 rfl) ?_
  refine mw_ct hC hw (vx_runV (As := [.int (ed)]) (rest := []) ⟨hx, hb, hml, hown, hts⟩ (t_X6_endOf_bad l hlt G _ H.size h0 ea hu en ed e0 e1 (hb1)) (cwV 1 hts gX6_restart_X6_endOf rfl rfl rfl (by decide +kernel) ⟨Nat.le_of_ble_eq_true rfl, Nat.le_of_ble_eq_true rfl⟩) (mw_preV (ci := 6) hC hw rfl e0) rfl rfl hl.1 rfl (lv_room (Nat.le_of_ble_eq_true rfl)) dX6_restart_2 ⟨Nat.le_of_ble_eq_true rfl, Nat.le_of_ble_eq_true rfl⟩) (fun ce q9 H locs hw hce hcv hcl => ?_)
  exact mw_pass hlocks hex hw hce hcv hcl (Nat.le_of_ble_eq_true rfl) (Nat.le_of_ble_eq_true rfl)
def RM_X6_restart : Room := { frames := 2, cells := 0, slots := 0, locals := 40 }
set_option maxHeartbeats 4000000 in
set_option maxRecDepth 100000 in
theorem c_X6_restart (l : Launch) (G : mw_G) (M : mw_M) (sz : Nat) (h0 ea hu : Nat) (en : Nat → Option Nat) (ed : Nat) (x li me so fi bi sn tn er un : Nat) (fl al ab : Bool) (fa n : Nat) (la sa mf mu ma mw : Nat) (e0 : M h0 = some (.inr (6, [.ref (ea), .ref (hu)]))) (e1 : M ea = some (.inl (G.2 4, 2, .inr (.inr (.inr (.inr (en))))))) (e2 : M x = some (.inr (0, [.ref (li), .ref (me), .ref (so), .int (nI (fi)), .int (nI (bi)), .int (nI (sn)), .int (nI (tn)), .int (nI (er)), .int (nI (un)), .int (nI (b2n fl)), .int (nI (b2n al)), .int (nI (b2n ab))]))) (e3 : M li = some (.inr (2, [.ref (fa), .int (nI (n))]))) (e4 : M me = some (.inr (3, [.ref (la), .ref (sa), .int (nI (mf)), .int (nI (mu)), .int (nI (ma)), .int (nI (mw))]))) (he : ed ≤ 1) (hen : en ed = some x)  : Met l yX6_restart wsX6_restart RM_X6_restart (mw_pre G M sz [.ref (h0), .int (nI (ed))]) (mw_Qv G M sz (va_up (va_up (va_up M x (some (.inr (0, [.ref (li), .ref (me), .ref (so), .int (nI (1)), .int (nI (1)), .int (nI (127)), .int (nI (127)), .int (nI (0)), .int (nI (0)), .int (nI (0)), .int (nI (0)), .int (nI (0))])))) li (some (.inr (2, [.ref (fa), .int (nI (0))])))) me (some (.inr (3, [.ref (la), .ref (sa), .int (nI (mf)), .int (nI (0)), .int (nI (0)), .int (nI (0))]))))) 0 0 (mw_A M sz) := by
  refine Met.ofW (cc := cX6_restart) (maxL := 2) (ret := none) (by decide) rfl ?_
  intro p e s m args below meth c s₁ B hml hv
  obtain ⟨rfl, rfl, hC, hw⟩ := mw_in hv
  have hx := B.exec
  have hb := B.bytes
  have hr := B.returns
  have hts := atoms_spec (ws := wsX6_restart) B.pre
  have hown : s.vm.findClass RX6 = some m.cls := findClass_of_methodNamed B.named
  have hlocks := B.notSynchronized
  have hl := lv_entry ([.ref (h0), .int (nI (ed))]) (n := 2) (Nat.le_of_ble_eq_true rfl)
  rw [lg_entry_eq]
  generalize (lg_sl ([.ref (h0), .int (nI (ed))]) ++ List.replicate (2 - (lg_sl ([.ref (h0), .int (nI (ed))])).length) Slot.unset).toArray = ls at hl ⊢
  have hl : lv_has ls 2 [(0, .ref (h0)), (1, .int (nI (ed)))] := hl
  refine mw_start (fun H locs hw => ?_) hw
  refine lv_aload_n hx hb dX6_restart_0 rfl (lv_at hl 0 rfl) ?_
  refine lv_iload_n hx hb dX6_restart_1 rfl (lv_at hl 1 rfl) ?_
  refine mw_cr hC hw (va_runV (As := [.int (nI (ed))]) (rest := []) ⟨hx, hb, hml, hown, hts⟩ (c_X6_endOf l G _ H.size h0 ea hu en ed x e0 e1 (by omega) (hen)) (cwV 1 hts gX6_restart_X6_endOf rfl rfl rfl (by decide +kernel) ⟨Nat.le_of_ble_eq_true rfl, Nat.le_of_ble_eq_true rfl⟩) (mw_preV (ci := 6) hC hw rfl e0) rfl rfl hl.1 rfl (lv_room (Nat.le_of_ble_eq_true rfl)) dX6_restart_2 ⟨Nat.le_of_ble_eq_true rfl, Nat.le_of_ble_eq_true rfl⟩) (fun H locs hz hw => ?_)
  refine mw_cv hC hw (va_runV (As := []) (rest := []) ⟨hx, hb, hml, hown, hts⟩ (c_X0_beginAnew l G _ H.size x li me so fi bi sn tn er un fl al ab fa n la sa mf mu ma mw e2 e3 e4 ) (cwV 0 hts gX6_restart_X0_beginAnew rfl rfl rfl (by decide +kernel) ⟨Nat.le_of_ble_eq_true rfl, Nat.le_of_ble_eq_true rfl⟩) (mw_preV (ci := 0) hC hw rfl e2) rfl rfl hl.1 rfl (lv_room (Nat.le_of_ble_eq_true rfl)) dX6_restart_5 ⟨Nat.le_of_ble_eq_true rfl, Nat.le_of_ble_eq_true rfl⟩) (fun H locs hz hw => ?_)
  exact mw_vret hx hb hr hlocks hw (fun _ _ h9 => h9) dX6_restart_8
