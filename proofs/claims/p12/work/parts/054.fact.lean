/-! ===== LinkPair.End.fact ===== -/
theorem inX0_fact_X0 : ∀ w ∈ wsX00, w ∈ wsX0_fact := by decide +kernel
def RM_X0_fact_0 : Room := { frames := 0, cells := 0, slots := 0, locals := 0 }
set_option maxHeartbeats 4000000 in
set_option maxRecDepth 100000 in
theorem c_X0_fact_0 (l : Launch) (G : mw_G) (M : mw_M) (sz : Nat) (h0 li me so fi bi sn tn er un : Nat) (fl al ab : Bool) (fa n : Nat) (la sa mf mu ma mw : Nat) (ba sl t : Nat) (e0 : M h0 = some (.inr (0, [.ref (li), .ref (me), .ref (so), .int (nI (fi)), .int (nI (bi)), .int (nI (sn)), .int (nI (tn)), .int (nI (er)), .int (nI (un)), .int (nI (b2n fl)), .int (nI (b2n al)), .int (nI (b2n ab))]))) (e1 : M li = some (.inr (2, [.ref (fa), .int (nI (n))]))) (e2 : M me = some (.inr (3, [.ref (la), .ref (sa), .int (nI (mf)), .int (nI (mu)), .int (nI (ma)), .int (nI (mw))]))) (e3 : M so = some (.inr (4, [.ref (ba), .ref (sl), .int (nI (t))])))   : Met l yX0_fact wsX0_fact RM_X0_fact_0 (mw_pre G M sz [.ref (h0), .int (nI (0))]) (mw_Qi G M sz (nI (fi)) M) 0 0 (mw_A M sz) := by
  refine Met.ofW (cc := cX0_fact) (maxL := 2) (ret := (some .int)) (by decide) rfl ?_
  intro p e s m args below meth c s₁ B hml hv
  obtain ⟨rfl, rfl, hC, hw⟩ := mw_in hv
  have hx := B.exec
  have hb := B.bytes
  have hr := B.returns
  have hts := atoms_spec (ws := wsX0_fact) B.pre
  have hown : s.vm.findClass RX0 = some m.cls := findClass_of_methodNamed B.named
  have hlocks := B.notSynchronized
  have k_0 := hts (.fieldLink RX0 32 "LinkPair$End" "forwardIndicator" "I") (by decide +kernel)
  have hl := lv_entry ([.ref (h0), .int (nI (0))]) (n := 2) (Nat.le_of_ble_eq_true rfl)
  rw [lg_entry_eq]
  generalize (lg_sl ([.ref (h0), .int (nI (0))]) ++ List.replicate (2 - (lg_sl ([.ref (h0), .int (nI (0))])).length) Slot.unset).toArray = ls at hl ⊢
  have hl : lv_has ls 2 [(0, .ref (h0)), (1, .int (nI (0)))] := hl
  refine mw_start (fun H locs hw => ?_) hw
  refine lv_iload_n hx hb dX0_fact_0 rfl (lv_at hl 1 rfl) ?_
  refine lv_tableIn (off := 59) (tgt := 60) hx hb dX0_fact_1 (by decide) (by decide) (by decide) (by decide) ?_
  refine lv_aload_n hx hb dX0_fact_60 rfl (lv_at hl 0 rfl) ?_
  refine mw_get (C := RX0) (T := TX0) (N := 12) (v := .int (nI (fi))) hx hb hts inX0_fact_X0 hown hC hw e0 rfl 3 (by decide) k_0 rfl dX0_fact_61 ?_
  exact mw_iret hx hb hr hlocks hw (rfl) (fun _ _ h9 => h9) dX0_fact_64
def RM_X0_fact_1 : Room := { frames := 0, cells := 0, slots := 0, locals := 0 }
set_option maxHeartbeats 4000000 in
set_option maxRecDepth 100000 in
theorem c_X0_fact_1 (l : Launch) (G : mw_G) (M : mw_M) (sz : Nat) (h0 li me so fi bi sn tn er un : Nat) (fl al ab : Bool) (fa n : Nat) (la sa mf mu ma mw : Nat) (ba sl t : Nat) (e0 : M h0 = some (.inr (0, [.ref (li), .ref (me), .ref (so), .int (nI (fi)), .int (nI (bi)), .int (nI (sn)), .int (nI (tn)), .int (nI (er)), .int (nI (un)), .int (nI (b2n fl)), .int (nI (b2n al)), .int (nI (b2n ab))]))) (e1 : M li = some (.inr (2, [.ref (fa), .int (nI (n))]))) (e2 : M me = some (.inr (3, [.ref (la), .ref (sa), .int (nI (mf)), .int (nI (mu)), .int (nI (ma)), .int (nI (mw))]))) (e3 : M so = some (.inr (4, [.ref (ba), .ref (sl), .int (nI (t))])))   : Met l yX0_fact wsX0_fact RM_X0_fact_1 (mw_pre G M sz [.ref (h0), .int (nI (1))]) (mw_Qi G M sz (nI (bi)) M) 0 0 (mw_A M sz) := by
  refine Met.ofW (cc := cX0_fact) (maxL := 2) (ret := (some .int)) (by decide) rfl ?_
  intro p e s m args below meth c s₁ B hml hv
  obtain ⟨rfl, rfl, hC, hw⟩ := mw_in hv
  have hx := B.exec
  have hb := B.bytes
  have hr := B.returns
  have hts := atoms_spec (ws := wsX0_fact) B.pre
  have hown : s.vm.findClass RX0 = some m.cls := findClass_of_methodNamed B.named
  have hlocks := B.notSynchronized
  have k_0 := hts (.fieldLink RX0 36 "LinkPair$End" "backwardIndicator" "I") (by decide +kernel)
  have hl := lv_entry ([.ref (h0), .int (nI (1))]) (n := 2) (Nat.le_of_ble_eq_true rfl)
  rw [lg_entry_eq]
  generalize (lg_sl ([.ref (h0), .int (nI (1))]) ++ List.replicate (2 - (lg_sl ([.ref (h0), .int (nI (1))])).length) Slot.unset).toArray = ls at hl ⊢
  have hl : lv_has ls 2 [(0, .ref (h0)), (1, .int (nI (1)))] := hl
  refine mw_start (fun H locs hw => ?_) hw
  refine lv_iload_n hx hb dX0_fact_0 rfl (lv_at hl 1 rfl) ?_
  refine lv_tableIn (off := 64) (tgt := 65) hx hb dX0_fact_1 (by decide) (by decide) (by decide) (by decide) ?_
  refine lv_aload_n hx hb dX0_fact_65 rfl (lv_at hl 0 rfl) ?_
  refine mw_get (C := RX0) (T := TX0) (N := 12) (v := .int (nI (bi))) hx hb hts inX0_fact_X0 hown hC hw e0 rfl 4 (by decide) k_0 rfl dX0_fact_66 ?_
  exact mw_iret hx hb hr hlocks hw (rfl) (fun _ _ h9 => h9) dX0_fact_69
def RM_X0_fact_2 : Room := { frames := 0, cells := 0, slots := 0, locals := 0 }
set_option maxHeartbeats 4000000 in
set_option maxRecDepth 100000 in
theorem c_X0_fact_2 (l : Launch) (G : mw_G) (M : mw_M) (sz : Nat) (h0 li me so fi bi sn tn er un : Nat) (fl al ab : Bool) (fa n : Nat) (la sa mf mu ma mw : Nat) (ba sl t : Nat) (e0 : M h0 = some (.inr (0, [.ref (li), .ref (me), .ref (so), .int (nI (fi)), .int (nI (bi)), .int (nI (sn)), .int (nI (tn)), .int (nI (er)), .int (nI (un)), .int (nI (b2n fl)), .int (nI (b2n al)), .int (nI (b2n ab))]))) (e1 : M li = some (.inr (2, [.ref (fa), .int (nI (n))]))) (e2 : M me = some (.inr (3, [.ref (la), .ref (sa), .int (nI (mf)), .int (nI (mu)), .int (nI (ma)), .int (nI (mw))]))) (e3 : M so = some (.inr (4, [.ref (ba), .ref (sl), .int (nI (t))])))   : Met l yX0_fact wsX0_fact RM_X0_fact_2 (mw_pre G M sz [.ref (h0), .int (nI (2))]) (mw_Qi G M sz (nI (sn)) M) 0 0 (mw_A M sz) := by
  refine Met.ofW (cc := cX0_fact) (maxL := 2) (ret := (some .int)) (by decide) rfl ?_
  intro p e s m args below meth c s₁ B hml hv
  obtain ⟨rfl, rfl, hC, hw⟩ := mw_in hv
  have hx := B.exec
  have hb := B.bytes
  have hr := B.returns
  have hts := atoms_spec (ws := wsX0_fact) B.pre
  have hown : s.vm.findClass RX0 = some m.cls := findClass_of_methodNamed B.named
  have hlocks := B.notSynchronized
  have k_0 := hts (.fieldLink RX0 39 "LinkPair$End" "sentNumber" "I") (by decide +kernel)
  have hl := lv_entry ([.ref (h0), .int (nI (2))]) (n := 2) (Nat.le_of_ble_eq_true rfl)
  rw [lg_entry_eq]
  generalize (lg_sl ([.ref (h0), .int (nI (2))]) ++ List.replicate (2 - (lg_sl ([.ref (h0), .int (nI (2))])).length) Slot.unset).toArray = ls at hl ⊢
  have hl : lv_has ls 2 [(0, .ref (h0)), (1, .int (nI (2)))] := hl
  refine mw_start (fun H locs hw => ?_) hw
  refine lv_iload_n hx hb dX0_fact_0 rfl (lv_at hl 1 rfl) ?_
  refine lv_tableIn (off := 69) (tgt := 70) hx hb dX0_fact_1 (by decide) (by decide) (by decide) (by decide) ?_
  refine lv_aload_n hx hb dX0_fact_70 rfl (lv_at hl 0 rfl) ?_
  refine mw_get (C := RX0) (T := TX0) (N := 12) (v := .int (nI (sn))) hx hb hts inX0_fact_X0 hown hC hw e0 rfl 5 (by decide) k_0 rfl dX0_fact_71 ?_
  exact mw_iret hx hb hr hlocks hw (rfl) (fun _ _ h9 => h9) dX0_fact_74
def RM_X0_fact_3 : Room := { frames := 0, cells := 0, slots := 0, locals := 0 }
set_option maxHeartbeats 4000000 in
set_option maxRecDepth 100000 in
theorem c_X0_fact_3 (l : Launch) (G : mw_G) (M : mw_M) (sz : Nat) (h0 li me so fi bi sn tn er un : Nat) (fl al ab : Bool) (fa n : Nat) (la sa mf mu ma mw : Nat) (ba sl t : Nat) (e0 : M h0 = some (.inr (0, [.ref (li), .ref (me), .ref (so), .int (nI (fi)), .int (nI (bi)), .int (nI (sn)), .int (nI (tn)), .int (nI (er)), .int (nI (un)), .int (nI (b2n fl)), .int (nI (b2n al)), .int (nI (b2n ab))]))) (e1 : M li = some (.inr (2, [.ref (fa), .int (nI (n))]))) (e2 : M me = some (.inr (3, [.ref (la), .ref (sa), .int (nI (mf)), .int (nI (mu)), .int (nI (ma)), .int (nI (mw))]))) (e3 : M so = some (.inr (4, [.ref (ba), .ref (sl), .int (nI (t))])))   : Met l yX0_fact wsX0_fact RM_X0_fact_3 (mw_pre G M sz [.ref (h0), .int (nI (3))]) (mw_Qi G M sz (nI (tn)) M) 0 0 (mw_A M sz) := by
  refine Met.ofW (cc := cX0_fact) (maxL := 2) (ret := (some .int)) (by decide) rfl ?_
  intro p e s m args below meth c s₁ B hml hv
  obtain ⟨rfl, rfl, hC, hw⟩ := mw_in hv
  have hx := B.exec
  have hb := B.bytes
  have hr := B.returns
  have hts := atoms_spec (ws := wsX0_fact) B.pre
  have hown : s.vm.findClass RX0 = some m.cls := findClass_of_methodNamed B.named
  have hlocks := B.notSynchronized
  have k_0 := hts (.fieldLink RX0 42 "LinkPair$End" "takenNumber" "I") (by decide +kernel)
  have hl := lv_entry ([.ref (h0), .int (nI (3))]) (n := 2) (Nat.le_of_ble_eq_true rfl)
  rw [lg_entry_eq]
  generalize (lg_sl ([.ref (h0), .int (nI (3))]) ++ List.replicate (2 - (lg_sl ([.ref (h0), .int (nI (3))])).length) Slot.unset).toArray = ls at hl ⊢
  have hl : lv_has ls 2 [(0, .ref (h0)), (1, .int (nI (3)))] := hl
  refine mw_start (fun H locs hw => ?_) hw
  refine lv_iload_n hx hb dX0_fact_0 rfl (lv_at hl 1 rfl) ?_
  refine lv_tableIn (off := 74) (tgt := 75) hx hb dX0_fact_1 (by decide) (by decide) (by decide) (by decide) ?_
  refine lv_aload_n hx hb dX0_fact_75 rfl (lv_at hl 0 rfl) ?_
  refine mw_get (C := RX0) (T := TX0) (N := 12) (v := .int (nI (tn))) hx hb hts inX0_fact_X0 hown hC hw e0 rfl 6 (by decide) k_0 rfl dX0_fact_76 ?_
  exact mw_iret hx hb hr hlocks hw (rfl) (fun _ _ h9 => h9) dX0_fact_79
theorem inX0_fact_X3 : ∀ w ∈ wsX30, w ∈ wsX0_fact := by decide +kernel
def RM_X0_fact_4 : Room := { frames := 0, cells := 0, slots := 0, locals := 0 }
set_option maxHeartbeats 4000000 in
set_option maxRecDepth 100000 in
theorem c_X0_fact_4 (l : Launch) (G : mw_G) (M : mw_M) (sz : Nat) (h0 li me so fi bi sn tn er un : Nat) (fl al ab : Bool) (fa n : Nat) (la sa mf mu ma mw : Nat) (ba sl t : Nat) (e0 : M h0 = some (.inr (0, [.ref (li), .ref (me), .ref (so), .int (nI (fi)), .int (nI (bi)), .int (nI (sn)), .int (nI (tn)), .int (nI (er)), .int (nI (un)), .int (nI (b2n fl)), .int (nI (b2n al)), .int (nI (b2n ab))]))) (e1 : M li = some (.inr (2, [.ref (fa), .int (nI (n))]))) (e2 : M me = some (.inr (3, [.ref (la), .ref (sa), .int (nI (mf)), .int (nI (mu)), .int (nI (ma)), .int (nI (mw))]))) (e3 : M so = some (.inr (4, [.ref (ba), .ref (sl), .int (nI (t))])))   : Met l yX0_fact wsX0_fact RM_X0_fact_4 (mw_pre G M sz [.ref (h0), .int (nI (4))]) (mw_Qi G M sz (nI (mw)) M) 0 0 (mw_A M sz) := by
  refine Met.ofW (cc := cX0_fact) (maxL := 2) (ret := (some .int)) (by decide) rfl ?_
  intro p e s m args below meth c s₁ B hml hv
  obtain ⟨rfl, rfl, hC, hw⟩ := mw_in hv
  have hx := B.exec
  have hb := B.bytes
  have hr := B.returns
  have hts := atoms_spec (ws := wsX0_fact) B.pre
  have hown : s.vm.findClass RX0 = some m.cls := findClass_of_methodNamed B.named
  have hlocks := B.notSynchronized
  have k_0 := hts (.fieldLink RX0 21 "LinkPair$End" "messages" "LLinkPair$Messages;") (by decide +kernel)
  have hl := lv_entry ([.ref (h0), .int (nI (4))]) (n := 2) (Nat.le_of_ble_eq_true rfl)
  rw [lg_entry_eq]
  generalize (lg_sl ([.ref (h0), .int (nI (4))]) ++ List.replicate (2 - (lg_sl ([.ref (h0), .int (nI (4))])).length) Slot.unset).toArray = ls at hl ⊢
  have hl : lv_has ls 2 [(0, .ref (h0)), (1, .int (nI (4)))] := hl
  refine mw_start (fun H locs hw => ?_) hw
  refine lv_iload_n hx hb dX0_fact_0 rfl (lv_at hl 1 rfl) ?_
  refine lv_tableIn (off := 79) (tgt := 80) hx hb dX0_fact_1 (by decide) (by decide) (by decide) (by decide) ?_
  refine lv_aload_n hx hb dX0_fact_80 rfl (lv_at hl 0 rfl) ?_
  refine mw_get (C := RX0) (T := TX0) (N := 12) (v := .ref (me)) hx hb hts inX0_fact_X0 hown hC hw e0 rfl 1 (by decide) k_0 rfl dX0_fact_81 ?_
  refine mw_getN (C := RX3) (T := TX3) (N := 6) (v := .int (nI (mw))) hx hb hts inX0_fact_X3 hown hC hw e2 rfl 5 (by decide) (show Cond.fieldLinkNest RX0 150 (TX3 5).1 (TX3 5).2.1 (TX3 5).2.2.1 "LinkPair" ∈ mw_nestF by decide +kernel) rfl dX0_fact_84 ?_
  exact mw_iret hx hb hr hlocks hw (rfl) (fun _ _ h9 => h9) dX0_fact_87
def RM_X0_fact_5 : Room := { frames := 0, cells := 0, slots := 0, locals := 0 }
set_option maxHeartbeats 4000000 in
set_option maxRecDepth 100000 in
theorem c_X0_fact_5 (l : Launch) (G : mw_G) (M : mw_M) (sz : Nat) (h0 li me so fi bi sn tn er un : Nat) (fl al ab : Bool) (fa n : Nat) (la sa mf mu ma mw : Nat) (ba sl t : Nat) (e0 : M h0 = some (.inr (0, [.ref (li), .ref (me), .ref (so), .int (nI (fi)), .int (nI (bi)), .int (nI (sn)), .int (nI (tn)), .int (nI (er)), .int (nI (un)), .int (nI (b2n fl)), .int (nI (b2n al)), .int (nI (b2n ab))]))) (e1 : M li = some (.inr (2, [.ref (fa), .int (nI (n))]))) (e2 : M me = some (.inr (3, [.ref (la), .ref (sa), .int (nI (mf)), .int (nI (mu)), .int (nI (ma)), .int (nI (mw))]))) (e3 : M so = some (.inr (4, [.ref (ba), .ref (sl), .int (nI (t))])))   : Met l yX0_fact wsX0_fact RM_X0_fact_5 (mw_pre G M sz [.ref (h0), .int (nI (5))]) (mw_Qi G M sz (nI (mu)) M) 0 0 (mw_A M sz) := by
  refine Met.ofW (cc := cX0_fact) (maxL := 2) (ret := (some .int)) (by decide) rfl ?_
  intro p e s m args below meth c s₁ B hml hv
  obtain ⟨rfl, rfl, hC, hw⟩ := mw_in hv
  have hx := B.exec
  have hb := B.bytes
  have hr := B.returns
  have hts := atoms_spec (ws := wsX0_fact) B.pre
  have hown : s.vm.findClass RX0 = some m.cls := findClass_of_methodNamed B.named
  have hlocks := B.notSynchronized
  have k_0 := hts (.fieldLink RX0 21 "LinkPair$End" "messages" "LLinkPair$Messages;") (by decide +kernel)
  have hl := lv_entry ([.ref (h0), .int (nI (5))]) (n := 2) (Nat.le_of_ble_eq_true rfl)
  rw [lg_entry_eq]
  generalize (lg_sl ([.ref (h0), .int (nI (5))]) ++ List.replicate (2 - (lg_sl ([.ref (h0), .int (nI (5))])).length) Slot.unset).toArray = ls at hl ⊢
  have hl : lv_has ls 2 [(0, .ref (h0)), (1, .int (nI (5)))] := hl
  refine mw_start (fun H locs hw => ?_) hw
  refine lv_iload_n hx hb dX0_fact_0 rfl (lv_at hl 1 rfl) ?_
  refine lv_tableIn (off := 87) (tgt := 88) hx hb dX0_fact_1 (by decide) (by decide) (by decide) (by decide) ?_
  refine lv_aload_n hx hb dX0_fact_88 rfl (lv_at hl 0 rfl) ?_
  refine mw_get (C := RX0) (T := TX0) (N := 12) (v := .ref (me)) hx hb hts inX0_fact_X0 hown hC hw e0 rfl 1 (by decide) k_0 rfl dX0_fact_89 ?_
  refine mw_getN (C := RX3) (T := TX3) (N := 6) (v := .int (nI (mu))) hx hb hts inX0_fact_X3 hown hC hw e2 rfl 3 (by decide) (show Cond.fieldLinkNest RX0 89 (TX3 3).1 (TX3 3).2.1 (TX3 3).2.2.1 "LinkPair" ∈ mw_nestF by decide +kernel) rfl dX0_fact_92 ?_
  exact mw_iret hx hb hr hlocks hw (rfl) (fun _ _ h9 => h9) dX0_fact_95
def RM_X0_fact_6 : Room := { frames := 0, cells := 0, slots := 0, locals := 0 }
set_option maxHeartbeats 4000000 in
set_option maxRecDepth 100000 in
theorem c_X0_fact_6 (l : Launch) (G : mw_G) (M : mw_M) (sz : Nat) (h0 li me so fi bi sn tn er un : Nat) (fl al ab : Bool) (fa n : Nat) (la sa mf mu ma mw : Nat) (ba sl t : Nat) (e0 : M h0 = some (.inr (0, [.ref (li), .ref (me), .ref (so), .int (nI (fi)), .int (nI (bi)), .int (nI (sn)), .int (nI (tn)), .int (nI (er)), .int (nI (un)), .int (nI (b2n fl)), .int (nI (b2n al)), .int (nI (b2n ab))]))) (e1 : M li = some (.inr (2, [.ref (fa), .int (nI (n))]))) (e2 : M me = some (.inr (3, [.ref (la), .ref (sa), .int (nI (mf)), .int (nI (mu)), .int (nI (ma)), .int (nI (mw))]))) (e3 : M so = some (.inr (4, [.ref (ba), .ref (sl), .int (nI (t))])))   : Met l yX0_fact wsX0_fact RM_X0_fact_6 (mw_pre G M sz [.ref (h0), .int (nI (6))]) (mw_Qi G M sz (nI (ma)) M) 0 0 (mw_A M sz) := by
  refine Met.ofW (cc := cX0_fact) (maxL := 2) (ret := (some .int)) (by decide) rfl ?_
  intro p e s m args below meth c s₁ B hml hv
  obtain ⟨rfl, rfl, hC, hw⟩ := mw_in hv
  have hx := B.exec
  have hb := B.bytes
  have hr := B.returns
  have hts := atoms_spec (ws := wsX0_fact) B.pre
  have hown : s.vm.findClass RX0 = some m.cls := findClass_of_methodNamed B.named
  have hlocks := B.notSynchronized
  have k_0 := hts (.fieldLink RX0 21 "LinkPair$End" "messages" "LLinkPair$Messages;") (by decide +kernel)
  have hl := lv_entry ([.ref (h0), .int (nI (6))]) (n := 2) (Nat.le_of_ble_eq_true rfl)
  rw [lg_entry_eq]
  generalize (lg_sl ([.ref (h0), .int (nI (6))]) ++ List.replicate (2 - (lg_sl ([.ref (h0), .int (nI (6))])).length) Slot.unset).toArray = ls at hl ⊢
  have hl : lv_has ls 2 [(0, .ref (h0)), (1, .int (nI (6)))] := hl
  refine mw_start (fun H locs hw => ?_) hw
  refine lv_iload_n hx hb dX0_fact_0 rfl (lv_at hl 1 rfl) ?_
  refine lv_tableIn (off := 95) (tgt := 96) hx hb dX0_fact_1 (by decide) (by decide) (by decide) (by decide) ?_
  refine lv_aload_n hx hb dX0_fact_96 rfl (lv_at hl 0 rfl) ?_
  refine mw_get (C := RX0) (T := TX0) (N := 12) (v := .ref (me)) hx hb hts inX0_fact_X0 hown hC hw e0 rfl 1 (by decide) k_0 rfl dX0_fact_97 ?_
  refine mw_getN (C := RX3) (T := TX3) (N := 6) (v := .int (nI (ma))) hx hb hts inX0_fact_X3 hown hC hw e2 rfl 4 (by decide) (show Cond.fieldLinkNest RX0 67 (TX3 4).1 (TX3 4).2.1 (TX3 4).2.2.1 "LinkPair" ∈ mw_nestF by decide +kernel) rfl dX0_fact_100 ?_
  exact mw_iret hx hb hr hlocks hw (rfl) (fun _ _ h9 => h9) dX0_fact_103
theorem inX0_fact_X4 : ∀ w ∈ wsX40, w ∈ wsX0_fact := by decide +kernel
def RM_X0_fact_7 : Room := { frames := 0, cells := 0, slots := 0, locals := 0 }
set_option maxHeartbeats 4000000 in
set_option maxRecDepth 100000 in
theorem c_X0_fact_7 (l : Launch) (G : mw_G) (M : mw_M) (sz : Nat) (h0 li me so fi bi sn tn er un : Nat) (fl al ab : Bool) (fa n : Nat) (la sa mf mu ma mw : Nat) (ba sl t : Nat) (e0 : M h0 = some (.inr (0, [.ref (li), .ref (me), .ref (so), .int (nI (fi)), .int (nI (bi)), .int (nI (sn)), .int (nI (tn)), .int (nI (er)), .int (nI (un)), .int (nI (b2n fl)), .int (nI (b2n al)), .int (nI (b2n ab))]))) (e1 : M li = some (.inr (2, [.ref (fa), .int (nI (n))]))) (e2 : M me = some (.inr (3, [.ref (la), .ref (sa), .int (nI (mf)), .int (nI (mu)), .int (nI (ma)), .int (nI (mw))]))) (e3 : M so = some (.inr (4, [.ref (ba), .ref (sl), .int (nI (t))])))   : Met l yX0_fact wsX0_fact RM_X0_fact_7 (mw_pre G M sz [.ref (h0), .int (nI (7))]) (mw_Qi G M sz (nI (t)) M) 0 0 (mw_A M sz) := by
  refine Met.ofW (cc := cX0_fact) (maxL := 2) (ret := (some .int)) (by decide) rfl ?_
  intro p e s m args below meth c s₁ B hml hv
  obtain ⟨rfl, rfl, hC, hw⟩ := mw_in hv
  have hx := B.exec
  have hb := B.bytes
  have hr := B.returns
  have hts := atoms_spec (ws := wsX0_fact) B.pre
  have hown : s.vm.findClass RX0 = some m.cls := findClass_of_methodNamed B.named
  have hlocks := B.notSynchronized
  have k_0 := hts (.fieldLink RX0 28 "LinkPair$End" "store" "LLinkPair$Store;") (by decide +kernel)
  have hl := lv_entry ([.ref (h0), .int (nI (7))]) (n := 2) (Nat.le_of_ble_eq_true rfl)
  rw [lg_entry_eq]
  generalize (lg_sl ([.ref (h0), .int (nI (7))]) ++ List.replicate (2 - (lg_sl ([.ref (h0), .int (nI (7))])).length) Slot.unset).toArray = ls at hl ⊢
  have hl : lv_has ls 2 [(0, .ref (h0)), (1, .int (nI (7)))] := hl
  refine mw_start (fun H locs hw => ?_) hw
  refine lv_iload_n hx hb dX0_fact_0 rfl (lv_at hl 1 rfl) ?_
  refine lv_tableIn (off := 103) (tgt := 104) hx hb dX0_fact_1 (by decide) (by decide) (by decide) (by decide) ?_
  refine lv_aload_n hx hb dX0_fact_104 rfl (lv_at hl 0 rfl) ?_
  refine mw_get (C := RX0) (T := TX0) (N := 12) (v := .ref (so)) hx hb hts inX0_fact_X0 hown hC hw e0 rfl 2 (by decide) k_0 rfl dX0_fact_105 ?_
  refine mw_getN (C := RX4) (T := TX4) (N := 3) (v := .int (nI (t))) hx hb hts inX0_fact_X4 hown hC hw e3 rfl 2 (by decide) (show Cond.fieldLinkNest RX0 153 (TX4 2).1 (TX4 2).2.1 (TX4 2).2.2.1 "LinkPair" ∈ mw_nestF by decide +kernel) rfl dX0_fact_108 ?_
  exact mw_iret hx hb hr hlocks hw (rfl) (fun _ _ h9 => h9) dX0_fact_111
theorem inX0_fact_X2 : ∀ w ∈ wsX20, w ∈ wsX0_fact := by decide +kernel
def RM_X0_fact_8 : Room := { frames := 0, cells := 0, slots := 0, locals := 0 }
set_option maxHeartbeats 4000000 in
set_option maxRecDepth 100000 in
theorem c_X0_fact_8 (l : Launch) (G : mw_G) (M : mw_M) (sz : Nat) (h0 li me so fi bi sn tn er un : Nat) (fl al ab : Bool) (fa n : Nat) (la sa mf mu ma mw : Nat) (ba sl t : Nat) (e0 : M h0 = some (.inr (0, [.ref (li), .ref (me), .ref (so), .int (nI (fi)), .int (nI (bi)), .int (nI (sn)), .int (nI (tn)), .int (nI (er)), .int (nI (un)), .int (nI (b2n fl)), .int (nI (b2n al)), .int (nI (b2n ab))]))) (e1 : M li = some (.inr (2, [.ref (fa), .int (nI (n))]))) (e2 : M me = some (.inr (3, [.ref (la), .ref (sa), .int (nI (mf)), .int (nI (mu)), .int (nI (ma)), .int (nI (mw))]))) (e3 : M so = some (.inr (4, [.ref (ba), .ref (sl), .int (nI (t))])))   : Met l yX0_fact wsX0_fact RM_X0_fact_8 (mw_pre G M sz [.ref (h0), .int (nI (8))]) (mw_Qi G M sz (nI (n)) M) 0 0 (mw_A M sz) := by
  refine Met.ofW (cc := cX0_fact) (maxL := 2) (ret := (some .int)) (by decide) rfl ?_
  intro p e s m args below meth c s₁ B hml hv
  obtain ⟨rfl, rfl, hC, hw⟩ := mw_in hv
  have hx := B.exec
  have hb := B.bytes
  have hr := B.returns
  have hts := atoms_spec (ws := wsX0_fact) B.pre
  have hown : s.vm.findClass RX0 = some m.cls := findClass_of_methodNamed B.named
  have hlocks := B.notSynchronized
  have k_0 := hts (.fieldLink RX0 12 "LinkPair$End" "line" "LLinkPair$Line;") (by decide +kernel)
  have hl := lv_entry ([.ref (h0), .int (nI (8))]) (n := 2) (Nat.le_of_ble_eq_true rfl)
  rw [lg_entry_eq]
  generalize (lg_sl ([.ref (h0), .int (nI (8))]) ++ List.replicate (2 - (lg_sl ([.ref (h0), .int (nI (8))])).length) Slot.unset).toArray = ls at hl ⊢
  have hl : lv_has ls 2 [(0, .ref (h0)), (1, .int (nI (8)))] := hl
  refine mw_start (fun H locs hw => ?_) hw
  refine lv_iload_n hx hb dX0_fact_0 rfl (lv_at hl 1 rfl) ?_
  refine lv_tableIn (off := 111) (tgt := 112) hx hb dX0_fact_1 (by decide) (by decide) (by decide) (by decide) ?_
  refine lv_aload_n hx hb dX0_fact_112 rfl (lv_at hl 0 rfl) ?_
  refine mw_get (C := RX0) (T := TX0) (N := 12) (v := .ref (li)) hx hb hts inX0_fact_X0 hown hC hw e0 rfl 0 (by decide) k_0 rfl dX0_fact_113 ?_
  refine mw_getN (C := RX2) (T := TX2) (N := 2) (v := .int (nI (n))) hx hb hts inX0_fact_X2 hown hC hw e1 rfl 1 (by decide) (show Cond.fieldLinkNest RX0 45 (TX2 1).1 (TX2 1).2.1 (TX2 1).2.2.1 "LinkPair" ∈ mw_nestF by decide +kernel) rfl dX0_fact_116 ?_
  exact mw_iret hx hb hr hlocks hw (rfl) (fun _ _ h9 => h9) dX0_fact_119
def RM_X0_fact_9 : Room := { frames := 0, cells := 0, slots := 0, locals := 0 }
set_option maxHeartbeats 4000000 in
set_option maxRecDepth 100000 in
theorem c_X0_fact_9 (l : Launch) (G : mw_G) (M : mw_M) (sz : Nat) (h0 li me so fi bi sn tn er un : Nat) (fl al ab : Bool) (fa n : Nat) (la sa mf mu ma mw : Nat) (ba sl t : Nat) (e0 : M h0 = some (.inr (0, [.ref (li), .ref (me), .ref (so), .int (nI (fi)), .int (nI (bi)), .int (nI (sn)), .int (nI (tn)), .int (nI (er)), .int (nI (un)), .int (nI (b2n fl)), .int (nI (b2n al)), .int (nI (b2n ab))]))) (e1 : M li = some (.inr (2, [.ref (fa), .int (nI (n))]))) (e2 : M me = some (.inr (3, [.ref (la), .ref (sa), .int (nI (mf)), .int (nI (mu)), .int (nI (ma)), .int (nI (mw))]))) (e3 : M so = some (.inr (4, [.ref (ba), .ref (sl), .int (nI (t))])))   : Met l yX0_fact wsX0_fact RM_X0_fact_9 (mw_pre G M sz [.ref (h0), .int (nI (9))]) (mw_Qi G M sz (nI (er)) M) 0 0 (mw_A M sz) := by
  refine Met.ofW (cc := cX0_fact) (maxL := 2) (ret := (some .int)) (by decide) rfl ?_
  intro p e s m args below meth c s₁ B hml hv
  obtain ⟨rfl, rfl, hC, hw⟩ := mw_in hv
  have hx := B.exec
  have hb := B.bytes
  have hr := B.returns
  have hts := atoms_spec (ws := wsX0_fact) B.pre
  have hown : s.vm.findClass RX0 = some m.cls := findClass_of_methodNamed B.named
  have hlocks := B.notSynchronized
  have k_0 := hts (.fieldLink RX0 51 "LinkPair$End" "errors" "I") (by decide +kernel)
  have hl := lv_entry ([.ref (h0), .int (nI (9))]) (n := 2) (Nat.le_of_ble_eq_true rfl)
  rw [lg_entry_eq]
  generalize (lg_sl ([.ref (h0), .int (nI (9))]) ++ List.replicate (2 - (lg_sl ([.ref (h0), .int (nI (9))])).length) Slot.unset).toArray = ls at hl ⊢
  have hl : lv_has ls 2 [(0, .ref (h0)), (1, .int (nI (9)))] := hl
  refine mw_start (fun H locs hw => ?_) hw
  refine lv_iload_n hx hb dX0_fact_0 rfl (lv_at hl 1 rfl) ?_
  refine lv_tableIn (off := 119) (tgt := 120) hx hb dX0_fact_1 (by decide) (by decide) (by decide) (by decide) ?_
  refine lv_aload_n hx hb dX0_fact_120 rfl (lv_at hl 0 rfl) ?_
  refine mw_get (C := RX0) (T := TX0) (N := 12) (v := .int (nI (er))) hx hb hts inX0_fact_X0 hown hC hw e0 rfl 7 (by decide) k_0 rfl dX0_fact_121 ?_
  exact mw_iret hx hb hr hlocks hw (rfl) (fun _ _ h9 => h9) dX0_fact_124
def RM_X0_fact_10 : Room := { frames := 0, cells := 0, slots := 0, locals := 0 }
set_option maxHeartbeats 4000000 in
set_option maxRecDepth 100000 in
theorem c_X0_fact_10 (l : Launch) (G : mw_G) (M : mw_M) (sz : Nat) (h0 li me so fi bi sn tn er un : Nat) (fl al ab : Bool) (fa n : Nat) (la sa mf mu ma mw : Nat) (ba sl t : Nat) (e0 : M h0 = some (.inr (0, [.ref (li), .ref (me), .ref (so), .int (nI (fi)), .int (nI (bi)), .int (nI (sn)), .int (nI (tn)), .int (nI (er)), .int (nI (un)), .int (nI (b2n fl)), .int (nI (b2n al)), .int (nI (b2n ab))]))) (e1 : M li = some (.inr (2, [.ref (fa), .int (nI (n))]))) (e2 : M me = some (.inr (3, [.ref (la), .ref (sa), .int (nI (mf)), .int (nI (mu)), .int (nI (ma)), .int (nI (mw))]))) (e3 : M so = some (.inr (4, [.ref (ba), .ref (sl), .int (nI (t))])))   : Met l yX0_fact wsX0_fact RM_X0_fact_10 (mw_pre G M sz [.ref (h0), .int (nI (10))]) (mw_Qi G M sz (nI (un)) M) 0 0 (mw_A M sz) := by
  refine Met.ofW (cc := cX0_fact) (maxL := 2) (ret := (some .int)) (by decide) rfl ?_
  intro p e s m args below meth c s₁ B hml hv
  obtain ⟨rfl, rfl, hC, hw⟩ := mw_in hv
  have hx := B.exec
  have hb := B.bytes
  have hr := B.returns
  have hts := atoms_spec (ws := wsX0_fact) B.pre
  have hown : s.vm.findClass RX0 = some m.cls := findClass_of_methodNamed B.named
  have hlocks := B.notSynchronized
  have k_0 := hts (.fieldLink RX0 54 "LinkPair$End" "units" "I") (by decide +kernel)
  have hl := lv_entry ([.ref (h0), .int (nI (10))]) (n := 2) (Nat.le_of_ble_eq_true rfl)
  rw [lg_entry_eq]
  generalize (lg_sl ([.ref (h0), .int (nI (10))]) ++ List.replicate (2 - (lg_sl ([.ref (h0), .int (nI (10))])).length) Slot.unset).toArray = ls at hl ⊢
  have hl : lv_has ls 2 [(0, .ref (h0)), (1, .int (nI (10)))] := hl
  refine mw_start (fun H locs hw => ?_) hw
  refine lv_iload_n hx hb dX0_fact_0 rfl (lv_at hl 1 rfl) ?_
  refine lv_tableIn (off := 124) (tgt := 125) hx hb dX0_fact_1 (by decide) (by decide) (by decide) (by decide) ?_
  refine lv_aload_n hx hb dX0_fact_125 rfl (lv_at hl 0 rfl) ?_
  refine mw_get (C := RX0) (T := TX0) (N := 12) (v := .int (nI (un))) hx hb hts inX0_fact_X0 hown hC hw e0 rfl 8 (by decide) k_0 rfl dX0_fact_126 ?_
  exact mw_iret hx hb hr hlocks hw (rfl) (fun _ _ h9 => h9) dX0_fact_129
def RM_X0_fact_11 : Room := { frames := 0, cells := 0, slots := 0, locals := 0 }
set_option maxHeartbeats 4000000 in
set_option maxRecDepth 100000 in
theorem c_X0_fact_11 (l : Launch) (G : mw_G) (M : mw_M) (sz : Nat) (h0 li me so fi bi sn tn er un : Nat) (fl al ab : Bool) (fa n : Nat) (la sa mf mu ma mw : Nat) (ba sl t : Nat) (e0 : M h0 = some (.inr (0, [.ref (li), .ref (me), .ref (so), .int (nI (fi)), .int (nI (bi)), .int (nI (sn)), .int (nI (tn)), .int (nI (er)), .int (nI (un)), .int (nI (b2n fl)), .int (nI (b2n al)), .int (nI (b2n ab))]))) (e1 : M li = some (.inr (2, [.ref (fa), .int (nI (n))]))) (e2 : M me = some (.inr (3, [.ref (la), .ref (sa), .int (nI (mf)), .int (nI (mu)), .int (nI (ma)), .int (nI (mw))]))) (e3 : M so = some (.inr (4, [.ref (ba), .ref (sl), .int (nI (t))])))   : Met l yX0_fact wsX0_fact RM_X0_fact_11 (mw_pre G M sz [.ref (h0), .int (nI (11))]) (mw_Qi G M sz (nI (b2n fl)) M) 0 0 (mw_A M sz) := by
  refine Met.ofW (cc := cX0_fact) (maxL := 2) (ret := (some .int)) (by decide) rfl ?_
  intro p e s m args below meth c s₁ B hml hv
  obtain ⟨rfl, rfl, hC, hw⟩ := mw_in hv
  have hx := B.exec
  have hb := B.bytes
  have hr := B.returns
  have hts := atoms_spec (ws := wsX0_fact) B.pre
  have hown : s.vm.findClass RX0 = some m.cls := findClass_of_methodNamed B.named
  have hlocks := B.notSynchronized
  have k_0 := hts (.fieldLink RX0 57 "LinkPair$End" "failed" "Z") (by decide +kernel)
  have hl := lv_entry ([.ref (h0), .int (nI (11))]) (n := 2) (Nat.le_of_ble_eq_true rfl)
  rw [lg_entry_eq]
  generalize (lg_sl ([.ref (h0), .int (nI (11))]) ++ List.replicate (2 - (lg_sl ([.ref (h0), .int (nI (11))])).length) Slot.unset).toArray = ls at hl ⊢
  have hl : lv_has ls 2 [(0, .ref (h0)), (1, .int (nI (11)))] := hl
  refine mw_start (fun H locs hw => ?_) hw
  refine lv_iload_n hx hb dX0_fact_0 rfl (lv_at hl 1 rfl) ?_
  refine lv_tableOut (tgt := 130) hx hb dX0_fact_1 (Or.inr (by decide)) (by decide) ?_
  refine lv_aload_n hx hb dX0_fact_130 rfl (lv_at hl 0 rfl) ?_
  refine mw_get (C := RX0) (T := TX0) (N := 12) (v := .int (nI (b2n fl))) hx hb hts inX0_fact_X0 hown hC hw e0 rfl 9 (by decide) k_0 rfl dX0_fact_131 ?_
  have hbz := b2n_le fl
  refine lv_if_eq (tgt := 141) hx hb dX0_fact_134 (by decide) (fun c_1 => ?_) (fun c_1 => ?_)
  · skip
    have c_1 : b2n fl = 0 := (nI_eq (a := b2n fl) (b := 0) (by omega) (by omega)).mp c_1
    refine lv_iconst (v := nI 0) hx hb dX0_fact_141 (by decide) ?_
    exact mw_iret hx hb hr hlocks hw (by cases fl <;> simp_all [b2n]) (fun _ _ h9 => h9) dX0_fact_142
  · skip
    have c_1 : b2n fl ≠ 0 := fun h => c_1 ((nI_eq (a := b2n fl) (b := 0) (by omega) (by omega)).mpr h)
    refine lv_iconst (v := nI 1) hx hb dX0_fact_137 (by decide) ?_
    refine lv_goto (tgt := 142) hx hb dX0_fact_138 (by decide) ?_
    exact mw_iret hx hb hr hlocks hw (by cases fl <;> simp_all [b2n]) (fun _ _ h9 => h9) dX0_fact_142
