/-! ===== LinkPair.flip, drop, bit ===== -/
def RM_X6_flip_bade : Room := { frames := 8, cells := 1, slots := 6, locals := 125 }
set_option maxHeartbeats 4000000 in
set_option maxRecDepth 100000 in
theorem t_X6_flip_bade (l : Launch) (hlt : l.stackTraces = false) (G : mw_G) (M : mw_M) (sz : Nat) (h0 ea hu : Nat) (en : Nat → Option Nat) (ed fx : Int32) (i : Int32) (e0 : M h0 = some (.inr (6, [.ref (ea), .ref (hu)]))) (e1 : M ea = some (.inl (G.2 4, 2, .inr (.inr (.inr (.inr (en))))))) (hb1 : ed < 0 ∨ nI 1 < ed)  : vx_Met l yX6_flip wsX6_flip RM_X6_flip_bade (mw_pre G M sz [.ref (h0), .int (ed), .int (fx), .int (i)]) mw_no (mw_X G M sz exA M) 1 6 (mw_A M sz) := by
  refine vx_ofW (cc := cX6_flip) (maxL := 5) (ret := (some .int)) (by decide) rfl ?_
  intro p e s m args below meth c s₁ B hml hex hv
  obtain ⟨rfl, rfl, hC, hw⟩ := mw_in hv
  have hx := B.exec
  have hb := B.bytes
  have hr := B.returns
  have hts := atoms_spec (ws := wsX6_flip) B.pre
  have hown : s.vm.findClass RX6 = some m.cls := findClass_of_methodNamed B.named
  have hlocks := B.notSynchronized
  have hl := lv_entry ([.ref (h0), .int (ed), .int (fx), .int (i)]) (n := 5) (Nat.le_of_ble_eq_true rfl)
  rw [lg_entry_eq]
  generalize (lg_sl ([.ref (h0), .int (ed), .int (fx), .int (i)]) ++ List.replicate (5 - (lg_sl ([.ref (h0), .int (ed), .int (fx), .int (i)])).length) Slot.unset).toArray = ls at hl ⊢
  have hl : lv_has ls 5 [(0, .ref (h0)), (1, .int (ed)), (2, .int (fx)), (3, .int (i))] := hl
  refine mw_start (fun H locs hw => ?_) hw
  refine lv_aload_n hx hb dX6_flip_0 rfl (lv_at hl 0 rfl) ?_
  refine lv_iload_n hx hb dX6_flip_1 rfl (lv_at hl 1 rfl) ?_
  refine lv_iload_n hx hb dX6_flip_2 rfl (lv_at hl 2 rfl) ?_
  refine mw_ct hC hw (vx_runV (As := [.int (ed), .int (fx)]) (rest := []) ⟨hx, hb, hml, hown, hts⟩ (t_X6_frameOf_bade l hlt G _ H.size h0 ea hu en ed fx e0 e1 (hb1)) (cwV 2 hts gX6_flip_X6_frameOf rfl rfl rfl (by decide +kernel) ⟨Nat.le_of_ble_eq_true rfl, Nat.le_of_ble_eq_true rfl⟩) (mw_preV (ci := 6) hC hw rfl e0) rfl rfl hl.1 rfl (lv_room (Nat.le_of_ble_eq_true rfl)) dX6_flip_3 ⟨Nat.le_of_ble_eq_true rfl, Nat.le_of_ble_eq_true rfl⟩) (fun ce q9 H locs hw hce hcv hcl => ?_)
  exact mw_pass hlocks hex hw hce hcv hcl (Nat.le_of_ble_eq_true rfl) (Nat.le_of_ble_eq_true rfl)
def RM_X6_flip_badf : Room := { frames := 7, cells := 1, slots := 6, locals := 104 }
set_option maxHeartbeats 4000000 in
set_option maxRecDepth 100000 in
theorem t_X6_flip_badf (l : Launch) (hlt : l.stackTraces = false) (G : mw_G) (M : mw_M) (sz : Nat) (h0 ea hu : Nat) (en : Nat → Option Nat) (ed : Nat) (x li me so fi bi sn tn er un : Nat) (fl al ab : Bool) (fa n : Nat) (fx : Int32) (i : Int32) (e0 : M h0 = some (.inr (6, [.ref (ea), .ref (hu)]))) (e1 : M ea = some (.inl (G.2 4, 2, .inr (.inr (.inr (.inr (en))))))) (e2 : M x = some (.inr (0, [.ref (li), .ref (me), .ref (so), .int (nI (fi)), .int (nI (bi)), .int (nI (sn)), .int (nI (tn)), .int (nI (er)), .int (nI (un)), .int (nI (b2n fl)), .int (nI (b2n al)), .int (nI (b2n ab))]))) (e3 : M li = some (.inr (2, [.ref (fa), .int (nI (n))]))) (he : ed ≤ 1) (hen : en ed = some x) (hb1 : fx < 0 ∨ nI n ≤ fx)  : vx_Met l yX6_flip wsX6_flip RM_X6_flip_badf (mw_pre G M sz [.ref (h0), .int (nI (ed)), .int (fx), .int (i)]) mw_no (mw_X G M sz exA M) 1 6 (mw_A M sz) := by
  refine vx_ofW (cc := cX6_flip) (maxL := 5) (ret := (some .int)) (by decide) rfl ?_
  intro p e s m args below meth c s₁ B hml hex hv
  obtain ⟨rfl, rfl, hC, hw⟩ := mw_in hv
  have hx := B.exec
  have hb := B.bytes
  have hr := B.returns
  have hts := atoms_spec (ws := wsX6_flip) B.pre
  have hown : s.vm.findClass RX6 = some m.cls := findClass_of_methodNamed B.named
  have hlocks := B.notSynchronized
  have hl := lv_entry ([.ref (h0), .int (nI (ed)), .int (fx), .int (i)]) (n := 5) (Nat.le_of_ble_eq_true rfl)
  rw [lg_entry_eq]
  generalize (lg_sl ([.ref (h0), .int (nI (ed)), .int (fx), .int (i)]) ++ List.replicate (5 - (lg_sl ([.ref (h0), .int (nI (ed)), .int (fx), .int (i)])).length) Slot.unset).toArray = ls at hl ⊢
  have hl : lv_has ls 5 [(0, .ref (h0)), (1, .int (nI (ed))), (2, .int (fx)), (3, .int (i))] := hl
  refine mw_start (fun H locs hw => ?_) hw
  refine lv_aload_n hx hb dX6_flip_0 rfl (lv_at hl 0 rfl) ?_
  refine lv_iload_n hx hb dX6_flip_1 rfl (lv_at hl 1 rfl) ?_
  refine lv_iload_n hx hb dX6_flip_2 rfl (lv_at hl 2 rfl) ?_
  refine mw_ct hC hw (vx_runV (As := [.int (nI (ed)), .int (fx)]) (rest := []) ⟨hx, hb, hml, hown, hts⟩ (t_X6_frameOf_badf l hlt G _ H.size h0 ea hu en ed x li me so fi bi sn tn er un fl al ab fa n fx e0 e1 e2 e3 (by omega) (hen) (hb1)) (cwV 2 hts gX6_flip_X6_frameOf rfl rfl rfl (by decide +kernel) ⟨Nat.le_of_ble_eq_true rfl, Nat.le_of_ble_eq_true rfl⟩) (mw_preV (ci := 6) hC hw rfl e0) rfl rfl hl.1 rfl (lv_room (Nat.le_of_ble_eq_true rfl)) dX6_flip_3 ⟨Nat.le_of_ble_eq_true rfl, Nat.le_of_ble_eq_true rfl⟩) (fun ce q9 H locs hw hce hcv hcl => ?_)
  exact mw_pass hlocks hex hw hce hcv hcl (Nat.le_of_ble_eq_true rfl) (Nat.le_of_ble_eq_true rfl)
def RM_X6_drop_bade : Room := { frames := 8, cells := 1, slots := 6, locals := 125 }
set_option maxHeartbeats 4000000 in
set_option maxRecDepth 100000 in
theorem t_X6_drop_bade (l : Launch) (hlt : l.stackTraces = false) (G : mw_G) (M : mw_M) (sz : Nat) (h0 ea hu : Nat) (en : Nat → Option Nat) (ed fx : Int32) (e0 : M h0 = some (.inr (6, [.ref (ea), .ref (hu)]))) (e1 : M ea = some (.inl (G.2 4, 2, .inr (.inr (.inr (.inr (en))))))) (hb1 : ed < 0 ∨ nI 1 < ed)  : vx_Met l yX6_drop wsX6_drop RM_X6_drop_bade (mw_pre G M sz [.ref (h0), .int (ed), .int (fx)]) mw_no (mw_X G M sz exA M) 1 6 (mw_A M sz) := by
  refine vx_ofW (cc := cX6_drop) (maxL := 4) (ret := (some .int)) (by decide) rfl ?_
  intro p e s m args below meth c s₁ B hml hex hv
  obtain ⟨rfl, rfl, hC, hw⟩ := mw_in hv
  have hx := B.exec
  have hb := B.bytes
  have hr := B.returns
  have hts := atoms_spec (ws := wsX6_drop) B.pre
  have hown : s.vm.findClass RX6 = some m.cls := findClass_of_methodNamed B.named
  have hlocks := B.notSynchronized
  have hl := lv_entry ([.ref (h0), .int (ed), .int (fx)]) (n := 4) (Nat.le_of_ble_eq_true rfl)
  rw [lg_entry_eq]
  generalize (lg_sl ([.ref (h0), .int (ed), .int (fx)]) ++ List.replicate (4 - (lg_sl ([.ref (h0), .int (ed), .int (fx)])).length) Slot.unset).toArray = ls at hl ⊢
  have hl : lv_has ls 4 [(0, .ref (h0)), (1, .int (ed)), (2, .int (fx))] := hl
  refine mw_start (fun H locs hw => ?_) hw
  refine lv_aload_n hx hb dX6_drop_0 rfl (lv_at hl 0 rfl) ?_
  refine lv_iload_n hx hb dX6_drop_1 rfl (lv_at hl 1 rfl) ?_
  refine lv_iload_n hx hb dX6_drop_2 rfl (lv_at hl 2 rfl) ?_
  refine mw_ct hC hw (vx_runV (As := [.int (ed), .int (fx)]) (rest := []) ⟨hx, hb, hml, hown, hts⟩ (t_X6_frameOf_bade l hlt G _ H.size h0 ea hu en ed fx e0 e1 (hb1)) (cwV 2 hts gX6_drop_X6_frameOf rfl rfl rfl (by decide +kernel) ⟨Nat.le_of_ble_eq_true rfl, Nat.le_of_ble_eq_true rfl⟩) (mw_preV (ci := 6) hC hw rfl e0) rfl rfl hl.1 rfl (lv_room (Nat.le_of_ble_eq_true rfl)) dX6_drop_3 ⟨Nat.le_of_ble_eq_true rfl, Nat.le_of_ble_eq_true rfl⟩) (fun ce q9 H locs hw hce hcv hcl => ?_)
  exact mw_pass hlocks hex hw hce hcv hcl (Nat.le_of_ble_eq_true rfl) (Nat.le_of_ble_eq_true rfl)
def RM_X6_drop_badf : Room := { frames := 7, cells := 1, slots := 6, locals := 104 }
set_option maxHeartbeats 4000000 in
set_option maxRecDepth 100000 in
theorem t_X6_drop_badf (l : Launch) (hlt : l.stackTraces = false) (G : mw_G) (M : mw_M) (sz : Nat) (h0 ea hu : Nat) (en : Nat → Option Nat) (ed : Nat) (x li me so fi bi sn tn er un : Nat) (fl al ab : Bool) (fa n : Nat) (fx : Int32) (e0 : M h0 = some (.inr (6, [.ref (ea), .ref (hu)]))) (e1 : M ea = some (.inl (G.2 4, 2, .inr (.inr (.inr (.inr (en))))))) (e2 : M x = some (.inr (0, [.ref (li), .ref (me), .ref (so), .int (nI (fi)), .int (nI (bi)), .int (nI (sn)), .int (nI (tn)), .int (nI (er)), .int (nI (un)), .int (nI (b2n fl)), .int (nI (b2n al)), .int (nI (b2n ab))]))) (e3 : M li = some (.inr (2, [.ref (fa), .int (nI (n))]))) (he : ed ≤ 1) (hen : en ed = some x) (hb1 : fx < 0 ∨ nI n ≤ fx)  : vx_Met l yX6_drop wsX6_drop RM_X6_drop_badf (mw_pre G M sz [.ref (h0), .int (nI (ed)), .int (fx)]) mw_no (mw_X G M sz exA M) 1 6 (mw_A M sz) := by
  refine vx_ofW (cc := cX6_drop) (maxL := 4) (ret := (some .int)) (by decide) rfl ?_
  intro p e s m args below meth c s₁ B hml hex hv
  obtain ⟨rfl, rfl, hC, hw⟩ := mw_in hv
  have hx := B.exec
  have hb := B.bytes
  have hr := B.returns
  have hts := atoms_spec (ws := wsX6_drop) B.pre
  have hown : s.vm.findClass RX6 = some m.cls := findClass_of_methodNamed B.named
  have hlocks := B.notSynchronized
  have hl := lv_entry ([.ref (h0), .int (nI (ed)), .int (fx)]) (n := 4) (Nat.le_of_ble_eq_true rfl)
  rw [lg_entry_eq]
  generalize (lg_sl ([.ref (h0), .int (nI (ed)), .int (fx)]) ++ List.replicate (4 - (lg_sl ([.ref (h0), .int (nI (ed)), .int (fx)])).length) Slot.unset).toArray = ls at hl ⊢
  have hl : lv_has ls 4 [(0, .ref (h0)), (1, .int (nI (ed))), (2, .int (fx))] := hl
  refine mw_start (fun H locs hw => ?_) hw
  refine lv_aload_n hx hb dX6_drop_0 rfl (lv_at hl 0 rfl) ?_
  refine lv_iload_n hx hb dX6_drop_1 rfl (lv_at hl 1 rfl) ?_
  refine lv_iload_n hx hb dX6_drop_2 rfl (lv_at hl 2 rfl) ?_
  refine mw_ct hC hw (vx_runV (As := [.int (nI (ed)), .int (fx)]) (rest := []) ⟨hx, hb, hml, hown, hts⟩ (t_X6_frameOf_badf l hlt G _ H.size h0 ea hu en ed x li me so fi bi sn tn er un fl al ab fa n fx e0 e1 e2 e3 (by omega) (hen) (hb1)) (cwV 2 hts gX6_drop_X6_frameOf rfl rfl rfl (by decide +kernel) ⟨Nat.le_of_ble_eq_true rfl, Nat.le_of_ble_eq_true rfl⟩) (mw_preV (ci := 6) hC hw rfl e0) rfl rfl hl.1 rfl (lv_room (Nat.le_of_ble_eq_true rfl)) dX6_drop_3 ⟨Nat.le_of_ble_eq_true rfl, Nat.le_of_ble_eq_true rfl⟩) (fun ce q9 H locs hw hce hcv hcl => ?_)
  exact mw_pass hlocks hex hw hce hcv hcl (Nat.le_of_ble_eq_true rfl) (Nat.le_of_ble_eq_true rfl)
def RM_X6_bit_bade : Room := { frames := 8, cells := 1, slots := 6, locals := 125 }
set_option maxHeartbeats 4000000 in
set_option maxRecDepth 100000 in
theorem t_X6_bit_bade (l : Launch) (hlt : l.stackTraces = false) (G : mw_G) (M : mw_M) (sz : Nat) (h0 ea hu : Nat) (en : Nat → Option Nat) (ed fx : Int32) (i : Int32) (e0 : M h0 = some (.inr (6, [.ref (ea), .ref (hu)]))) (e1 : M ea = some (.inl (G.2 4, 2, .inr (.inr (.inr (.inr (en))))))) (hb1 : ed < 0 ∨ nI 1 < ed)  : vx_Met l yX6_bit wsX6_bit RM_X6_bit_bade (mw_pre G M sz [.ref (h0), .int (ed), .int (fx), .int (i)]) mw_no (mw_X G M sz exA M) 1 6 (mw_A M sz) := by
  refine vx_ofW (cc := cX6_bit) (maxL := 5) (ret := (some .int)) (by decide) rfl ?_
  intro p e s m args below meth c s₁ B hml hex hv
  obtain ⟨rfl, rfl, hC, hw⟩ := mw_in hv
  have hx := B.exec
  have hb := B.bytes
  have hr := B.returns
  have hts := atoms_spec (ws := wsX6_bit) B.pre
  have hown : s.vm.findClass RX6 = some m.cls := findClass_of_methodNamed B.named
  have hlocks := B.notSynchronized
  have hl := lv_entry ([.ref (h0), .int (ed), .int (fx), .int (i)]) (n := 5) (Nat.le_of_ble_eq_true rfl)
  rw [lg_entry_eq]
  generalize (lg_sl ([.ref (h0), .int (ed), .int (fx), .int (i)]) ++ List.replicate (5 - (lg_sl ([.ref (h0), .int (ed), .int (fx), .int (i)])).length) Slot.unset).toArray = ls at hl ⊢
  have hl : lv_has ls 5 [(0, .ref (h0)), (1, .int (ed)), (2, .int (fx)), (3, .int (i))] := hl
  refine mw_start (fun H locs hw => ?_) hw
  refine lv_aload_n hx hb dX6_bit_0 rfl (lv_at hl 0 rfl) ?_
  refine lv_iload_n hx hb dX6_bit_1 rfl (lv_at hl 1 rfl) ?_
  refine lv_iload_n hx hb dX6_bit_2 rfl (lv_at hl 2 rfl) ?_
  refine mw_ct hC hw (vx_runV (As := [.int (ed), .int (fx)]) (rest := []) ⟨hx, hb, hml, hown, hts⟩ (t_X6_frameOf_bade l hlt G _ H.size h0 ea hu en ed fx e0 e1 (hb1)) (cwV 2 hts gX6_bit_X6_frameOf rfl rfl rfl (by decide +kernel) ⟨Nat.le_of_ble_eq_true rfl, Nat.le_of_ble_eq_true rfl⟩) (mw_preV (ci := 6) hC hw rfl e0) rfl rfl hl.1 rfl (lv_room (Nat.le_of_ble_eq_true rfl)) dX6_bit_3 ⟨Nat.le_of_ble_eq_true rfl, Nat.le_of_ble_eq_true rfl⟩) (fun ce q9 H locs hw hce hcv hcl => ?_)
  exact mw_pass hlocks hex hw hce hcv hcl (Nat.le_of_ble_eq_true rfl) (Nat.le_of_ble_eq_true rfl)
def RM_X6_bit_badf : Room := { frames := 7, cells := 1, slots := 6, locals := 104 }
set_option maxHeartbeats 4000000 in
set_option maxRecDepth 100000 in
theorem t_X6_bit_badf (l : Launch) (hlt : l.stackTraces = false) (G : mw_G) (M : mw_M) (sz : Nat) (h0 ea hu : Nat) (en : Nat → Option Nat) (ed : Nat) (x li me so fi bi sn tn er un : Nat) (fl al ab : Bool) (fa n : Nat) (fx : Int32) (i : Int32) (e0 : M h0 = some (.inr (6, [.ref (ea), .ref (hu)]))) (e1 : M ea = some (.inl (G.2 4, 2, .inr (.inr (.inr (.inr (en))))))) (e2 : M x = some (.inr (0, [.ref (li), .ref (me), .ref (so), .int (nI (fi)), .int (nI (bi)), .int (nI (sn)), .int (nI (tn)), .int (nI (er)), .int (nI (un)), .int (nI (b2n fl)), .int (nI (b2n al)), .int (nI (b2n ab))]))) (e3 : M li = some (.inr (2, [.ref (fa), .int (nI (n))]))) (he : ed ≤ 1) (hen : en ed = some x) (hb1 : fx < 0 ∨ nI n ≤ fx)  : vx_Met l yX6_bit wsX6_bit RM_X6_bit_badf (mw_pre G M sz [.ref (h0), .int (nI (ed)), .int (fx), .int (i)]) mw_no (mw_X G M sz exA M) 1 6 (mw_A M sz) := by
  refine vx_ofW (cc := cX6_bit) (maxL := 5) (ret := (some .int)) (by decide) rfl ?_
  intro p e s m args below meth c s₁ B hml hex hv
  obtain ⟨rfl, rfl, hC, hw⟩ := mw_in hv
  have hx := B.exec
  have hb := B.bytes
  have hr := B.returns
  have hts := atoms_spec (ws := wsX6_bit) B.pre
  have hown : s.vm.findClass RX6 = some m.cls := findClass_of_methodNamed B.named
  have hlocks := B.notSynchronized
  have hl := lv_entry ([.ref (h0), .int (nI (ed)), .int (fx), .int (i)]) (n := 5) (Nat.le_of_ble_eq_true rfl)
  rw [lg_entry_eq]
  generalize (lg_sl ([.ref (h0), .int (nI (ed)), .int (fx), .int (i)]) ++ List.replicate (5 - (lg_sl ([.ref (h0), .int (nI (ed)), .int (fx), .int (i)])).length) Slot.unset).toArray = ls at hl ⊢
  have hl : lv_has ls 5 [(0, .ref (h0)), (1, .int (nI (ed))), (2, .int (fx)), (3, .int (i))] := hl
  refine mw_start (fun H locs hw => ?_) hw
  refine lv_aload_n hx hb dX6_bit_0 rfl (lv_at hl 0 rfl) ?_
  refine lv_iload_n hx hb dX6_bit_1 rfl (lv_at hl 1 rfl) ?_
  refine lv_iload_n hx hb dX6_bit_2 rfl (lv_at hl 2 rfl) ?_
  refine mw_ct hC hw (vx_runV (As := [.int (nI (ed)), .int (fx)]) (rest := []) ⟨hx, hb, hml, hown, hts⟩ (t_X6_frameOf_badf l hlt G _ H.size h0 ea hu en ed x li me so fi bi sn tn er un fl al ab fa n fx e0 e1 e2 e3 (by omega) (hen) (hb1)) (cwV 2 hts gX6_bit_X6_frameOf rfl rfl rfl (by decide +kernel) ⟨Nat.le_of_ble_eq_true rfl, Nat.le_of_ble_eq_true rfl⟩) (mw_preV (ci := 6) hC hw rfl e0) rfl rfl hl.1 rfl (lv_room (Nat.le_of_ble_eq_true rfl)) dX6_bit_3 ⟨Nat.le_of_ble_eq_true rfl, Nat.le_of_ble_eq_true rfl⟩) (fun ce q9 H locs hw hce hcv hcl => ?_)
  exact mw_pass hlocks hex hw hce hcv hcl (Nat.le_of_ble_eq_true rfl) (Nat.le_of_ble_eq_true rfl)
theorem inexA_X6_flip : ∀ w ∈ (vx_at0 RX6 29 exA exN).filter goodWord, w ∈ wsX6_flip := by decide +kernel
theorem inX6_flip_X1 : ∀ w ∈ wsX10, w ∈ wsX6_flip := by decide +kernel
def RM_X6_flip_badi : Room := { frames := 6, cells := 1, slots := 6, locals := 81 }
set_option maxHeartbeats 4000000 in
set_option maxRecDepth 100000 in
theorem t_X6_flip_badi (l : Launch) (hlt : l.stackTraces = false) (G : mw_G) (M : mw_M) (sz : Nat) (h0 ea hu : Nat) (en : Nat → Option Nat) (ed : Nat) (x li me so fi bi sn tn er un : Nat) (fl al ab : Bool) (fa n : Nat) (fr : Nat → Option Nat) (fx : Nat) (y w q : Nat) (f : Nat → Int64) (i : Int32) (e0 : M h0 = some (.inr (6, [.ref (ea), .ref (hu)]))) (e1 : M ea = some (.inl (G.2 4, 2, .inr (.inr (.inr (.inr (en))))))) (e2 : M x = some (.inr (0, [.ref (li), .ref (me), .ref (so), .int (nI (fi)), .int (nI (bi)), .int (nI (sn)), .int (nI (tn)), .int (nI (er)), .int (nI (un)), .int (nI (b2n fl)), .int (nI (b2n al)), .int (nI (b2n ab))]))) (e3 : M li = some (.inr (2, [.ref (fa), .int (nI (n))]))) (e4 : M fa = some (.inl (G.2 5, 40, .inr (.inr (.inr (.inr (fr))))))) (e5 : M y = some (.inr (1, [.ref (w), .int (nI (q))]))) (e6 : M w = some (.inl (G.2 2, 47, .inr (.inl (f))))) (he : ed ≤ 1) (hen : en ed = some x) (hn : n ≤ 40) (hf : fx < n) (hy : fr fx = some y) (hb1 : i < 0 ∨ nI q ≤ i)  : vx_Met l yX6_flip wsX6_flip RM_X6_flip_badi (mw_pre G M sz [.ref (h0), .int (nI (ed)), .int (nI (fx)), .int (i)]) mw_no (mw_X G M sz exA M) 1 6 (mw_A M sz) := by
  refine vx_ofW (cc := cX6_flip) (maxL := 5) (ret := (some .int)) (by decide) rfl ?_
  intro p e s m args below meth c s₁ B hml hex hv
  obtain ⟨rfl, rfl, hC, hw⟩ := mw_in hv
  have hx := B.exec
  have hb := B.bytes
  have hr := B.returns
  have hts := atoms_spec (ws := wsX6_flip) B.pre
  have hown : s.vm.findClass RX6 = some m.cls := findClass_of_methodNamed B.named
  have hlocks := B.notSynchronized
  have k_0 := hts (.classLink RX6 27 exA) (by decide +kernel)
  have k_1 := hts (.initialized exA) (by decide +kernel)
  have hl := lv_entry ([.ref (h0), .int (nI (ed)), .int (nI (fx)), .int (i)]) (n := 5) (Nat.le_of_ble_eq_true rfl)
  rw [lg_entry_eq]
  generalize (lg_sl ([.ref (h0), .int (nI (ed)), .int (nI (fx)), .int (i)]) ++ List.replicate (5 - (lg_sl ([.ref (h0), .int (nI (ed)), .int (nI (fx)), .int (i)])).length) Slot.unset).toArray = ls at hl ⊢
  have hl : lv_has ls 5 [(0, .ref (h0)), (1, .int (nI (ed))), (2, .int (nI (fx))), (3, .int (i))] := hl
  refine mw_start (fun H locs hw => ?_) hw
  refine lv_aload_n hx hb dX6_flip_0 rfl (lv_at hl 0 rfl) ?_
  refine lv_iload_n hx hb dX6_flip_1 rfl (lv_at hl 1 rfl) ?_
  refine lv_iload_n hx hb dX6_flip_2 rfl (lv_at hl 2 rfl) ?_
  refine mw_cr hC hw (va_runV (As := [.int (nI (ed)), .int (nI (fx))]) (rest := []) ⟨hx, hb, hml, hown, hts⟩ (c_X6_frameOf l G _ H.size h0 ea hu en ed x li me so fi bi sn tn er un fl al ab fa n fr fx y e0 e1 e2 e3 e4 (by omega) (hen) (by omega) (by omega) (hy)) (cwV 2 hts gX6_flip_X6_frameOf rfl rfl rfl (by decide +kernel) ⟨Nat.le_of_ble_eq_true rfl, Nat.le_of_ble_eq_true rfl⟩) (mw_preV (ci := 6) hC hw rfl e0) rfl rfl hl.1 rfl (lv_room (Nat.le_of_ble_eq_true rfl)) dX6_flip_3 ⟨Nat.le_of_ble_eq_true rfl, Nat.le_of_ble_eq_true rfl⟩) (fun H locs hz hw => ?_)
  refine lv_astore (lv' := [(4, .ref (y)), (0, .ref (h0)), (1, .int (nI (ed))), (2, .int (nI (fx))), (3, .int (i))]) hx hb dX6_flip_6 hl (by decide) rfl (fun ls hl => ?_)
  refine lv_iload_n hx hb dX6_flip_8 rfl (lv_at hl 4 rfl) ?_
  refine lv_if_lt (tgt := 21) hx hb dX6_flip_9 (by decide) (fun c_1 => ?_) (fun c_1 => ?_)
  · skip
    exact mw_throw hx hb hlt hown (by decide +kernel) k_0 k_1 (fun w h => hts w (inexA_X6_flip w h)) exA_bad exA_ot hC hw (hl.1.trans hml.symm) hex dX6_flip_21 dX6_flip_24 dX6_flip_25 dX6_flip_28 (Nat.le_of_ble_eq_true rfl) (Nat.le_of_ble_eq_true rfl) (Nat.le_of_ble_eq_true rfl) (Nat.le_of_ble_eq_true rfl) hlocks (Nat.le_of_ble_eq_true rfl) (Nat.le_of_ble_eq_true rfl)
  · skip
    refine lv_iload_n hx hb dX6_flip_12 rfl (lv_at hl 4 rfl) ?_
    refine lv_aload hx hb dX6_flip_13 (lv_at hl 0 rfl) ?_
    refine mw_getN (C := RX1) (T := TX1) (N := 2) (v := .int (nI (q))) hx hb hts inX6_flip_X1 hown hC hw e5 rfl 1 (by decide) (show Cond.fieldLinkNest RX6 96 (TX1 1).1 (TX1 1).2.1 (TX1 1).2.2.1 "LinkPair" ∈ mw_nestF by decide +kernel) rfl dX6_flip_15 ?_
    refine lv_icmp_lt (tgt := 29) hx hb dX6_flip_18 (by decide) (fun c_2 => ?_) (fun c_2 => ?_)
    · skip
      exact hb1.elim (fun h => absurd h (by assumption)) (fun h => absurd c_2 (Int32.not_lt.mpr h))
    · skip
      exact mw_throw hx hb hlt hown (by decide +kernel) k_0 k_1 (fun w h => hts w (inexA_X6_flip w h)) exA_bad exA_ot hC hw (hl.1.trans hml.symm) hex dX6_flip_21 dX6_flip_24 dX6_flip_25 dX6_flip_28 (Nat.le_of_ble_eq_true rfl) (Nat.le_of_ble_eq_true rfl) (Nat.le_of_ble_eq_true rfl) (Nat.le_of_ble_eq_true rfl) hlocks (Nat.le_of_ble_eq_true rfl) (Nat.le_of_ble_eq_true rfl)
def RM_X6_flip : Room := { frames := 2, cells := 0, slots := 0, locals := 44 }
set_option maxHeartbeats 4000000 in
set_option maxRecDepth 100000 in
theorem c_X6_flip (l : Launch) (G : mw_G) (M : mw_M) (sz : Nat) (h0 ea hu : Nat) (en : Nat → Option Nat) (ed : Nat) (x li me so fi bi sn tn er un : Nat) (fl al ab : Bool) (fa n : Nat) (fr : Nat → Option Nat) (fx : Nat) (y w q : Nat) (f : Nat → Int64) (i : Nat) (e0 : M h0 = some (.inr (6, [.ref (ea), .ref (hu)]))) (e1 : M ea = some (.inl (G.2 4, 2, .inr (.inr (.inr (.inr (en))))))) (e2 : M x = some (.inr (0, [.ref (li), .ref (me), .ref (so), .int (nI (fi)), .int (nI (bi)), .int (nI (sn)), .int (nI (tn)), .int (nI (er)), .int (nI (un)), .int (nI (b2n fl)), .int (nI (b2n al)), .int (nI (b2n ab))]))) (e3 : M li = some (.inr (2, [.ref (fa), .int (nI (n))]))) (e4 : M fa = some (.inl (G.2 5, 40, .inr (.inr (.inr (.inr (fr))))))) (e5 : M y = some (.inr (1, [.ref (w), .int (nI (q))]))) (e6 : M w = some (.inl (G.2 2, 47, .inr (.inl (f))))) (he : ed ≤ 1) (hen : en ed = some x) (hn : n ≤ 40) (hf : fx < n) (hy : fr fx = some y) (hq : q ≤ 3000) (hi : i < q)  : Met l yX6_flip wsX6_flip RM_X6_flip (mw_pre G M sz [.ref (h0), .int (nI (ed)), .int (nI (fx)), .int (nI (i))]) (mw_Qi G M sz (nI (fb (ft f i) i)) (va_up M w (some (.inl (G.2 2, 47, .inr (.inl (ft f i))))))) 0 0 (mw_A M sz) := by
  refine Met.ofW (cc := cX6_flip) (maxL := 5) (ret := (some .int)) (by decide) rfl ?_
  intro p e s m args below meth c s₁ B hml hv
  obtain ⟨rfl, rfl, hC, hw⟩ := mw_in hv
  have hx := B.exec
  have hb := B.bytes
  have hr := B.returns
  have hts := atoms_spec (ws := wsX6_flip) B.pre
  have hown : s.vm.findClass RX6 = some m.cls := findClass_of_methodNamed B.named
  have hlocks := B.notSynchronized
  have m5_6 : y ≠ w := mw_ne e5 e6 (by intro h9; cases h9)
  have hl := lv_entry ([.ref (h0), .int (nI (ed)), .int (nI (fx)), .int (nI (i))]) (n := 5) (Nat.le_of_ble_eq_true rfl)
  rw [lg_entry_eq]
  generalize (lg_sl ([.ref (h0), .int (nI (ed)), .int (nI (fx)), .int (nI (i))]) ++ List.replicate (5 - (lg_sl ([.ref (h0), .int (nI (ed)), .int (nI (fx)), .int (nI (i))])).length) Slot.unset).toArray = ls at hl ⊢
  have hl : lv_has ls 5 [(0, .ref (h0)), (1, .int (nI (ed))), (2, .int (nI (fx))), (3, .int (nI (i)))] := hl
  refine mw_start (fun H locs hw => ?_) hw
  refine lv_aload_n hx hb dX6_flip_0 rfl (lv_at hl 0 rfl) ?_
  refine lv_iload_n hx hb dX6_flip_1 rfl (lv_at hl 1 rfl) ?_
  refine lv_iload_n hx hb dX6_flip_2 rfl (lv_at hl 2 rfl) ?_
  refine mw_cr hC hw (va_runV (As := [.int (nI (ed)), .int (nI (fx))]) (rest := []) ⟨hx, hb, hml, hown, hts⟩ (c_X6_frameOf l G _ H.size h0 ea hu en ed x li me so fi bi sn tn er un fl al ab fa n fr fx y e0 e1 e2 e3 e4 (by omega) (hen) (by omega) (by omega) (hy)) (cwV 2 hts gX6_flip_X6_frameOf rfl rfl rfl (by decide +kernel) ⟨Nat.le_of_ble_eq_true rfl, Nat.le_of_ble_eq_true rfl⟩) (mw_preV (ci := 6) hC hw rfl e0) rfl rfl hl.1 rfl (lv_room (Nat.le_of_ble_eq_true rfl)) dX6_flip_3 ⟨Nat.le_of_ble_eq_true rfl, Nat.le_of_ble_eq_true rfl⟩) (fun H locs hz hw => ?_)
  refine lv_astore (lv' := [(4, .ref (y)), (0, .ref (h0)), (1, .int (nI (ed))), (2, .int (nI (fx))), (3, .int (nI (i)))]) hx hb dX6_flip_6 hl (by decide) rfl (fun ls hl => ?_)
  refine lv_iload_n hx hb dX6_flip_8 rfl (lv_at hl 4 rfl) ?_
  refine lv_if_lt (tgt := 21) hx hb dX6_flip_9 (by decide) (fun c_1 => ?_) (fun c_1 => ?_)
  · skip
    have c_1 : i < 0 := (nI_ltI (a := i) (b := 0) (by omega) (by omega)).mp c_1
    exfalso; omega
  · skip
    have c_1 : i ≥ 0 := Nat.not_lt.mp (fun h => c_1 ((nI_ltI (a := i) (b := 0) (by omega) (by omega)).mpr h))
    refine lv_iload_n hx hb dX6_flip_12 rfl (lv_at hl 4 rfl) ?_
    refine lv_aload hx hb dX6_flip_13 (lv_at hl 0 rfl) ?_
    refine mw_getN (C := RX1) (T := TX1) (N := 2) (v := .int (nI (q))) hx hb hts inX6_flip_X1 hown hC hw e5 rfl 1 (by decide) (show Cond.fieldLinkNest RX6 96 (TX1 1).1 (TX1 1).2.1 (TX1 1).2.2.1 "LinkPair" ∈ mw_nestF by decide +kernel) rfl dX6_flip_15 ?_
    refine lv_icmp_lt (tgt := 29) hx hb dX6_flip_18 (by decide) (fun c_2 => ?_) (fun c_2 => ?_)
    · skip
      have c_2 : i < q := (nI_ltI (a := i) (b := q) (by omega) (by omega)).mp c_2
      refine lv_aload hx hb dX6_flip_29 (lv_at hl 0 rfl) ?_
      refine lv_iload_n hx hb dX6_flip_31 rfl (lv_at hl 4 rfl) ?_
      refine mw_cv hC hw (va_runV (As := [.int (nI (i))]) (rest := []) ⟨hx, hb, hml, hown, hts⟩ (c_X1_turn l G _ H.size y w q f i e5 e6 (by omega)) (cwV 1 hts gX6_flip_X1_turn rfl rfl rfl (by decide +kernel) ⟨Nat.le_of_ble_eq_true rfl, Nat.le_of_ble_eq_true rfl⟩) (mw_preV (ci := 1) hC hw rfl e5) rfl rfl hl.1 rfl (lv_room (Nat.le_of_ble_eq_true rfl)) dX6_flip_32 ⟨Nat.le_of_ble_eq_true rfl, Nat.le_of_ble_eq_true rfl⟩) (fun H locs hz hw => ?_)
      refine lv_aload hx hb dX6_flip_35 (lv_at hl 0 rfl) ?_
      refine lv_iload_n hx hb dX6_flip_37 rfl (lv_at hl 4 rfl) ?_
      refine mw_ci hC hw (va_runV (As := [.int (nI (i))]) (rest := []) ⟨hx, hb, hml, hown, hts⟩ (c_X1_valueAt l G _ H.size y w q (ft f i) i (mw_u1 m5_6 e5) mw_u0 (by omega)) (cwV 1 hts gX6_flip_X1_valueAt rfl rfl rfl (by decide +kernel) ⟨Nat.le_of_ble_eq_true rfl, Nat.le_of_ble_eq_true rfl⟩) (mw_preV (ci := 1) hC hw rfl (mw_u1 m5_6 e5)) rfl rfl hl.1 rfl (lv_room (Nat.le_of_ble_eq_true rfl)) dX6_flip_38 ⟨Nat.le_of_ble_eq_true rfl, Nat.le_of_ble_eq_true rfl⟩) (fun H locs hz hw => ?_)
      exact mw_iret hx hb hr hlocks hw (rfl) (fun _ _ h9 => h9) dX6_flip_41
    · skip
      have c_2 : i ≥ q := Nat.not_lt.mp (fun h => c_2 ((nI_ltI (a := i) (b := q) (by omega) (by omega)).mpr h))
      exfalso; omega
theorem inX6_drop_X1 : ∀ w ∈ wsX10, w ∈ wsX6_drop := by decide +kernel
theorem inX6_drop_X6 : ∀ w ∈ wsX60, w ∈ wsX6_drop := by decide +kernel
theorem inX6_drop_X0 : ∀ w ∈ wsX00, w ∈ wsX6_drop := by decide +kernel
def RM_X6_drop : Room := { frames := 2, cells := 0, slots := 0, locals := 44 }
set_option maxHeartbeats 4000000 in
set_option maxRecDepth 100000 in
theorem c_X6_drop (l : Launch) (G : mw_G) (M : mw_M) (sz : Nat) (h0 ea hu : Nat) (en : Nat → Option Nat) (ed : Nat) (x li me so fi bi sn tn er un : Nat) (fl al ab : Bool) (fa n : Nat) (fr : Nat → Option Nat) (fx : Nat) (y w q : Nat) (f : Nat → Int64) (ya : Nat → Nat) (e0 : M h0 = some (.inr (6, [.ref (ea), .ref (hu)]))) (e1 : M ea = some (.inl (G.2 4, 2, .inr (.inr (.inr (.inr (en))))))) (e2 : M x = some (.inr (0, [.ref (li), .ref (me), .ref (so), .int (nI (fi)), .int (nI (bi)), .int (nI (sn)), .int (nI (tn)), .int (nI (er)), .int (nI (un)), .int (nI (b2n fl)), .int (nI (b2n al)), .int (nI (b2n ab))]))) (e3 : M li = some (.inr (2, [.ref (fa), .int (nI (n))]))) (e4 : M fa = some (.inl (G.2 5, 40, .inr (.inr (.inr (.inr (fr))))))) (e5 : M y = some (.inr (1, [.ref (w), .int (nI (q))]))) (e6 : M w = some (.inl (G.2 2, 47, .inr (.inl (f))))) (he : ed ≤ 1) (hen : en ed = some x) (hn : n ≤ 40) (hf : fx < n) (hy : fr fx = some y) (hya : ∀ i, i < 40 → fr i = some (ya i)) (hvv : ∀ i, i < 40 → ∃ vs, M (ya i) = some (.inr (1, vs)))  : Met l yX6_drop wsX6_drop RM_X6_drop (mw_pre G M sz [.ref (h0), .int (nI (ed)), .int (nI (fx))]) (mw_Qi G M sz (nI (q)) (va_up (va_up M li (some (.inr (2, [.ref (fa), .int (nI (n - 1))])))) fa (some (.inl (G.2 5, 40, .inr (.inr (.inr (.inr (va_up (lsh fr fx (n - 1)) (n - 1) (some (ya fx))))))))))) 0 0 (mw_A M sz) := by
  refine Met.ofW (cc := cX6_drop) (maxL := 4) (ret := (some .int)) (by decide) rfl ?_
  intro p e s m args below meth c s₁ B hml hv
  obtain ⟨rfl, rfl, hC, hw⟩ := mw_in hv
  have hx := B.exec
  have hb := B.bytes
  have hr := B.returns
  have hts := atoms_spec (ws := wsX6_drop) B.pre
  have hown : s.vm.findClass RX6 = some m.cls := findClass_of_methodNamed B.named
  have hlocks := B.notSynchronized
  have k_0 := hts (.fieldLink RX6 12 "LinkPair" "ends" "[LLinkPair$End;") (by decide +kernel)
  have hl := lv_entry ([.ref (h0), .int (nI (ed)), .int (nI (fx))]) (n := 4) (Nat.le_of_ble_eq_true rfl)
  rw [lg_entry_eq]
  generalize (lg_sl ([.ref (h0), .int (nI (ed)), .int (nI (fx))]) ++ List.replicate (4 - (lg_sl ([.ref (h0), .int (nI (ed)), .int (nI (fx))])).length) Slot.unset).toArray = ls at hl ⊢
  have hl : lv_has ls 4 [(0, .ref (h0)), (1, .int (nI (ed))), (2, .int (nI (fx)))] := hl
  refine mw_start (fun H locs hw => ?_) hw
  refine lv_aload_n hx hb dX6_drop_0 rfl (lv_at hl 0 rfl) ?_
  refine lv_iload_n hx hb dX6_drop_1 rfl (lv_at hl 1 rfl) ?_
  refine lv_iload_n hx hb dX6_drop_2 rfl (lv_at hl 2 rfl) ?_
  refine mw_cr hC hw (va_runV (As := [.int (nI (ed)), .int (nI (fx))]) (rest := []) ⟨hx, hb, hml, hown, hts⟩ (c_X6_frameOf l G _ H.size h0 ea hu en ed x li me so fi bi sn tn er un fl al ab fa n fr fx y e0 e1 e2 e3 e4 (by omega) (hen) (by omega) (by omega) (hy)) (cwV 2 hts gX6_drop_X6_frameOf rfl rfl rfl (by decide +kernel) ⟨Nat.le_of_ble_eq_true rfl, Nat.le_of_ble_eq_true rfl⟩) (mw_preV (ci := 6) hC hw rfl e0) rfl rfl hl.1 rfl (lv_room (Nat.le_of_ble_eq_true rfl)) dX6_drop_3 ⟨Nat.le_of_ble_eq_true rfl, Nat.le_of_ble_eq_true rfl⟩) (fun H locs hz hw => ?_)
  refine mw_getN (C := RX1) (T := TX1) (N := 2) (v := .int (nI (q))) hx hb hts inX6_drop_X1 hown hC hw e5 rfl 1 (by decide) (show Cond.fieldLinkNest RX6 96 (TX1 1).1 (TX1 1).2.1 (TX1 1).2.2.1 "LinkPair" ∈ mw_nestF by decide +kernel) rfl dX6_drop_6 ?_
  refine lv_istore_n (lv' := [(3, .int (nI (q))), (0, .ref (h0)), (1, .int (nI (ed))), (2, .int (nI (fx)))]) hx hb dX6_drop_9 rfl hl (by decide) rfl (fun ls hl => ?_)
  refine lv_aload_n hx hb dX6_drop_10 rfl (lv_at hl 1 rfl) ?_
  refine mw_get (C := RX6) (T := TX6) (N := 2) (v := .ref (ea)) hx hb hts inX6_drop_X6 hown hC hw e0 rfl 0 (by decide) k_0 rfl dX6_drop_11 ?_
  refine lv_iload_n hx hb dX6_drop_14 rfl (lv_at hl 2 rfl) ?_
  refine mw_ealdN (n := 2) (f := en) (i := ed) hx hb hC hw e1 (by omega) (by decide) dX6_drop_15 ?_
  refine mw_tr (v' := x) (hen) ?_
  refine mw_getN (C := RX0) (T := TX0) (N := 12) (v := .ref (li)) hx hb hts inX6_drop_X0 hown hC hw e2 rfl 0 (by decide) (show Cond.fieldLinkNest RX6 51 (TX0 0).1 (TX0 0).2.1 (TX0 0).2.2.1 "LinkPair" ∈ mw_nestF by decide +kernel) rfl dX6_drop_16 ?_
  refine lv_iload_n hx hb dX6_drop_19 rfl (lv_at hl 3 rfl) ?_
  refine mw_cv hC hw (va_runV (As := [.int (nI (fx))]) (rest := []) ⟨hx, hb, hml, hown, hts⟩ (c_X2_lose l G _ H.size li fa n fr ya fx e3 e4 (by omega) (by omega) (hya) (hvv)) (cwV 1 hts gX6_drop_X2_lose rfl rfl rfl (by decide +kernel) ⟨Nat.le_of_ble_eq_true rfl, Nat.le_of_ble_eq_true rfl⟩) (mw_preV (ci := 2) hC hw rfl e3) rfl rfl hl.1 rfl (lv_room (Nat.le_of_ble_eq_true rfl)) dX6_drop_20 ⟨Nat.le_of_ble_eq_true rfl, Nat.le_of_ble_eq_true rfl⟩) (fun H locs hz hw => ?_)
  refine lv_iload_n hx hb dX6_drop_23 rfl (lv_at hl 0 rfl) ?_
  exact mw_iret hx hb hr hlocks hw (rfl) (fun _ _ h9 => h9) dX6_drop_24
theorem inexA_X6_bit : ∀ w ∈ (vx_at0 RX6 29 exA exN).filter goodWord, w ∈ wsX6_bit := by decide +kernel
def RM_X6_bit_badi : Room := { frames := 6, cells := 1, slots := 6, locals := 81 }
set_option maxHeartbeats 4000000 in
set_option maxRecDepth 100000 in
theorem t_X6_bit_badi (l : Launch) (hlt : l.stackTraces = false) (G : mw_G) (M : mw_M) (sz : Nat) (h0 ea hu : Nat) (en : Nat → Option Nat) (ed : Nat) (x li me so fi bi sn tn er un : Nat) (fl al ab : Bool) (fa n : Nat) (fr : Nat → Option Nat) (fx : Nat) (y w q : Nat) (f : Nat → Int64) (i : Int32) (e0 : M h0 = some (.inr (6, [.ref (ea), .ref (hu)]))) (e1 : M ea = some (.inl (G.2 4, 2, .inr (.inr (.inr (.inr (en))))))) (e2 : M x = some (.inr (0, [.ref (li), .ref (me), .ref (so), .int (nI (fi)), .int (nI (bi)), .int (nI (sn)), .int (nI (tn)), .int (nI (er)), .int (nI (un)), .int (nI (b2n fl)), .int (nI (b2n al)), .int (nI (b2n ab))]))) (e3 : M li = some (.inr (2, [.ref (fa), .int (nI (n))]))) (e4 : M fa = some (.inl (G.2 5, 40, .inr (.inr (.inr (.inr (fr))))))) (e5 : M y = some (.inr (1, [.ref (w), .int (nI (q))]))) (e6 : M w = some (.inl (G.2 2, 47, .inr (.inl (f))))) (he : ed ≤ 1) (hen : en ed = some x) (hn : n ≤ 40) (hf : fx < n) (hy : fr fx = some y) (hb1 : i < 0)  : vx_Met l yX6_bit wsX6_bit RM_X6_bit_badi (mw_pre G M sz [.ref (h0), .int (nI (ed)), .int (nI (fx)), .int (i)]) mw_no (mw_X G M sz exA M) 1 6 (mw_A M sz) := by
  refine vx_ofW (cc := cX6_bit) (maxL := 5) (ret := (some .int)) (by decide) rfl ?_
  intro p e s m args below meth c s₁ B hml hex hv
  obtain ⟨rfl, rfl, hC, hw⟩ := mw_in hv
  have hx := B.exec
  have hb := B.bytes
  have hr := B.returns
  have hts := atoms_spec (ws := wsX6_bit) B.pre
  have hown : s.vm.findClass RX6 = some m.cls := findClass_of_methodNamed B.named
  have hlocks := B.notSynchronized
  have k_0 := hts (.classLink RX6 27 exA) (by decide +kernel)
  have k_1 := hts (.initialized exA) (by decide +kernel)
  have hl := lv_entry ([.ref (h0), .int (nI (ed)), .int (nI (fx)), .int (i)]) (n := 5) (Nat.le_of_ble_eq_true rfl)
  rw [lg_entry_eq]
  generalize (lg_sl ([.ref (h0), .int (nI (ed)), .int (nI (fx)), .int (i)]) ++ List.replicate (5 - (lg_sl ([.ref (h0), .int (nI (ed)), .int (nI (fx)), .int (i)])).length) Slot.unset).toArray = ls at hl ⊢
  have hl : lv_has ls 5 [(0, .ref (h0)), (1, .int (nI (ed))), (2, .int (nI (fx))), (3, .int (i))] := hl
  refine mw_start (fun H locs hw => ?_) hw
  refine lv_aload_n hx hb dX6_bit_0 rfl (lv_at hl 0 rfl) ?_
  refine lv_iload_n hx hb dX6_bit_1 rfl (lv_at hl 1 rfl) ?_
  refine lv_iload_n hx hb dX6_bit_2 rfl (lv_at hl 2 rfl) ?_
  refine mw_cr hC hw (va_runV (As := [.int (nI (ed)), .int (nI (fx))]) (rest := []) ⟨hx, hb, hml, hown, hts⟩ (c_X6_frameOf l G _ H.size h0 ea hu en ed x li me so fi bi sn tn er un fl al ab fa n fr fx y e0 e1 e2 e3 e4 (by omega) (hen) (by omega) (by omega) (hy)) (cwV 2 hts gX6_bit_X6_frameOf rfl rfl rfl (by decide +kernel) ⟨Nat.le_of_ble_eq_true rfl, Nat.le_of_ble_eq_true rfl⟩) (mw_preV (ci := 6) hC hw rfl e0) rfl rfl hl.1 rfl (lv_room (Nat.le_of_ble_eq_true rfl)) dX6_bit_3 ⟨Nat.le_of_ble_eq_true rfl, Nat.le_of_ble_eq_true rfl⟩) (fun H locs hz hw => ?_)
  refine lv_astore (lv' := [(4, .ref (y)), (0, .ref (h0)), (1, .int (nI (ed))), (2, .int (nI (fx))), (3, .int (i))]) hx hb dX6_bit_6 hl (by decide) rfl (fun ls hl => ?_)
  refine lv_iload_n hx hb dX6_bit_8 rfl (lv_at hl 4 rfl) ?_
  refine lv_if_ge (tgt := 20) hx hb dX6_bit_9 (by decide) (fun c_1 => ?_) (fun c_1 => ?_)
  · skip
    exact absurd hb1 (Int32.not_lt.mpr c_1)
  · skip
    exact mw_throw hx hb hlt hown (by decide +kernel) k_0 k_1 (fun w h => hts w (inexA_X6_bit w h)) exA_bad exA_ot hC hw (hl.1.trans hml.symm) hex dX6_bit_12 dX6_bit_15 dX6_bit_16 dX6_bit_19 (Nat.le_of_ble_eq_true rfl) (Nat.le_of_ble_eq_true rfl) (Nat.le_of_ble_eq_true rfl) (Nat.le_of_ble_eq_true rfl) hlocks (Nat.le_of_ble_eq_true rfl) (Nat.le_of_ble_eq_true rfl)
theorem inX6_bit_X1 : ∀ w ∈ wsX10, w ∈ wsX6_bit := by decide +kernel
def RM_X6_bit : Room := { frames := 2, cells := 0, slots := 0, locals := 44 }
set_option maxHeartbeats 4000000 in
set_option maxRecDepth 100000 in
theorem c_X6_bit (l : Launch) (G : mw_G) (M : mw_M) (sz : Nat) (h0 ea hu : Nat) (en : Nat → Option Nat) (ed : Nat) (x li me so fi bi sn tn er un : Nat) (fl al ab : Bool) (fa n : Nat) (fr : Nat → Option Nat) (fx : Nat) (y w q : Nat) (f : Nat → Int64) (i : Nat) (e0 : M h0 = some (.inr (6, [.ref (ea), .ref (hu)]))) (e1 : M ea = some (.inl (G.2 4, 2, .inr (.inr (.inr (.inr (en))))))) (e2 : M x = some (.inr (0, [.ref (li), .ref (me), .ref (so), .int (nI (fi)), .int (nI (bi)), .int (nI (sn)), .int (nI (tn)), .int (nI (er)), .int (nI (un)), .int (nI (b2n fl)), .int (nI (b2n al)), .int (nI (b2n ab))]))) (e3 : M li = some (.inr (2, [.ref (fa), .int (nI (n))]))) (e4 : M fa = some (.inl (G.2 5, 40, .inr (.inr (.inr (.inr (fr))))))) (e5 : M y = some (.inr (1, [.ref (w), .int (nI (q))]))) (e6 : M w = some (.inl (G.2 2, 47, .inr (.inl (f))))) (he : ed ≤ 1) (hen : en ed = some x) (hn : n ≤ 40) (hf : fx < n) (hy : fr fx = some y) (hq : q ≤ 3000) (hi : i < 2 ^ 31)  : Met l yX6_bit wsX6_bit RM_X6_bit (mw_pre G M sz [.ref (h0), .int (nI (ed)), .int (nI (fx)), .int (nI (i))]) (mw_Qi G M sz (if i < q then nI (fb f i) else -1) M) 0 0 (mw_A M sz) := by
  refine Met.ofW (cc := cX6_bit) (maxL := 5) (ret := (some .int)) (by decide) rfl ?_
  intro p e s m args below meth c s₁ B hml hv
  obtain ⟨rfl, rfl, hC, hw⟩ := mw_in hv
  have hx := B.exec
  have hb := B.bytes
  have hr := B.returns
  have hts := atoms_spec (ws := wsX6_bit) B.pre
  have hown : s.vm.findClass RX6 = some m.cls := findClass_of_methodNamed B.named
  have hlocks := B.notSynchronized
  have hl := lv_entry ([.ref (h0), .int (nI (ed)), .int (nI (fx)), .int (nI (i))]) (n := 5) (Nat.le_of_ble_eq_true rfl)
  rw [lg_entry_eq]
  generalize (lg_sl ([.ref (h0), .int (nI (ed)), .int (nI (fx)), .int (nI (i))]) ++ List.replicate (5 - (lg_sl ([.ref (h0), .int (nI (ed)), .int (nI (fx)), .int (nI (i))])).length) Slot.unset).toArray = ls at hl ⊢
  have hl : lv_has ls 5 [(0, .ref (h0)), (1, .int (nI (ed))), (2, .int (nI (fx))), (3, .int (nI (i)))] := hl
  refine mw_start (fun H locs hw => ?_) hw
  refine lv_aload_n hx hb dX6_bit_0 rfl (lv_at hl 0 rfl) ?_
  refine lv_iload_n hx hb dX6_bit_1 rfl (lv_at hl 1 rfl) ?_
  refine lv_iload_n hx hb dX6_bit_2 rfl (lv_at hl 2 rfl) ?_
  refine mw_cr hC hw (va_runV (As := [.int (nI (ed)), .int (nI (fx))]) (rest := []) ⟨hx, hb, hml, hown, hts⟩ (c_X6_frameOf l G _ H.size h0 ea hu en ed x li me so fi bi sn tn er un fl al ab fa n fr fx y e0 e1 e2 e3 e4 (by omega) (hen) (by omega) (by omega) (hy)) (cwV 2 hts gX6_bit_X6_frameOf rfl rfl rfl (by decide +kernel) ⟨Nat.le_of_ble_eq_true rfl, Nat.le_of_ble_eq_true rfl⟩) (mw_preV (ci := 6) hC hw rfl e0) rfl rfl hl.1 rfl (lv_room (Nat.le_of_ble_eq_true rfl)) dX6_bit_3 ⟨Nat.le_of_ble_eq_true rfl, Nat.le_of_ble_eq_true rfl⟩) (fun H locs hz hw => ?_)
  refine lv_astore (lv' := [(4, .ref (y)), (0, .ref (h0)), (1, .int (nI (ed))), (2, .int (nI (fx))), (3, .int (nI (i)))]) hx hb dX6_bit_6 hl (by decide) rfl (fun ls hl => ?_)
  refine lv_iload_n hx hb dX6_bit_8 rfl (lv_at hl 4 rfl) ?_
  refine lv_if_ge (tgt := 20) hx hb dX6_bit_9 (by decide) (fun c_1 => ?_) (fun c_1 => ?_)
  · skip
    have c_1 : i ≥ 0 := (nI_leI (a := 0) (b := i) (by omega) (by omega)).mp c_1
    refine lv_iload_n hx hb dX6_bit_20 rfl (lv_at hl 4 rfl) ?_
    refine lv_aload hx hb dX6_bit_21 (lv_at hl 0 rfl) ?_
    refine mw_getN (C := RX1) (T := TX1) (N := 2) (v := .int (nI (q))) hx hb hts inX6_bit_X1 hown hC hw e5 rfl 1 (by decide) (show Cond.fieldLinkNest RX6 96 (TX1 1).1 (TX1 1).2.1 (TX1 1).2.2.1 "LinkPair" ∈ mw_nestF by decide +kernel) rfl dX6_bit_23 ?_
    refine lv_icmp_ge (tgt := 38) hx hb dX6_bit_26 (by decide) (fun c_2 => ?_) (fun c_2 => ?_)
    · skip
      have c_2 : i ≥ q := (nI_leI (a := q) (b := i) (by omega) (by omega)).mp c_2
      refine lv_iconst (v := -1) hx hb dX6_bit_38 (by decide) ?_
      exact mw_iret hx hb hr hlocks hw (by first | rw [if_pos (by omega)] | rw [if_neg (by omega)]) (fun _ _ h9 => h9) dX6_bit_39
    · skip
      have c_2 : i < q := Nat.not_le.mp (fun h => c_2 ((nI_leI (a := q) (b := i) (by omega) (by omega)).mpr h))
      refine lv_aload hx hb dX6_bit_29 (lv_at hl 0 rfl) ?_
      refine lv_iload_n hx hb dX6_bit_31 rfl (lv_at hl 4 rfl) ?_
      refine mw_ci hC hw (va_runV (As := [.int (nI (i))]) (rest := []) ⟨hx, hb, hml, hown, hts⟩ (c_X1_valueAt l G _ H.size y w q f i e5 e6 (by omega)) (cwV 1 hts gX6_bit_X1_valueAt rfl rfl rfl (by decide +kernel) ⟨Nat.le_of_ble_eq_true rfl, Nat.le_of_ble_eq_true rfl⟩) (mw_preV (ci := 1) hC hw rfl e5) rfl rfl hl.1 rfl (lv_room (Nat.le_of_ble_eq_true rfl)) dX6_bit_32 ⟨Nat.le_of_ble_eq_true rfl, Nat.le_of_ble_eq_true rfl⟩) (fun H locs hz hw => ?_)
      refine lv_goto (tgt := 39) hx hb dX6_bit_35 (by decide) ?_
      exact mw_iret hx hb hr hlocks hw (by first | rw [if_pos (by omega)] | rw [if_neg (by omega)]) (fun _ _ h9 => h9) dX6_bit_39
  · skip
    have c_1 : i < 0 := Nat.not_le.mp (fun h => c_1 ((nI_leI (a := 0) (b := i) (by omega) (by omega)).mpr h))
    exfalso; omega
