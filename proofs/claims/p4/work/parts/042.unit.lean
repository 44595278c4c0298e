/-! ===== LinkPair.Unit, small ones ===== -/
def RM_X6_nextNumber : Room := { frames := 0, cells := 0, slots := 0, locals := 0 }
set_option maxHeartbeats 4000000 in
set_option maxRecDepth 100000 in
theorem c_X6_nextNumber (l : Launch) (G : mw_G) (M : mw_M) (sz : Nat) (x : Nat)  (hx_ : x < 128)  : Met l yX6_nextNumber wsX6_nextNumber RM_X6_nextNumber (mw_pre G M sz [.int (nI (x))]) (mw_Qi G M sz (nI ((x + 1) % 128)) M) 0 0 (mw_A M sz) := by
  refine Met.ofW (cc := cX6_nextNumber) (maxL := 1) (ret := (some .int)) (by decide) rfl ?_
  intro p e s m args below meth c s₁ B hml hv
  obtain ⟨rfl, rfl, hC, hw⟩ := mw_in hv
  have hx := B.exec
  have hb := B.bytes
  have hr := B.returns
  have hts := atoms_spec (ws := wsX6_nextNumber) B.pre
  have hown : s.vm.findClass RX6 = some m.cls := findClass_of_methodNamed B.named
  have hlocks := B.notSynchronized
  have hl := lv_entry ([.int (nI (x))]) (n := 1) (Nat.le_of_ble_eq_true rfl)
  rw [lg_entry_eq]
  generalize (lg_sl ([.int (nI (x))]) ++ List.replicate (1 - (lg_sl ([.int (nI (x))])).length) Slot.unset).toArray = ls at hl ⊢
  have hl : lv_has ls 1 [(0, .int (nI (x)))] := hl
  refine mw_start (fun H locs hw => ?_) hw
  refine lv_iload_n hx hb dX6_nextNumber_0 rfl (lv_at hl 0 rfl) ?_
  refine lv_iconst (v := nI 1) hx hb dX6_nextNumber_1 (by decide) ?_
  refine lv_iadd hx hb dX6_nextNumber_2 ?_
  refine mw_ti (v' := nI (x + 1)) (nI_add _ _) ?_
  refine lv_bipush (v := nI 127) hx hb dX6_nextNumber_3 (by decide) ?_
  refine lv_iand hx hb dX6_nextNumber_5 ?_
  refine mw_ti (v' := nI ((x + 1) % 128)) (pk_andN (by omega) 7 (by decide)) ?_
  exact mw_iret hx hb hr hlocks hw (rfl) (fun _ _ h9 => h9) dX6_nextNumber_6
theorem inX5_backwardNumber_X5 : ∀ w ∈ wsX50, w ∈ wsX5_backwardNumber := by decide +kernel
def RM_X5_backwardNumber : Room := { frames := 0, cells := 0, slots := 0, locals := 0 }
set_option maxHeartbeats 4000000 in
set_option maxRecDepth 100000 in
theorem c_X5_backwardNumber (l : Launch) (G : mw_G) (M : mw_M) (sz : Nat) (h0 ub n : Nat) (g : Nat → Nat) (e0 : M h0 = some (.inr (5, [.ref (ub), .int (nI (n))]))) (e1 : M ub = some (.inl (G.2 1, 277, .inl (fun j => nI (g j))))) (hg : g 0 < 256)  : Met l yX5_backwardNumber wsX5_backwardNumber RM_X5_backwardNumber (mw_pre G M sz [.ref (h0)]) (mw_Qi G M sz (nI (g 0 % 128)) M) 0 0 (mw_A M sz) := by
  refine Met.ofW (cc := cX5_backwardNumber) (maxL := 1) (ret := (some .int)) (by decide) rfl ?_
  intro p e s m args below meth c s₁ B hml hv
  obtain ⟨rfl, rfl, hC, hw⟩ := mw_in hv
  have hx := B.exec
  have hb := B.bytes
  have hr := B.returns
  have hts := atoms_spec (ws := wsX5_backwardNumber) B.pre
  have hown : s.vm.findClass RX5 = some m.cls := findClass_of_methodNamed B.named
  have hlocks := B.notSynchronized
  have k_0 := hts (.fieldLink RX5 9 "LinkPair$Unit" "bytes" "[I") (by decide +kernel)
  have hl := lv_entry ([.ref (h0)]) (n := 1) (Nat.le_of_ble_eq_true rfl)
  rw [lg_entry_eq]
  generalize (lg_sl ([.ref (h0)]) ++ List.replicate (1 - (lg_sl ([.ref (h0)])).length) Slot.unset).toArray = ls at hl ⊢
  have hl : lv_has ls 1 [(0, .ref (h0))] := hl
  refine mw_start (fun H locs hw => ?_) hw
  refine lv_aload_n hx hb dX5_backwardNumber_0 rfl (lv_at hl 0 rfl) ?_
  refine mw_get (C := RX5) (T := TX5) (N := 2) (v := .ref (ub)) hx hb hts inX5_backwardNumber_X5 hown hC hw e0 rfl 0 (by decide) k_0 rfl dX5_backwardNumber_1 ?_
  refine lv_iconst (v := nI 0) hx hb dX5_backwardNumber_4 (by decide) ?_
  refine mw_ildM (n := 277) (g := g) (i := 0) hx hb hC hw e1 (by omega) (by decide) dX5_backwardNumber_5 ?_
  refine lv_bipush (v := nI 127) hx hb dX5_backwardNumber_6 (by decide) ?_
  refine lv_iand hx hb dX5_backwardNumber_8 ?_
  refine mw_ti (v' := nI ((g (0)) % 128)) (pk_andN (by omega) 7 (by decide)) ?_
  exact mw_iret hx hb hr hlocks hw (by first | rfl | simp_all | (congr 1; omega)) (fun _ _ h9 => h9) dX5_backwardNumber_9
theorem inX5_backwardIndicator_X5 : ∀ w ∈ wsX50, w ∈ wsX5_backwardIndicator := by decide +kernel
def RM_X5_backwardIndicator : Room := { frames := 0, cells := 0, slots := 0, locals := 0 }
set_option maxHeartbeats 4000000 in
set_option maxRecDepth 100000 in
theorem c_X5_backwardIndicator (l : Launch) (G : mw_G) (M : mw_M) (sz : Nat) (h0 ub n : Nat) (g : Nat → Nat) (e0 : M h0 = some (.inr (5, [.ref (ub), .int (nI (n))]))) (e1 : M ub = some (.inl (G.2 1, 277, .inl (fun j => nI (g j))))) (hg : g 0 < 256)  : Met l yX5_backwardIndicator wsX5_backwardIndicator RM_X5_backwardIndicator (mw_pre G M sz [.ref (h0)]) (mw_Qi G M sz (nI (g 0 / 128)) M) 0 0 (mw_A M sz) := by
  refine Met.ofW (cc := cX5_backwardIndicator) (maxL := 1) (ret := (some .int)) (by decide) rfl ?_
  intro p e s m args below meth c s₁ B hml hv
  obtain ⟨rfl, rfl, hC, hw⟩ := mw_in hv
  have hx := B.exec
  have hb := B.bytes
  have hr := B.returns
  have hts := atoms_spec (ws := wsX5_backwardIndicator) B.pre
  have hown : s.vm.findClass RX5 = some m.cls := findClass_of_methodNamed B.named
  have hlocks := B.notSynchronized
  have k_0 := hts (.fieldLink RX5 9 "LinkPair$Unit" "bytes" "[I") (by decide +kernel)
  have hl := lv_entry ([.ref (h0)]) (n := 1) (Nat.le_of_ble_eq_true rfl)
  rw [lg_entry_eq]
  generalize (lg_sl ([.ref (h0)]) ++ List.replicate (1 - (lg_sl ([.ref (h0)])).length) Slot.unset).toArray = ls at hl ⊢
  have hl : lv_has ls 1 [(0, .ref (h0))] := hl
  refine mw_start (fun H locs hw => ?_) hw
  refine lv_aload_n hx hb dX5_backwardIndicator_0 rfl (lv_at hl 0 rfl) ?_
  refine mw_get (C := RX5) (T := TX5) (N := 2) (v := .ref (ub)) hx hb hts inX5_backwardIndicator_X5 hown hC hw e0 rfl 0 (by decide) k_0 rfl dX5_backwardIndicator_1 ?_
  refine lv_iconst (v := nI 0) hx hb dX5_backwardIndicator_4 (by decide) ?_
  refine mw_ildM (n := 277) (g := g) (i := 0) hx hb hC hw e1 (by omega) (by decide) dX5_backwardIndicator_5 ?_
  refine lv_bipush (v := nI 7) hx hb dX5_backwardIndicator_6 (by decide) ?_
  refine lv_ishr hx hb dX5_backwardIndicator_8 ?_
  refine mw_ti (v' := nI ((g (0)) / 128)) (pk_shrN (by omega) _ 7 (by decide)) ?_
  exact mw_iret hx hb hr hlocks hw (by first | rfl | simp_all | (congr 1; omega)) (fun _ _ h9 => h9) dX5_backwardIndicator_9
theorem inX5_forwardNumber_X5 : ∀ w ∈ wsX50, w ∈ wsX5_forwardNumber := by decide +kernel
def RM_X5_forwardNumber : Room := { frames := 0, cells := 0, slots := 0, locals := 0 }
set_option maxHeartbeats 4000000 in
set_option maxRecDepth 100000 in
theorem c_X5_forwardNumber (l : Launch) (G : mw_G) (M : mw_M) (sz : Nat) (h0 ub n : Nat) (g : Nat → Nat) (e0 : M h0 = some (.inr (5, [.ref (ub), .int (nI (n))]))) (e1 : M ub = some (.inl (G.2 1, 277, .inl (fun j => nI (g j))))) (hg : g 1 < 256)  : Met l yX5_forwardNumber wsX5_forwardNumber RM_X5_forwardNumber (mw_pre G M sz [.ref (h0)]) (mw_Qi G M sz (nI (g 1 % 128)) M) 0 0 (mw_A M sz) := by
  refine Met.ofW (cc := cX5_forwardNumber) (maxL := 1) (ret := (some .int)) (by decide) rfl ?_
  intro p e s m args below meth c s₁ B hml hv
  obtain ⟨rfl, rfl, hC, hw⟩ := mw_in hv
  have hx := B.exec
  have hb := B.bytes
  have hr := B.returns
  have hts := atoms_spec (ws := wsX5_forwardNumber) B.pre
  have hown : s.vm.findClass RX5 = some m.cls := findClass_of_methodNamed B.named
  have hlocks := B.notSynchronized
  have k_0 := hts (.fieldLink RX5 9 "LinkPair$Unit" "bytes" "[I") (by decide +kernel)
  have hl := lv_entry ([.ref (h0)]) (n := 1) (Nat.le_of_ble_eq_true rfl)
  rw [lg_entry_eq]
  generalize (lg_sl ([.ref (h0)]) ++ List.replicate (1 - (lg_sl ([.ref (h0)])).length) Slot.unset).toArray = ls at hl ⊢
  have hl : lv_has ls 1 [(0, .ref (h0))] := hl
  refine mw_start (fun H locs hw => ?_) hw
  refine lv_aload_n hx hb dX5_forwardNumber_0 rfl (lv_at hl 0 rfl) ?_
  refine mw_get (C := RX5) (T := TX5) (N := 2) (v := .ref (ub)) hx hb hts inX5_forwardNumber_X5 hown hC hw e0 rfl 0 (by decide) k_0 rfl dX5_forwardNumber_1 ?_
  refine lv_iconst (v := nI 1) hx hb dX5_forwardNumber_4 (by decide) ?_
  refine mw_ildM (n := 277) (g := g) (i := 1) hx hb hC hw e1 (by omega) (by decide) dX5_forwardNumber_5 ?_
  refine lv_bipush (v := nI 127) hx hb dX5_forwardNumber_6 (by decide) ?_
  refine lv_iand hx hb dX5_forwardNumber_8 ?_
  refine mw_ti (v' := nI ((g (1)) % 128)) (pk_andN (by omega) 7 (by decide)) ?_
  exact mw_iret hx hb hr hlocks hw (by first | rfl | simp_all | (congr 1; omega)) (fun _ _ h9 => h9) dX5_forwardNumber_9
theorem inX5_forwardIndicator_X5 : ∀ w ∈ wsX50, w ∈ wsX5_forwardIndicator := by decide +kernel
def RM_X5_forwardIndicator : Room := { frames := 0, cells := 0, slots := 0, locals := 0 }
set_option maxHeartbeats 4000000 in
set_option maxRecDepth 100000 in
theorem c_X5_forwardIndicator (l : Launch) (G : mw_G) (M : mw_M) (sz : Nat) (h0 ub n : Nat) (g : Nat → Nat) (e0 : M h0 = some (.inr (5, [.ref (ub), .int (nI (n))]))) (e1 : M ub = some (.inl (G.2 1, 277, .inl (fun j => nI (g j))))) (hg : g 1 < 256)  : Met l yX5_forwardIndicator wsX5_forwardIndicator RM_X5_forwardIndicator (mw_pre G M sz [.ref (h0)]) (mw_Qi G M sz (nI (g 1 / 128)) M) 0 0 (mw_A M sz) := by
  refine Met.ofW (cc := cX5_forwardIndicator) (maxL := 1) (ret := (some .int)) (by decide) rfl ?_
  intro p e s m args below meth c s₁ B hml hv
  obtain ⟨rfl, rfl, hC, hw⟩ := mw_in hv
  have hx := B.exec
  have hb := B.bytes
  have hr := B.returns
  have hts := atoms_spec (ws := wsX5_forwardIndicator) B.pre
  have hown : s.vm.findClass RX5 = some m.cls := findClass_of_methodNamed B.named
  have hlocks := B.notSynchronized
  have k_0 := hts (.fieldLink RX5 9 "LinkPair$Unit" "bytes" "[I") (by decide +kernel)
  have hl := lv_entry ([.ref (h0)]) (n := 1) (Nat.le_of_ble_eq_true rfl)
  rw [lg_entry_eq]
  generalize (lg_sl ([.ref (h0)]) ++ List.replicate (1 - (lg_sl ([.ref (h0)])).length) Slot.unset).toArray = ls at hl ⊢
  have hl : lv_has ls 1 [(0, .ref (h0))] := hl
  refine mw_start (fun H locs hw => ?_) hw
  refine lv_aload_n hx hb dX5_forwardIndicator_0 rfl (lv_at hl 0 rfl) ?_
  refine mw_get (C := RX5) (T := TX5) (N := 2) (v := .ref (ub)) hx hb hts inX5_forwardIndicator_X5 hown hC hw e0 rfl 0 (by decide) k_0 rfl dX5_forwardIndicator_1 ?_
  refine lv_iconst (v := nI 1) hx hb dX5_forwardIndicator_4 (by decide) ?_
  refine mw_ildM (n := 277) (g := g) (i := 1) hx hb hC hw e1 (by omega) (by decide) dX5_forwardIndicator_5 ?_
  refine lv_bipush (v := nI 7) hx hb dX5_forwardIndicator_6 (by decide) ?_
  refine lv_ishr hx hb dX5_forwardIndicator_8 ?_
  refine mw_ti (v' := nI ((g (1)) / 128)) (pk_shrN (by omega) _ 7 (by decide)) ?_
  exact mw_iret hx hb hr hlocks hw (by first | rfl | simp_all | (congr 1; omega)) (fun _ _ h9 => h9) dX5_forwardIndicator_9
theorem inX5_bodyLength_X5 : ∀ w ∈ wsX50, w ∈ wsX5_bodyLength := by decide +kernel
def RM_X5_bodyLength : Room := { frames := 0, cells := 0, slots := 0, locals := 0 }
set_option maxHeartbeats 4000000 in
set_option maxRecDepth 100000 in
theorem c_X5_bodyLength (l : Launch) (G : mw_G) (M : mw_M) (sz : Nat) (h0 ub n : Nat) (e0 : M h0 = some (.inr (5, [.ref (ub), .int (nI (n))]))) (hn : 5 ≤ n)  : Met l yX5_bodyLength wsX5_bodyLength RM_X5_bodyLength (mw_pre G M sz [.ref (h0)]) (mw_Qi G M sz (nI (n - 5)) M) 0 0 (mw_A M sz) := by
  refine Met.ofW (cc := cX5_bodyLength) (maxL := 1) (ret := (some .int)) (by decide) rfl ?_
  intro p e s m args below meth c s₁ B hml hv
  obtain ⟨rfl, rfl, hC, hw⟩ := mw_in hv
  have hx := B.exec
  have hb := B.bytes
  have hr := B.returns
  have hts := atoms_spec (ws := wsX5_bodyLength) B.pre
  have hown : s.vm.findClass RX5 = some m.cls := findClass_of_methodNamed B.named
  have hlocks := B.notSynchronized
  have k_0 := hts (.fieldLink RX5 15 "LinkPair$Unit" "count" "I") (by decide +kernel)
  have hl := lv_entry ([.ref (h0)]) (n := 1) (Nat.le_of_ble_eq_true rfl)
  rw [lg_entry_eq]
  generalize (lg_sl ([.ref (h0)]) ++ List.replicate (1 - (lg_sl ([.ref (h0)])).length) Slot.unset).toArray = ls at hl ⊢
  have hl : lv_has ls 1 [(0, .ref (h0))] := hl
  refine mw_start (fun H locs hw => ?_) hw
  refine lv_aload_n hx hb dX5_bodyLength_0 rfl (lv_at hl 0 rfl) ?_
  refine mw_get (C := RX5) (T := TX5) (N := 2) (v := .int (nI (n))) hx hb hts inX5_bodyLength_X5 hown hC hw e0 rfl 1 (by decide) k_0 rfl dX5_bodyLength_1 ?_
  refine lv_iconst (v := nI 5) hx hb dX5_bodyLength_4 (by decide) ?_
  refine lv_isub hx hb dX5_bodyLength_5 ?_
  refine mw_ti (v' := nI (n - 5)) (pk_sub (by omega)) ?_
  exact mw_iret hx hb hr hlocks hw (rfl) (fun _ _ h9 => h9) dX5_bodyLength_6
theorem inX5_bodyByte_X5 : ∀ w ∈ wsX50, w ∈ wsX5_bodyByte := by decide +kernel
def RM_X5_bodyByte : Room := { frames := 0, cells := 0, slots := 0, locals := 0 }
set_option maxHeartbeats 4000000 in
set_option maxRecDepth 100000 in
theorem c_X5_bodyByte (l : Launch) (G : mw_G) (M : mw_M) (sz : Nat) (h0 ub n : Nat) (g : Nat → Nat) (i : Nat) (e0 : M h0 = some (.inr (5, [.ref (ub), .int (nI (n))]))) (e1 : M ub = some (.inl (G.2 1, 277, .inl (fun j => nI (g j))))) (hi : 3 + i < 277)  : Met l yX5_bodyByte wsX5_bodyByte RM_X5_bodyByte (mw_pre G M sz [.ref (h0), .int (nI (i))]) (mw_Qi G M sz (nI (g (3 + i))) M) 0 0 (mw_A M sz) := by
  refine Met.ofW (cc := cX5_bodyByte) (maxL := 2) (ret := (some .int)) (by decide) rfl ?_
  intro p e s m args below meth c s₁ B hml hv
  obtain ⟨rfl, rfl, hC, hw⟩ := mw_in hv
  have hx := B.exec
  have hb := B.bytes
  have hr := B.returns
  have hts := atoms_spec (ws := wsX5_bodyByte) B.pre
  have hown : s.vm.findClass RX5 = some m.cls := findClass_of_methodNamed B.named
  have hlocks := B.notSynchronized
  have k_0 := hts (.fieldLink RX5 9 "LinkPair$Unit" "bytes" "[I") (by decide +kernel)
  have hl := lv_entry ([.ref (h0), .int (nI (i))]) (n := 2) (Nat.le_of_ble_eq_true rfl)
  rw [lg_entry_eq]
  generalize (lg_sl ([.ref (h0), .int (nI (i))]) ++ List.replicate (2 - (lg_sl ([.ref (h0), .int (nI (i))])).length) Slot.unset).toArray = ls at hl ⊢
  have hl : lv_has ls 2 [(0, .ref (h0)), (1, .int (nI (i)))] := hl
  refine mw_start (fun H locs hw => ?_) hw
  refine lv_aload_n hx hb dX5_bodyByte_0 rfl (lv_at hl 0 rfl) ?_
  refine mw_get (C := RX5) (T := TX5) (N := 2) (v := .ref (ub)) hx hb hts inX5_bodyByte_X5 hown hC hw e0 rfl 0 (by decide) k_0 rfl dX5_bodyByte_1 ?_
  refine lv_iconst (v := nI 3) hx hb dX5_bodyByte_4 (by decide) ?_
  refine lv_iload_n hx hb dX5_bodyByte_5 rfl (lv_at hl 1 rfl) ?_
  refine lv_iadd hx hb dX5_bodyByte_6 ?_
  refine mw_ti (v' := nI (3 + i)) (nI_add _ _) ?_
  refine mw_ildM (n := 277) (g := g) (i := 3 + i) hx hb hC hw e1 (by omega) (by decide) dX5_bodyByte_7 ?_
  exact mw_iret hx hb hr hlocks hw (rfl) (fun _ _ h9 => h9) dX5_bodyByte_8
