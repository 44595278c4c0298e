/-! ===== LinkPair.send ===== -/
def RM_X6_send_bade : Room := { frames := 7, cells := 1, slots := 6, locals := 102 }
set_option maxHeartbeats 4000000 in
set_option maxRecDepth 100000 in
theorem t_X6_send_bade (l : Launch) (hlt : l.stackTraces = false) (G : mw_G) (M : mw_M) (sz : Nat) (h0 ea hu : Nat) (en : Nat → Option Nat) (ed : Int32) (e0 : M h0 = some (.inr (6, [.ref (ea), .ref (hu)]))) (e1 : M ea = some (.inl (G.2 4, 2, .inr (.inr (.inr (.inr (en))))))) (hb1 : ed < 0 ∨ nI 1 < ed)  : vx_Met l yX6_send wsX6_send RM_X6_send_bade (mw_pre G M sz [.ref (h0), .int (ed)]) mw_no (mw_X G M sz exA M) 1 6 (mw_A M sz) := by
  refine vx_ofW (cc := cX6_send) (maxL := 4) (ret := (some .int)) (by decide) rfl ?_
  intro p e s m args below meth c s₁ B hml hex hv
  obtain ⟨rfl, rfl, hC, hw⟩ := mw_in hv
  have hx := B.exec
  have hb := B.bytes
  have hr := B.returns
  have hts := atoms_spec (ws := wsX6_send) B.pre
  have hown : s.vm.findClass RX6 = some m.cls := findClass_of_methodNamed B.named
  have hlocks := B.notSynchronized
  have hl := lv_entry ([.ref (h0), .int (ed)]) (n := 4) (Nat.le_of_ble_eq_true rfl)
  rw [lg_entry_eq]
  generalize (lg_sl ([.ref (h0), .int (ed)]) ++ List.replicate (4 - (lg_sl ([.ref (h0), .int (ed)])).length) Slot.unset).toArray = ls at hl ⊢
  have hl : lv_has ls 4 [(0, .ref (h0)), (1, .int (ed))] := hl
  refine mw_start (fun H locs hw => ?_) hw
  refine lv_aload_n hx hb dX6_send_0 rfl (lv_at hl 0 rfl) ?_
  refine lv_iload_n hx hb dX6_send_1 rfl (lv_at hl 1 rfl) ?_
  refine mw_ct hC hw (vx_runV (As := [.int (ed)]) (rest := []) ⟨hx, hb, hml, hown, hts⟩ (t_X6_endOf_bad l hlt G _ H.size h0 ea hu en ed e0 e1 (hb1)) (cwV 1 hts gX6_send_X6_endOf rfl rfl rfl (by decide +kernel) ⟨Nat.le_of_ble_eq_true rfl, Nat.le_of_ble_eq_true rfl⟩) (mw_preV (ci := 6) hC hw rfl e0) rfl rfl hl.1 rfl (lv_room (Nat.le_of_ble_eq_true rfl)) dX6_send_2 ⟨Nat.le_of_ble_eq_true rfl, Nat.le_of_ble_eq_true rfl⟩) (fun ce q9 H locs hw hce hcv hcl => ?_)
  exact mw_pass hlocks hex hw hce hcv hcl (Nat.le_of_ble_eq_true rfl) (Nat.le_of_ble_eq_true rfl)
theorem inexS_X6_send : ∀ w ∈ (vx_at0 RX6 46 exS exN).filter goodWord, w ∈ wsX6_send := by decide +kernel
theorem inX6_send_X0 : ∀ w ∈ wsX00, w ∈ wsX6_send := by decide +kernel
def RM_X6_send_bads : Room := { frames := 6, cells := 1, slots := 6, locals := 81 }
set_option maxHeartbeats 4000000 in
set_option maxRecDepth 100000 in
theorem t_X6_send_bads (l : Launch) (hlt : l.stackTraces = false) (G : mw_G) (M : mw_M) (sz : Nat) (h0 ea hu : Nat) (en : Nat → Option Nat) (ed : Nat) (x li me so fi bi sn tn er un : Nat) (fl al ab : Bool) (fa n : Nat) (e0 : M h0 = some (.inr (6, [.ref (ea), .ref (hu)]))) (e1 : M ea = some (.inl (G.2 4, 2, .inr (.inr (.inr (.inr (en))))))) (e2 : M x = some (.inr (0, [.ref (li), .ref (me), .ref (so), .int (nI (fi)), .int (nI (bi)), .int (nI (sn)), .int (nI (tn)), .int (nI (er)), .int (nI (un)), .int (nI (b2n fl)), .int (nI (b2n al)), .int (nI (b2n ab))]))) (e3 : M li = some (.inr (2, [.ref (fa), .int (nI (n))]))) (he : ed ≤ 1) (hen : en ed = some x) (hn : n ≤ 40) (hb1 : fl = true ∨ n = 40)  : vx_Met l yX6_send wsX6_send RM_X6_send_bads (mw_pre G M sz [.ref (h0), .int (nI (ed))]) mw_no (mw_X G M sz exS M) 1 6 (mw_A M sz) := by
  refine vx_ofW (cc := cX6_send) (maxL := 4) (ret := (some .int)) (by decide) rfl ?_
  intro p e s m args below meth c s₁ B hml hex hv
  obtain ⟨rfl, rfl, hC, hw⟩ := mw_in hv
  have hx := B.exec
  have hb := B.bytes
  have hr := B.returns
  have hts := atoms_spec (ws := wsX6_send) B.pre
  have hown : s.vm.findClass RX6 = some m.cls := findClass_of_methodNamed B.named
  have hlocks := B.notSynchronized
  have k_0 := hts (.classLink RX6 44 exS) (by decide +kernel)
  have k_1 := hts (.initialized exS) (by decide +kernel)
  have hl := lv_entry ([.ref (h0), .int (nI (ed))]) (n := 4) (Nat.le_of_ble_eq_true rfl)
  rw [lg_entry_eq]
  generalize (lg_sl ([.ref (h0), .int (nI (ed))]) ++ List.replicate (4 - (lg_sl ([.ref (h0), .int (nI (ed))])).length) Slot.unset).toArray = ls at hl ⊢
  have hl : lv_has ls 4 [(0, .ref (h0)), (1, .int (nI (ed)))] := hl
  refine mw_start (fun H locs hw => ?_) hw
  refine lv_aload_n hx hb dX6_send_0 rfl (lv_at hl 0 rfl) ?_
  refine lv_iload_n hx hb dX6_send_1 rfl (lv_at hl 1 rfl) ?_
  refine mw_cr hC hw (va_runV (As := [.int (nI (ed))]) (rest := []) ⟨hx, hb, hml, hown, hts⟩ (c_X6_endOf l G _ H.size h0 ea hu en ed x e0 e1 (by omega) (hen)) (cwV 1 hts gX6_send_X6_endOf rfl rfl rfl (by decide +kernel) ⟨Nat.le_of_ble_eq_true rfl, Nat.le_of_ble_eq_true rfl⟩) (mw_preV (ci := 6) hC hw rfl e0) rfl rfl hl.1 rfl (lv_room (Nat.le_of_ble_eq_true rfl)) dX6_send_2 ⟨Nat.le_of_ble_eq_true rfl, Nat.le_of_ble_eq_true rfl⟩) (fun H locs hz hw => ?_)
  refine lv_astore_n (lv' := [(2, .ref (x)), (0, .ref (h0)), (1, .int (nI (ed)))]) hx hb dX6_send_5 rfl hl (by decide) rfl (fun ls hl => ?_)
  refine lv_aload_n hx hb dX6_send_6 rfl (lv_at hl 0 rfl) ?_
  refine mw_getN (C := RX0) (T := TX0) (N := 12) (v := .int (nI (b2n fl))) hx hb hts inX6_send_X0 hown hC hw e2 rfl 9 (by decide) (show Cond.fieldLinkNest RX6 30 (TX0 9).1 (TX0 9).2.1 (TX0 9).2.2.1 "LinkPair" ∈ mw_nestF by decide +kernel) rfl dX6_send_7 ?_
  have hbz := b2n_le fl
  refine lv_if_ne (tgt := 23) hx hb dX6_send_10 (by decide) (fun c_1 => ?_) (fun c_1 => ?_)
  · skip
    have c_1 : b2n fl ≠ 0 := fun h => c_1 ((nI_eq (a := b2n fl) (b := 0) (by omega) (by omega)).mpr h)
    exact mw_throw hx hb hlt hown (by decide +kernel) k_0 k_1 (fun w h => hts w (inexS_X6_send w h)) exS_bad exS_ot hC hw (hl.1.trans hml.symm) hex dX6_send_23 dX6_send_26 dX6_send_27 dX6_send_30 (Nat.le_of_ble_eq_true rfl) (Nat.le_of_ble_eq_true rfl) (Nat.le_of_ble_eq_true rfl) (Nat.le_of_ble_eq_true rfl) hlocks (Nat.le_of_ble_eq_true rfl) (Nat.le_of_ble_eq_true rfl)
  · skip
    have c_1 : b2n fl = 0 := (nI_eq (a := b2n fl) (b := 0) (by omega) (by omega)).mp c_1
    refine lv_aload_n hx hb dX6_send_13 rfl (lv_at hl 0 rfl) ?_
    refine mw_getN (C := RX0) (T := TX0) (N := 12) (v := .ref (li)) hx hb hts inX6_send_X0 hown hC hw e2 rfl 0 (by decide) (show Cond.fieldLinkNest RX6 51 (TX0 0).1 (TX0 0).2.1 (TX0 0).2.2.1 "LinkPair" ∈ mw_nestF by decide +kernel) rfl dX6_send_14 ?_
    refine mw_ci hC hw (va_runV (As := []) (rest := []) ⟨hx, hb, hml, hown, hts⟩ (c_X2_isFull l G _ H.size li fa n e3 (by omega)) (cwV 0 hts gX6_send_X2_isFull rfl rfl rfl (by decide +kernel) ⟨Nat.le_of_ble_eq_true rfl, Nat.le_of_ble_eq_true rfl⟩) (mw_preV (ci := 2) hC hw rfl e3) rfl rfl hl.1 rfl (lv_room (Nat.le_of_ble_eq_true rfl)) dX6_send_17 ⟨Nat.le_of_ble_eq_true rfl, Nat.le_of_ble_eq_true rfl⟩) (fun H locs hz hw => ?_)
    have hbz := b2n_le (decide (n = 40))
    refine lv_if_eq (tgt := 31) hx hb dX6_send_20 (by decide) (fun c_2 => ?_) (fun c_2 => ?_)
    · skip
      have c_2 : b2n (decide (n = 40)) = 0 := (nI_eq (a := b2n (decide (n = 40))) (b := 0) (by omega) (by omega)).mp c_2
      exact hb1.elim (fun h => by rw [h] at *; simp_all [b2n]) (fun h => by simp_all [b2n])
    · skip
      have c_2 : b2n (decide (n = 40)) ≠ 0 := fun h => c_2 ((nI_eq (a := b2n (decide (n = 40))) (b := 0) (by omega) (by omega)).mpr h)
      exact mw_throw hx hb hlt hown (by decide +kernel) k_0 k_1 (fun w h => hts w (inexS_X6_send w h)) exS_bad exS_ot hC hw (hl.1.trans hml.symm) hex dX6_send_23 dX6_send_26 dX6_send_27 dX6_send_30 (Nat.le_of_ble_eq_true rfl) (Nat.le_of_ble_eq_true rfl) (Nat.le_of_ble_eq_true rfl) (Nat.le_of_ble_eq_true rfl) hlocks (Nat.le_of_ble_eq_true rfl) (Nat.le_of_ble_eq_true rfl)
theorem inX6_send_X6 : ∀ w ∈ wsX60, w ∈ wsX6_send := by decide +kernel
def RM_X6_send_again : Room := { frames := 6, cells := 0, slots := 0, locals := 138 }
set_option maxHeartbeats 4000000 in
set_option maxRecDepth 100000 in
theorem c_X6_send_again (l : Launch) (G : mw_G) (M : mw_M) (sz : Nat) (h0 ea hu : Nat) (en : Nat → Option Nat) (ed : Nat) (x li me so fi bi sn tn er un : Nat) (fl al ab : Bool) (fa n : Nat) (fr : Nat → Option Nat) (y w q : Nat) (f : Nat → Int64) (ub c9 : Nat) (g : Nat → Nat) (la sa mf mu ma mw : Nat) (lg sd : Nat → Nat) (e0 : M h0 = some (.inr (6, [.ref (ea), .ref (hu)]))) (e1 : M ea = some (.inl (G.2 4, 2, .inr (.inr (.inr (.inr (en))))))) (e2 : M x = some (.inr (0, [.ref (li), .ref (me), .ref (so), .int (nI (fi)), .int (nI (bi)), .int (nI (sn)), .int (nI (tn)), .int (nI (er)), .int (nI (un)), .int (nI (b2n fl)), .int (nI (b2n al)), .int (nI (b2n ab))]))) (e3 : M li = some (.inr (2, [.ref (fa), .int (nI (n))]))) (e4 : M fa = some (.inl (G.2 5, 40, .inr (.inr (.inr (.inr (fr))))))) (e5 : M y = some (.inr (1, [.ref (w), .int (nI (q))]))) (e6 : M w = some (.inl (G.2 2, 47, .inr (.inl (f))))) (e7 : M hu = some (.inr (5, [.ref (ub), .int (nI (c9))]))) (e8 : M ub = some (.inl (G.2 1, 277, .inl (fun j => nI (g j))))) (e9 : M me = some (.inr (3, [.ref (la), .ref (sa), .int (nI (mf)), .int (nI (mu)), .int (nI (ma)), .int (nI (mw))]))) (e10 : M la = some (.inl (G.2 1, 187, .inl (fun j => nI (lg j))))) (e11 : M sa = some (.inl (G.2 1, 187, .inl (fun j => nI (sd j))))) (he : ed ≤ 1) (hen : en ed = some x) (hfi : fi ≤ 1) (hbi : bi ≤ 1) (hsn : sn < 128) (htn : tn < 128) (hn : n < 40) (hy : fr n = some y) (hmf : mf < 187) (hmu : mu ≤ 127) (hlg : ∀ i, lg i ≤ 272) (hsd : ∀ i, sd i < 256) (hma : ma ≤ mu) (hmw : mw ≤ 60) (hg : ∀ i, i < 277 → g i < 256) (hfl : fl = false) (hc : 0 < ma) (nlasa : la ≠ sa) : Met l yX6_send wsX6_send RM_X6_send_again (mw_pre G M sz [.ref (h0), .int (nI (ed))]) (mw_Qi G M sz (nI (2)) (va_up (va_up (va_up (va_up (va_up (va_up M me (some (.inr (3, [.ref (la), .ref (sa), .int (nI (mf)), .int (nI (mu)), .int (nI (ma - 1)), .int (nI (mw))])))) hu (some (.inr (5, [.ref (ub), .int (nI (5 + (lg ((mf + (mu - 1 - (ma - 1))) % 187))))])))) ub (some (.inl (G.2 1, 277, .inl (fun j => nI ((ubs g (tn + 128 * bi) (((sn + 128 - (ma - 1)) % 128) + 128 * fi) (lg ((mf + (mu - 1 - (ma - 1))) % 187)) (sd ((mf + (mu - 1 - (ma - 1))) % 187))) j)))))) li (some (.inr (2, [.ref (fa), .int (nI (n + 1))])))) y (some (.inr (1, [.ref (w), .int (nI ((ufr (ubs g (tn + 128 * bi) (((sn + 128 - (ma - 1)) % 128) + 128 * fi) (lg ((mf + (mu - 1 - (ma - 1))) % 187)) (sd ((mf + (mu - 1 - (ma - 1))) % 187))) f (5 + (lg ((mf + (mu - 1 - (ma - 1))) % 187)))).2.1 + 8))])))) w (some (.inl (G.2 2, 47, .inr (.inl (ffl (ufr (ubs g (tn + 128 * bi) (((sn + 128 - (ma - 1)) % 128) + 128 * fi) (lg ((mf + (mu - 1 - (ma - 1))) % 187)) (sd ((mf + (mu - 1 - (ma - 1))) % 187))) f (5 + (lg ((mf + (mu - 1 - (ma - 1))) % 187)))).1 (ufr (ubs g (tn + 128 * bi) (((sn + 128 - (ma - 1)) % 128) + 128 * fi) (lg ((mf + (mu - 1 - (ma - 1))) % 187)) (sd ((mf + (mu - 1 - (ma - 1))) % 187))) f (5 + (lg ((mf + (mu - 1 - (ma - 1))) % 187)))).2.1 8))))))) 0 0 (mw_A M sz) := by
  refine Met.ofW (cc := cX6_send) (maxL := 4) (ret := (some .int)) (by decide) rfl ?_
  intro p e s m args below meth c s₁ B hml hv
  obtain ⟨rfl, rfl, hC, hw⟩ := mw_in hv
  have hx := B.exec
  have hb := B.bytes
  have hr := B.returns
  have hts := atoms_spec (ws := wsX6_send) B.pre
  have hown : s.vm.findClass RX6 = some m.cls := findClass_of_methodNamed B.named
  have hlocks := B.notSynchronized
  have k_0 := hts (.fieldLink RX6 19 "LinkPair" "unit" "LLinkPair$Unit;") (by decide +kernel)
  have m0_7 : h0 ≠ hu := mw_ne e0 e7 (by intro h9; cases h9)
  have m0_8 : h0 ≠ ub := mw_ne e0 e8 (by intro h9; cases h9)
  have m0_9 : h0 ≠ me := mw_ne e0 e9 (by intro h9; cases h9)
  have m2_7 : x ≠ hu := mw_ne e2 e7 (by intro h9; cases h9)
  have m2_8 : x ≠ ub := mw_ne e2 e8 (by intro h9; cases h9)
  have m2_9 : x ≠ me := mw_ne e2 e9 (by intro h9; cases h9)
  have m3_5 : li ≠ y := mw_ne e3 e5 (by intro h9; cases h9)
  have m3_6 : li ≠ w := mw_ne e3 e6 (by intro h9; cases h9)
  have m3_7 : li ≠ hu := mw_ne e3 e7 (by intro h9; cases h9)
  have m3_8 : li ≠ ub := mw_ne e3 e8 (by intro h9; cases h9)
  have m3_9 : li ≠ me := mw_ne e3 e9 (by intro h9; cases h9)
  have m4_7 : fa ≠ hu := mw_ne e4 e7 (by intro h9; cases h9)
  have m4_8 : fa ≠ ub := mw_ne e4 e8 (by simp)
  have m4_9 : fa ≠ me := mw_ne e4 e9 (by intro h9; cases h9)
  have m5_6 : y ≠ w := mw_ne e5 e6 (by intro h9; cases h9)
  have m5_7 : y ≠ hu := mw_ne e5 e7 (by intro h9; cases h9)
  have m5_8 : y ≠ ub := mw_ne e5 e8 (by intro h9; cases h9)
  have m5_9 : y ≠ me := mw_ne e5 e9 (by intro h9; cases h9)
  have m6_7 : w ≠ hu := mw_ne e6 e7 (by intro h9; cases h9)
  have m6_8 : w ≠ ub := mw_ne e6 e8 (by simp)
  have m6_9 : w ≠ me := mw_ne e6 e9 (by intro h9; cases h9)
  have m7_8 : hu ≠ ub := mw_ne e7 e8 (by intro h9; cases h9)
  have m7_9 : hu ≠ me := mw_ne e7 e9 (by intro h9; cases h9)
  have m8_9 : ub ≠ me := mw_ne e8 e9 (by intro h9; cases h9)
  have hl := lv_entry ([.ref (h0), .int (nI (ed))]) (n := 4) (Nat.le_of_ble_eq_true rfl)
  rw [lg_entry_eq]
  generalize (lg_sl ([.ref (h0), .int (nI (ed))]) ++ List.replicate (4 - (lg_sl ([.ref (h0), .int (nI (ed))])).length) Slot.unset).toArray = ls at hl ⊢
  have hl : lv_has ls 4 [(0, .ref (h0)), (1, .int (nI (ed)))] := hl
  refine mw_start (fun H locs hw => ?_) hw
  refine lv_aload_n hx hb dX6_send_0 rfl (lv_at hl 0 rfl) ?_
  refine lv_iload_n hx hb dX6_send_1 rfl (lv_at hl 1 rfl) ?_
  refine mw_cr hC hw (va_runV (As := [.int (nI (ed))]) (rest := []) ⟨hx, hb, hml, hown, hts⟩ (c_X6_endOf l G _ H.size h0 ea hu en ed x e0 e1 (by omega) (hen)) (cwV 1 hts gX6_send_X6_endOf rfl rfl rfl (by decide +kernel) ⟨Nat.le_of_ble_eq_true rfl, Nat.le_of_ble_eq_true rfl⟩) (mw_preV (ci := 6) hC hw rfl e0) rfl rfl hl.1 rfl (lv_room (Nat.le_of_ble_eq_true rfl)) dX6_send_2 ⟨Nat.le_of_ble_eq_true rfl, Nat.le_of_ble_eq_true rfl⟩) (fun H locs hz hw => ?_)
  refine lv_astore_n (lv' := [(2, .ref (x)), (0, .ref (h0)), (1, .int (nI (ed)))]) hx hb dX6_send_5 rfl hl (by decide) rfl (fun ls hl => ?_)
  refine lv_aload_n hx hb dX6_send_6 rfl (lv_at hl 0 rfl) ?_
  refine mw_getN (C := RX0) (T := TX0) (N := 12) (v := .int (nI (b2n fl))) hx hb hts inX6_send_X0 hown hC hw e2 rfl 9 (by decide) (show Cond.fieldLinkNest RX6 30 (TX0 9).1 (TX0 9).2.1 (TX0 9).2.2.1 "LinkPair" ∈ mw_nestF by decide +kernel) rfl dX6_send_7 ?_
  have hbz := b2n_le fl
  refine lv_if_ne (tgt := 23) hx hb dX6_send_10 (by decide) (fun c_1 => ?_) (fun c_1 => ?_)
  · skip
    have c_1 : b2n fl ≠ 0 := fun h => c_1 ((nI_eq (a := b2n fl) (b := 0) (by omega) (by omega)).mpr h)
    exfalso; rw [hfl] at *; simp_all [b2n]
  · skip
    have c_1 : b2n fl = 0 := (nI_eq (a := b2n fl) (b := 0) (by omega) (by omega)).mp c_1
    refine lv_aload_n hx hb dX6_send_13 rfl (lv_at hl 0 rfl) ?_
    refine mw_getN (C := RX0) (T := TX0) (N := 12) (v := .ref (li)) hx hb hts inX6_send_X0 hown hC hw e2 rfl 0 (by decide) (show Cond.fieldLinkNest RX6 51 (TX0 0).1 (TX0 0).2.1 (TX0 0).2.2.1 "LinkPair" ∈ mw_nestF by decide +kernel) rfl dX6_send_14 ?_
    refine mw_ci hC hw (va_runV (As := []) (rest := []) ⟨hx, hb, hml, hown, hts⟩ (c_X2_isFull l G _ H.size li fa n e3 (by omega)) (cwV 0 hts gX6_send_X2_isFull rfl rfl rfl (by decide +kernel) ⟨Nat.le_of_ble_eq_true rfl, Nat.le_of_ble_eq_true rfl⟩) (mw_preV (ci := 2) hC hw rfl e3) rfl rfl hl.1 rfl (lv_room (Nat.le_of_ble_eq_true rfl)) dX6_send_17 ⟨Nat.le_of_ble_eq_true rfl, Nat.le_of_ble_eq_true rfl⟩) (fun H locs hz hw => ?_)
    refine mw_ti (v' := nI (0)) (by rw [decide_eq_false (by omega)]; rfl) ?_
    refine lv_if_eq (tgt := 31) hx hb dX6_send_20 (by decide) (fun c_2 => ?_) (fun c_2 => ?_)
    · skip
      refine lv_aload_n hx hb dX6_send_31 rfl (lv_at hl 0 rfl) ?_
      refine lv_aload_n hx hb dX6_send_32 rfl (lv_at hl 1 rfl) ?_
      refine mw_get (C := RX6) (T := TX6) (N := 2) (v := .ref (hu)) hx hb hts inX6_send_X6 hown hC hw e0 rfl 1 (by decide) k_0 rfl dX6_send_33 ?_
      refine mw_ci hC hw (va_runV (As := [.ref (hu)]) (rest := []) ⟨hx, hb, hml, hown, hts⟩ (c_X0_nextUnit_again l G _ H.size x li me so fi bi sn tn er un fl al ab hu ub c9 g la sa mf mu ma mw lg sd e2 e7 e8 e9 e10 e11 (by omega) (by omega) (by omega) (by omega) (by omega) (by omega) (hlg) (hsd) (by omega) (by omega) (hg) (by omega) nlasa) (cwV 1 hts gX6_send_X0_nextUnit rfl rfl rfl (by decide +kernel) ⟨Nat.le_of_ble_eq_true rfl, Nat.le_of_ble_eq_true rfl⟩) (mw_preV (ci := 0) hC hw rfl e2) rfl rfl hl.1 rfl (lv_room (Nat.le_of_ble_eq_true rfl)) dX6_send_36 ⟨Nat.le_of_ble_eq_true rfl, Nat.le_of_ble_eq_true rfl⟩) (fun H locs hz hw => ?_)
      refine lv_istore_n (lv' := [(3, .int (nI (2))), (2, .ref (x)), (0, .ref (h0)), (1, .int (nI (ed)))]) hx hb dX6_send_39 rfl hl (by decide) rfl (fun ls hl => ?_)
      refine lv_aload_n hx hb dX6_send_40 rfl (lv_at hl 2 rfl) ?_
      refine mw_get (C := RX6) (T := TX6) (N := 2) (v := .ref (hu)) hx hb hts inX6_send_X6 hown hC hw (mw_u1 m0_8 (mw_u1 m0_7 (mw_u1 m0_9 e0))) rfl 1 (by decide) k_0 rfl dX6_send_41 ?_
      refine lv_aload_n hx hb dX6_send_44 rfl (lv_at hl 1 rfl) ?_
      refine mw_getN (C := RX0) (T := TX0) (N := 12) (v := .ref (li)) hx hb hts inX6_send_X0 hown hC hw (mw_u1 m2_8 (mw_u1 m2_7 (mw_u1 m2_9 e2))) rfl 0 (by decide) (show Cond.fieldLinkNest RX6 51 (TX0 0).1 (TX0 0).2.1 (TX0 0).2.2.1 "LinkPair" ∈ mw_nestF by decide +kernel) rfl dX6_send_45 ?_
      refine mw_cr hC hw (va_runV (As := []) (rest := [.ref (hu)]) ⟨hx, hb, hml, hown, hts⟩ (c_X2_open l G _ H.size li fa n fr y w q (mw_u1 m3_8 (mw_u1 m3_7 (mw_u1 m3_9 e3))) (mw_u1 m4_8 (mw_u1 m4_7 (mw_u1 m4_9 e4))) (mw_u1 m5_8 (mw_u1 m5_7 (mw_u1 m5_9 e5))) (by omega) (hy)) (cwV 0 hts gX6_send_X2_open rfl rfl rfl (by decide +kernel) ⟨Nat.le_of_ble_eq_true rfl, Nat.le_of_ble_eq_true rfl⟩) (mw_preV (ci := 2) hC hw rfl (mw_u1 m3_8 (mw_u1 m3_7 (mw_u1 m3_9 e3)))) rfl rfl hl.1 rfl (lv_room (Nat.le_of_ble_eq_true rfl)) dX6_send_48 ⟨Nat.le_of_ble_eq_true rfl, Nat.le_of_ble_eq_true rfl⟩) (fun H locs hz hw => ?_)
      have hg3 := ubs_lt hg (show tn + 128 * bi < 256 by omega) (show ((sn + 128 - (ma - 1)) % 128) + 128 * fi < 256 by omega) (show lg ((mf + (mu - 1 - (ma - 1))) % 187) ≤ 272 by first | omega | exact hlg _) (sd ((mf + (mu - 1 - (ma - 1))) % 187))
      have hl9 : lg ((mf + (mu - 1 - (ma - 1))) % 187) ≤ 272 := by first | omega | exact hlg _
      refine mw_cv hC hw (va_runV (As := [.ref (y)]) (rest := []) ⟨hx, hb, hml, hown, hts⟩ (c_X5_writeTo l G _ H.size hu ub (5 + (lg ((mf + (mu - 1 - (ma - 1))) % 187))) (ubs g (tn + 128 * bi) (((sn + 128 - (ma - 1)) % 128) + 128 * fi) (lg ((mf + (mu - 1 - (ma - 1))) % 187)) (sd ((mf + (mu - 1 - (ma - 1))) % 187))) y w 0 f (mw_u1 (Ne.symm m5_7) (mw_u1 (Ne.symm m3_7) (mw_u1 m7_8 mw_u0))) (mw_u1 (Ne.symm m5_8) (mw_u1 (Ne.symm m3_8) mw_u0)) mw_u0 (mw_u1 (Ne.symm m5_6) (mw_u1 (Ne.symm m3_6) (mw_u1 m6_8 (mw_u1 m6_7 (mw_u1 m6_9 e6))))) (by omega) (by omega) (hg3) (by omega)) (cwV 1 hts gX6_send_X5_writeTo rfl rfl rfl (by decide +kernel) ⟨Nat.le_of_ble_eq_true rfl, Nat.le_of_ble_eq_true rfl⟩) (mw_preV (ci := 5) hC hw rfl (mw_u1 (Ne.symm m5_7) (mw_u1 (Ne.symm m3_7) (mw_u1 m7_8 mw_u0)))) rfl rfl hl.1 rfl (lv_room (Nat.le_of_ble_eq_true rfl)) dX6_send_51 ⟨Nat.le_of_ble_eq_true rfl, Nat.le_of_ble_eq_true rfl⟩) (fun H locs hz hw => ?_)
      refine lv_iload_n hx hb dX6_send_54 rfl (lv_at hl 0 rfl) ?_
      have hc_4 : (.inr (1, [.ref (w), .int (nI ((wts (ubs g (tn + 128 * bi) (((sn + 128 - (ma - 1)) % 128) + 128 * fi) (lg ((mf + (mu - 1 - (ma - 1))) % 187)) (sd ((mf + (mu - 1 - (ma - 1))) % 187))) (ffl f 0 8) (0 + 8) (8 * (5 + (lg ((mf + (mu - 1 - (ma - 1))) % 187))))).2.1 + 8))]) : va_E) = .inr (1, [.ref (w), .int (nI ((ufr (ubs g (tn + 128 * bi) (((sn + 128 - (ma - 1)) % 128) + 128 * fi) (lg ((mf + (mu - 1 - (ma - 1))) % 187)) (sd ((mf + (mu - 1 - (ma - 1))) % 187))) f (5 + (lg ((mf + (mu - 1 - (ma - 1))) % 187)))).2.1 + 8))]) := by first | rfl | (congr 2; omega) | simp_all
      have hc_5 : (.inl (G.2 2, 47, .inr (.inl (ffl (wts (ubs g (tn + 128 * bi) (((sn + 128 - (ma - 1)) % 128) + 128 * fi) (lg ((mf + (mu - 1 - (ma - 1))) % 187)) (sd ((mf + (mu - 1 - (ma - 1))) % 187))) (ffl f 0 8) (0 + 8) (8 * (5 + (lg ((mf + (mu - 1 - (ma - 1))) % 187))))).1 (wts (ubs g (tn + 128 * bi) (((sn + 128 - (ma - 1)) % 128) + 128 * fi) (lg ((mf + (mu - 1 - (ma - 1))) % 187)) (sd ((mf + (mu - 1 - (ma - 1))) % 187))) (ffl f 0 8) (0 + 8) (8 * (5 + (lg ((mf + (mu - 1 - (ma - 1))) % 187))))).2.1 8))) : va_E) = .inl (G.2 2, 47, .inr (.inl (ffl (ufr (ubs g (tn + 128 * bi) (((sn + 128 - (ma - 1)) % 128) + 128 * fi) (lg ((mf + (mu - 1 - (ma - 1))) % 187)) (sd ((mf + (mu - 1 - (ma - 1))) % 187))) f (5 + (lg ((mf + (mu - 1 - (ma - 1))) % 187)))).1 (ufr (ubs g (tn + 128 * bi) (((sn + 128 - (ma - 1)) % 128) + 128 * fi) (lg ((mf + (mu - 1 - (ma - 1))) % 187)) (sd ((mf + (mu - 1 - (ma - 1))) % 187))) f (5 + (lg ((mf + (mu - 1 - (ma - 1))) % 187)))).2.1 8))) := by first | rfl | (congr 2; omega) | simp_all
      have hw : mw_St G (mw_A M s.heap.size) s (va_up (va_up (va_up (va_up (va_up (va_up M me (some (.inr (3, [.ref (la), .ref (sa), .int (nI (mf)), .int (nI (mu)), .int (nI (ma - 1)), .int (nI (mw))])))) hu (some (.inr (5, [.ref (ub), .int (nI (5 + (lg ((mf + (mu - 1 - (ma - 1))) % 187))))])))) ub (some (.inl (G.2 1, 277, .inl (fun j => nI ((ubs g (tn + 128 * bi) (((sn + 128 - (ma - 1)) % 128) + 128 * fi) (lg ((mf + (mu - 1 - (ma - 1))) % 187)) (sd ((mf + (mu - 1 - (ma - 1))) % 187))) j)))))) li (some (.inr (2, [.ref (fa), .int (nI (n + 1))])))) y (some (.inr (1, [.ref (w), .int (nI ((ufr (ubs g (tn + 128 * bi) (((sn + 128 - (ma - 1)) % 128) + 128 * fi) (lg ((mf + (mu - 1 - (ma - 1))) % 187)) (sd ((mf + (mu - 1 - (ma - 1))) % 187))) f (5 + (lg ((mf + (mu - 1 - (ma - 1))) % 187)))).2.1 + 8))])))) w (some (.inl (G.2 2, 47, .inr (.inl (ffl (ufr (ubs g (tn + 128 * bi) (((sn + 128 - (ma - 1)) % 128) + 128 * fi) (lg ((mf + (mu - 1 - (ma - 1))) % 187)) (sd ((mf + (mu - 1 - (ma - 1))) % 187))) f (5 + (lg ((mf + (mu - 1 - (ma - 1))) % 187)))).1 (ufr (ubs g (tn + 128 * bi) (((sn + 128 - (ma - 1)) % 128) + 128 * fi) (lg ((mf + (mu - 1 - (ma - 1))) % 187)) (sd ((mf + (mu - 1 - (ma - 1))) % 187))) f (5 + (lg ((mf + (mu - 1 - (ma - 1))) % 187)))).2.1 8)))))) H locs := hw.to (fun q8 x8 h8 => by
        by_cases b_6 : q8 = me
        · rw [b_6] at h8 ⊢; exact (mw_u1 (Ne.symm m6_9) (mw_u1 (Ne.symm m5_9) (mw_u1 (Ne.symm m5_9) (mw_u1 (Ne.symm m3_9) (mw_u1 (Ne.symm m8_9) (mw_u1 (Ne.symm m7_9) mw_u0)))))).trans (((mw_u1 (Ne.symm m6_9) (mw_u1 (Ne.symm m5_9) (mw_u1 (Ne.symm m3_9) (mw_u1 (Ne.symm m8_9) (mw_u1 (Ne.symm m7_9) mw_u0))))).symm.trans h8))
        by_cases b_7 : q8 = hu
        · rw [b_7] at h8 ⊢; exact (mw_u1 (Ne.symm m6_7) (mw_u1 (Ne.symm m5_7) (mw_u1 (Ne.symm m5_7) (mw_u1 (Ne.symm m3_7) (mw_u1 m7_8 mw_u0))))).trans (((mw_u1 (Ne.symm m6_7) (mw_u1 (Ne.symm m5_7) (mw_u1 (Ne.symm m3_7) (mw_u1 m7_8 mw_u0)))).symm.trans h8))
        by_cases b_8 : q8 = ub
        · rw [b_8] at h8 ⊢; exact (mw_u1 (Ne.symm m6_8) (mw_u1 (Ne.symm m5_8) (mw_u1 (Ne.symm m5_8) (mw_u1 (Ne.symm m3_8) mw_u0)))).trans (((mw_u1 (Ne.symm m6_8) (mw_u1 (Ne.symm m5_8) (mw_u1 (Ne.symm m3_8) mw_u0))).symm.trans h8))
        by_cases b_9 : q8 = li
        · rw [b_9] at h8 ⊢; exact (mw_u1 m3_6 (mw_u1 m3_5 (mw_u1 m3_5 mw_u0))).trans (((mw_u1 m3_6 (mw_u1 m3_5 mw_u0)).symm.trans h8))
        by_cases b_10 : q8 = y
        · rw [b_10] at h8 ⊢; exact (mw_u1 m5_6 mw_u0).trans ((congrArg some hc_4).trans ((mw_u1 m5_6 mw_u0).symm.trans h8))
        by_cases b_11 : q8 = w
        · rw [b_11] at h8 ⊢; exact mw_u0.trans ((congrArg some hc_5).trans (mw_u0.symm.trans h8))
        simp only [va_up_ne _ _ b_6, va_up_ne _ _ b_7, va_up_ne _ _ b_8, va_up_ne _ _ b_9, va_up_ne _ _ b_10, va_up_ne _ _ b_11] at h8 ⊢; exact h8)
      exact mw_iret hx hb hr hlocks hw (rfl) (fun _ _ h9 => h9) dX6_send_55
    · skip
      exact absurd c_2 (by decide)
def RM_X6_send_first : Room := { frames := 6, cells := 0, slots := 0, locals := 138 }
set_option maxHeartbeats 4000000 in
set_option maxRecDepth 100000 in
theorem c_X6_send_first (l : Launch) (G : mw_G) (M : mw_M) (sz : Nat) (h0 ea hu : Nat) (en : Nat → Option Nat) (ed : Nat) (x li me so fi bi sn tn er un : Nat) (fl al ab : Bool) (fa n : Nat) (fr : Nat → Option Nat) (y w q : Nat) (f : Nat → Int64) (ub c9 : Nat) (g : Nat → Nat) (la sa mf mu ma mw : Nat) (lg sd : Nat → Nat) (e0 : M h0 = some (.inr (6, [.ref (ea), .ref (hu)]))) (e1 : M ea = some (.inl (G.2 4, 2, .inr (.inr (.inr (.inr (en))))))) (e2 : M x = some (.inr (0, [.ref (li), .ref (me), .ref (so), .int (nI (fi)), .int (nI (bi)), .int (nI (sn)), .int (nI (tn)), .int (nI (er)), .int (nI (un)), .int (nI (b2n fl)), .int (nI (b2n al)), .int (nI (b2n ab))]))) (e3 : M li = some (.inr (2, [.ref (fa), .int (nI (n))]))) (e4 : M fa = some (.inl (G.2 5, 40, .inr (.inr (.inr (.inr (fr))))))) (e5 : M y = some (.inr (1, [.ref (w), .int (nI (q))]))) (e6 : M w = some (.inl (G.2 2, 47, .inr (.inl (f))))) (e7 : M hu = some (.inr (5, [.ref (ub), .int (nI (c9))]))) (e8 : M ub = some (.inl (G.2 1, 277, .inl (fun j => nI (g j))))) (e9 : M me = some (.inr (3, [.ref (la), .ref (sa), .int (nI (mf)), .int (nI (mu)), .int (nI (ma)), .int (nI (mw))]))) (e10 : M la = some (.inl (G.2 1, 187, .inl (fun j => nI (lg j))))) (e11 : M sa = some (.inl (G.2 1, 187, .inl (fun j => nI (sd j))))) (he : ed ≤ 1) (hen : en ed = some x) (hfi : fi ≤ 1) (hbi : bi ≤ 1) (hsn : sn < 128) (htn : tn < 128) (hn : n < 40) (hy : fr n = some y) (hmf : mf < 187) (hmu : mu ≤ 127) (hlg : ∀ i, lg i ≤ 272) (hsd : ∀ i, sd i < 256) (hma : ma ≤ mu) (hmw : mw ≤ 60) (hg : ∀ i, i < 277 → g i < 256) (hfl : fl = false) (hc : ma = 0) (hc2 : 0 < mw) (hc3 : mu < 127) (nlasa : la ≠ sa) : Met l yX6_send wsX6_send RM_X6_send_first (mw_pre G M sz [.ref (h0), .int (nI (ed))]) (mw_Qi G M sz (nI (1)) (va_up (va_up (va_up (va_up (va_up (va_up (va_up M x (some (.inr (0, [.ref (li), .ref (me), .ref (so), .int (nI (fi)), .int (nI (bi)), .int (nI ((sn + 1) % 128)), .int (nI (tn)), .int (nI (er)), .int (nI (un)), .int (nI (b2n fl)), .int (nI (b2n al)), .int (nI (b2n ab))])))) me (some (.inr (3, [.ref (la), .ref (sa), .int (nI (mf)), .int (nI (mu + 1)), .int (nI (ma)), .int (nI (mw - 1))])))) hu (some (.inr (5, [.ref (ub), .int (nI (5 + (lg ((mf + (mu + 1 - 1 - 0)) % 187))))])))) ub (some (.inl (G.2 1, 277, .inl (fun j => nI ((ubs g (tn + 128 * bi) ((((sn + 1) % 128 + 128 - 0) % 128) + 128 * fi) (lg ((mf + (mu + 1 - 1 - 0)) % 187)) (sd ((mf + (mu + 1 - 1 - 0)) % 187))) j)))))) li (some (.inr (2, [.ref (fa), .int (nI (n + 1))])))) y (some (.inr (1, [.ref (w), .int (nI ((ufr (ubs g (tn + 128 * bi) ((((sn + 1) % 128 + 128 - 0) % 128) + 128 * fi) (lg ((mf + (mu + 1 - 1 - 0)) % 187)) (sd ((mf + (mu + 1 - 1 - 0)) % 187))) f (5 + (lg ((mf + (mu + 1 - 1 - 0)) % 187)))).2.1 + 8))])))) w (some (.inl (G.2 2, 47, .inr (.inl (ffl (ufr (ubs g (tn + 128 * bi) ((((sn + 1) % 128 + 128 - 0) % 128) + 128 * fi) (lg ((mf + (mu + 1 - 1 - 0)) % 187)) (sd ((mf + (mu + 1 - 1 - 0)) % 187))) f (5 + (lg ((mf + (mu + 1 - 1 - 0)) % 187)))).1 (ufr (ubs g (tn + 128 * bi) ((((sn + 1) % 128 + 128 - 0) % 128) + 128 * fi) (lg ((mf + (mu + 1 - 1 - 0)) % 187)) (sd ((mf + (mu + 1 - 1 - 0)) % 187))) f (5 + (lg ((mf + (mu + 1 - 1 - 0)) % 187)))).2.1 8))))))) 0 0 (mw_A M sz) := by
  refine Met.ofW (cc := cX6_send) (maxL := 4) (ret := (some .int)) (by decide) rfl ?_
  intro p e s m args below meth c s₁ B hml hv
  obtain ⟨rfl, rfl, hC, hw⟩ := mw_in hv
  have hx := B.exec
  have hb := B.bytes
  have hr := B.returns
  have hts := atoms_spec (ws := wsX6_send) B.pre
  have hown : s.vm.findClass RX6 = some m.cls := findClass_of_methodNamed B.named
  have hlocks := B.notSynchronized
  have k_0 := hts (.fieldLink RX6 19 "LinkPair" "unit" "LLinkPair$Unit;") (by decide +kernel)
  have m0_2 : h0 ≠ x := mw_ne e0 e2 (by intro h9; cases h9)
  have m0_7 : h0 ≠ hu := mw_ne e0 e7 (by intro h9; cases h9)
  have m0_8 : h0 ≠ ub := mw_ne e0 e8 (by intro h9; cases h9)
  have m0_9 : h0 ≠ me := mw_ne e0 e9 (by intro h9; cases h9)
  have m2_3 : x ≠ li := mw_ne e2 e3 (by intro h9; cases h9)
  have m2_4 : x ≠ fa := mw_ne e2 e4 (by intro h9; cases h9)
  have m2_5 : x ≠ y := mw_ne e2 e5 (by intro h9; cases h9)
  have m2_6 : x ≠ w := mw_ne e2 e6 (by intro h9; cases h9)
  have m2_7 : x ≠ hu := mw_ne e2 e7 (by intro h9; cases h9)
  have m2_8 : x ≠ ub := mw_ne e2 e8 (by intro h9; cases h9)
  have m2_9 : x ≠ me := mw_ne e2 e9 (by intro h9; cases h9)
  have m3_5 : li ≠ y := mw_ne e3 e5 (by intro h9; cases h9)
  have m3_6 : li ≠ w := mw_ne e3 e6 (by intro h9; cases h9)
  have m3_7 : li ≠ hu := mw_ne e3 e7 (by intro h9; cases h9)
  have m3_8 : li ≠ ub := mw_ne e3 e8 (by intro h9; cases h9)
  have m3_9 : li ≠ me := mw_ne e3 e9 (by intro h9; cases h9)
  have m4_7 : fa ≠ hu := mw_ne e4 e7 (by intro h9; cases h9)
  have m4_8 : fa ≠ ub := mw_ne e4 e8 (by simp)
  have m4_9 : fa ≠ me := mw_ne e4 e9 (by intro h9; cases h9)
  have m5_6 : y ≠ w := mw_ne e5 e6 (by intro h9; cases h9)
  have m5_7 : y ≠ hu := mw_ne e5 e7 (by intro h9; cases h9)
  have m5_8 : y ≠ ub := mw_ne e5 e8 (by intro h9; cases h9)
  have m5_9 : y ≠ me := mw_ne e5 e9 (by intro h9; cases h9)
  have m6_7 : w ≠ hu := mw_ne e6 e7 (by intro h9; cases h9)
  have m6_8 : w ≠ ub := mw_ne e6 e8 (by simp)
  have m6_9 : w ≠ me := mw_ne e6 e9 (by intro h9; cases h9)
  have m7_8 : hu ≠ ub := mw_ne e7 e8 (by intro h9; cases h9)
  have m7_9 : hu ≠ me := mw_ne e7 e9 (by intro h9; cases h9)
  have m8_9 : ub ≠ me := mw_ne e8 e9 (by intro h9; cases h9)
  have hl := lv_entry ([.ref (h0), .int (nI (ed))]) (n := 4) (Nat.le_of_ble_eq_true rfl)
  rw [lg_entry_eq]
  generalize (lg_sl ([.ref (h0), .int (nI (ed))]) ++ List.replicate (4 - (lg_sl ([.ref (h0), .int (nI (ed))])).length) Slot.unset).toArray = ls at hl ⊢
  have hl : lv_has ls 4 [(0, .ref (h0)), (1, .int (nI (ed)))] := hl
  refine mw_start (fun H locs hw => ?_) hw
  refine lv_aload_n hx hb dX6_send_0 rfl (lv_at hl 0 rfl) ?_
  refine lv_iload_n hx hb dX6_send_1 rfl (lv_at hl 1 rfl) ?_
  refine mw_cr hC hw (va_runV (As := [.int (nI (ed))]) (rest := []) ⟨hx, hb, hml, hown, hts⟩ (c_X6_endOf l G _ H.size h0 ea hu en ed x e0 e1 (by omega) (hen)) (cwV 1 hts gX6_send_X6_endOf rfl rfl rfl (by decide +kernel) ⟨Nat.le_of_ble_eq_true rfl, Nat.le_of_ble_eq_true rfl⟩) (mw_preV (ci := 6) hC hw rfl e0) rfl rfl hl.1 rfl (lv_room (Nat.le_of_ble_eq_true rfl)) dX6_send_2 ⟨Nat.le_of_ble_eq_true rfl, Nat.le_of_ble_eq_true rfl⟩) (fun H locs hz hw => ?_)
  refine lv_astore_n (lv' := [(2, .ref (x)), (0, .ref (h0)), (1, .int (nI (ed)))]) hx hb dX6_send_5 rfl hl (by decide) rfl (fun ls hl => ?_)
  refine lv_aload_n hx hb dX6_send_6 rfl (lv_at hl 0 rfl) ?_
  refine mw_getN (C := RX0) (T := TX0) (N := 12) (v := .int (nI (b2n fl))) hx hb hts inX6_send_X0 hown hC hw e2 rfl 9 (by decide) (show Cond.fieldLinkNest RX6 30 (TX0 9).1 (TX0 9).2.1 (TX0 9).2.2.1 "LinkPair" ∈ mw_nestF by decide +kernel) rfl dX6_send_7 ?_
  have hbz := b2n_le fl
  refine lv_if_ne (tgt := 23) hx hb dX6_send_10 (by decide) (fun c_1 => ?_) (fun c_1 => ?_)
  · skip
    have c_1 : b2n fl ≠ 0 := fun h => c_1 ((nI_eq (a := b2n fl) (b := 0) (by omega) (by omega)).mpr h)
    exfalso; rw [hfl] at *; simp_all [b2n]
  · skip
    have c_1 : b2n fl = 0 := (nI_eq (a := b2n fl) (b := 0) (by omega) (by omega)).mp c_1
    refine lv_aload_n hx hb dX6_send_13 rfl (lv_at hl 0 rfl) ?_
    refine mw_getN (C := RX0) (T := TX0) (N := 12) (v := .ref (li)) hx hb hts inX6_send_X0 hown hC hw e2 rfl 0 (by decide) (show Cond.fieldLinkNest RX6 51 (TX0 0).1 (TX0 0).2.1 (TX0 0).2.2.1 "LinkPair" ∈ mw_nestF by decide +kernel) rfl dX6_send_14 ?_
    refine mw_ci hC hw (va_runV (As := []) (rest := []) ⟨hx, hb, hml, hown, hts⟩ (c_X2_isFull l G _ H.size li fa n e3 (by omega)) (cwV 0 hts gX6_send_X2_isFull rfl rfl rfl (by decide +kernel) ⟨Nat.le_of_ble_eq_true rfl, Nat.le_of_ble_eq_true rfl⟩) (mw_preV (ci := 2) hC hw rfl e3) rfl rfl hl.1 rfl (lv_room (Nat.le_of_ble_eq_true rfl)) dX6_send_17 ⟨Nat.le_of_ble_eq_true rfl, Nat.le_of_ble_eq_true rfl⟩) (fun H locs hz hw => ?_)
    refine mw_ti (v' := nI (0)) (by rw [decide_eq_false (by omega)]; rfl) ?_
    refine lv_if_eq (tgt := 31) hx hb dX6_send_20 (by decide) (fun c_2 => ?_) (fun c_2 => ?_)
    · skip
      refine lv_aload_n hx hb dX6_send_31 rfl (lv_at hl 0 rfl) ?_
      refine lv_aload_n hx hb dX6_send_32 rfl (lv_at hl 1 rfl) ?_
      refine mw_get (C := RX6) (T := TX6) (N := 2) (v := .ref (hu)) hx hb hts inX6_send_X6 hown hC hw e0 rfl 1 (by decide) k_0 rfl dX6_send_33 ?_
      refine mw_ci hC hw (va_runV (As := [.ref (hu)]) (rest := []) ⟨hx, hb, hml, hown, hts⟩ (c_X0_nextUnit_first l G _ H.size x li me so fi bi sn tn er un fl al ab hu ub c9 g la sa mf mu ma mw lg sd e2 e7 e8 e9 e10 e11 (by omega) (by omega) (by omega) (by omega) (by omega) (by omega) (hlg) (hsd) (by omega) (by omega) (hg) (by omega) (by omega) (by omega) nlasa) (cwV 1 hts gX6_send_X0_nextUnit rfl rfl rfl (by decide +kernel) ⟨Nat.le_of_ble_eq_true rfl, Nat.le_of_ble_eq_true rfl⟩) (mw_preV (ci := 0) hC hw rfl e2) rfl rfl hl.1 rfl (lv_room (Nat.le_of_ble_eq_true rfl)) dX6_send_36 ⟨Nat.le_of_ble_eq_true rfl, Nat.le_of_ble_eq_true rfl⟩) (fun H locs hz hw => ?_)
      refine lv_istore_n (lv' := [(3, .int (nI (1))), (2, .ref (x)), (0, .ref (h0)), (1, .int (nI (ed)))]) hx hb dX6_send_39 rfl hl (by decide) rfl (fun ls hl => ?_)
      refine lv_aload_n hx hb dX6_send_40 rfl (lv_at hl 2 rfl) ?_
      refine mw_get (C := RX6) (T := TX6) (N := 2) (v := .ref (hu)) hx hb hts inX6_send_X6 hown hC hw (mw_u1 m0_8 (mw_u1 m0_7 (mw_u1 m0_9 (mw_u1 m0_2 e0)))) rfl 1 (by decide) k_0 rfl dX6_send_41 ?_
      refine lv_aload_n hx hb dX6_send_44 rfl (lv_at hl 1 rfl) ?_
      refine mw_getN (C := RX0) (T := TX0) (N := 12) (v := .ref (li)) hx hb hts inX6_send_X0 hown hC hw (mw_u1 m2_8 (mw_u1 m2_7 (mw_u1 m2_9 mw_u0))) rfl 0 (by decide) (show Cond.fieldLinkNest RX6 51 (TX0 0).1 (TX0 0).2.1 (TX0 0).2.2.1 "LinkPair" ∈ mw_nestF by decide +kernel) rfl dX6_send_45 ?_
      refine mw_cr hC hw (va_runV (As := []) (rest := [.ref (hu)]) ⟨hx, hb, hml, hown, hts⟩ (c_X2_open l G _ H.size li fa n fr y w q (mw_u1 m3_8 (mw_u1 m3_7 (mw_u1 m3_9 (mw_u1 (Ne.symm m2_3) e3)))) (mw_u1 m4_8 (mw_u1 m4_7 (mw_u1 m4_9 (mw_u1 (Ne.symm m2_4) e4)))) (mw_u1 m5_8 (mw_u1 m5_7 (mw_u1 m5_9 (mw_u1 (Ne.symm m2_5) e5)))) (by omega) (hy)) (cwV 0 hts gX6_send_X2_open rfl rfl rfl (by decide +kernel) ⟨Nat.le_of_ble_eq_true rfl, Nat.le_of_ble_eq_true rfl⟩) (mw_preV (ci := 2) hC hw rfl (mw_u1 m3_8 (mw_u1 m3_7 (mw_u1 m3_9 (mw_u1 (Ne.symm m2_3) e3))))) rfl rfl hl.1 rfl (lv_room (Nat.le_of_ble_eq_true rfl)) dX6_send_48 ⟨Nat.le_of_ble_eq_true rfl, Nat.le_of_ble_eq_true rfl⟩) (fun H locs hz hw => ?_)
      have hg3 := ubs_lt hg (show tn + 128 * bi < 256 by omega) (show (((sn + 1) % 128 + 128 - 0) % 128) + 128 * fi < 256 by omega) (show lg ((mf + (mu + 1 - 1 - 0)) % 187) ≤ 272 by first | omega | exact hlg _) (sd ((mf + (mu + 1 - 1 - 0)) % 187))
      have hl9 : lg ((mf + (mu + 1 - 1 - 0)) % 187) ≤ 272 := by first | omega | exact hlg _
      refine mw_cv hC hw (va_runV (As := [.ref (y)]) (rest := []) ⟨hx, hb, hml, hown, hts⟩ (c_X5_writeTo l G _ H.size hu ub (5 + (lg ((mf + (mu + 1 - 1 - 0)) % 187))) (ubs g (tn + 128 * bi) ((((sn + 1) % 128 + 128 - 0) % 128) + 128 * fi) (lg ((mf + (mu + 1 - 1 - 0)) % 187)) (sd ((mf + (mu + 1 - 1 - 0)) % 187))) y w 0 f (mw_u1 (Ne.symm m5_7) (mw_u1 (Ne.symm m3_7) (mw_u1 m7_8 mw_u0))) (mw_u1 (Ne.symm m5_8) (mw_u1 (Ne.symm m3_8) mw_u0)) mw_u0 (mw_u1 (Ne.symm m5_6) (mw_u1 (Ne.symm m3_6) (mw_u1 m6_8 (mw_u1 m6_7 (mw_u1 m6_9 (mw_u1 (Ne.symm m2_6) e6)))))) (by omega) (by omega) (hg3) (by omega)) (cwV 1 hts gX6_send_X5_writeTo rfl rfl rfl (by decide +kernel) ⟨Nat.le_of_ble_eq_true rfl, Nat.le_of_ble_eq_true rfl⟩) (mw_preV (ci := 5) hC hw rfl (mw_u1 (Ne.symm m5_7) (mw_u1 (Ne.symm m3_7) (mw_u1 m7_8 mw_u0)))) rfl rfl hl.1 rfl (lv_room (Nat.le_of_ble_eq_true rfl)) dX6_send_51 ⟨Nat.le_of_ble_eq_true rfl, Nat.le_of_ble_eq_true rfl⟩) (fun H locs hz hw => ?_)
      refine lv_iload_n hx hb dX6_send_54 rfl (lv_at hl 0 rfl) ?_
      have hc_4 : (.inr (1, [.ref (w), .int (nI ((wts (ubs g (tn + 128 * bi) ((((sn + 1) % 128 + 128 - 0) % 128) + 128 * fi) (lg ((mf + (mu + 1 - 1 - 0)) % 187)) (sd ((mf + (mu + 1 - 1 - 0)) % 187))) (ffl f 0 8) (0 + 8) (8 * (5 + (lg ((mf + (mu + 1 - 1 - 0)) % 187))))).2.1 + 8))]) : va_E) = .inr (1, [.ref (w), .int (nI ((ufr (ubs g (tn + 128 * bi) ((((sn + 1) % 128 + 128 - 0) % 128) + 128 * fi) (lg ((mf + (mu + 1 - 1 - 0)) % 187)) (sd ((mf + (mu + 1 - 1 - 0)) % 187))) f (5 + (lg ((mf + (mu + 1 - 1 - 0)) % 187)))).2.1 + 8))]) := by first | rfl | (congr 2; omega) | simp_all
      have hc_5 : (.inl (G.2 2, 47, .inr (.inl (ffl (wts (ubs g (tn + 128 * bi) ((((sn + 1) % 128 + 128 - 0) % 128) + 128 * fi) (lg ((mf + (mu + 1 - 1 - 0)) % 187)) (sd ((mf + (mu + 1 - 1 - 0)) % 187))) (ffl f 0 8) (0 + 8) (8 * (5 + (lg ((mf + (mu + 1 - 1 - 0)) % 187))))).1 (wts (ubs g (tn + 128 * bi) ((((sn + 1) % 128 + 128 - 0) % 128) + 128 * fi) (lg ((mf + (mu + 1 - 1 - 0)) % 187)) (sd ((mf + (mu + 1 - 1 - 0)) % 187))) (ffl f 0 8) (0 + 8) (8 * (5 + (lg ((mf + (mu + 1 - 1 - 0)) % 187))))).2.1 8))) : va_E) = .inl (G.2 2, 47, .inr (.inl (ffl (ufr (ubs g (tn + 128 * bi) ((((sn + 1) % 128 + 128 - 0) % 128) + 128 * fi) (lg ((mf + (mu + 1 - 1 - 0)) % 187)) (sd ((mf + (mu + 1 - 1 - 0)) % 187))) f (5 + (lg ((mf + (mu + 1 - 1 - 0)) % 187)))).1 (ufr (ubs g (tn + 128 * bi) ((((sn + 1) % 128 + 128 - 0) % 128) + 128 * fi) (lg ((mf + (mu + 1 - 1 - 0)) % 187)) (sd ((mf + (mu + 1 - 1 - 0)) % 187))) f (5 + (lg ((mf + (mu + 1 - 1 - 0)) % 187)))).2.1 8))) := by first | rfl | (congr 2; omega) | simp_all
      have hw : mw_St G (mw_A M s.heap.size) s (va_up (va_up (va_up (va_up (va_up (va_up (va_up M x (some (.inr (0, [.ref (li), .ref (me), .ref (so), .int (nI (fi)), .int (nI (bi)), .int (nI ((sn + 1) % 128)), .int (nI (tn)), .int (nI (er)), .int (nI (un)), .int (nI (b2n fl)), .int (nI (b2n al)), .int (nI (b2n ab))])))) me (some (.inr (3, [.ref (la), .ref (sa), .int (nI (mf)), .int (nI (mu + 1)), .int (nI (ma)), .int (nI (mw - 1))])))) hu (some (.inr (5, [.ref (ub), .int (nI (5 + (lg ((mf + (mu + 1 - 1 - 0)) % 187))))])))) ub (some (.inl (G.2 1, 277, .inl (fun j => nI ((ubs g (tn + 128 * bi) ((((sn + 1) % 128 + 128 - 0) % 128) + 128 * fi) (lg ((mf + (mu + 1 - 1 - 0)) % 187)) (sd ((mf + (mu + 1 - 1 - 0)) % 187))) j)))))) li (some (.inr (2, [.ref (fa), .int (nI (n + 1))])))) y (some (.inr (1, [.ref (w), .int (nI ((ufr (ubs g (tn + 128 * bi) ((((sn + 1) % 128 + 128 - 0) % 128) + 128 * fi) (lg ((mf + (mu + 1 - 1 - 0)) % 187)) (sd ((mf + (mu + 1 - 1 - 0)) % 187))) f (5 + (lg ((mf + (mu + 1 - 1 - 0)) % 187)))).2.1 + 8))])))) w (some (.inl (G.2 2, 47, .inr (.inl (ffl (ufr (ubs g (tn + 128 * bi) ((((sn + 1) % 128 + 128 - 0) % 128) + 128 * fi) (lg ((mf + (mu + 1 - 1 - 0)) % 187)) (sd ((mf + (mu + 1 - 1 - 0)) % 187))) f (5 + (lg ((mf + (mu + 1 - 1 - 0)) % 187)))).1 (ufr (ubs g (tn + 128 * bi) ((((sn + 1) % 128 + 128 - 0) % 128) + 128 * fi) (lg ((mf + (mu + 1 - 1 - 0)) % 187)) (sd ((mf + (mu + 1 - 1 - 0)) % 187))) f (5 + (lg ((mf + (mu + 1 - 1 - 0)) % 187)))).2.1 8)))))) H locs := hw.to (fun q8 x8 h8 => by
        by_cases b_6 : q8 = x
        · rw [b_6] at h8 ⊢; exact (mw_u1 m2_6 (mw_u1 m2_5 (mw_u1 m2_5 (mw_u1 m2_3 (mw_u1 m2_8 (mw_u1 m2_7 (mw_u1 m2_9 mw_u0))))))).trans (((mw_u1 m2_6 (mw_u1 m2_5 (mw_u1 m2_3 (mw_u1 m2_8 (mw_u1 m2_7 (mw_u1 m2_9 mw_u0)))))).symm.trans h8))
        by_cases b_7 : q8 = me
        · rw [b_7] at h8 ⊢; exact (mw_u1 (Ne.symm m6_9) (mw_u1 (Ne.symm m5_9) (mw_u1 (Ne.symm m5_9) (mw_u1 (Ne.symm m3_9) (mw_u1 (Ne.symm m8_9) (mw_u1 (Ne.symm m7_9) mw_u0)))))).trans (((mw_u1 (Ne.symm m6_9) (mw_u1 (Ne.symm m5_9) (mw_u1 (Ne.symm m3_9) (mw_u1 (Ne.symm m8_9) (mw_u1 (Ne.symm m7_9) mw_u0))))).symm.trans h8))
        by_cases b_8 : q8 = hu
        · rw [b_8] at h8 ⊢; exact (mw_u1 (Ne.symm m6_7) (mw_u1 (Ne.symm m5_7) (mw_u1 (Ne.symm m5_7) (mw_u1 (Ne.symm m3_7) (mw_u1 m7_8 mw_u0))))).trans (((mw_u1 (Ne.symm m6_7) (mw_u1 (Ne.symm m5_7) (mw_u1 (Ne.symm m3_7) (mw_u1 m7_8 mw_u0)))).symm.trans h8))
        by_cases b_9 : q8 = ub
        · rw [b_9] at h8 ⊢; exact (mw_u1 (Ne.symm m6_8) (mw_u1 (Ne.symm m5_8) (mw_u1 (Ne.symm m5_8) (mw_u1 (Ne.symm m3_8) mw_u0)))).trans (((mw_u1 (Ne.symm m6_8) (mw_u1 (Ne.symm m5_8) (mw_u1 (Ne.symm m3_8) mw_u0))).symm.trans h8))
        by_cases b_10 : q8 = li
        · rw [b_10] at h8 ⊢; exact (mw_u1 m3_6 (mw_u1 m3_5 (mw_u1 m3_5 mw_u0))).trans (((mw_u1 m3_6 (mw_u1 m3_5 mw_u0)).symm.trans h8))
        by_cases b_11 : q8 = y
        · rw [b_11] at h8 ⊢; exact (mw_u1 m5_6 mw_u0).trans ((congrArg some hc_4).trans ((mw_u1 m5_6 mw_u0).symm.trans h8))
        by_cases b_12 : q8 = w
        · rw [b_12] at h8 ⊢; exact mw_u0.trans ((congrArg some hc_5).trans (mw_u0.symm.trans h8))
        simp only [va_up_ne _ _ b_6, va_up_ne _ _ b_7, va_up_ne _ _ b_8, va_up_ne _ _ b_9, va_up_ne _ _ b_10, va_up_ne _ _ b_11, va_up_ne _ _ b_12] at h8 ⊢; exact h8)
      exact mw_iret hx hb hr hlocks hw (rfl) (fun _ _ h9 => h9) dX6_send_55
    · skip
      exact absurd c_2 (by decide)
def RM_X6_send_fill : Room := { frames := 5, cells := 0, slots := 0, locals := 114 }
set_option maxHeartbeats 4000000 in
set_option maxRecDepth 100000 in
theorem c_X6_send_fill (l : Launch) (G : mw_G) (M : mw_M) (sz : Nat) (h0 ea hu : Nat) (en : Nat → Option Nat) (ed : Nat) (x li me so fi bi sn tn er un : Nat) (fl al ab : Bool) (fa n : Nat) (fr : Nat → Option Nat) (y w q : Nat) (f : Nat → Int64) (ub c9 : Nat) (g : Nat → Nat) (la sa mf mu ma mw : Nat) (lg sd : Nat → Nat) (e0 : M h0 = some (.inr (6, [.ref (ea), .ref (hu)]))) (e1 : M ea = some (.inl (G.2 4, 2, .inr (.inr (.inr (.inr (en))))))) (e2 : M x = some (.inr (0, [.ref (li), .ref (me), .ref (so), .int (nI (fi)), .int (nI (bi)), .int (nI (sn)), .int (nI (tn)), .int (nI (er)), .int (nI (un)), .int (nI (b2n fl)), .int (nI (b2n al)), .int (nI (b2n ab))]))) (e3 : M li = some (.inr (2, [.ref (fa), .int (nI (n))]))) (e4 : M fa = some (.inl (G.2 5, 40, .inr (.inr (.inr (.inr (fr))))))) (e5 : M y = some (.inr (1, [.ref (w), .int (nI (q))]))) (e6 : M w = some (.inl (G.2 2, 47, .inr (.inl (f))))) (e7 : M hu = some (.inr (5, [.ref (ub), .int (nI (c9))]))) (e8 : M ub = some (.inl (G.2 1, 277, .inl (fun j => nI (g j))))) (e9 : M me = some (.inr (3, [.ref (la), .ref (sa), .int (nI (mf)), .int (nI (mu)), .int (nI (ma)), .int (nI (mw))]))) (e10 : M la = some (.inl (G.2 1, 187, .inl (fun j => nI (lg j))))) (e11 : M sa = some (.inl (G.2 1, 187, .inl (fun j => nI (sd j))))) (he : ed ≤ 1) (hen : en ed = some x) (hfi : fi ≤ 1) (hbi : bi ≤ 1) (hsn : sn < 128) (htn : tn < 128) (hn : n < 40) (hy : fr n = some y) (hmf : mf < 187) (hmu : mu ≤ 127) (hlg : ∀ i, lg i ≤ 272) (hsd : ∀ i, sd i < 256) (hma : ma ≤ mu) (hmw : mw ≤ 60) (hg : ∀ i, i < 277 → g i < 256) (hfl : fl = false) (hc : ma = 0) (hc2 : mw = 0 ∨ mu = 127) (nlasa : la ≠ sa) : Met l yX6_send wsX6_send RM_X6_send_fill (mw_pre G M sz [.ref (h0), .int (nI (ed))]) (mw_Qi G M sz (nI (0)) (va_up (va_up (va_up (va_up (va_up M hu (some (.inr (5, [.ref (ub), .int (nI (5 + 0))])))) ub (some (.inl (G.2 1, 277, .inl (fun j => nI ((ubs g (tn + 128 * bi) (sn + 128 * fi) 0 0) j)))))) li (some (.inr (2, [.ref (fa), .int (nI (n + 1))])))) y (some (.inr (1, [.ref (w), .int (nI ((ufr (ubs g (tn + 128 * bi) (sn + 128 * fi) 0 0) f (5 + 0)).2.1 + 8))])))) w (some (.inl (G.2 2, 47, .inr (.inl (ffl (ufr (ubs g (tn + 128 * bi) (sn + 128 * fi) 0 0) f (5 + 0)).1 (ufr (ubs g (tn + 128 * bi) (sn + 128 * fi) 0 0) f (5 + 0)).2.1 8))))))) 0 0 (mw_A M sz) := by
  refine Met.ofW (cc := cX6_send) (maxL := 4) (ret := (some .int)) (by decide) rfl ?_
  intro p e s m args below meth c s₁ B hml hv
  obtain ⟨rfl, rfl, hC, hw⟩ := mw_in hv
  have hx := B.exec
  have hb := B.bytes
  have hr := B.returns
  have hts := atoms_spec (ws := wsX6_send) B.pre
  have hown : s.vm.findClass RX6 = some m.cls := findClass_of_methodNamed B.named
  have hlocks := B.notSynchronized
  have k_0 := hts (.fieldLink RX6 19 "LinkPair" "unit" "LLinkPair$Unit;") (by decide +kernel)
  have m0_7 : h0 ≠ hu := mw_ne e0 e7 (by intro h9; cases h9)
  have m0_8 : h0 ≠ ub := mw_ne e0 e8 (by intro h9; cases h9)
  have m2_7 : x ≠ hu := mw_ne e2 e7 (by intro h9; cases h9)
  have m2_8 : x ≠ ub := mw_ne e2 e8 (by intro h9; cases h9)
  have m3_5 : li ≠ y := mw_ne e3 e5 (by intro h9; cases h9)
  have m3_6 : li ≠ w := mw_ne e3 e6 (by intro h9; cases h9)
  have m3_7 : li ≠ hu := mw_ne e3 e7 (by intro h9; cases h9)
  have m3_8 : li ≠ ub := mw_ne e3 e8 (by intro h9; cases h9)
  have m4_7 : fa ≠ hu := mw_ne e4 e7 (by intro h9; cases h9)
  have m4_8 : fa ≠ ub := mw_ne e4 e8 (by simp)
  have m5_6 : y ≠ w := mw_ne e5 e6 (by intro h9; cases h9)
  have m5_7 : y ≠ hu := mw_ne e5 e7 (by intro h9; cases h9)
  have m5_8 : y ≠ ub := mw_ne e5 e8 (by intro h9; cases h9)
  have m6_7 : w ≠ hu := mw_ne e6 e7 (by intro h9; cases h9)
  have m6_8 : w ≠ ub := mw_ne e6 e8 (by simp)
  have m7_8 : hu ≠ ub := mw_ne e7 e8 (by intro h9; cases h9)
  have hl := lv_entry ([.ref (h0), .int (nI (ed))]) (n := 4) (Nat.le_of_ble_eq_true rfl)
  rw [lg_entry_eq]
  generalize (lg_sl ([.ref (h0), .int (nI (ed))]) ++ List.replicate (4 - (lg_sl ([.ref (h0), .int (nI (ed))])).length) Slot.unset).toArray = ls at hl ⊢
  have hl : lv_has ls 4 [(0, .ref (h0)), (1, .int (nI (ed)))] := hl
  refine mw_start (fun H locs hw => ?_) hw
  refine lv_aload_n hx hb dX6_send_0 rfl (lv_at hl 0 rfl) ?_
  refine lv_iload_n hx hb dX6_send_1 rfl (lv_at hl 1 rfl) ?_
  refine mw_cr hC hw (va_runV (As := [.int (nI (ed))]) (rest := []) ⟨hx, hb, hml, hown, hts⟩ (c_X6_endOf l G _ H.size h0 ea hu en ed x e0 e1 (by omega) (hen)) (cwV 1 hts gX6_send_X6_endOf rfl rfl rfl (by decide +kernel) ⟨Nat.le_of_ble_eq_true rfl, Nat.le_of_ble_eq_true rfl⟩) (mw_preV (ci := 6) hC hw rfl e0) rfl rfl hl.1 rfl (lv_room (Nat.le_of_ble_eq_true rfl)) dX6_send_2 ⟨Nat.le_of_ble_eq_true rfl, Nat.le_of_ble_eq_true rfl⟩) (fun H locs hz hw => ?_)
  refine lv_astore_n (lv' := [(2, .ref (x)), (0, .ref (h0)), (1, .int (nI (ed)))]) hx hb dX6_send_5 rfl hl (by decide) rfl (fun ls hl => ?_)
  refine lv_aload_n hx hb dX6_send_6 rfl (lv_at hl 0 rfl) ?_
  refine mw_getN (C := RX0) (T := TX0) (N := 12) (v := .int (nI (b2n fl))) hx hb hts inX6_send_X0 hown hC hw e2 rfl 9 (by decide) (show Cond.fieldLinkNest RX6 30 (TX0 9).1 (TX0 9).2.1 (TX0 9).2.2.1 "LinkPair" ∈ mw_nestF by decide +kernel) rfl dX6_send_7 ?_
  have hbz := b2n_le fl
  refine lv_if_ne (tgt := 23) hx hb dX6_send_10 (by decide) (fun c_1 => ?_) (fun c_1 => ?_)
  · skip
    have c_1 : b2n fl ≠ 0 := fun h => c_1 ((nI_eq (a := b2n fl) (b := 0) (by omega) (by omega)).mpr h)
    exfalso; rw [hfl] at *; simp_all [b2n]
  · skip
    have c_1 : b2n fl = 0 := (nI_eq (a := b2n fl) (b := 0) (by omega) (by omega)).mp c_1
    refine lv_aload_n hx hb dX6_send_13 rfl (lv_at hl 0 rfl) ?_
    refine mw_getN (C := RX0) (T := TX0) (N := 12) (v := .ref (li)) hx hb hts inX6_send_X0 hown hC hw e2 rfl 0 (by decide) (show Cond.fieldLinkNest RX6 51 (TX0 0).1 (TX0 0).2.1 (TX0 0).2.2.1 "LinkPair" ∈ mw_nestF by decide +kernel) rfl dX6_send_14 ?_
    refine mw_ci hC hw (va_runV (As := []) (rest := []) ⟨hx, hb, hml, hown, hts⟩ (c_X2_isFull l G _ H.size li fa n e3 (by omega)) (cwV 0 hts gX6_send_X2_isFull rfl rfl rfl (by decide +kernel) ⟨Nat.le_of_ble_eq_true rfl, Nat.le_of_ble_eq_true rfl⟩) (mw_preV (ci := 2) hC hw rfl e3) rfl rfl hl.1 rfl (lv_room (Nat.le_of_ble_eq_true rfl)) dX6_send_17 ⟨Nat.le_of_ble_eq_true rfl, Nat.le_of_ble_eq_true rfl⟩) (fun H locs hz hw => ?_)
    refine mw_ti (v' := nI (0)) (by rw [decide_eq_false (by omega)]; rfl) ?_
    refine lv_if_eq (tgt := 31) hx hb dX6_send_20 (by decide) (fun c_2 => ?_) (fun c_2 => ?_)
    · skip
      refine lv_aload_n hx hb dX6_send_31 rfl (lv_at hl 0 rfl) ?_
      refine lv_aload_n hx hb dX6_send_32 rfl (lv_at hl 1 rfl) ?_
      refine mw_get (C := RX6) (T := TX6) (N := 2) (v := .ref (hu)) hx hb hts inX6_send_X6 hown hC hw e0 rfl 1 (by decide) k_0 rfl dX6_send_33 ?_
      refine mw_ci hC hw (va_runV (As := [.ref (hu)]) (rest := []) ⟨hx, hb, hml, hown, hts⟩ (c_X0_nextUnit_fill l G _ H.size x li me so fi bi sn tn er un fl al ab hu ub c9 g la sa mf mu ma mw lg sd e2 e7 e8 e9 e10 e11 (by omega) (by omega) (by omega) (by omega) (by omega) (by omega) (hlg) (hsd) (by omega) (by omega) (hg) (by omega) (by omega) nlasa) (cwV 1 hts gX6_send_X0_nextUnit rfl rfl rfl (by decide +kernel) ⟨Nat.le_of_ble_eq_true rfl, Nat.le_of_ble_eq_true rfl⟩) (mw_preV (ci := 0) hC hw rfl e2) rfl rfl hl.1 rfl (lv_room (Nat.le_of_ble_eq_true rfl)) dX6_send_36 ⟨Nat.le_of_ble_eq_true rfl, Nat.le_of_ble_eq_true rfl⟩) (fun H locs hz hw => ?_)
      refine lv_istore_n (lv' := [(3, .int (nI (0))), (2, .ref (x)), (0, .ref (h0)), (1, .int (nI (ed)))]) hx hb dX6_send_39 rfl hl (by decide) rfl (fun ls hl => ?_)
      refine lv_aload_n hx hb dX6_send_40 rfl (lv_at hl 2 rfl) ?_
      refine mw_get (C := RX6) (T := TX6) (N := 2) (v := .ref (hu)) hx hb hts inX6_send_X6 hown hC hw (mw_u1 m0_8 (mw_u1 m0_7 e0)) rfl 1 (by decide) k_0 rfl dX6_send_41 ?_
      refine lv_aload_n hx hb dX6_send_44 rfl (lv_at hl 1 rfl) ?_
      refine mw_getN (C := RX0) (T := TX0) (N := 12) (v := .ref (li)) hx hb hts inX6_send_X0 hown hC hw (mw_u1 m2_8 (mw_u1 m2_7 e2)) rfl 0 (by decide) (show Cond.fieldLinkNest RX6 51 (TX0 0).1 (TX0 0).2.1 (TX0 0).2.2.1 "LinkPair" ∈ mw_nestF by decide +kernel) rfl dX6_send_45 ?_
      refine mw_cr hC hw (va_runV (As := []) (rest := [.ref (hu)]) ⟨hx, hb, hml, hown, hts⟩ (c_X2_open l G _ H.size li fa n fr y w q (mw_u1 m3_8 (mw_u1 m3_7 e3)) (mw_u1 m4_8 (mw_u1 m4_7 e4)) (mw_u1 m5_8 (mw_u1 m5_7 e5)) (by omega) (hy)) (cwV 0 hts gX6_send_X2_open rfl rfl rfl (by decide +kernel) ⟨Nat.le_of_ble_eq_true rfl, Nat.le_of_ble_eq_true rfl⟩) (mw_preV (ci := 2) hC hw rfl (mw_u1 m3_8 (mw_u1 m3_7 e3))) rfl rfl hl.1 rfl (lv_room (Nat.le_of_ble_eq_true rfl)) dX6_send_48 ⟨Nat.le_of_ble_eq_true rfl, Nat.le_of_ble_eq_true rfl⟩) (fun H locs hz hw => ?_)
      have hg3 := ubs_lt hg (show tn + 128 * bi < 256 by omega) (show sn + 128 * fi < 256 by omega) (show 0 ≤ 272 by first | omega | exact hlg _) 0
      have hl9 : 0 ≤ 272 := by first | omega | exact hlg _
      refine mw_cv hC hw (va_runV (As := [.ref (y)]) (rest := []) ⟨hx, hb, hml, hown, hts⟩ (c_X5_writeTo l G _ H.size hu ub (5 + 0) (ubs g (tn + 128 * bi) (sn + 128 * fi) 0 0) y w 0 f (mw_u1 (Ne.symm m5_7) (mw_u1 (Ne.symm m3_7) (mw_u1 m7_8 mw_u0))) (mw_u1 (Ne.symm m5_8) (mw_u1 (Ne.symm m3_8) mw_u0)) mw_u0 (mw_u1 (Ne.symm m5_6) (mw_u1 (Ne.symm m3_6) (mw_u1 m6_8 (mw_u1 m6_7 e6)))) (by omega) (by omega) (hg3) (by omega)) (cwV 1 hts gX6_send_X5_writeTo rfl rfl rfl (by decide +kernel) ⟨Nat.le_of_ble_eq_true rfl, Nat.le_of_ble_eq_true rfl⟩) (mw_preV (ci := 5) hC hw rfl (mw_u1 (Ne.symm m5_7) (mw_u1 (Ne.symm m3_7) (mw_u1 m7_8 mw_u0)))) rfl rfl hl.1 rfl (lv_room (Nat.le_of_ble_eq_true rfl)) dX6_send_51 ⟨Nat.le_of_ble_eq_true rfl, Nat.le_of_ble_eq_true rfl⟩) (fun H locs hz hw => ?_)
      refine lv_iload_n hx hb dX6_send_54 rfl (lv_at hl 0 rfl) ?_
      have hc_4 : (.inr (1, [.ref (w), .int (nI ((wts (ubs g (tn + 128 * bi) (sn + 128 * fi) 0 0) (ffl f 0 8) (0 + 8) (8 * (5 + 0))).2.1 + 8))]) : va_E) = .inr (1, [.ref (w), .int (nI ((ufr (ubs g (tn + 128 * bi) (sn + 128 * fi) 0 0) f (5 + 0)).2.1 + 8))]) := by first | rfl | (congr 2; omega) | simp_all
      have hc_5 : (.inl (G.2 2, 47, .inr (.inl (ffl (wts (ubs g (tn + 128 * bi) (sn + 128 * fi) 0 0) (ffl f 0 8) (0 + 8) (8 * (5 + 0))).1 (wts (ubs g (tn + 128 * bi) (sn + 128 * fi) 0 0) (ffl f 0 8) (0 + 8) (8 * (5 + 0))).2.1 8))) : va_E) = .inl (G.2 2, 47, .inr (.inl (ffl (ufr (ubs g (tn + 128 * bi) (sn + 128 * fi) 0 0) f (5 + 0)).1 (ufr (ubs g (tn + 128 * bi) (sn + 128 * fi) 0 0) f (5 + 0)).2.1 8))) := by first | rfl | (congr 2; omega) | simp_all
      have hw : mw_St G (mw_A M s.heap.size) s (va_up (va_up (va_up (va_up (va_up M hu (some (.inr (5, [.ref (ub), .int (nI (5 + 0))])))) ub (some (.inl (G.2 1, 277, .inl (fun j => nI ((ubs g (tn + 128 * bi) (sn + 128 * fi) 0 0) j)))))) li (some (.inr (2, [.ref (fa), .int (nI (n + 1))])))) y (some (.inr (1, [.ref (w), .int (nI ((ufr (ubs g (tn + 128 * bi) (sn + 128 * fi) 0 0) f (5 + 0)).2.1 + 8))])))) w (some (.inl (G.2 2, 47, .inr (.inl (ffl (ufr (ubs g (tn + 128 * bi) (sn + 128 * fi) 0 0) f (5 + 0)).1 (ufr (ubs g (tn + 128 * bi) (sn + 128 * fi) 0 0) f (5 + 0)).2.1 8)))))) H locs := hw.to (fun q8 x8 h8 => by
        by_cases b_6 : q8 = hu
        · rw [b_6] at h8 ⊢; exact (mw_u1 (Ne.symm m6_7) (mw_u1 (Ne.symm m5_7) (mw_u1 (Ne.symm m5_7) (mw_u1 (Ne.symm m3_7) (mw_u1 m7_8 mw_u0))))).trans (((mw_u1 (Ne.symm m6_7) (mw_u1 (Ne.symm m5_7) (mw_u1 (Ne.symm m3_7) (mw_u1 m7_8 mw_u0)))).symm.trans h8))
        by_cases b_7 : q8 = ub
        · rw [b_7] at h8 ⊢; exact (mw_u1 (Ne.symm m6_8) (mw_u1 (Ne.symm m5_8) (mw_u1 (Ne.symm m5_8) (mw_u1 (Ne.symm m3_8) mw_u0)))).trans (((mw_u1 (Ne.symm m6_8) (mw_u1 (Ne.symm m5_8) (mw_u1 (Ne.symm m3_8) mw_u0))).symm.trans h8))
        by_cases b_8 : q8 = li
        · rw [b_8] at h8 ⊢; exact (mw_u1 m3_6 (mw_u1 m3_5 (mw_u1 m3_5 mw_u0))).trans (((mw_u1 m3_6 (mw_u1 m3_5 mw_u0)).symm.trans h8))
        by_cases b_9 : q8 = y
        · rw [b_9] at h8 ⊢; exact (mw_u1 m5_6 mw_u0).trans ((congrArg some hc_4).trans ((mw_u1 m5_6 mw_u0).symm.trans h8))
        by_cases b_10 : q8 = w
        · rw [b_10] at h8 ⊢; exact mw_u0.trans ((congrArg some hc_5).trans (mw_u0.symm.trans h8))
        simp only [va_up_ne _ _ b_6, va_up_ne _ _ b_7, va_up_ne _ _ b_8, va_up_ne _ _ b_9, va_up_ne _ _ b_10] at h8 ⊢; exact h8)
      exact mw_iret hx hb hr hlocks hw (rfl) (fun _ _ h9 => h9) dX6_send_55
    · skip
      exact absurd c_2 (by decide)
