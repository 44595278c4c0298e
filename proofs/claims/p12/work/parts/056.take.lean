/-! ===== LinkPair.take ===== -/
def RM_X6_take_bade : Room := { frames := 7, cells := 1, slots := 6, locals := 102 }
set_option maxHeartbeats 4000000 in
set_option maxRecDepth 100000 in
theorem t_X6_take_bade (l : Launch) (hlt : l.stackTraces = false) (G : mw_G) (M : mw_M) (sz : Nat) (h0 ea hu : Nat) (en : Nat → Option Nat) (ed : Int32) (e0 : M h0 = some (.inr (6, [.ref (ea), .ref (hu)]))) (e1 : M ea = some (.inl (G.2 4, 2, .inr (.inr (.inr (.inr (en))))))) (hb1 : ed < 0 ∨ nI 1 < ed)  : vx_Met l yX6_take wsX6_take RM_X6_take_bade (mw_pre G M sz [.ref (h0), .int (ed)]) mw_no (mw_X G M sz exA M) 1 6 (mw_A M sz) := by
  refine vx_ofW (cc := cX6_take) (maxL := 6) (ret := (some .int)) (by decide) rfl ?_
  intro p e s m args below meth c s₁ B hml hex hv
  obtain ⟨rfl, rfl, hC, hw⟩ := mw_in hv
  have hx := B.exec
  have hb := B.bytes
  have hr := B.returns
  have hts := atoms_spec (ws := wsX6_take) B.pre
  have hown : s.vm.findClass RX6 = some m.cls := findClass_of_methodNamed B.named
  have hlocks := B.notSynchronized
  have hl := lv_entry ([.ref (h0), .int (ed)]) (n := 6) (Nat.le_of_ble_eq_true rfl)
  rw [lg_entry_eq]
  generalize (lg_sl ([.ref (h0), .int (ed)]) ++ List.replicate (6 - (lg_sl ([.ref (h0), .int (ed)])).length) Slot.unset).toArray = ls at hl ⊢
  have hl : lv_has ls 6 [(0, .ref (h0)), (1, .int (ed))] := hl
  refine mw_start (fun H locs hw => ?_) hw
  refine lv_aload_n hx hb dX6_take_0 rfl (lv_at hl 0 rfl) ?_
  refine lv_iload_n hx hb dX6_take_1 rfl (lv_at hl 1 rfl) ?_
  refine mw_ct hC hw (vx_runV (As := [.int (ed)]) (rest := []) ⟨hx, hb, hml, hown, hts⟩ (t_X6_endOf_bad l hlt G _ H.size h0 ea hu en ed e0 e1 (hb1)) (cwV 1 hts gX6_take_X6_endOf rfl rfl rfl (by decide +kernel) ⟨Nat.le_of_ble_eq_true rfl, Nat.le_of_ble_eq_true rfl⟩) (mw_preV (ci := 6) hC hw rfl e0) rfl rfl hl.1 rfl (lv_room (Nat.le_of_ble_eq_true rfl)) dX6_take_2 ⟨Nat.le_of_ble_eq_true rfl, Nat.le_of_ble_eq_true rfl⟩) (fun ce q9 H locs hw hce hcv hcl => ?_)
  exact mw_pass hlocks hex hw hce hcv hcl (Nat.le_of_ble_eq_true rfl) (Nat.le_of_ble_eq_true rfl)
theorem inexS_X6_take : ∀ w ∈ (vx_at0 RX6 46 exS exN).filter goodWord, w ∈ wsX6_take := by decide +kernel
theorem inX6_take_X6 : ∀ w ∈ wsX60, w ∈ wsX6_take := by decide +kernel
theorem inX6_take_X0 : ∀ w ∈ wsX00, w ∈ wsX6_take := by decide +kernel
theorem inX6_take_X2 : ∀ w ∈ wsX20, w ∈ wsX6_take := by decide +kernel
def RM_X6_take_bads : Room := { frames := 6, cells := 1, slots := 6, locals := 81 }
set_option maxHeartbeats 4000000 in
set_option maxRecDepth 100000 in
theorem t_X6_take_bads (l : Launch) (hlt : l.stackTraces = false) (G : mw_G) (M : mw_M) (sz : Nat) (h0 ea hu : Nat) (en : Nat → Option Nat) (ed : Nat) (x li me so fi bi sn tn er un : Nat) (fl al ab : Bool) (x2 li2 me2 so2 fi2 bi2 sn2 tn2 er2 un2 : Nat) (fl2 al2 ab2 : Bool) (fa n : Nat) (e0 : M h0 = some (.inr (6, [.ref (ea), .ref (hu)]))) (e1 : M ea = some (.inl (G.2 4, 2, .inr (.inr (.inr (.inr (en))))))) (e2 : M x = some (.inr (0, [.ref (li), .ref (me), .ref (so), .int (nI (fi)), .int (nI (bi)), .int (nI (sn)), .int (nI (tn)), .int (nI (er)), .int (nI (un)), .int (nI (b2n fl)), .int (nI (b2n al)), .int (nI (b2n ab))]))) (e3 : M x2 = some (.inr (0, [.ref (li2), .ref (me2), .ref (so2), .int (nI (fi2)), .int (nI (bi2)), .int (nI (sn2)), .int (nI (tn2)), .int (nI (er2)), .int (nI (un2)), .int (nI (b2n fl2)), .int (nI (b2n al2)), .int (nI (b2n ab2))]))) (e4 : M li2 = some (.inr (2, [.ref (fa), .int (nI (n))]))) (he : ed ≤ 1) (hen : en ed = some x) (hen2 : en (1 - ed) = some x2) (hn : n ≤ 40) (hb1 : fl = true ∨ n = 0)  : vx_Met l yX6_take wsX6_take RM_X6_take_bads (mw_pre G M sz [.ref (h0), .int (nI (ed))]) mw_no (mw_X G M sz exS M) 1 6 (mw_A M sz) := by
  refine vx_ofW (cc := cX6_take) (maxL := 6) (ret := (some .int)) (by decide) rfl ?_
  intro p e s m args below meth c s₁ B hml hex hv
  obtain ⟨rfl, rfl, hC, hw⟩ := mw_in hv
  have hx := B.exec
  have hb := B.bytes
  have hr := B.returns
  have hts := atoms_spec (ws := wsX6_take) B.pre
  have hown : s.vm.findClass RX6 = some m.cls := findClass_of_methodNamed B.named
  have hlocks := B.notSynchronized
  have k_0 := hts (.fieldLink RX6 12 "LinkPair" "ends" "[LLinkPair$End;") (by decide +kernel)
  have k_1 := hts (.classLink RX6 44 exS) (by decide +kernel)
  have k_2 := hts (.initialized exS) (by decide +kernel)
  have hl := lv_entry ([.ref (h0), .int (nI (ed))]) (n := 6) (Nat.le_of_ble_eq_true rfl)
  rw [lg_entry_eq]
  generalize (lg_sl ([.ref (h0), .int (nI (ed))]) ++ List.replicate (6 - (lg_sl ([.ref (h0), .int (nI (ed))])).length) Slot.unset).toArray = ls at hl ⊢
  have hl : lv_has ls 6 [(0, .ref (h0)), (1, .int (nI (ed)))] := hl
  refine mw_start (fun H locs hw => ?_) hw
  refine lv_aload_n hx hb dX6_take_0 rfl (lv_at hl 0 rfl) ?_
  refine lv_iload_n hx hb dX6_take_1 rfl (lv_at hl 1 rfl) ?_
  refine mw_cr hC hw (va_runV (As := [.int (nI (ed))]) (rest := []) ⟨hx, hb, hml, hown, hts⟩ (c_X6_endOf l G _ H.size h0 ea hu en ed x e0 e1 (by omega) (hen)) (cwV 1 hts gX6_take_X6_endOf rfl rfl rfl (by decide +kernel) ⟨Nat.le_of_ble_eq_true rfl, Nat.le_of_ble_eq_true rfl⟩) (mw_preV (ci := 6) hC hw rfl e0) rfl rfl hl.1 rfl (lv_room (Nat.le_of_ble_eq_true rfl)) dX6_take_2 ⟨Nat.le_of_ble_eq_true rfl, Nat.le_of_ble_eq_true rfl⟩) (fun H locs hz hw => ?_)
  refine lv_astore_n (lv' := [(2, .ref (x)), (0, .ref (h0)), (1, .int (nI (ed)))]) hx hb dX6_take_5 rfl hl (by decide) rfl (fun ls hl => ?_)
  refine lv_aload_n hx hb dX6_take_6 rfl (lv_at hl 1 rfl) ?_
  refine mw_get (C := RX6) (T := TX6) (N := 2) (v := .ref (ea)) hx hb hts inX6_take_X6 hown hC hw e0 rfl 0 (by decide) k_0 rfl dX6_take_7 ?_
  refine lv_iconst (v := nI 1) hx hb dX6_take_10 (by decide) ?_
  refine lv_iload_n hx hb dX6_take_11 rfl (lv_at hl 2 rfl) ?_
  refine lv_isub hx hb dX6_take_12 ?_
  refine mw_ti (v' := nI (1 - ed)) (pk_sub (by omega)) ?_
  refine mw_ealdN (n := 2) (f := en) (i := 1 - ed) hx hb hC hw e1 (by omega) (by decide) dX6_take_13 ?_
  refine mw_tr (v' := x2) (hen2) ?_
  refine mw_getN (C := RX0) (T := TX0) (N := 12) (v := .ref (li2)) hx hb hts inX6_take_X0 hown hC hw e3 rfl 0 (by decide) (show Cond.fieldLinkNest RX6 51 (TX0 0).1 (TX0 0).2.1 (TX0 0).2.2.1 "LinkPair" ∈ mw_nestF by decide +kernel) rfl dX6_take_14 ?_
  refine lv_astore_n (lv' := [(3, .ref (li2)), (2, .ref (x)), (0, .ref (h0)), (1, .int (nI (ed)))]) hx hb dX6_take_17 rfl hl (by decide) rfl (fun ls hl => ?_)
  refine lv_aload_n hx hb dX6_take_18 rfl (lv_at hl 1 rfl) ?_
  refine mw_getN (C := RX0) (T := TX0) (N := 12) (v := .int (nI (b2n fl))) hx hb hts inX6_take_X0 hown hC hw e2 rfl 9 (by decide) (show Cond.fieldLinkNest RX6 30 (TX0 9).1 (TX0 9).2.1 (TX0 9).2.2.1 "LinkPair" ∈ mw_nestF by decide +kernel) rfl dX6_take_19 ?_
  have hbz := b2n_le fl
  refine lv_if_ne (tgt := 32) hx hb dX6_take_22 (by decide) (fun c_1 => ?_) (fun c_1 => ?_)
  · skip
    have c_1 : b2n fl ≠ 0 := fun h => c_1 ((nI_eq (a := b2n fl) (b := 0) (by omega) (by omega)).mpr h)
    exact mw_throw hx hb hlt hown (by decide +kernel) k_1 k_2 (fun w h => hts w (inexS_X6_take w h)) exS_bad exS_ot hC hw (hl.1.trans hml.symm) hex dX6_take_32 dX6_take_35 dX6_take_36 dX6_take_39 (Nat.le_of_ble_eq_true rfl) (Nat.le_of_ble_eq_true rfl) (Nat.le_of_ble_eq_true rfl) (Nat.le_of_ble_eq_true rfl) hlocks (Nat.le_of_ble_eq_true rfl) (Nat.le_of_ble_eq_true rfl)
  · skip
    have c_1 : b2n fl = 0 := (nI_eq (a := b2n fl) (b := 0) (by omega) (by omega)).mp c_1
    refine lv_aload_n hx hb dX6_take_25 rfl (lv_at hl 0 rfl) ?_
    refine mw_getN (C := RX2) (T := TX2) (N := 2) (v := .int (nI (n))) hx hb hts inX6_take_X2 hown hC hw e4 rfl 1 (by decide) (show Cond.fieldLinkNest RX6 73 (TX2 1).1 (TX2 1).2.1 (TX2 1).2.2.1 "LinkPair" ∈ mw_nestF by decide +kernel) rfl dX6_take_26 ?_
    refine lv_if_ne (tgt := 40) hx hb dX6_take_29 (by decide) (fun c_2 => ?_) (fun c_2 => ?_)
    · skip
      have c_2 : n ≠ 0 := fun h => c_2 ((nI_eq (a := n) (b := 0) (by omega) (by omega)).mpr h)
      exact hb1.elim (fun h => by rw [h] at *; simp_all [b2n]) (fun h => by omega)
    · skip
      have c_2 : n = 0 := (nI_eq (a := n) (b := 0) (by omega) (by omega)).mp c_2
      exact mw_throw hx hb hlt hown (by decide +kernel) k_1 k_2 (fun w h => hts w (inexS_X6_take w h)) exS_bad exS_ot hC hw (hl.1.trans hml.symm) hex dX6_take_32 dX6_take_35 dX6_take_36 dX6_take_39 (Nat.le_of_ble_eq_true rfl) (Nat.le_of_ble_eq_true rfl) (Nat.le_of_ble_eq_true rfl) (Nat.le_of_ble_eq_true rfl) hlocks (Nat.le_of_ble_eq_true rfl) (Nat.le_of_ble_eq_true rfl)
def RM_X6_take_fault : Room := { frames := 4, cells := 0, slots := 0, locals := 86 }
set_option maxHeartbeats 4000000 in
set_option maxRecDepth 100000 in
theorem c_X6_take_fault (l : Launch) (G : mw_G) (M : mw_M) (sz : Nat) (h0 ea hu : Nat) (en : Nat → Option Nat) (ed : Nat) (x li me so fi bi sn tn er un : Nat) (fl al ab : Bool) (x2 li2 me2 so2 fi2 bi2 sn2 tn2 er2 un2 : Nat) (fl2 al2 ab2 : Bool) (fa n : Nat) (fr : Nat → Option Nat) (ya : Nat → Nat) (w q : Nat) (f : Nat → Int64) (ub c9 : Nat) (g : Nat → Nat) (la sa mf mu ma mw : Nat) (lg : Nat → Nat) (ba sl t : Nat) (bg ll : Nat → Nat) (e0 : M h0 = some (.inr (6, [.ref (ea), .ref (hu)]))) (e1 : M ea = some (.inl (G.2 4, 2, .inr (.inr (.inr (.inr (en))))))) (e2 : M x = some (.inr (0, [.ref (li), .ref (me), .ref (so), .int (nI (fi)), .int (nI (bi)), .int (nI (sn)), .int (nI (tn)), .int (nI (er)), .int (nI (un)), .int (nI (b2n fl)), .int (nI (b2n al)), .int (nI (b2n ab))]))) (e3 : M x2 = some (.inr (0, [.ref (li2), .ref (me2), .ref (so2), .int (nI (fi2)), .int (nI (bi2)), .int (nI (sn2)), .int (nI (tn2)), .int (nI (er2)), .int (nI (un2)), .int (nI (b2n fl2)), .int (nI (b2n al2)), .int (nI (b2n ab2))]))) (e4 : M li2 = some (.inr (2, [.ref (fa), .int (nI (n))]))) (e5 : M fa = some (.inl (G.2 5, 40, .inr (.inr (.inr (.inr (fr))))))) (e6 : M (ya 0) = some (.inr (1, [.ref (w), .int (nI (q))]))) (e7 : M w = some (.inl (G.2 2, 47, .inr (.inl (f))))) (e8 : M hu = some (.inr (5, [.ref (ub), .int (nI (c9))]))) (e9 : M ub = some (.inl (G.2 1, 277, .inl (fun j => nI (g j))))) (e10 : M me = some (.inr (3, [.ref (la), .ref (sa), .int (nI (mf)), .int (nI (mu)), .int (nI (ma)), .int (nI (mw))]))) (e11 : M la = some (.inl (G.2 1, 187, .inl (fun j => nI (lg j))))) (e12 : M so = some (.inr (4, [.ref (ba), .ref (sl), .int (nI (t))]))) (e13 : M ba = some (.inl (G.2 0, 13600, .inl (fun j => sb_b (bg j))))) (e14 : M sl = some (.inl (G.2 1, 50, .inl (fun j => nI (ll j))))) (he : ed ≤ 1) (hen : en ed = some x) (hen2 : en (1 - ed) = some x2) (hn : n ≤ 40) (hn0 : 0 < n) (hya : ∀ i, i < 40 → fr i = some (ya i)) (hvv : ∀ i, i < 40 → ∃ vs, M (ya i) = some (.inr (1, vs))) (hq : q ≤ 3000) (hg : ∀ i, i < 277 → g i < 256) (hfl : fl = false) (hun : un < 100000) (her : er ≤ 64) (hft : 0 < (rdT f q g c9).1) (nxx2 : x ≠ x2) : Met l yX6_take wsX6_take RM_X6_take_fault (mw_pre G M sz [.ref (h0), .int (nI (ed))]) (mw_Qi G M sz (if 64 ≤ lk er un + 1 then -(nI (rdT f q g c9).1) - nI 10 else -(nI (rdT f q g c9).1)) (va_up (va_up (va_up (va_up (va_up M hu (some (.inr (5, [.ref (ub), .int (nI ((rdT f q g c9).2.1))])))) ub (some (.inl (G.2 1, 277, .inl (fun j => nI (((rdT f q g c9).2.2) j)))))) li2 (some (.inr (2, [.ref (fa), .int (nI (n - 1))])))) fa (some (.inl (G.2 5, 40, .inr (.inr (.inr (.inr (va_up (lsh fr 0 (n - 1)) (n - 1) (some (ya 0)))))))))) x (some (.inr (0, [.ref (li), .ref (me), .ref (so), .int (nI (fi)), .int (nI (bi)), .int (nI (sn)), .int (nI (tn)), .int (nI (lk er un + 1)), .int (nI (un + 1)), .int (nI (b2n (decide (64 ≤ lk er un + 1)))), .int (nI (b2n al)), .int (nI (b2n ab))]))))) 0 0 (mw_A M sz) := by
  refine Met.ofW (cc := cX6_take) (maxL := 6) (ret := (some .int)) (by decide) rfl ?_
  intro p e s m args below meth c s₁ B hml hv
  obtain ⟨rfl, rfl, hC, hw⟩ := mw_in hv
  have hx := B.exec
  have hb := B.bytes
  have hr := B.returns
  have hts := atoms_spec (ws := wsX6_take) B.pre
  have hown : s.vm.findClass RX6 = some m.cls := findClass_of_methodNamed B.named
  have hlocks := B.notSynchronized
  have k_0 := hts (.fieldLink RX6 12 "LinkPair" "ends" "[LLinkPair$End;") (by decide +kernel)
  have k_1 := hts (.fieldLink RX6 19 "LinkPair" "unit" "LLinkPair$Unit;") (by decide +kernel)
  have m0_4 : h0 ≠ li2 := mw_ne e0 e4 (by intro h9; cases h9)
  have m0_5 : h0 ≠ fa := mw_ne e0 e5 (by intro h9; cases h9)
  have m0_8 : h0 ≠ hu := mw_ne e0 e8 (by intro h9; cases h9)
  have m0_9 : h0 ≠ ub := mw_ne e0 e9 (by intro h9; cases h9)
  have m2_4 : x ≠ li2 := mw_ne e2 e4 (by intro h9; cases h9)
  have m2_5 : x ≠ fa := mw_ne e2 e5 (by intro h9; cases h9)
  have m2_8 : x ≠ hu := mw_ne e2 e8 (by intro h9; cases h9)
  have m2_9 : x ≠ ub := mw_ne e2 e9 (by intro h9; cases h9)
  have m4_8 : li2 ≠ hu := mw_ne e4 e8 (by intro h9; cases h9)
  have m4_9 : li2 ≠ ub := mw_ne e4 e9 (by intro h9; cases h9)
  have m4_10 : li2 ≠ me := mw_ne e4 e10 (by intro h9; cases h9)
  have m4_11 : li2 ≠ la := mw_ne e4 e11 (by intro h9; cases h9)
  have m4_12 : li2 ≠ so := mw_ne e4 e12 (by intro h9; cases h9)
  have m4_13 : li2 ≠ ba := mw_ne e4 e13 (by intro h9; cases h9)
  have m4_14 : li2 ≠ sl := mw_ne e4 e14 (by intro h9; cases h9)
  have m5_8 : fa ≠ hu := mw_ne e5 e8 (by intro h9; cases h9)
  have m5_9 : fa ≠ ub := mw_ne e5 e9 (by simp)
  have m5_10 : fa ≠ me := mw_ne e5 e10 (by intro h9; cases h9)
  have m5_11 : fa ≠ la := mw_ne e5 e11 (by simp)
  have m5_12 : fa ≠ so := mw_ne e5 e12 (by intro h9; cases h9)
  have m5_13 : fa ≠ ba := mw_ne e5 e13 (by simp)
  have m5_14 : fa ≠ sl := mw_ne e5 e14 (by simp)
  have m8_9 : hu ≠ ub := mw_ne e8 e9 (by intro h9; cases h9)
  have m8_10 : hu ≠ me := mw_ne e8 e10 (by intro h9; cases h9)
  have m8_11 : hu ≠ la := mw_ne e8 e11 (by intro h9; cases h9)
  have m8_12 : hu ≠ so := mw_ne e8 e12 (by intro h9; cases h9)
  have m8_13 : hu ≠ ba := mw_ne e8 e13 (by intro h9; cases h9)
  have m8_14 : hu ≠ sl := mw_ne e8 e14 (by intro h9; cases h9)
  have m9_10 : ub ≠ me := mw_ne e9 e10 (by intro h9; cases h9)
  have m9_11 : ub ≠ la := mw_ne e9 e11 (by simp)
  have m9_12 : ub ≠ so := mw_ne e9 e12 (by intro h9; cases h9)
  have m9_13 : ub ≠ ba := mw_ne e9 e13 (by simp)
  have m9_14 : ub ≠ sl := mw_ne e9 e14 (by simp)
  have hl := lv_entry ([.ref (h0), .int (nI (ed))]) (n := 6) (Nat.le_of_ble_eq_true rfl)
  rw [lg_entry_eq]
  generalize (lg_sl ([.ref (h0), .int (nI (ed))]) ++ List.replicate (6 - (lg_sl ([.ref (h0), .int (nI (ed))])).length) Slot.unset).toArray = ls at hl ⊢
  have hl : lv_has ls 6 [(0, .ref (h0)), (1, .int (nI (ed)))] := hl
  refine mw_start (fun H locs hw => ?_) hw
  have hrl := rdT_le (f := f) (g := g) q c9
  have hrg := rdT_lt (f := f) hg q c9
  have hfb := b2n_le fl
  refine lv_aload_n hx hb dX6_take_0 rfl (lv_at hl 0 rfl) ?_
  refine lv_iload_n hx hb dX6_take_1 rfl (lv_at hl 1 rfl) ?_
  refine mw_cr hC hw (va_runV (As := [.int (nI (ed))]) (rest := []) ⟨hx, hb, hml, hown, hts⟩ (c_X6_endOf l G _ H.size h0 ea hu en ed x e0 e1 (by omega) (hen)) (cwV 1 hts gX6_take_X6_endOf rfl rfl rfl (by decide +kernel) ⟨Nat.le_of_ble_eq_true rfl, Nat.le_of_ble_eq_true rfl⟩) (mw_preV (ci := 6) hC hw rfl e0) rfl rfl hl.1 rfl (lv_room (Nat.le_of_ble_eq_true rfl)) dX6_take_2 ⟨Nat.le_of_ble_eq_true rfl, Nat.le_of_ble_eq_true rfl⟩) (fun H locs hz hw => ?_)
  refine lv_astore_n (lv' := [(2, .ref (x)), (0, .ref (h0)), (1, .int (nI (ed)))]) hx hb dX6_take_5 rfl hl (by decide) rfl (fun ls hl => ?_)
  refine lv_aload_n hx hb dX6_take_6 rfl (lv_at hl 1 rfl) ?_
  refine mw_get (C := RX6) (T := TX6) (N := 2) (v := .ref (ea)) hx hb hts inX6_take_X6 hown hC hw e0 rfl 0 (by decide) k_0 rfl dX6_take_7 ?_
  refine lv_iconst (v := nI 1) hx hb dX6_take_10 (by decide) ?_
  refine lv_iload_n hx hb dX6_take_11 rfl (lv_at hl 2 rfl) ?_
  refine lv_isub hx hb dX6_take_12 ?_
  refine mw_ti (v' := nI (1 - ed)) (pk_sub (by omega)) ?_
  refine mw_ealdN (n := 2) (f := en) (i := 1 - ed) hx hb hC hw e1 (by omega) (by decide) dX6_take_13 ?_
  refine mw_tr (v' := x2) (hen2) ?_
  refine mw_getN (C := RX0) (T := TX0) (N := 12) (v := .ref (li2)) hx hb hts inX6_take_X0 hown hC hw e3 rfl 0 (by decide) (show Cond.fieldLinkNest RX6 51 (TX0 0).1 (TX0 0).2.1 (TX0 0).2.2.1 "LinkPair" ∈ mw_nestF by decide +kernel) rfl dX6_take_14 ?_
  refine lv_astore_n (lv' := [(3, .ref (li2)), (2, .ref (x)), (0, .ref (h0)), (1, .int (nI (ed)))]) hx hb dX6_take_17 rfl hl (by decide) rfl (fun ls hl => ?_)
  refine lv_aload_n hx hb dX6_take_18 rfl (lv_at hl 1 rfl) ?_
  refine mw_getN (C := RX0) (T := TX0) (N := 12) (v := .int (nI (b2n fl))) hx hb hts inX6_take_X0 hown hC hw e2 rfl 9 (by decide) (show Cond.fieldLinkNest RX6 30 (TX0 9).1 (TX0 9).2.1 (TX0 9).2.2.1 "LinkPair" ∈ mw_nestF by decide +kernel) rfl dX6_take_19 ?_
  refine lv_if_ne (tgt := 32) hx hb dX6_take_22 (by decide) (fun c_1 => ?_) (fun c_1 => ?_)
  · skip
    have c_1 : b2n fl ≠ 0 := fun h => c_1 ((nI_eq (a := b2n fl) (b := 0) (by omega) (by omega)).mpr h)
    exfalso; rw [hfl] at *; simp_all [b2n]
  · skip
    have c_1 : b2n fl = 0 := (nI_eq (a := b2n fl) (b := 0) (by omega) (by omega)).mp c_1
    refine lv_aload_n hx hb dX6_take_25 rfl (lv_at hl 0 rfl) ?_
    refine mw_getN (C := RX2) (T := TX2) (N := 2) (v := .int (nI (n))) hx hb hts inX6_take_X2 hown hC hw e4 rfl 1 (by decide) (show Cond.fieldLinkNest RX6 73 (TX2 1).1 (TX2 1).2.1 (TX2 1).2.2.1 "LinkPair" ∈ mw_nestF by decide +kernel) rfl dX6_take_26 ?_
    refine lv_if_ne (tgt := 40) hx hb dX6_take_29 (by decide) (fun c_2 => ?_) (fun c_2 => ?_)
    · skip
      have c_2 : n ≠ 0 := fun h => c_2 ((nI_eq (a := n) (b := 0) (by omega) (by omega)).mpr h)
      refine lv_aload_n hx hb dX6_take_40 rfl (lv_at hl 2 rfl) ?_
      refine mw_get (C := RX6) (T := TX6) (N := 2) (v := .ref (hu)) hx hb hts inX6_take_X6 hown hC hw e0 rfl 1 (by decide) k_1 rfl dX6_take_41 ?_
      refine lv_aload_n hx hb dX6_take_44 rfl (lv_at hl 0 rfl) ?_
      refine mw_getN (C := RX2) (T := TX2) (N := 2) (v := .ref (fa)) hx hb hts inX6_take_X2 hown hC hw e4 rfl 0 (by decide) (show Cond.fieldLinkNest RX6 76 (TX2 0).1 (TX2 0).2.1 (TX2 0).2.2.1 "LinkPair" ∈ mw_nestF by decide +kernel) rfl dX6_take_45 ?_
      refine lv_iconst (v := nI 0) hx hb dX6_take_48 (by decide) ?_
      refine mw_faldN (n := 40) (f := fr) (i := 0) hx hb hC hw e5 (by omega) (by decide) dX6_take_49 ?_
      refine mw_tr (v' := ya 0) (hya 0 (by omega)) ?_
      refine mw_ci hC hw (va_runV (As := [.ref (ya 0)]) (rest := []) ⟨hx, hb, hml, hown, hts⟩ (c_X5_readFrom l G _ H.size hu ub c9 g (ya 0) w q f e8 e9 e6 e7 (by omega) (hg)) (cwV 1 hts gX6_take_X5_readFrom rfl rfl rfl (by decide +kernel) ⟨Nat.le_of_ble_eq_true rfl, Nat.le_of_ble_eq_true rfl⟩) (mw_preV (ci := 5) hC hw rfl e8) rfl rfl hl.1 rfl (lv_room (Nat.le_of_ble_eq_true rfl)) dX6_take_50 ⟨Nat.le_of_ble_eq_true rfl, Nat.le_of_ble_eq_true rfl⟩) (fun H locs hz hw => ?_)
      refine lv_istore (lv' := [(4, .int (nI ((rdT f q g c9).1))), (3, .ref (li2)), (2, .ref (x)), (0, .ref (h0)), (1, .int (nI (ed)))]) hx hb dX6_take_53 hl (by decide) rfl (fun ls hl => ?_)
      refine lv_aload_n hx hb dX6_take_55 rfl (lv_at hl 1 rfl) ?_
      refine lv_iconst (v := nI 0) hx hb dX6_take_56 (by decide) ?_
      refine mw_cv hC hw (va_runV (As := [.int (nI (0))]) (rest := []) ⟨hx, hb, hml, hown, hts⟩ (c_X2_lose l G _ H.size li2 fa n fr ya 0 (mw_u1 m4_9 (mw_u1 m4_8 e4)) (mw_u1 m5_9 (mw_u1 m5_8 e5)) (by omega) (by omega) (hya) (fun i hi => by obtain ⟨vs, h⟩ := hvv i hi; exact ⟨vs, mw_u1 (mw_ne h e9 (by intro h9; cases h9)) (mw_u1 (mw_ne h e8 (by intro h9; cases h9)) h)⟩)) (cwV 1 hts gX6_take_X2_lose rfl rfl rfl (by decide +kernel) ⟨Nat.le_of_ble_eq_true rfl, Nat.le_of_ble_eq_true rfl⟩) (mw_preV (ci := 2) hC hw rfl (mw_u1 m4_9 (mw_u1 m4_8 e4))) rfl rfl hl.1 rfl (lv_room (Nat.le_of_ble_eq_true rfl)) dX6_take_57 ⟨Nat.le_of_ble_eq_true rfl, Nat.le_of_ble_eq_true rfl⟩) (fun H locs hz hw => ?_)
      refine lv_aload_n hx hb dX6_take_60 rfl (lv_at hl 2 rfl) ?_
      refine lv_aload_n hx hb dX6_take_61 rfl (lv_at hl 3 rfl) ?_
      refine mw_get (C := RX6) (T := TX6) (N := 2) (v := .ref (hu)) hx hb hts inX6_take_X6 hown hC hw (mw_u1 m0_5 (mw_u1 m0_4 (mw_u1 m0_9 (mw_u1 m0_8 e0)))) rfl 1 (by decide) k_1 rfl dX6_take_62 ?_
      refine lv_iload hx hb dX6_take_65 (lv_at hl 0 rfl) ?_
      refine mw_ci hC hw (va_runV (As := [.ref (hu), .int (nI ((rdT f q g c9).1))]) (rest := []) ⟨hx, hb, hml, hown, hts⟩ (c_X0_takeUnit_fault l G _ H.size x li me so fi bi sn tn er un fl al ab la sa mf mu ma mw lg ba sl t bg ll hu ub ((rdT f q g c9).2.1) ((rdT f q g c9).2.2) ((rdT f q g c9).1) (mw_u1 m2_5 (mw_u1 m2_4 (mw_u1 m2_9 (mw_u1 m2_8 e2)))) (mw_u1 (Ne.symm m5_10) (mw_u1 (Ne.symm m4_10) (mw_u1 (Ne.symm m9_10) (mw_u1 (Ne.symm m8_10) e10)))) (mw_u1 (Ne.symm m5_11) (mw_u1 (Ne.symm m4_11) (mw_u1 (Ne.symm m9_11) (mw_u1 (Ne.symm m8_11) e11)))) (mw_u1 (Ne.symm m5_12) (mw_u1 (Ne.symm m4_12) (mw_u1 (Ne.symm m9_12) (mw_u1 (Ne.symm m8_12) e12)))) (mw_u1 (Ne.symm m5_13) (mw_u1 (Ne.symm m4_13) (mw_u1 (Ne.symm m9_13) (mw_u1 (Ne.symm m8_13) e13)))) (mw_u1 (Ne.symm m5_14) (mw_u1 (Ne.symm m4_14) (mw_u1 (Ne.symm m9_14) (mw_u1 (Ne.symm m8_14) e14)))) (mw_u1 (Ne.symm m5_8) (mw_u1 (Ne.symm m4_8) (mw_u1 m8_9 mw_u0))) (mw_u1 (Ne.symm m5_9) (mw_u1 (Ne.symm m4_9) mw_u0)) (by omega) (by omega) (by omega) (by omega)) (cwV 2 hts gX6_take_X0_takeUnit rfl rfl rfl (by decide +kernel) ⟨Nat.le_of_ble_eq_true rfl, Nat.le_of_ble_eq_true rfl⟩) (mw_preV (ci := 0) hC hw rfl (mw_u1 m2_5 (mw_u1 m2_4 (mw_u1 m2_9 (mw_u1 m2_8 e2))))) rfl rfl hl.1 rfl (lv_room (Nat.le_of_ble_eq_true rfl)) dX6_take_67 ⟨Nat.le_of_ble_eq_true rfl, Nat.le_of_ble_eq_true rfl⟩) (fun H locs hz hw => ?_)
      refine lv_istore (lv' := [(5, .int (-(nI (((rdT f q g c9).1))))), (4, .int (nI ((rdT f q g c9).1))), (3, .ref (li2)), (2, .ref (x)), (0, .ref (h0)), (1, .int (nI (ed)))]) hx hb dX6_take_70 hl (by decide) rfl (fun ls hl => ?_)
      refine lv_aload_n hx hb dX6_take_72 rfl (lv_at hl 3 rfl) ?_
      refine mw_getN (C := RX0) (T := TX0) (N := 12) (v := .int (nI (b2n (decide (64 ≤ lk er un + 1))))) hx hb hts inX6_take_X0 hown hC hw mw_u0 rfl 9 (by decide) (show Cond.fieldLinkNest RX6 30 (TX0 9).1 (TX0 9).2.1 (TX0 9).2.2.1 "LinkPair" ∈ mw_nestF by decide +kernel) rfl dX6_take_73 ?_
      have hbz := b2n_le (decide (64 ≤ lk er un + 1))
      refine lv_if_eq (tgt := 87) hx hb dX6_take_76 (by decide) (fun c_3 => ?_) (fun c_3 => ?_)
      · skip
        have c_3 : b2n (decide (64 ≤ lk er un + 1)) = 0 := (nI_eq (a := b2n (decide (64 ≤ lk er un + 1))) (b := 0) (by omega) (by omega)).mp c_3
        have h64 : ¬ 64 ≤ lk er un + 1 := fun h => by rw [decide_eq_true h] at *; simp_all [b2n]
        refine lv_iload hx hb dX6_take_87 (lv_at hl 0 rfl) ?_
        exact mw_iret hx hb hr hlocks hw (by first | (rw [if_pos h64]; done) | rw [if_neg h64]) (fun _ _ h9 => h9) dX6_take_89
      · skip
        have c_3 : b2n (decide (64 ≤ lk er un + 1)) ≠ 0 := fun h => c_3 ((nI_eq (a := b2n (decide (64 ≤ lk er un + 1))) (b := 0) (by omega) (by omega)).mpr h)
        have h64 : 64 ≤ lk er un + 1 := Decidable.byContradiction (fun h => by rw [decide_eq_false h] at *; simp_all [b2n])
        refine lv_iload hx hb dX6_take_79 (lv_at hl 0 rfl) ?_
        refine lv_bipush (v := nI 10) hx hb dX6_take_81 (by decide) ?_
        refine lv_isub hx hb dX6_take_83 ?_
        refine mw_ti (v' := -(nI (((rdT f q g c9).1))) - nI 10) (rfl) ?_
        refine lv_goto (tgt := 89) hx hb dX6_take_84 (by decide) ?_
        exact mw_iret hx hb hr hlocks hw (by first | (rw [if_pos h64]; done) | rw [if_neg h64]) (fun _ _ h9 => h9) dX6_take_89
    · skip
      have c_2 : n = 0 := (nI_eq (a := n) (b := 0) (by omega) (by omega)).mp c_2
      exfalso; omega
def RM_X6_take_abn : Room := { frames := 4, cells := 0, slots := 0, locals := 86 }
set_option maxHeartbeats 4000000 in
set_option maxRecDepth 100000 in
theorem c_X6_take_abn (l : Launch) (G : mw_G) (M : mw_M) (sz : Nat) (h0 ea hu : Nat) (en : Nat → Option Nat) (ed : Nat) (x li me so fi bi sn tn er un : Nat) (fl al ab : Bool) (x2 li2 me2 so2 fi2 bi2 sn2 tn2 er2 un2 : Nat) (fl2 al2 ab2 : Bool) (fa n : Nat) (fr : Nat → Option Nat) (ya : Nat → Nat) (w q : Nat) (f : Nat → Int64) (ub c9 : Nat) (g : Nat → Nat) (la sa mf mu ma mw : Nat) (lg : Nat → Nat) (ba sl t : Nat) (bg ll : Nat → Nat) (e0 : M h0 = some (.inr (6, [.ref (ea), .ref (hu)]))) (e1 : M ea = some (.inl (G.2 4, 2, .inr (.inr (.inr (.inr (en))))))) (e2 : M x = some (.inr (0, [.ref (li), .ref (me), .ref (so), .int (nI (fi)), .int (nI (bi)), .int (nI (sn)), .int (nI (tn)), .int (nI (er)), .int (nI (un)), .int (nI (b2n fl)), .int (nI (b2n al)), .int (nI (b2n ab))]))) (e3 : M x2 = some (.inr (0, [.ref (li2), .ref (me2), .ref (so2), .int (nI (fi2)), .int (nI (bi2)), .int (nI (sn2)), .int (nI (tn2)), .int (nI (er2)), .int (nI (un2)), .int (nI (b2n fl2)), .int (nI (b2n al2)), .int (nI (b2n ab2))]))) (e4 : M li2 = some (.inr (2, [.ref (fa), .int (nI (n))]))) (e5 : M fa = some (.inl (G.2 5, 40, .inr (.inr (.inr (.inr (fr))))))) (e6 : M (ya 0) = some (.inr (1, [.ref (w), .int (nI (q))]))) (e7 : M w = some (.inl (G.2 2, 47, .inr (.inl (f))))) (e8 : M hu = some (.inr (5, [.ref (ub), .int (nI (c9))]))) (e9 : M ub = some (.inl (G.2 1, 277, .inl (fun j => nI (g j))))) (e10 : M me = some (.inr (3, [.ref (la), .ref (sa), .int (nI (mf)), .int (nI (mu)), .int (nI (ma)), .int (nI (mw))]))) (e11 : M la = some (.inl (G.2 1, 187, .inl (fun j => nI (lg j))))) (e12 : M so = some (.inr (4, [.ref (ba), .ref (sl), .int (nI (t))]))) (e13 : M ba = some (.inl (G.2 0, 13600, .inl (fun j => sb_b (bg j))))) (e14 : M sl = some (.inl (G.2 1, 50, .inl (fun j => nI (ll j))))) (he : ed ≤ 1) (hen : en ed = some x) (hen2 : en (1 - ed) = some x2) (hn : n ≤ 40) (hn0 : 0 < n) (hya : ∀ i, i < 40 → fr i = some (ya i)) (hvv : ∀ i, i < 40 → ∃ vs, M (ya i) = some (.inr (1, vs))) (hq : q ≤ 3000) (hg : ∀ i, i < 277 → g i < 256) (hfl : fl = false) (hun : un < 100000) (her : er ≤ 64) (hft : (rdT f q g c9).1 = 0) (hsn : sn < 128) (hmu : mu ≤ 127) (hab : mu < ((rdT f q g c9).2.2 0 % 128 + mu + 128 - sn) % 128) (nxx2 : x ≠ x2) : Met l yX6_take wsX6_take RM_X6_take_abn (mw_pre G M sz [.ref (h0), .int (nI (ed))]) (mw_Qi G M sz (if (al || ab) = true then nI 3 - nI 10 else nI 3) (va_up (va_up (va_up (va_up (va_up M hu (some (.inr (5, [.ref (ub), .int (nI ((rdT f q g c9).2.1))])))) ub (some (.inl (G.2 1, 277, .inl (fun j => nI (((rdT f q g c9).2.2) j)))))) li2 (some (.inr (2, [.ref (fa), .int (nI (n - 1))])))) fa (some (.inl (G.2 5, 40, .inr (.inr (.inr (.inr (va_up (lsh fr 0 (n - 1)) (n - 1) (some (ya 0)))))))))) x (some (.inr (0, [.ref (li), .ref (me), .ref (so), .int (nI (fi)), .int (nI (bi)), .int (nI (sn)), .int (nI (tn)), .int (nI (lk er un)), .int (nI (un + 1)), .int (nI (b2n (al || ab))), .int (nI (1)), .int (nI (b2n al))]))))) 0 0 (mw_A M sz) := by
  refine Met.ofW (cc := cX6_take) (maxL := 6) (ret := (some .int)) (by decide) rfl ?_
  intro p e s m args below meth c s₁ B hml hv
  obtain ⟨rfl, rfl, hC, hw⟩ := mw_in hv
  have hx := B.exec
  have hb := B.bytes
  have hr := B.returns
  have hts := atoms_spec (ws := wsX6_take) B.pre
  have hown : s.vm.findClass RX6 = some m.cls := findClass_of_methodNamed B.named
  have hlocks := B.notSynchronized
  have k_0 := hts (.fieldLink RX6 12 "LinkPair" "ends" "[LLinkPair$End;") (by decide +kernel)
  have k_1 := hts (.fieldLink RX6 19 "LinkPair" "unit" "LLinkPair$Unit;") (by decide +kernel)
  have m0_4 : h0 ≠ li2 := mw_ne e0 e4 (by intro h9; cases h9)
  have m0_5 : h0 ≠ fa := mw_ne e0 e5 (by intro h9; cases h9)
  have m0_8 : h0 ≠ hu := mw_ne e0 e8 (by intro h9; cases h9)
  have m0_9 : h0 ≠ ub := mw_ne e0 e9 (by intro h9; cases h9)
  have m2_4 : x ≠ li2 := mw_ne e2 e4 (by intro h9; cases h9)
  have m2_5 : x ≠ fa := mw_ne e2 e5 (by intro h9; cases h9)
  have m2_8 : x ≠ hu := mw_ne e2 e8 (by intro h9; cases h9)
  have m2_9 : x ≠ ub := mw_ne e2 e9 (by intro h9; cases h9)
  have m4_8 : li2 ≠ hu := mw_ne e4 e8 (by intro h9; cases h9)
  have m4_9 : li2 ≠ ub := mw_ne e4 e9 (by intro h9; cases h9)
  have m4_10 : li2 ≠ me := mw_ne e4 e10 (by intro h9; cases h9)
  have m4_11 : li2 ≠ la := mw_ne e4 e11 (by intro h9; cases h9)
  have m4_12 : li2 ≠ so := mw_ne e4 e12 (by intro h9; cases h9)
  have m4_13 : li2 ≠ ba := mw_ne e4 e13 (by intro h9; cases h9)
  have m4_14 : li2 ≠ sl := mw_ne e4 e14 (by intro h9; cases h9)
  have m5_8 : fa ≠ hu := mw_ne e5 e8 (by intro h9; cases h9)
  have m5_9 : fa ≠ ub := mw_ne e5 e9 (by simp)
  have m5_10 : fa ≠ me := mw_ne e5 e10 (by intro h9; cases h9)
  have m5_11 : fa ≠ la := mw_ne e5 e11 (by simp)
  have m5_12 : fa ≠ so := mw_ne e5 e12 (by intro h9; cases h9)
  have m5_13 : fa ≠ ba := mw_ne e5 e13 (by simp)
  have m5_14 : fa ≠ sl := mw_ne e5 e14 (by simp)
  have m8_9 : hu ≠ ub := mw_ne e8 e9 (by intro h9; cases h9)
  have m8_10 : hu ≠ me := mw_ne e8 e10 (by intro h9; cases h9)
  have m8_11 : hu ≠ la := mw_ne e8 e11 (by intro h9; cases h9)
  have m8_12 : hu ≠ so := mw_ne e8 e12 (by intro h9; cases h9)
  have m8_13 : hu ≠ ba := mw_ne e8 e13 (by intro h9; cases h9)
  have m8_14 : hu ≠ sl := mw_ne e8 e14 (by intro h9; cases h9)
  have m9_10 : ub ≠ me := mw_ne e9 e10 (by intro h9; cases h9)
  have m9_11 : ub ≠ la := mw_ne e9 e11 (by simp)
  have m9_12 : ub ≠ so := mw_ne e9 e12 (by intro h9; cases h9)
  have m9_13 : ub ≠ ba := mw_ne e9 e13 (by simp)
  have m9_14 : ub ≠ sl := mw_ne e9 e14 (by simp)
  have hl := lv_entry ([.ref (h0), .int (nI (ed))]) (n := 6) (Nat.le_of_ble_eq_true rfl)
  rw [lg_entry_eq]
  generalize (lg_sl ([.ref (h0), .int (nI (ed))]) ++ List.replicate (6 - (lg_sl ([.ref (h0), .int (nI (ed))])).length) Slot.unset).toArray = ls at hl ⊢
  have hl : lv_has ls 6 [(0, .ref (h0)), (1, .int (nI (ed)))] := hl
  refine mw_start (fun H locs hw => ?_) hw
  have hrl := rdT_le (f := f) (g := g) q c9
  have hrg := rdT_lt (f := f) hg q c9
  have hfb := b2n_le fl
  refine lv_aload_n hx hb dX6_take_0 rfl (lv_at hl 0 rfl) ?_
  refine lv_iload_n hx hb dX6_take_1 rfl (lv_at hl 1 rfl) ?_
  refine mw_cr hC hw (va_runV (As := [.int (nI (ed))]) (rest := []) ⟨hx, hb, hml, hown, hts⟩ (c_X6_endOf l G _ H.size h0 ea hu en ed x e0 e1 (by omega) (hen)) (cwV 1 hts gX6_take_X6_endOf rfl rfl rfl (by decide +kernel) ⟨Nat.le_of_ble_eq_true rfl, Nat.le_of_ble_eq_true rfl⟩) (mw_preV (ci := 6) hC hw rfl e0) rfl rfl hl.1 rfl (lv_room (Nat.le_of_ble_eq_true rfl)) dX6_take_2 ⟨Nat.le_of_ble_eq_true rfl, Nat.le_of_ble_eq_true rfl⟩) (fun H locs hz hw => ?_)
  refine lv_astore_n (lv' := [(2, .ref (x)), (0, .ref (h0)), (1, .int (nI (ed)))]) hx hb dX6_take_5 rfl hl (by decide) rfl (fun ls hl => ?_)
  refine lv_aload_n hx hb dX6_take_6 rfl (lv_at hl 1 rfl) ?_
  refine mw_get (C := RX6) (T := TX6) (N := 2) (v := .ref (ea)) hx hb hts inX6_take_X6 hown hC hw e0 rfl 0 (by decide) k_0 rfl dX6_take_7 ?_
  refine lv_iconst (v := nI 1) hx hb dX6_take_10 (by decide) ?_
  refine lv_iload_n hx hb dX6_take_11 rfl (lv_at hl 2 rfl) ?_
  refine lv_isub hx hb dX6_take_12 ?_
  refine mw_ti (v' := nI (1 - ed)) (pk_sub (by omega)) ?_
  refine mw_ealdN (n := 2) (f := en) (i := 1 - ed) hx hb hC hw e1 (by omega) (by decide) dX6_take_13 ?_
  refine mw_tr (v' := x2) (hen2) ?_
  refine mw_getN (C := RX0) (T := TX0) (N := 12) (v := .ref (li2)) hx hb hts inX6_take_X0 hown hC hw e3 rfl 0 (by decide) (show Cond.fieldLinkNest RX6 51 (TX0 0).1 (TX0 0).2.1 (TX0 0).2.2.1 "LinkPair" ∈ mw_nestF by decide +kernel) rfl dX6_take_14 ?_
  refine lv_astore_n (lv' := [(3, .ref (li2)), (2, .ref (x)), (0, .ref (h0)), (1, .int (nI (ed)))]) hx hb dX6_take_17 rfl hl (by decide) rfl (fun ls hl => ?_)
  refine lv_aload_n hx hb dX6_take_18 rfl (lv_at hl 1 rfl) ?_
  refine mw_getN (C := RX0) (T := TX0) (N := 12) (v := .int (nI (b2n fl))) hx hb hts inX6_take_X0 hown hC hw e2 rfl 9 (by decide) (show Cond.fieldLinkNest RX6 30 (TX0 9).1 (TX0 9).2.1 (TX0 9).2.2.1 "LinkPair" ∈ mw_nestF by decide +kernel) rfl dX6_take_19 ?_
  refine lv_if_ne (tgt := 32) hx hb dX6_take_22 (by decide) (fun c_1 => ?_) (fun c_1 => ?_)
  · skip
    have c_1 : b2n fl ≠ 0 := fun h => c_1 ((nI_eq (a := b2n fl) (b := 0) (by omega) (by omega)).mpr h)
    exfalso; rw [hfl] at *; simp_all [b2n]
  · skip
    have c_1 : b2n fl = 0 := (nI_eq (a := b2n fl) (b := 0) (by omega) (by omega)).mp c_1
    refine lv_aload_n hx hb dX6_take_25 rfl (lv_at hl 0 rfl) ?_
    refine mw_getN (C := RX2) (T := TX2) (N := 2) (v := .int (nI (n))) hx hb hts inX6_take_X2 hown hC hw e4 rfl 1 (by decide) (show Cond.fieldLinkNest RX6 73 (TX2 1).1 (TX2 1).2.1 (TX2 1).2.2.1 "LinkPair" ∈ mw_nestF by decide +kernel) rfl dX6_take_26 ?_
    refine lv_if_ne (tgt := 40) hx hb dX6_take_29 (by decide) (fun c_2 => ?_) (fun c_2 => ?_)
    · skip
      have c_2 : n ≠ 0 := fun h => c_2 ((nI_eq (a := n) (b := 0) (by omega) (by omega)).mpr h)
      refine lv_aload_n hx hb dX6_take_40 rfl (lv_at hl 2 rfl) ?_
      refine mw_get (C := RX6) (T := TX6) (N := 2) (v := .ref (hu)) hx hb hts inX6_take_X6 hown hC hw e0 rfl 1 (by decide) k_1 rfl dX6_take_41 ?_
      refine lv_aload_n hx hb dX6_take_44 rfl (lv_at hl 0 rfl) ?_
      refine mw_getN (C := RX2) (T := TX2) (N := 2) (v := .ref (fa)) hx hb hts inX6_take_X2 hown hC hw e4 rfl 0 (by decide) (show Cond.fieldLinkNest RX6 76 (TX2 0).1 (TX2 0).2.1 (TX2 0).2.2.1 "LinkPair" ∈ mw_nestF by decide +kernel) rfl dX6_take_45 ?_
      refine lv_iconst (v := nI 0) hx hb dX6_take_48 (by decide) ?_
      refine mw_faldN (n := 40) (f := fr) (i := 0) hx hb hC hw e5 (by omega) (by decide) dX6_take_49 ?_
      refine mw_tr (v' := ya 0) (hya 0 (by omega)) ?_
      refine mw_ci hC hw (va_runV (As := [.ref (ya 0)]) (rest := []) ⟨hx, hb, hml, hown, hts⟩ (c_X5_readFrom l G _ H.size hu ub c9 g (ya 0) w q f e8 e9 e6 e7 (by omega) (hg)) (cwV 1 hts gX6_take_X5_readFrom rfl rfl rfl (by decide +kernel) ⟨Nat.le_of_ble_eq_true rfl, Nat.le_of_ble_eq_true rfl⟩) (mw_preV (ci := 5) hC hw rfl e8) rfl rfl hl.1 rfl (lv_room (Nat.le_of_ble_eq_true rfl)) dX6_take_50 ⟨Nat.le_of_ble_eq_true rfl, Nat.le_of_ble_eq_true rfl⟩) (fun H locs hz hw => ?_)
      refine lv_istore (lv' := [(4, .int (nI ((rdT f q g c9).1))), (3, .ref (li2)), (2, .ref (x)), (0, .ref (h0)), (1, .int (nI (ed)))]) hx hb dX6_take_53 hl (by decide) rfl (fun ls hl => ?_)
      refine lv_aload_n hx hb dX6_take_55 rfl (lv_at hl 1 rfl) ?_
      refine lv_iconst (v := nI 0) hx hb dX6_take_56 (by decide) ?_
      refine mw_cv hC hw (va_runV (As := [.int (nI (0))]) (rest := []) ⟨hx, hb, hml, hown, hts⟩ (c_X2_lose l G _ H.size li2 fa n fr ya 0 (mw_u1 m4_9 (mw_u1 m4_8 e4)) (mw_u1 m5_9 (mw_u1 m5_8 e5)) (by omega) (by omega) (hya) (fun i hi => by obtain ⟨vs, h⟩ := hvv i hi; exact ⟨vs, mw_u1 (mw_ne h e9 (by intro h9; cases h9)) (mw_u1 (mw_ne h e8 (by intro h9; cases h9)) h)⟩)) (cwV 1 hts gX6_take_X2_lose rfl rfl rfl (by decide +kernel) ⟨Nat.le_of_ble_eq_true rfl, Nat.le_of_ble_eq_true rfl⟩) (mw_preV (ci := 2) hC hw rfl (mw_u1 m4_9 (mw_u1 m4_8 e4))) rfl rfl hl.1 rfl (lv_room (Nat.le_of_ble_eq_true rfl)) dX6_take_57 ⟨Nat.le_of_ble_eq_true rfl, Nat.le_of_ble_eq_true rfl⟩) (fun H locs hz hw => ?_)
      refine lv_aload_n hx hb dX6_take_60 rfl (lv_at hl 2 rfl) ?_
      refine lv_aload_n hx hb dX6_take_61 rfl (lv_at hl 3 rfl) ?_
      refine mw_get (C := RX6) (T := TX6) (N := 2) (v := .ref (hu)) hx hb hts inX6_take_X6 hown hC hw (mw_u1 m0_5 (mw_u1 m0_4 (mw_u1 m0_9 (mw_u1 m0_8 e0)))) rfl 1 (by decide) k_1 rfl dX6_take_62 ?_
      refine lv_iload hx hb dX6_take_65 (lv_at hl 0 rfl) ?_
      refine mw_ci hC hw (va_runV (As := [.ref (hu), .int (nI ((rdT f q g c9).1))]) (rest := []) ⟨hx, hb, hml, hown, hts⟩ (c_X0_takeUnit_abn l G _ H.size x li me so fi bi sn tn er un fl al ab la sa mf mu ma mw lg ba sl t bg ll hu ub ((rdT f q g c9).2.1) ((rdT f q g c9).2.2) ((rdT f q g c9).1) (mw_u1 m2_5 (mw_u1 m2_4 (mw_u1 m2_9 (mw_u1 m2_8 e2)))) (mw_u1 (Ne.symm m5_10) (mw_u1 (Ne.symm m4_10) (mw_u1 (Ne.symm m9_10) (mw_u1 (Ne.symm m8_10) e10)))) (mw_u1 (Ne.symm m5_11) (mw_u1 (Ne.symm m4_11) (mw_u1 (Ne.symm m9_11) (mw_u1 (Ne.symm m8_11) e11)))) (mw_u1 (Ne.symm m5_12) (mw_u1 (Ne.symm m4_12) (mw_u1 (Ne.symm m9_12) (mw_u1 (Ne.symm m8_12) e12)))) (mw_u1 (Ne.symm m5_13) (mw_u1 (Ne.symm m4_13) (mw_u1 (Ne.symm m9_13) (mw_u1 (Ne.symm m8_13) e13)))) (mw_u1 (Ne.symm m5_14) (mw_u1 (Ne.symm m4_14) (mw_u1 (Ne.symm m9_14) (mw_u1 (Ne.symm m8_14) e14)))) (mw_u1 (Ne.symm m5_8) (mw_u1 (Ne.symm m4_8) (mw_u1 m8_9 mw_u0))) (mw_u1 (Ne.symm m5_9) (mw_u1 (Ne.symm m4_9) mw_u0)) (by omega) (by omega) (by omega) (by omega) (by omega) (hrg) (hab)) (cwV 2 hts gX6_take_X0_takeUnit rfl rfl rfl (by decide +kernel) ⟨Nat.le_of_ble_eq_true rfl, Nat.le_of_ble_eq_true rfl⟩) (mw_preV (ci := 0) hC hw rfl (mw_u1 m2_5 (mw_u1 m2_4 (mw_u1 m2_9 (mw_u1 m2_8 e2))))) rfl rfl hl.1 rfl (lv_room (Nat.le_of_ble_eq_true rfl)) dX6_take_67 ⟨Nat.le_of_ble_eq_true rfl, Nat.le_of_ble_eq_true rfl⟩) (fun H locs hz hw => ?_)
      refine lv_istore (lv' := [(5, .int (nI (3))), (4, .int (nI ((rdT f q g c9).1))), (3, .ref (li2)), (2, .ref (x)), (0, .ref (h0)), (1, .int (nI (ed)))]) hx hb dX6_take_70 hl (by decide) rfl (fun ls hl => ?_)
      refine lv_aload_n hx hb dX6_take_72 rfl (lv_at hl 3 rfl) ?_
      refine mw_getN (C := RX0) (T := TX0) (N := 12) (v := .int (nI (b2n (al || ab)))) hx hb hts inX6_take_X0 hown hC hw mw_u0 rfl 9 (by decide) (show Cond.fieldLinkNest RX6 30 (TX0 9).1 (TX0 9).2.1 (TX0 9).2.2.1 "LinkPair" ∈ mw_nestF by decide +kernel) rfl dX6_take_73 ?_
      have hbz := b2n_le (al || ab)
      refine lv_if_eq (tgt := 87) hx hb dX6_take_76 (by decide) (fun c_3 => ?_) (fun c_3 => ?_)
      · skip
        have c_3 : b2n (al || ab) = 0 := (nI_eq (a := b2n (al || ab)) (b := 0) (by omega) (by omega)).mp c_3
        have h64 : ¬ (al || ab) = true := by cases al <;> cases ab <;> simp_all [b2n]
        refine lv_iload hx hb dX6_take_87 (lv_at hl 0 rfl) ?_
        exact mw_iret hx hb hr hlocks hw (by first | (rw [if_pos h64]; done) | rw [if_neg h64]) (fun _ _ h9 => h9) dX6_take_89
      · skip
        have c_3 : b2n (al || ab) ≠ 0 := fun h => c_3 ((nI_eq (a := b2n (al || ab)) (b := 0) (by omega) (by omega)).mpr h)
        have h64 : (al || ab) = true := by cases al <;> cases ab <;> simp_all [b2n]
        refine lv_iload hx hb dX6_take_79 (lv_at hl 0 rfl) ?_
        refine lv_bipush (v := nI 10) hx hb dX6_take_81 (by decide) ?_
        refine lv_isub hx hb dX6_take_83 ?_
        refine mw_ti (v' := nI 3 - nI 10) (rfl) ?_
        refine lv_goto (tgt := 89) hx hb dX6_take_84 (by decide) ?_
        exact mw_iret hx hb hr hlocks hw (by first | (rw [if_pos h64]; done) | rw [if_neg h64]) (fun _ _ h9 => h9) dX6_take_89
    · skip
      have c_2 : n = 0 := (nI_eq (a := n) (b := 0) (by omega) (by omega)).mp c_2
      exfalso; omega
def RM_X6_take_ok : Room := { frames := 4, cells := 0, slots := 0, locals := 105 }
set_option maxHeartbeats 4000000 in
set_option maxRecDepth 100000 in
theorem c_X6_take_ok (l : Launch) (G : mw_G) (M : mw_M) (sz : Nat) (h0 ea hu : Nat) (en : Nat → Option Nat) (ed : Nat) (x li me so fi bi sn tn er un : Nat) (fl al ab : Bool) (x2 li2 me2 so2 fi2 bi2 sn2 tn2 er2 un2 : Nat) (fl2 al2 ab2 : Bool) (fa n : Nat) (fr : Nat → Option Nat) (ya : Nat → Nat) (w q : Nat) (f : Nat → Int64) (ub c9 : Nat) (g : Nat → Nat) (la sa mf mu ma mw : Nat) (lg : Nat → Nat) (ba sl t : Nat) (bg ll : Nat → Nat) (e0 : M h0 = some (.inr (6, [.ref (ea), .ref (hu)]))) (e1 : M ea = some (.inl (G.2 4, 2, .inr (.inr (.inr (.inr (en))))))) (e2 : M x = some (.inr (0, [.ref (li), .ref (me), .ref (so), .int (nI (fi)), .int (nI (bi)), .int (nI (sn)), .int (nI (tn)), .int (nI (er)), .int (nI (un)), .int (nI (b2n fl)), .int (nI (b2n al)), .int (nI (b2n ab))]))) (e3 : M x2 = some (.inr (0, [.ref (li2), .ref (me2), .ref (so2), .int (nI (fi2)), .int (nI (bi2)), .int (nI (sn2)), .int (nI (tn2)), .int (nI (er2)), .int (nI (un2)), .int (nI (b2n fl2)), .int (nI (b2n al2)), .int (nI (b2n ab2))]))) (e4 : M li2 = some (.inr (2, [.ref (fa), .int (nI (n))]))) (e5 : M fa = some (.inl (G.2 5, 40, .inr (.inr (.inr (.inr (fr))))))) (e6 : M (ya 0) = some (.inr (1, [.ref (w), .int (nI (q))]))) (e7 : M w = some (.inl (G.2 2, 47, .inr (.inl (f))))) (e8 : M hu = some (.inr (5, [.ref (ub), .int (nI (c9))]))) (e9 : M ub = some (.inl (G.2 1, 277, .inl (fun j => nI (g j))))) (e10 : M me = some (.inr (3, [.ref (la), .ref (sa), .int (nI (mf)), .int (nI (mu)), .int (nI (ma)), .int (nI (mw))]))) (e11 : M la = some (.inl (G.2 1, 187, .inl (fun j => nI (lg j))))) (e12 : M so = some (.inr (4, [.ref (ba), .ref (sl), .int (nI (t))]))) (e13 : M ba = some (.inl (G.2 0, 13600, .inl (fun j => sb_b (bg j))))) (e14 : M sl = some (.inl (G.2 1, 50, .inl (fun j => nI (ll j))))) (he : ed ≤ 1) (hen : en ed = some x) (hen2 : en (1 - ed) = some x2) (hn : n ≤ 40) (hn0 : 0 < n) (hya : ∀ i, i < 40 → fr i = some (ya i)) (hvv : ∀ i, i < 40 → ∃ vs, M (ya i) = some (.inr (1, vs))) (hq : q ≤ 3000) (hg : ∀ i, i < 277 → g i < 256) (hfl : fl = false) (hun : un < 100000) (her : er ≤ 64) (hft : (rdT f q g c9).1 = 0) (hfi : fi ≤ 1) (hbi : bi ≤ 1) (hsn : sn < 128) (htn : tn < 128) (hmf : mf < 187) (hmu : mu ≤ 127) (hma : ma ≤ mu) (hab : ((rdT f q g c9).2.2 0 % 128 + mu + 128 - sn) % 128 ≤ mu) (ht : t < 100000) (nxx2 : x ≠ x2) : Met l yX6_take wsX6_take RM_X6_take_ok (mw_pre G M sz [.ref (h0), .int (nI (ed))]) (mw_Qi G M sz (nI (if (rdT f q g c9).2.2 1 / 128 ≠ bi ∨ (rdT f q g c9).2.2 1 % 128 = tn then 0 else if 5 < (rdT f q g c9).2.1 ∧ (rdT f q g c9).2.2 1 % 128 = (tn + 1) % 128 then 1 else 2)) (va_up (va_up (va_up (va_up (va_up (va_up (va_up (va_up (va_up M hu (some (.inr (5, [.ref (ub), .int (nI ((rdT f q g c9).2.1))])))) ub (some (.inl (G.2 1, 277, .inl (fun j => nI (((rdT f q g c9).2.2) j)))))) li2 (some (.inr (2, [.ref (fa), .int (nI (n - 1))])))) fa (some (.inl (G.2 5, 40, .inr (.inr (.inr (.inr (va_up (lsh fr 0 (n - 1)) (n - 1) (some (ya 0)))))))))) x (some (.inr (0, [.ref (li), .ref (me), .ref (so), .int (nI (if (rdT f q g c9).2.2 0 / 128 = fi then fi else 1 - fi)), .int (nI (if (rdT f q g c9).2.2 1 / 128 ≠ bi ∨ (rdT f q g c9).2.2 1 % 128 = tn then bi else if 5 < (rdT f q g c9).2.1 ∧ (rdT f q g c9).2.2 1 % 128 = (tn + 1) % 128 then bi else 1 - bi)), .int (nI (sn)), .int (nI (if (rdT f q g c9).2.2 1 / 128 ≠ bi ∨ (rdT f q g c9).2.2 1 % 128 = tn then tn else if 5 < (rdT f q g c9).2.1 ∧ (rdT f q g c9).2.2 1 % 128 = (tn + 1) % 128 then (tn + 1) % 128 else tn)), .int (nI (lk er un)), .int (nI (un + 1)), .int (nI (0)), .int (nI (0)), .int (nI (b2n al))])))) me (some (.inr (3, [.ref (la), .ref (sa), .int (nI ((mf + ((rdT f q g c9).2.2 0 % 128 + mu + 128 - sn) % 128) % 187)), .int (nI (mu - ((rdT f q g c9).2.2 0 % 128 + mu + 128 - sn) % 128)), .int (nI (if (rdT f q g c9).2.2 0 / 128 = fi then min ma (mu - ((rdT f q g c9).2.2 0 % 128 + mu + 128 - sn) % 128) else mu - ((rdT f q g c9).2.2 0 % 128 + mu + 128 - sn) % 128)), .int (nI (mw))])))) so (some (.inr (4, [.ref (ba), .ref (sl), .int (nI (if (rdT f q g c9).2.2 1 / 128 ≠ bi ∨ (rdT f q g c9).2.2 1 % 128 = tn then t else if 5 < (rdT f q g c9).2.1 ∧ (rdT f q g c9).2.2 1 % 128 = (tn + 1) % 128 then t + 1 else t))])))) ba (some (.inl (G.2 0, 13600, .inl (fun j => sb_b ((if (rdT f q g c9).2.2 1 / 128 ≠ bi ∨ (rdT f q g c9).2.2 1 % 128 = tn then bg else if 5 < (rdT f q g c9).2.1 ∧ (rdT f q g c9).2.2 1 % 128 = (tn + 1) % 128 then kee bg (rdT f q g c9).2.2 (t % 50) ((rdT f q g c9).2.1 - 5) else bg) j)))))) sl (some (.inl (G.2 1, 50, .inl (fun j => nI ((if (rdT f q g c9).2.2 1 / 128 ≠ bi ∨ (rdT f q g c9).2.2 1 % 128 = tn then ll else if 5 < (rdT f q g c9).2.1 ∧ (rdT f q g c9).2.2 1 % 128 = (tn + 1) % 128 then va_up ll (t % 50) ((rdT f q g c9).2.1 - 5) else ll) j))))))) 0 0 (mw_A M sz) := by
  refine Met.ofW (cc := cX6_take) (maxL := 6) (ret := (some .int)) (by decide) rfl ?_
  intro p e s m args below meth c s₁ B hml hv
  obtain ⟨rfl, rfl, hC, hw⟩ := mw_in hv
  have hx := B.exec
  have hb := B.bytes
  have hr := B.returns
  have hts := atoms_spec (ws := wsX6_take) B.pre
  have hown : s.vm.findClass RX6 = some m.cls := findClass_of_methodNamed B.named
  have hlocks := B.notSynchronized
  have k_0 := hts (.fieldLink RX6 12 "LinkPair" "ends" "[LLinkPair$End;") (by decide +kernel)
  have k_1 := hts (.fieldLink RX6 19 "LinkPair" "unit" "LLinkPair$Unit;") (by decide +kernel)
  have m0_4 : h0 ≠ li2 := mw_ne e0 e4 (by intro h9; cases h9)
  have m0_5 : h0 ≠ fa := mw_ne e0 e5 (by intro h9; cases h9)
  have m0_8 : h0 ≠ hu := mw_ne e0 e8 (by intro h9; cases h9)
  have m0_9 : h0 ≠ ub := mw_ne e0 e9 (by intro h9; cases h9)
  have m2_4 : x ≠ li2 := mw_ne e2 e4 (by intro h9; cases h9)
  have m2_5 : x ≠ fa := mw_ne e2 e5 (by intro h9; cases h9)
  have m2_8 : x ≠ hu := mw_ne e2 e8 (by intro h9; cases h9)
  have m2_9 : x ≠ ub := mw_ne e2 e9 (by intro h9; cases h9)
  have m2_10 : x ≠ me := mw_ne e2 e10 (by intro h9; cases h9)
  have m2_12 : x ≠ so := mw_ne e2 e12 (by intro h9; cases h9)
  have m2_13 : x ≠ ba := mw_ne e2 e13 (by intro h9; cases h9)
  have m2_14 : x ≠ sl := mw_ne e2 e14 (by intro h9; cases h9)
  have m4_5 : li2 ≠ fa := mw_ne e4 e5 (by intro h9; cases h9)
  have m4_8 : li2 ≠ hu := mw_ne e4 e8 (by intro h9; cases h9)
  have m4_9 : li2 ≠ ub := mw_ne e4 e9 (by intro h9; cases h9)
  have m4_10 : li2 ≠ me := mw_ne e4 e10 (by intro h9; cases h9)
  have m4_11 : li2 ≠ la := mw_ne e4 e11 (by intro h9; cases h9)
  have m4_12 : li2 ≠ so := mw_ne e4 e12 (by intro h9; cases h9)
  have m4_13 : li2 ≠ ba := mw_ne e4 e13 (by intro h9; cases h9)
  have m4_14 : li2 ≠ sl := mw_ne e4 e14 (by intro h9; cases h9)
  have m5_8 : fa ≠ hu := mw_ne e5 e8 (by intro h9; cases h9)
  have m5_9 : fa ≠ ub := mw_ne e5 e9 (by simp)
  have m5_10 : fa ≠ me := mw_ne e5 e10 (by intro h9; cases h9)
  have m5_11 : fa ≠ la := mw_ne e5 e11 (by simp)
  have m5_12 : fa ≠ so := mw_ne e5 e12 (by intro h9; cases h9)
  have m5_13 : fa ≠ ba := mw_ne e5 e13 (by simp)
  have m5_14 : fa ≠ sl := mw_ne e5 e14 (by simp)
  have m8_9 : hu ≠ ub := mw_ne e8 e9 (by intro h9; cases h9)
  have m8_10 : hu ≠ me := mw_ne e8 e10 (by intro h9; cases h9)
  have m8_11 : hu ≠ la := mw_ne e8 e11 (by intro h9; cases h9)
  have m8_12 : hu ≠ so := mw_ne e8 e12 (by intro h9; cases h9)
  have m8_13 : hu ≠ ba := mw_ne e8 e13 (by intro h9; cases h9)
  have m8_14 : hu ≠ sl := mw_ne e8 e14 (by intro h9; cases h9)
  have m9_10 : ub ≠ me := mw_ne e9 e10 (by intro h9; cases h9)
  have m9_11 : ub ≠ la := mw_ne e9 e11 (by simp)
  have m9_12 : ub ≠ so := mw_ne e9 e12 (by intro h9; cases h9)
  have m9_13 : ub ≠ ba := mw_ne e9 e13 (by simp)
  have m9_14 : ub ≠ sl := mw_ne e9 e14 (by simp)
  have m10_12 : me ≠ so := mw_ne e10 e12 (by intro h9; cases h9)
  have m10_13 : me ≠ ba := mw_ne e10 e13 (by intro h9; cases h9)
  have m10_14 : me ≠ sl := mw_ne e10 e14 (by intro h9; cases h9)
  have m12_13 : so ≠ ba := mw_ne e12 e13 (by intro h9; cases h9)
  have m12_14 : so ≠ sl := mw_ne e12 e14 (by intro h9; cases h9)
  have m13_14 : ba ≠ sl := mw_ne e13 e14 (by simp)
  have hl := lv_entry ([.ref (h0), .int (nI (ed))]) (n := 6) (Nat.le_of_ble_eq_true rfl)
  rw [lg_entry_eq]
  generalize (lg_sl ([.ref (h0), .int (nI (ed))]) ++ List.replicate (6 - (lg_sl ([.ref (h0), .int (nI (ed))])).length) Slot.unset).toArray = ls at hl ⊢
  have hl : lv_has ls 6 [(0, .ref (h0)), (1, .int (nI (ed)))] := hl
  refine mw_start (fun H locs hw => ?_) hw
  have hrl := rdT_le (f := f) (g := g) q c9
  have hrg := rdT_lt (f := f) hg q c9
  have hfb := b2n_le fl
  have hc9 := rdT_ok hft
  refine lv_aload_n hx hb dX6_take_0 rfl (lv_at hl 0 rfl) ?_
  refine lv_iload_n hx hb dX6_take_1 rfl (lv_at hl 1 rfl) ?_
  refine mw_cr hC hw (va_runV (As := [.int (nI (ed))]) (rest := []) ⟨hx, hb, hml, hown, hts⟩ (c_X6_endOf l G _ H.size h0 ea hu en ed x e0 e1 (by omega) (hen)) (cwV 1 hts gX6_take_X6_endOf rfl rfl rfl (by decide +kernel) ⟨Nat.le_of_ble_eq_true rfl, Nat.le_of_ble_eq_true rfl⟩) (mw_preV (ci := 6) hC hw rfl e0) rfl rfl hl.1 rfl (lv_room (Nat.le_of_ble_eq_true rfl)) dX6_take_2 ⟨Nat.le_of_ble_eq_true rfl, Nat.le_of_ble_eq_true rfl⟩) (fun H locs hz hw => ?_)
  refine lv_astore_n (lv' := [(2, .ref (x)), (0, .ref (h0)), (1, .int (nI (ed)))]) hx hb dX6_take_5 rfl hl (by decide) rfl (fun ls hl => ?_)
  refine lv_aload_n hx hb dX6_take_6 rfl (lv_at hl 1 rfl) ?_
  refine mw_get (C := RX6) (T := TX6) (N := 2) (v := .ref (ea)) hx hb hts inX6_take_X6 hown hC hw e0 rfl 0 (by decide) k_0 rfl dX6_take_7 ?_
  refine lv_iconst (v := nI 1) hx hb dX6_take_10 (by decide) ?_
  refine lv_iload_n hx hb dX6_take_11 rfl (lv_at hl 2 rfl) ?_
  refine lv_isub hx hb dX6_take_12 ?_
  refine mw_ti (v' := nI (1 - ed)) (pk_sub (by omega)) ?_
  refine mw_ealdN (n := 2) (f := en) (i := 1 - ed) hx hb hC hw e1 (by omega) (by decide) dX6_take_13 ?_
  refine mw_tr (v' := x2) (hen2) ?_
  refine mw_getN (C := RX0) (T := TX0) (N := 12) (v := .ref (li2)) hx hb hts inX6_take_X0 hown hC hw e3 rfl 0 (by decide) (show Cond.fieldLinkNest RX6 51 (TX0 0).1 (TX0 0).2.1 (TX0 0).2.2.1 "LinkPair" ∈ mw_nestF by decide +kernel) rfl dX6_take_14 ?_
  refine lv_astore_n (lv' := [(3, .ref (li2)), (2, .ref (x)), (0, .ref (h0)), (1, .int (nI (ed)))]) hx hb dX6_take_17 rfl hl (by decide) rfl (fun ls hl => ?_)
  refine lv_aload_n hx hb dX6_take_18 rfl (lv_at hl 1 rfl) ?_
  refine mw_getN (C := RX0) (T := TX0) (N := 12) (v := .int (nI (b2n fl))) hx hb hts inX6_take_X0 hown hC hw e2 rfl 9 (by decide) (show Cond.fieldLinkNest RX6 30 (TX0 9).1 (TX0 9).2.1 (TX0 9).2.2.1 "LinkPair" ∈ mw_nestF by decide +kernel) rfl dX6_take_19 ?_
  refine lv_if_ne (tgt := 32) hx hb dX6_take_22 (by decide) (fun c_1 => ?_) (fun c_1 => ?_)
  · skip
    have c_1 : b2n fl ≠ 0 := fun h => c_1 ((nI_eq (a := b2n fl) (b := 0) (by omega) (by omega)).mpr h)
    exfalso; rw [hfl] at *; simp_all [b2n]
  · skip
    have c_1 : b2n fl = 0 := (nI_eq (a := b2n fl) (b := 0) (by omega) (by omega)).mp c_1
    refine lv_aload_n hx hb dX6_take_25 rfl (lv_at hl 0 rfl) ?_
    refine mw_getN (C := RX2) (T := TX2) (N := 2) (v := .int (nI (n))) hx hb hts inX6_take_X2 hown hC hw e4 rfl 1 (by decide) (show Cond.fieldLinkNest RX6 73 (TX2 1).1 (TX2 1).2.1 (TX2 1).2.2.1 "LinkPair" ∈ mw_nestF by decide +kernel) rfl dX6_take_26 ?_
    refine lv_if_ne (tgt := 40) hx hb dX6_take_29 (by decide) (fun c_2 => ?_) (fun c_2 => ?_)
    · skip
      have c_2 : n ≠ 0 := fun h => c_2 ((nI_eq (a := n) (b := 0) (by omega) (by omega)).mpr h)
      refine lv_aload_n hx hb dX6_take_40 rfl (lv_at hl 2 rfl) ?_
      refine mw_get (C := RX6) (T := TX6) (N := 2) (v := .ref (hu)) hx hb hts inX6_take_X6 hown hC hw e0 rfl 1 (by decide) k_1 rfl dX6_take_41 ?_
      refine lv_aload_n hx hb dX6_take_44 rfl (lv_at hl 0 rfl) ?_
      refine mw_getN (C := RX2) (T := TX2) (N := 2) (v := .ref (fa)) hx hb hts inX6_take_X2 hown hC hw e4 rfl 0 (by decide) (show Cond.fieldLinkNest RX6 76 (TX2 0).1 (TX2 0).2.1 (TX2 0).2.2.1 "LinkPair" ∈ mw_nestF by decide +kernel) rfl dX6_take_45 ?_
      refine lv_iconst (v := nI 0) hx hb dX6_take_48 (by decide) ?_
      refine mw_faldN (n := 40) (f := fr) (i := 0) hx hb hC hw e5 (by omega) (by decide) dX6_take_49 ?_
      refine mw_tr (v' := ya 0) (hya 0 (by omega)) ?_
      refine mw_ci hC hw (va_runV (As := [.ref (ya 0)]) (rest := []) ⟨hx, hb, hml, hown, hts⟩ (c_X5_readFrom l G _ H.size hu ub c9 g (ya 0) w q f e8 e9 e6 e7 (by omega) (hg)) (cwV 1 hts gX6_take_X5_readFrom rfl rfl rfl (by decide +kernel) ⟨Nat.le_of_ble_eq_true rfl, Nat.le_of_ble_eq_true rfl⟩) (mw_preV (ci := 5) hC hw rfl e8) rfl rfl hl.1 rfl (lv_room (Nat.le_of_ble_eq_true rfl)) dX6_take_50 ⟨Nat.le_of_ble_eq_true rfl, Nat.le_of_ble_eq_true rfl⟩) (fun H locs hz hw => ?_)
      refine lv_istore (lv' := [(4, .int (nI ((rdT f q g c9).1))), (3, .ref (li2)), (2, .ref (x)), (0, .ref (h0)), (1, .int (nI (ed)))]) hx hb dX6_take_53 hl (by decide) rfl (fun ls hl => ?_)
      refine lv_aload_n hx hb dX6_take_55 rfl (lv_at hl 1 rfl) ?_
      refine lv_iconst (v := nI 0) hx hb dX6_take_56 (by decide) ?_
      refine mw_cv hC hw (va_runV (As := [.int (nI (0))]) (rest := []) ⟨hx, hb, hml, hown, hts⟩ (c_X2_lose l G _ H.size li2 fa n fr ya 0 (mw_u1 m4_9 (mw_u1 m4_8 e4)) (mw_u1 m5_9 (mw_u1 m5_8 e5)) (by omega) (by omega) (hya) (fun i hi => by obtain ⟨vs, h⟩ := hvv i hi; exact ⟨vs, mw_u1 (mw_ne h e9 (by intro h9; cases h9)) (mw_u1 (mw_ne h e8 (by intro h9; cases h9)) h)⟩)) (cwV 1 hts gX6_take_X2_lose rfl rfl rfl (by decide +kernel) ⟨Nat.le_of_ble_eq_true rfl, Nat.le_of_ble_eq_true rfl⟩) (mw_preV (ci := 2) hC hw rfl (mw_u1 m4_9 (mw_u1 m4_8 e4))) rfl rfl hl.1 rfl (lv_room (Nat.le_of_ble_eq_true rfl)) dX6_take_57 ⟨Nat.le_of_ble_eq_true rfl, Nat.le_of_ble_eq_true rfl⟩) (fun H locs hz hw => ?_)
      refine lv_aload_n hx hb dX6_take_60 rfl (lv_at hl 2 rfl) ?_
      refine lv_aload_n hx hb dX6_take_61 rfl (lv_at hl 3 rfl) ?_
      refine mw_get (C := RX6) (T := TX6) (N := 2) (v := .ref (hu)) hx hb hts inX6_take_X6 hown hC hw (mw_u1 m0_5 (mw_u1 m0_4 (mw_u1 m0_9 (mw_u1 m0_8 e0)))) rfl 1 (by decide) k_1 rfl dX6_take_62 ?_
      refine lv_iload hx hb dX6_take_65 (lv_at hl 0 rfl) ?_
      refine mw_ci hC hw (va_runV (As := [.ref (hu), .int (nI ((rdT f q g c9).1))]) (rest := []) ⟨hx, hb, hml, hown, hts⟩ (c_X0_takeUnit_ok l G _ H.size x li me so fi bi sn tn er un fl al ab la sa mf mu ma mw lg ba sl t bg ll hu ub ((rdT f q g c9).2.1) ((rdT f q g c9).2.2) ((rdT f q g c9).1) (mw_u1 m2_5 (mw_u1 m2_4 (mw_u1 m2_9 (mw_u1 m2_8 e2)))) (mw_u1 (Ne.symm m5_10) (mw_u1 (Ne.symm m4_10) (mw_u1 (Ne.symm m9_10) (mw_u1 (Ne.symm m8_10) e10)))) (mw_u1 (Ne.symm m5_11) (mw_u1 (Ne.symm m4_11) (mw_u1 (Ne.symm m9_11) (mw_u1 (Ne.symm m8_11) e11)))) (mw_u1 (Ne.symm m5_12) (mw_u1 (Ne.symm m4_12) (mw_u1 (Ne.symm m9_12) (mw_u1 (Ne.symm m8_12) e12)))) (mw_u1 (Ne.symm m5_13) (mw_u1 (Ne.symm m4_13) (mw_u1 (Ne.symm m9_13) (mw_u1 (Ne.symm m8_13) e13)))) (mw_u1 (Ne.symm m5_14) (mw_u1 (Ne.symm m4_14) (mw_u1 (Ne.symm m9_14) (mw_u1 (Ne.symm m8_14) e14)))) (mw_u1 (Ne.symm m5_8) (mw_u1 (Ne.symm m4_8) (mw_u1 m8_9 mw_u0))) (mw_u1 (Ne.symm m5_9) (mw_u1 (Ne.symm m4_9) mw_u0)) (by omega) (by omega) (by omega) (by omega) (by omega) (by omega) (by omega) (by omega) (by omega) (by omega) (hrg) (hab) (by omega) (by omega) (by omega)) (cwV 2 hts gX6_take_X0_takeUnit rfl rfl rfl (by decide +kernel) ⟨Nat.le_of_ble_eq_true rfl, Nat.le_of_ble_eq_true rfl⟩) (mw_preV (ci := 0) hC hw rfl (mw_u1 m2_5 (mw_u1 m2_4 (mw_u1 m2_9 (mw_u1 m2_8 e2))))) rfl rfl hl.1 rfl (lv_room (Nat.le_of_ble_eq_true rfl)) dX6_take_67 ⟨Nat.le_of_ble_eq_true rfl, Nat.le_of_ble_eq_true rfl⟩) (fun H locs hz hw => ?_)
      refine lv_istore (lv' := [(5, .int (nI (if ((rdT f q g c9).2.2) 1 / 128 ≠ bi ∨ ((rdT f q g c9).2.2) 1 % 128 = tn then 0 else if 5 < ((rdT f q g c9).2.1) ∧ ((rdT f q g c9).2.2) 1 % 128 = (tn + 1) % 128 then 1 else 2))), (4, .int (nI ((rdT f q g c9).1))), (3, .ref (li2)), (2, .ref (x)), (0, .ref (h0)), (1, .int (nI (ed)))]) hx hb dX6_take_70 hl (by decide) rfl (fun ls hl => ?_)
      refine lv_aload_n hx hb dX6_take_72 rfl (lv_at hl 3 rfl) ?_
      refine mw_getN (C := RX0) (T := TX0) (N := 12) (v := .int (nI (0))) hx hb hts inX6_take_X0 hown hC hw (mw_u1 m2_14 (mw_u1 m2_13 (mw_u1 m2_12 (mw_u1 m2_10 mw_u0)))) rfl 9 (by decide) (show Cond.fieldLinkNest RX6 30 (TX0 9).1 (TX0 9).2.1 (TX0 9).2.2.1 "LinkPair" ∈ mw_nestF by decide +kernel) rfl dX6_take_73 ?_
      refine lv_if_eq (tgt := 87) hx hb dX6_take_76 (by decide) (fun c_3 => ?_) (fun c_3 => ?_)
      · skip
        refine lv_iload hx hb dX6_take_87 (lv_at hl 0 rfl) ?_
        have hc_5 : (.inr (0, [.ref (li), .ref (me), .ref (so), .int (nI (if ((rdT f q g c9).2.2) 0 / 128 = fi then fi else 1 - fi)), .int (nI (if ((rdT f q g c9).2.2) 1 / 128 ≠ bi ∨ ((rdT f q g c9).2.2) 1 % 128 = tn then bi else if 5 < ((rdT f q g c9).2.1) ∧ ((rdT f q g c9).2.2) 1 % 128 = (tn + 1) % 128 then bi else 1 - bi)), .int (nI (sn)), .int (nI (if ((rdT f q g c9).2.2) 1 / 128 ≠ bi ∨ ((rdT f q g c9).2.2) 1 % 128 = tn then tn else if 5 < ((rdT f q g c9).2.1) ∧ ((rdT f q g c9).2.2) 1 % 128 = (tn + 1) % 128 then (tn + 1) % 128 else tn)), .int (nI (lk er un)), .int (nI (un + 1)), .int (nI (0)), .int (nI (0)), .int (nI (b2n al))]) : va_E) = .inr (0, [.ref (li), .ref (me), .ref (so), .int (nI (if (rdT f q g c9).2.2 0 / 128 = fi then fi else 1 - fi)), .int (nI (if (rdT f q g c9).2.2 1 / 128 ≠ bi ∨ (rdT f q g c9).2.2 1 % 128 = tn then bi else if 5 < (rdT f q g c9).2.1 ∧ (rdT f q g c9).2.2 1 % 128 = (tn + 1) % 128 then bi else 1 - bi)), .int (nI (sn)), .int (nI (if (rdT f q g c9).2.2 1 / 128 ≠ bi ∨ (rdT f q g c9).2.2 1 % 128 = tn then tn else if 5 < (rdT f q g c9).2.1 ∧ (rdT f q g c9).2.2 1 % 128 = (tn + 1) % 128 then (tn + 1) % 128 else tn)), .int (nI (lk er un)), .int (nI (un + 1)), .int (nI (0)), .int (nI (0)), .int (nI (b2n al))]) := by first | rfl | (congr 2; omega) | simp_all
        have hc_6 : (.inr (3, [.ref (la), .ref (sa), .int (nI ((mf + (((rdT f q g c9).2.2) 0 % 128 + mu + 128 - sn) % 128) % 187)), .int (nI (mu - (((rdT f q g c9).2.2) 0 % 128 + mu + 128 - sn) % 128)), .int (nI (if ((rdT f q g c9).2.2) 0 / 128 = fi then min ma (mu - (((rdT f q g c9).2.2) 0 % 128 + mu + 128 - sn) % 128) else mu - (((rdT f q g c9).2.2) 0 % 128 + mu + 128 - sn) % 128)), .int (nI (mw))]) : va_E) = .inr (3, [.ref (la), .ref (sa), .int (nI ((mf + ((rdT f q g c9).2.2 0 % 128 + mu + 128 - sn) % 128) % 187)), .int (nI (mu - ((rdT f q g c9).2.2 0 % 128 + mu + 128 - sn) % 128)), .int (nI (if (rdT f q g c9).2.2 0 / 128 = fi then min ma (mu - ((rdT f q g c9).2.2 0 % 128 + mu + 128 - sn) % 128) else mu - ((rdT f q g c9).2.2 0 % 128 + mu + 128 - sn) % 128)), .int (nI (mw))]) := by first | rfl | (congr 2; omega) | simp_all
        have hc_7 : (.inr (4, [.ref (ba), .ref (sl), .int (nI (if ((rdT f q g c9).2.2) 1 / 128 ≠ bi ∨ ((rdT f q g c9).2.2) 1 % 128 = tn then t else if 5 < ((rdT f q g c9).2.1) ∧ ((rdT f q g c9).2.2) 1 % 128 = (tn + 1) % 128 then t + 1 else t))]) : va_E) = .inr (4, [.ref (ba), .ref (sl), .int (nI (if (rdT f q g c9).2.2 1 / 128 ≠ bi ∨ (rdT f q g c9).2.2 1 % 128 = tn then t else if 5 < (rdT f q g c9).2.1 ∧ (rdT f q g c9).2.2 1 % 128 = (tn + 1) % 128 then t + 1 else t))]) := by first | rfl | (congr 2; omega) | simp_all
        have hc_8 : (.inl (G.2 0, 13600, .inl (fun j => sb_b ((if ((rdT f q g c9).2.2) 1 / 128 ≠ bi ∨ ((rdT f q g c9).2.2) 1 % 128 = tn then bg else if 5 < ((rdT f q g c9).2.1) ∧ ((rdT f q g c9).2.2) 1 % 128 = (tn + 1) % 128 then kee bg ((rdT f q g c9).2.2) (t % 50) (((rdT f q g c9).2.1) - 5) else bg) j))) : va_E) = .inl (G.2 0, 13600, .inl (fun j => sb_b ((if (rdT f q g c9).2.2 1 / 128 ≠ bi ∨ (rdT f q g c9).2.2 1 % 128 = tn then bg else if 5 < (rdT f q g c9).2.1 ∧ (rdT f q g c9).2.2 1 % 128 = (tn + 1) % 128 then kee bg (rdT f q g c9).2.2 (t % 50) ((rdT f q g c9).2.1 - 5) else bg) j))) := by first | rfl | (congr 2; omega) | simp_all
        have hc_9 : (.inl (G.2 1, 50, .inl (fun j => nI ((if ((rdT f q g c9).2.2) 1 / 128 ≠ bi ∨ ((rdT f q g c9).2.2) 1 % 128 = tn then ll else if 5 < ((rdT f q g c9).2.1) ∧ ((rdT f q g c9).2.2) 1 % 128 = (tn + 1) % 128 then va_up ll (t % 50) (((rdT f q g c9).2.1) - 5) else ll) j))) : va_E) = .inl (G.2 1, 50, .inl (fun j => nI ((if (rdT f q g c9).2.2 1 / 128 ≠ bi ∨ (rdT f q g c9).2.2 1 % 128 = tn then ll else if 5 < (rdT f q g c9).2.1 ∧ (rdT f q g c9).2.2 1 % 128 = (tn + 1) % 128 then va_up ll (t % 50) ((rdT f q g c9).2.1 - 5) else ll) j))) := by first | rfl | (congr 2; omega) | simp_all
        have hw : mw_St G (mw_A M s.heap.size) s (va_up (va_up (va_up (va_up (va_up (va_up (va_up (va_up (va_up M hu (some (.inr (5, [.ref (ub), .int (nI ((rdT f q g c9).2.1))])))) ub (some (.inl (G.2 1, 277, .inl (fun j => nI (((rdT f q g c9).2.2) j)))))) li2 (some (.inr (2, [.ref (fa), .int (nI (n - 1))])))) fa (some (.inl (G.2 5, 40, .inr (.inr (.inr (.inr (va_up (lsh fr 0 (n - 1)) (n - 1) (some (ya 0)))))))))) x (some (.inr (0, [.ref (li), .ref (me), .ref (so), .int (nI (if (rdT f q g c9).2.2 0 / 128 = fi then fi else 1 - fi)), .int (nI (if (rdT f q g c9).2.2 1 / 128 ≠ bi ∨ (rdT f q g c9).2.2 1 % 128 = tn then bi else if 5 < (rdT f q g c9).2.1 ∧ (rdT f q g c9).2.2 1 % 128 = (tn + 1) % 128 then bi else 1 - bi)), .int (nI (sn)), .int (nI (if (rdT f q g c9).2.2 1 / 128 ≠ bi ∨ (rdT f q g c9).2.2 1 % 128 = tn then tn else if 5 < (rdT f q g c9).2.1 ∧ (rdT f q g c9).2.2 1 % 128 = (tn + 1) % 128 then (tn + 1) % 128 else tn)), .int (nI (lk er un)), .int (nI (un + 1)), .int (nI (0)), .int (nI (0)), .int (nI (b2n al))])))) me (some (.inr (3, [.ref (la), .ref (sa), .int (nI ((mf + ((rdT f q g c9).2.2 0 % 128 + mu + 128 - sn) % 128) % 187)), .int (nI (mu - ((rdT f q g c9).2.2 0 % 128 + mu + 128 - sn) % 128)), .int (nI (if (rdT f q g c9).2.2 0 / 128 = fi then min ma (mu - ((rdT f q g c9).2.2 0 % 128 + mu + 128 - sn) % 128) else mu - ((rdT f q g c9).2.2 0 % 128 + mu + 128 - sn) % 128)), .int (nI (mw))])))) so (some (.inr (4, [.ref (ba), .ref (sl), .int (nI (if (rdT f q g c9).2.2 1 / 128 ≠ bi ∨ (rdT f q g c9).2.2 1 % 128 = tn then t else if 5 < (rdT f q g c9).2.1 ∧ (rdT f q g c9).2.2 1 % 128 = (tn + 1) % 128 then t + 1 else t))])))) ba (some (.inl (G.2 0, 13600, .inl (fun j => sb_b ((if (rdT f q g c9).2.2 1 / 128 ≠ bi ∨ (rdT f q g c9).2.2 1 % 128 = tn then bg else if 5 < (rdT f q g c9).2.1 ∧ (rdT f q g c9).2.2 1 % 128 = (tn + 1) % 128 then kee bg (rdT f q g c9).2.2 (t % 50) ((rdT f q g c9).2.1 - 5) else bg) j)))))) sl (some (.inl (G.2 1, 50, .inl (fun j => nI ((if (rdT f q g c9).2.2 1 / 128 ≠ bi ∨ (rdT f q g c9).2.2 1 % 128 = tn then ll else if 5 < (rdT f q g c9).2.1 ∧ (rdT f q g c9).2.2 1 % 128 = (tn + 1) % 128 then va_up ll (t % 50) ((rdT f q g c9).2.1 - 5) else ll) j)))))) H locs := hw.to (fun q8 x8 h8 => by
          by_cases b_10 : q8 = hu
          · rw [b_10] at h8 ⊢; exact (mw_u1 m8_14 (mw_u1 m8_13 (mw_u1 m8_12 (mw_u1 m8_10 (mw_u1 (Ne.symm m2_8) (mw_u1 (Ne.symm m5_8) (mw_u1 (Ne.symm m4_8) (mw_u1 m8_9 mw_u0)))))))).trans (((mw_u1 m8_14 (mw_u1 m8_13 (mw_u1 m8_12 (mw_u1 m8_10 (mw_u1 (Ne.symm m2_8) (mw_u1 (Ne.symm m5_8) (mw_u1 (Ne.symm m4_8) (mw_u1 m8_9 mw_u0)))))))).symm.trans h8))
          by_cases b_11 : q8 = ub
          · rw [b_11] at h8 ⊢; exact (mw_u1 m9_14 (mw_u1 m9_13 (mw_u1 m9_12 (mw_u1 m9_10 (mw_u1 (Ne.symm m2_9) (mw_u1 (Ne.symm m5_9) (mw_u1 (Ne.symm m4_9) mw_u0))))))).trans (((mw_u1 m9_14 (mw_u1 m9_13 (mw_u1 m9_12 (mw_u1 m9_10 (mw_u1 (Ne.symm m2_9) (mw_u1 (Ne.symm m5_9) (mw_u1 (Ne.symm m4_9) mw_u0))))))).symm.trans h8))
          by_cases b_12 : q8 = li2
          · rw [b_12] at h8 ⊢; exact (mw_u1 m4_14 (mw_u1 m4_13 (mw_u1 m4_12 (mw_u1 m4_10 (mw_u1 (Ne.symm m2_4) (mw_u1 m4_5 mw_u0)))))).trans (((mw_u1 m4_14 (mw_u1 m4_13 (mw_u1 m4_12 (mw_u1 m4_10 (mw_u1 (Ne.symm m2_4) (mw_u1 m4_5 mw_u0)))))).symm.trans h8))
          by_cases b_13 : q8 = fa
          · rw [b_13] at h8 ⊢; exact (mw_u1 m5_14 (mw_u1 m5_13 (mw_u1 m5_12 (mw_u1 m5_10 (mw_u1 (Ne.symm m2_5) mw_u0))))).trans (((mw_u1 m5_14 (mw_u1 m5_13 (mw_u1 m5_12 (mw_u1 m5_10 (mw_u1 (Ne.symm m2_5) mw_u0))))).symm.trans h8))
          by_cases b_14 : q8 = x
          · rw [b_14] at h8 ⊢; exact (mw_u1 m2_14 (mw_u1 m2_13 (mw_u1 m2_12 (mw_u1 m2_10 mw_u0)))).trans ((congrArg some hc_5).trans ((mw_u1 m2_14 (mw_u1 m2_13 (mw_u1 m2_12 (mw_u1 m2_10 mw_u0)))).symm.trans h8))
          by_cases b_15 : q8 = me
          · rw [b_15] at h8 ⊢; exact (mw_u1 m10_14 (mw_u1 m10_13 (mw_u1 m10_12 mw_u0))).trans ((congrArg some hc_6).trans ((mw_u1 m10_14 (mw_u1 m10_13 (mw_u1 m10_12 mw_u0))).symm.trans h8))
          by_cases b_16 : q8 = so
          · rw [b_16] at h8 ⊢; exact (mw_u1 m12_14 (mw_u1 m12_13 mw_u0)).trans ((congrArg some hc_7).trans ((mw_u1 m12_14 (mw_u1 m12_13 mw_u0)).symm.trans h8))
          by_cases b_17 : q8 = ba
          · rw [b_17] at h8 ⊢; exact (mw_u1 m13_14 mw_u0).trans ((congrArg some hc_8).trans ((mw_u1 m13_14 mw_u0).symm.trans h8))
          by_cases b_18 : q8 = sl
          · rw [b_18] at h8 ⊢; exact mw_u0.trans ((congrArg some hc_9).trans (mw_u0.symm.trans h8))
          simp only [va_up_ne _ _ b_10, va_up_ne _ _ b_11, va_up_ne _ _ b_12, va_up_ne _ _ b_13, va_up_ne _ _ b_14, va_up_ne _ _ b_15, va_up_ne _ _ b_16, va_up_ne _ _ b_17, va_up_ne _ _ b_18] at h8 ⊢; exact h8)
        exact mw_iret hx hb hr hlocks hw (by first | rfl | simp_all | (congr 1; omega)) (fun _ _ h9 => h9) dX6_take_89
      · skip
        exact absurd c_3 (by decide)
    · skip
      have c_2 : n = 0 := (nI_eq (a := n) (b := 0) (by omega) (by omega)).mp c_2
      exfalso; omega
