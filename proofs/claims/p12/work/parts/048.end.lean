/-! ===== LinkPair.End, taking ===== -/
theorem inX0_beginAnew_X0 : ∀ w ∈ wsX00, w ∈ wsX0_beginAnew := by decide +kernel
theorem inX0_beginAnew_X2 : ∀ w ∈ wsX20, w ∈ wsX0_beginAnew := by decide +kernel
def RM_X0_beginAnew : Room := { frames := 1, cells := 0, slots := 0, locals := 20 }
set_option maxHeartbeats 4000000 in
set_option maxRecDepth 100000 in
theorem c_X0_beginAnew (l : Launch) (G : mw_G) (M : mw_M) (sz : Nat) (h0 li me so fi bi sn tn er un : Nat) (fl al ab : Bool) (fa n : Nat) (la sa mf mu ma mw : Nat) (e0 : M h0 = some (.inr (0, [.ref (li), .ref (me), .ref (so), .int (nI (fi)), .int (nI (bi)), .int (nI (sn)), .int (nI (tn)), .int (nI (er)), .int (nI (un)), .int (nI (b2n fl)), .int (nI (b2n al)), .int (nI (b2n ab))]))) (e1 : M li = some (.inr (2, [.ref (fa), .int (nI (n))]))) (e2 : M me = some (.inr (3, [.ref (la), .ref (sa), .int (nI (mf)), .int (nI (mu)), .int (nI (ma)), .int (nI (mw))])))   : Met l yX0_beginAnew wsX0_beginAnew RM_X0_beginAnew (mw_pre G M sz [.ref (h0)]) (mw_Qv G M sz (va_up (va_up (va_up M h0 (some (.inr (0, [.ref (li), .ref (me), .ref (so), .int (nI (1)), .int (nI (1)), .int (nI (127)), .int (nI (127)), .int (nI (0)), .int (nI (0)), .int (nI (0)), .int (nI (0)), .int (nI (0))])))) li (some (.inr (2, [.ref (fa), .int (nI (0))])))) me (some (.inr (3, [.ref (la), .ref (sa), .int (nI (mf)), .int (nI (0)), .int (nI (0)), .int (nI (0))]))))) 0 0 (mw_A M sz) := by
  refine Met.ofW (cc := cX0_beginAnew) (maxL := 1) (ret := none) (by decide) rfl ?_
  intro p e s m args below meth c s₁ B hml hv
  obtain ⟨rfl, rfl, hC, hw⟩ := mw_in hv
  have hx := B.exec
  have hb := B.bytes
  have hr := B.returns
  have hts := atoms_spec (ws := wsX0_beginAnew) B.pre
  have hown : s.vm.findClass RX0 = some m.cls := findClass_of_methodNamed B.named
  have hlocks := B.notSynchronized
  have k_0 := hts (.fieldLink RX0 12 "LinkPair$End" "line" "LLinkPair$Line;") (by decide +kernel)
  have k_1 := hts (.fieldLink RX0 21 "LinkPair$End" "messages" "LLinkPair$Messages;") (by decide +kernel)
  have k_2 := hts (.fieldLink RX0 32 "LinkPair$End" "forwardIndicator" "I") (by decide +kernel)
  have k_3 := hts (.fieldLink RX0 36 "LinkPair$End" "backwardIndicator" "I") (by decide +kernel)
  have k_4 := hts (.fieldLink RX0 39 "LinkPair$End" "sentNumber" "I") (by decide +kernel)
  have k_5 := hts (.fieldLink RX0 42 "LinkPair$End" "takenNumber" "I") (by decide +kernel)
  have k_6 := hts (.fieldLink RX0 51 "LinkPair$End" "errors" "I") (by decide +kernel)
  have k_7 := hts (.fieldLink RX0 54 "LinkPair$End" "units" "I") (by decide +kernel)
  have k_8 := hts (.fieldLink RX0 57 "LinkPair$End" "failed" "Z") (by decide +kernel)
  have k_9 := hts (.fieldLink RX0 61 "LinkPair$End" "abnormalLast" "Z") (by decide +kernel)
  have k_10 := hts (.fieldLink RX0 64 "LinkPair$End" "abnormalLastButOne" "Z") (by decide +kernel)
  have m0_1 : h0 ≠ li := mw_ne e0 e1 (by intro h9; cases h9)
  have m0_2 : h0 ≠ me := mw_ne e0 e2 (by intro h9; cases h9)
  have m1_2 : li ≠ me := mw_ne e1 e2 (by intro h9; cases h9)
  have hl := lv_entry ([.ref (h0)]) (n := 1) (Nat.le_of_ble_eq_true rfl)
  rw [lg_entry_eq]
  generalize (lg_sl ([.ref (h0)]) ++ List.replicate (1 - (lg_sl ([.ref (h0)])).length) Slot.unset).toArray = ls at hl ⊢
  have hl : lv_has ls 1 [(0, .ref (h0))] := hl
  refine mw_start (fun H locs hw => ?_) hw
  refine lv_aload_n hx hb dX0_beginAnew_0 rfl (lv_at hl 0 rfl) ?_
  refine mw_get (C := RX0) (T := TX0) (N := 12) (v := .ref (li)) hx hb hts inX0_beginAnew_X0 hown hC hw e0 rfl 0 (by decide) k_0 rfl dX0_beginAnew_1 ?_
  refine lv_iconst (v := nI 0) hx hb dX0_beginAnew_4 (by decide) ?_
  refine mw_putN (C := RX2) (T := TX2) (N := 2) hx hb hts inX0_beginAnew_X2 tyX2 tyX2_ok nmX2 hown hC hw e1 rfl 1 (by decide) (show Cond.fieldLinkNest RX0 45 (TX2 1).1 (TX2 1).2.1 (TX2 1).2.2.1 "LinkPair" ∈ mw_nestF by decide +kernel) rfl rfl rfl (Nat.le_of_ble_eq_true rfl) dX0_beginAnew_5 (fun H locs hw => ?_)
  have hw : mw_St G _ s (va_up _ li (some (.inr (2, [.ref (fa), .int (nI (0))])))) H locs := hw
  refine lv_aload_n hx hb dX0_beginAnew_8 rfl (lv_at hl 0 rfl) ?_
  refine mw_get (C := RX0) (T := TX0) (N := 12) (v := .ref (me)) hx hb hts inX0_beginAnew_X0 hown hC hw (mw_u1 m0_1 e0) rfl 1 (by decide) k_1 rfl dX0_beginAnew_9 ?_
  refine mw_cv hC hw (va_runV (As := []) (rest := []) ⟨hx, hb, hml, hown, hts⟩ (c_X3_empty l G _ H.size me la sa mf mu ma mw (mw_u1 (Ne.symm m1_2) e2) ) (cwV 0 hts gX0_beginAnew_X3_empty rfl rfl rfl (by decide +kernel) ⟨Nat.le_of_ble_eq_true rfl, Nat.le_of_ble_eq_true rfl⟩) (mw_preV (ci := 3) hC hw rfl (mw_u1 (Ne.symm m1_2) e2)) rfl rfl hl.1 rfl (lv_room (Nat.le_of_ble_eq_true rfl)) dX0_beginAnew_12 ⟨Nat.le_of_ble_eq_true rfl, Nat.le_of_ble_eq_true rfl⟩) (fun H locs hz hw => ?_)
  refine lv_aload_n hx hb dX0_beginAnew_15 rfl (lv_at hl 0 rfl) ?_
  refine lv_iconst (v := nI 1) hx hb dX0_beginAnew_16 (by decide) ?_
  refine mw_put (C := RX0) (T := TX0) (N := 12) hx hb hts inX0_beginAnew_X0 tyX0 tyX0_ok nmX0 hown hC hw (mw_u1 m0_2 (mw_u1 m0_1 e0)) rfl 3 (by decide) k_2 rfl rfl rfl (Nat.le_of_ble_eq_true rfl) dX0_beginAnew_17 (fun H locs hw => ?_)
  have hw : mw_St G _ s (va_up _ h0 (some (.inr (0, [.ref (li), .ref (me), .ref (so), .int (nI (1)), .int (nI (bi)), .int (nI (sn)), .int (nI (tn)), .int (nI (er)), .int (nI (un)), .int (nI (b2n fl)), .int (nI (b2n al)), .int (nI (b2n ab))])))) H locs := hw
  refine lv_aload_n hx hb dX0_beginAnew_20 rfl (lv_at hl 0 rfl) ?_
  refine lv_iconst (v := nI 1) hx hb dX0_beginAnew_21 (by decide) ?_
  refine mw_put (C := RX0) (T := TX0) (N := 12) hx hb hts inX0_beginAnew_X0 tyX0 tyX0_ok nmX0 hown hC hw mw_u0 rfl 4 (by decide) k_3 rfl rfl rfl (Nat.le_of_ble_eq_true rfl) dX0_beginAnew_22 (fun H locs hw => ?_)
  have hw : mw_St G _ s (va_up _ h0 (some (.inr (0, [.ref (li), .ref (me), .ref (so), .int (nI (1)), .int (nI (1)), .int (nI (sn)), .int (nI (tn)), .int (nI (er)), .int (nI (un)), .int (nI (b2n fl)), .int (nI (b2n al)), .int (nI (b2n ab))])))) H locs := hw
  refine lv_aload_n hx hb dX0_beginAnew_25 rfl (lv_at hl 0 rfl) ?_
  refine lv_bipush (v := nI 127) hx hb dX0_beginAnew_26 (by decide) ?_
  refine mw_put (C := RX0) (T := TX0) (N := 12) hx hb hts inX0_beginAnew_X0 tyX0 tyX0_ok nmX0 hown hC hw mw_u0 rfl 5 (by decide) k_4 rfl rfl rfl (Nat.le_of_ble_eq_true rfl) dX0_beginAnew_28 (fun H locs hw => ?_)
  have hw : mw_St G _ s (va_up _ h0 (some (.inr (0, [.ref (li), .ref (me), .ref (so), .int (nI (1)), .int (nI (1)), .int (nI (127)), .int (nI (tn)), .int (nI (er)), .int (nI (un)), .int (nI (b2n fl)), .int (nI (b2n al)), .int (nI (b2n ab))])))) H locs := hw
  refine lv_aload_n hx hb dX0_beginAnew_31 rfl (lv_at hl 0 rfl) ?_
  refine lv_bipush (v := nI 127) hx hb dX0_beginAnew_32 (by decide) ?_
  refine mw_put (C := RX0) (T := TX0) (N := 12) hx hb hts inX0_beginAnew_X0 tyX0 tyX0_ok nmX0 hown hC hw mw_u0 rfl 6 (by decide) k_5 rfl rfl rfl (Nat.le_of_ble_eq_true rfl) dX0_beginAnew_34 (fun H locs hw => ?_)
  have hw : mw_St G _ s (va_up _ h0 (some (.inr (0, [.ref (li), .ref (me), .ref (so), .int (nI (1)), .int (nI (1)), .int (nI (127)), .int (nI (127)), .int (nI (er)), .int (nI (un)), .int (nI (b2n fl)), .int (nI (b2n al)), .int (nI (b2n ab))])))) H locs := hw
  refine lv_aload_n hx hb dX0_beginAnew_37 rfl (lv_at hl 0 rfl) ?_
  refine lv_iconst (v := nI 0) hx hb dX0_beginAnew_38 (by decide) ?_
  refine mw_put (C := RX0) (T := TX0) (N := 12) hx hb hts inX0_beginAnew_X0 tyX0 tyX0_ok nmX0 hown hC hw mw_u0 rfl 7 (by decide) k_6 rfl rfl rfl (Nat.le_of_ble_eq_true rfl) dX0_beginAnew_39 (fun H locs hw => ?_)
  have hw : mw_St G _ s (va_up _ h0 (some (.inr (0, [.ref (li), .ref (me), .ref (so), .int (nI (1)), .int (nI (1)), .int (nI (127)), .int (nI (127)), .int (nI (0)), .int (nI (un)), .int (nI (b2n fl)), .int (nI (b2n al)), .int (nI (b2n ab))])))) H locs := hw
  refine lv_aload_n hx hb dX0_beginAnew_42 rfl (lv_at hl 0 rfl) ?_
  refine lv_iconst (v := nI 0) hx hb dX0_beginAnew_43 (by decide) ?_
  refine mw_put (C := RX0) (T := TX0) (N := 12) hx hb hts inX0_beginAnew_X0 tyX0 tyX0_ok nmX0 hown hC hw mw_u0 rfl 8 (by decide) k_7 rfl rfl rfl (Nat.le_of_ble_eq_true rfl) dX0_beginAnew_44 (fun H locs hw => ?_)
  have hw : mw_St G _ s (va_up _ h0 (some (.inr (0, [.ref (li), .ref (me), .ref (so), .int (nI (1)), .int (nI (1)), .int (nI (127)), .int (nI (127)), .int (nI (0)), .int (nI (0)), .int (nI (b2n fl)), .int (nI (b2n al)), .int (nI (b2n ab))])))) H locs := hw
  refine lv_aload_n hx hb dX0_beginAnew_47 rfl (lv_at hl 0 rfl) ?_
  refine lv_iconst (v := nI 0) hx hb dX0_beginAnew_48 (by decide) ?_
  refine mw_put (C := RX0) (T := TX0) (N := 12) hx hb hts inX0_beginAnew_X0 tyX0 tyX0_ok nmX0 hown hC hw mw_u0 rfl 9 (by decide) k_8 rfl (by decide) rfl (Nat.le_of_ble_eq_true rfl) dX0_beginAnew_49 (fun H locs hw => ?_)
  have hw : mw_St G _ s (va_up _ h0 (some (.inr (0, [.ref (li), .ref (me), .ref (so), .int (nI (1)), .int (nI (1)), .int (nI (127)), .int (nI (127)), .int (nI (0)), .int (nI (0)), .int (nI (0)), .int (nI (b2n al)), .int (nI (b2n ab))])))) H locs := hw
  refine lv_aload_n hx hb dX0_beginAnew_52 rfl (lv_at hl 0 rfl) ?_
  refine lv_iconst (v := nI 0) hx hb dX0_beginAnew_53 (by decide) ?_
  refine mw_put (C := RX0) (T := TX0) (N := 12) hx hb hts inX0_beginAnew_X0 tyX0 tyX0_ok nmX0 hown hC hw mw_u0 rfl 10 (by decide) k_9 rfl (by decide) rfl (Nat.le_of_ble_eq_true rfl) dX0_beginAnew_54 (fun H locs hw => ?_)
  have hw : mw_St G _ s (va_up _ h0 (some (.inr (0, [.ref (li), .ref (me), .ref (so), .int (nI (1)), .int (nI (1)), .int (nI (127)), .int (nI (127)), .int (nI (0)), .int (nI (0)), .int (nI (0)), .int (nI (0)), .int (nI (b2n ab))])))) H locs := hw
  refine lv_aload_n hx hb dX0_beginAnew_57 rfl (lv_at hl 0 rfl) ?_
  refine lv_iconst (v := nI 0) hx hb dX0_beginAnew_58 (by decide) ?_
  refine mw_put (C := RX0) (T := TX0) (N := 12) hx hb hts inX0_beginAnew_X0 tyX0 tyX0_ok nmX0 hown hC hw mw_u0 rfl 11 (by decide) k_10 rfl (by decide) rfl (Nat.le_of_ble_eq_true rfl) dX0_beginAnew_59 (fun H locs hw => ?_)
  have hw : mw_St G _ s (va_up _ h0 (some (.inr (0, [.ref (li), .ref (me), .ref (so), .int (nI (1)), .int (nI (1)), .int (nI (127)), .int (nI (127)), .int (nI (0)), .int (nI (0)), .int (nI (0)), .int (nI (0)), .int (nI (0))])))) H locs := hw
  have hw : mw_St G (mw_A M s.heap.size) s (va_up (va_up (va_up M h0 (some (.inr (0, [.ref (li), .ref (me), .ref (so), .int (nI (1)), .int (nI (1)), .int (nI (127)), .int (nI (127)), .int (nI (0)), .int (nI (0)), .int (nI (0)), .int (nI (0)), .int (nI (0))])))) li (some (.inr (2, [.ref (fa), .int (nI (0))])))) me (some (.inr (3, [.ref (la), .ref (sa), .int (nI (mf)), .int (nI (0)), .int (nI (0)), .int (nI (0))])))) H locs := hw.to (fun q8 x8 h8 => by
    by_cases b_2 : q8 = h0
    · rw [b_2] at h8 ⊢; exact mw_u0.trans (((mw_u1 m0_2 (mw_u1 m0_1 mw_u0)).symm.trans h8))
    by_cases b_3 : q8 = li
    · rw [b_3] at h8 ⊢; exact (mw_u1 (Ne.symm m0_1) (mw_u1 (Ne.symm m0_1) (mw_u1 (Ne.symm m0_1) (mw_u1 (Ne.symm m0_1) (mw_u1 (Ne.symm m0_1) (mw_u1 (Ne.symm m0_1) (mw_u1 (Ne.symm m0_1) (mw_u1 (Ne.symm m0_1) (mw_u1 (Ne.symm m0_1) (mw_u1 m1_2 mw_u0)))))))))).trans (((mw_u1 m1_2 mw_u0).symm.trans h8))
    by_cases b_4 : q8 = me
    · rw [b_4] at h8 ⊢; exact (mw_u1 (Ne.symm m0_2) (mw_u1 (Ne.symm m0_2) (mw_u1 (Ne.symm m0_2) (mw_u1 (Ne.symm m0_2) (mw_u1 (Ne.symm m0_2) (mw_u1 (Ne.symm m0_2) (mw_u1 (Ne.symm m0_2) (mw_u1 (Ne.symm m0_2) (mw_u1 (Ne.symm m0_2) mw_u0))))))))).trans ((mw_u0.symm.trans h8))
    simp only [va_up_ne _ _ b_2, va_up_ne _ _ b_3, va_up_ne _ _ b_4] at h8 ⊢; exact h8)
  exact mw_vret hx hb hr hlocks hw (fun _ _ h9 => h9) dX0_beginAnew_62
theorem inX0_toldBy_X0 : ∀ w ∈ wsX00, w ∈ wsX0_toldBy := by decide +kernel
theorem inX0_toldBy_X3 : ∀ w ∈ wsX30, w ∈ wsX0_toldBy := by decide +kernel
def RM_X0_toldBy : Room := { frames := 1, cells := 0, slots := 0, locals := 20 }
set_option maxHeartbeats 4000000 in
set_option maxRecDepth 100000 in
theorem c_X0_toldBy (l : Launch) (G : mw_G) (M : mw_M) (sz : Nat) (h0 li me so fi bi sn tn er un : Nat) (fl al ab : Bool) (la sa mf mu ma mw : Nat) (hu ub c9 : Nat) (g : Nat → Nat) (e0 : M h0 = some (.inr (0, [.ref (li), .ref (me), .ref (so), .int (nI (fi)), .int (nI (bi)), .int (nI (sn)), .int (nI (tn)), .int (nI (er)), .int (nI (un)), .int (nI (b2n fl)), .int (nI (b2n al)), .int (nI (b2n ab))]))) (e1 : M me = some (.inr (3, [.ref (la), .ref (sa), .int (nI (mf)), .int (nI (mu)), .int (nI (ma)), .int (nI (mw))]))) (e2 : M hu = some (.inr (5, [.ref (ub), .int (nI (c9))]))) (e3 : M ub = some (.inl (G.2 1, 277, .inl (fun j => nI (g j))))) (hsn : sn < 128) (hmu : mu ≤ 127) (hg : ∀ i, i < 277 → g i < 256)  : Met l yX0_toldBy wsX0_toldBy RM_X0_toldBy (mw_pre G M sz [.ref (h0), .ref (hu)]) (mw_Qi G M sz (nI ((g 0 % 128 + mu + 128 - sn) % 128)) M) 0 0 (mw_A M sz) := by
  refine Met.ofW (cc := cX0_toldBy) (maxL := 3) (ret := (some .int)) (by decide) rfl ?_
  intro p e s m args below meth c s₁ B hml hv
  obtain ⟨rfl, rfl, hC, hw⟩ := mw_in hv
  have hx := B.exec
  have hb := B.bytes
  have hr := B.returns
  have hts := atoms_spec (ws := wsX0_toldBy) B.pre
  have hown : s.vm.findClass RX0 = some m.cls := findClass_of_methodNamed B.named
  have hlocks := B.notSynchronized
  have k_0 := hts (.fieldLink RX0 39 "LinkPair$End" "sentNumber" "I") (by decide +kernel)
  have k_1 := hts (.fieldLink RX0 21 "LinkPair$End" "messages" "LLinkPair$Messages;") (by decide +kernel)
  have hl := lv_entry ([.ref (h0), .ref (hu)]) (n := 3) (Nat.le_of_ble_eq_true rfl)
  rw [lg_entry_eq]
  generalize (lg_sl ([.ref (h0), .ref (hu)]) ++ List.replicate (3 - (lg_sl ([.ref (h0), .ref (hu)])).length) Slot.unset).toArray = ls at hl ⊢
  have hl : lv_has ls 3 [(0, .ref (h0)), (1, .ref (hu))] := hl
  refine mw_start (fun H locs hw => ?_) hw
  refine lv_aload_n hx hb dX0_toldBy_0 rfl (lv_at hl 0 rfl) ?_
  refine mw_get (C := RX0) (T := TX0) (N := 12) (v := .int (nI (sn))) hx hb hts inX0_toldBy_X0 hown hC hw e0 rfl 5 (by decide) k_0 rfl dX0_toldBy_1 ?_
  refine lv_aload_n hx hb dX0_toldBy_4 rfl (lv_at hl 0 rfl) ?_
  refine mw_get (C := RX0) (T := TX0) (N := 12) (v := .ref (me)) hx hb hts inX0_toldBy_X0 hown hC hw e0 rfl 1 (by decide) k_1 rfl dX0_toldBy_5 ?_
  refine mw_getN (C := RX3) (T := TX3) (N := 6) (v := .int (nI (mu))) hx hb hts inX0_toldBy_X3 hown hC hw e1 rfl 3 (by decide) (show Cond.fieldLinkNest RX0 89 (TX3 3).1 (TX3 3).2.1 (TX3 3).2.2.1 "LinkPair" ∈ mw_nestF by decide +kernel) rfl dX0_toldBy_8 ?_
  refine lv_isub hx hb dX0_toldBy_11 ?_
  refine mw_ti (v' := nI sn - nI mu) (rfl) ?_
  refine lv_istore_n (lv' := [(2, .int (nI sn - nI mu)), (0, .ref (h0)), (1, .ref (hu))]) hx hb dX0_toldBy_12 rfl hl (by decide) rfl (fun ls hl => ?_)
  refine lv_aload_n hx hb dX0_toldBy_13 rfl (lv_at hl 2 rfl) ?_
  refine mw_ci hC hw (va_runV (As := []) (rest := []) ⟨hx, hb, hml, hown, hts⟩ (c_X5_backwardNumber l G _ H.size hu ub c9 g e2 e3 (hg 0 (by omega))) (cwV 0 hts gX0_toldBy_X5_backwardNumber rfl rfl rfl (by decide +kernel) ⟨Nat.le_of_ble_eq_true rfl, Nat.le_of_ble_eq_true rfl⟩) (mw_preV (ci := 5) hC hw rfl e2) rfl rfl hl.1 rfl (lv_room (Nat.le_of_ble_eq_true rfl)) dX0_toldBy_14 ⟨Nat.le_of_ble_eq_true rfl, Nat.le_of_ble_eq_true rfl⟩) (fun H locs hz hw => ?_)
  refine lv_iload_n hx hb dX0_toldBy_17 rfl (lv_at hl 0 rfl) ?_
  refine lv_isub hx hb dX0_toldBy_18 ?_
  refine mw_ti (v' := nI (g 0 % 128) - (nI sn - nI mu)) (rfl) ?_
  refine lv_bipush (v := nI 127) hx hb dX0_toldBy_19 (by decide) ?_
  refine lv_iand hx hb dX0_toldBy_21 ?_
  refine mw_ti (v' := nI ((g 0 % 128 + mu + 128 - sn) % 128)) (tb_val (by omega) (by omega) (by omega)) ?_
  exact mw_iret hx hb hr hlocks hw (rfl) (fun _ _ h9 => h9) dX0_toldBy_22
theorem inX0_isAbnormal_X0 : ∀ w ∈ wsX00, w ∈ wsX0_isAbnormal := by decide +kernel
theorem inX0_isAbnormal_X3 : ∀ w ∈ wsX30, w ∈ wsX0_isAbnormal := by decide +kernel
def RM_X0_isAbnormal : Room := { frames := 2, cells := 0, slots := 0, locals := 42 }
set_option maxHeartbeats 4000000 in
set_option maxRecDepth 100000 in
theorem c_X0_isAbnormal (l : Launch) (G : mw_G) (M : mw_M) (sz : Nat) (h0 li me so fi bi sn tn er un : Nat) (fl al ab : Bool) (la sa mf mu ma mw : Nat) (hu ub c9 : Nat) (g : Nat → Nat) (e0 : M h0 = some (.inr (0, [.ref (li), .ref (me), .ref (so), .int (nI (fi)), .int (nI (bi)), .int (nI (sn)), .int (nI (tn)), .int (nI (er)), .int (nI (un)), .int (nI (b2n fl)), .int (nI (b2n al)), .int (nI (b2n ab))]))) (e1 : M me = some (.inr (3, [.ref (la), .ref (sa), .int (nI (mf)), .int (nI (mu)), .int (nI (ma)), .int (nI (mw))]))) (e2 : M hu = some (.inr (5, [.ref (ub), .int (nI (c9))]))) (e3 : M ub = some (.inl (G.2 1, 277, .inl (fun j => nI (g j))))) (hsn : sn < 128) (hmu : mu ≤ 127) (hg : ∀ i, i < 277 → g i < 256)  : Met l yX0_isAbnormal wsX0_isAbnormal RM_X0_isAbnormal (mw_pre G M sz [.ref (h0), .ref (hu)]) (mw_Qi G M sz (nI (b2n (decide (mu < (g 0 % 128 + mu + 128 - sn) % 128)))) M) 0 0 (mw_A M sz) := by
  refine Met.ofW (cc := cX0_isAbnormal) (maxL := 2) (ret := (some .boolean)) (by decide) rfl ?_
  intro p e s m args below meth c s₁ B hml hv
  obtain ⟨rfl, rfl, hC, hw⟩ := mw_in hv
  have hx := B.exec
  have hb := B.bytes
  have hr := B.returns
  have hts := atoms_spec (ws := wsX0_isAbnormal) B.pre
  have hown : s.vm.findClass RX0 = some m.cls := findClass_of_methodNamed B.named
  have hlocks := B.notSynchronized
  have k_0 := hts (.fieldLink RX0 21 "LinkPair$End" "messages" "LLinkPair$Messages;") (by decide +kernel)
  have hl := lv_entry ([.ref (h0), .ref (hu)]) (n := 2) (Nat.le_of_ble_eq_true rfl)
  rw [lg_entry_eq]
  generalize (lg_sl ([.ref (h0), .ref (hu)]) ++ List.replicate (2 - (lg_sl ([.ref (h0), .ref (hu)])).length) Slot.unset).toArray = ls at hl ⊢
  have hl : lv_has ls 2 [(0, .ref (h0)), (1, .ref (hu))] := hl
  refine mw_start (fun H locs hw => ?_) hw
  refine lv_aload_n hx hb dX0_isAbnormal_0 rfl (lv_at hl 0 rfl) ?_
  refine lv_aload_n hx hb dX0_isAbnormal_1 rfl (lv_at hl 1 rfl) ?_
  refine mw_ci hC hw (va_runV (As := [.ref (hu)]) (rest := []) ⟨hx, hb, hml, hown, hts⟩ (c_X0_toldBy l G _ H.size h0 li me so fi bi sn tn er un fl al ab la sa mf mu ma mw hu ub c9 g e0 e1 e2 e3 (by omega) (by omega) (hg)) (cwV 1 hts gX0_isAbnormal_X0_toldBy rfl rfl rfl (by decide +kernel) ⟨Nat.le_of_ble_eq_true rfl, Nat.le_of_ble_eq_true rfl⟩) (mw_preV (ci := 0) hC hw rfl e0) rfl rfl hl.1 rfl (lv_room (Nat.le_of_ble_eq_true rfl)) dX0_isAbnormal_2 ⟨Nat.le_of_ble_eq_true rfl, Nat.le_of_ble_eq_true rfl⟩) (fun H locs hz hw => ?_)
  refine lv_aload_n hx hb dX0_isAbnormal_5 rfl (lv_at hl 0 rfl) ?_
  refine mw_get (C := RX0) (T := TX0) (N := 12) (v := .ref (me)) hx hb hts inX0_isAbnormal_X0 hown hC hw e0 rfl 1 (by decide) k_0 rfl dX0_isAbnormal_6 ?_
  refine mw_getN (C := RX3) (T := TX3) (N := 6) (v := .int (nI (mu))) hx hb hts inX0_isAbnormal_X3 hown hC hw e1 rfl 3 (by decide) (show Cond.fieldLinkNest RX0 89 (TX3 3).1 (TX3 3).2.1 (TX3 3).2.2.1 "LinkPair" ∈ mw_nestF by decide +kernel) rfl dX0_isAbnormal_9 ?_
  refine lv_icmp_le (tgt := 19) hx hb dX0_isAbnormal_12 (by decide) (fun c_1 => ?_) (fun c_1 => ?_)
  · skip
    have c_1 : (g 0 % 128 + mu + 128 - sn) % 128 ≤ mu := (nI_leI (a := (g 0 % 128 + mu + 128 - sn) % 128) (b := mu) (by omega) (by omega)).mp c_1
    refine lv_iconst (v := nI 0) hx hb dX0_isAbnormal_19 (by decide) ?_
    exact mw_zret hx hb hr hlocks hw (by decide) (by unfold b2n; rw [if_neg (by simp <;> omega)]) (fun _ _ h9 => h9) dX0_isAbnormal_20
  · skip
    have c_1 : (g 0 % 128 + mu + 128 - sn) % 128 > mu := Nat.not_le.mp (fun h => c_1 ((nI_leI (a := (g 0 % 128 + mu + 128 - sn) % 128) (b := mu) (by omega) (by omega)).mpr h))
    refine lv_iconst (v := nI 1) hx hb dX0_isAbnormal_15 (by decide) ?_
    refine lv_goto (tgt := 20) hx hb dX0_isAbnormal_16 (by decide) ?_
    exact mw_zret hx hb hr hlocks hw (by decide) (by unfold b2n; rw [if_pos (by simp <;> omega)]) (fun _ _ h9 => h9) dX0_isAbnormal_20
theorem inX0_takeBackward_X0 : ∀ w ∈ wsX00, w ∈ wsX0_takeBackward := by decide +kernel
theorem inX0_takeBackward_X3 : ∀ w ∈ wsX30, w ∈ wsX0_takeBackward := by decide +kernel
def RM_X0_takeBackward : Room := { frames := 2, cells := 0, slots := 0, locals := 61 }
set_option maxHeartbeats 4000000 in
set_option maxRecDepth 100000 in
theorem c_X0_takeBackward (l : Launch) (G : mw_G) (M : mw_M) (sz : Nat) (h0 li me so fi bi sn tn er un : Nat) (fl al ab : Bool) (la sa mf mu ma mw : Nat) (lg : Nat → Nat) (hu ub c9 : Nat) (g : Nat → Nat) (e0 : M h0 = some (.inr (0, [.ref (li), .ref (me), .ref (so), .int (nI (fi)), .int (nI (bi)), .int (nI (sn)), .int (nI (tn)), .int (nI (er)), .int (nI (un)), .int (nI (b2n fl)), .int (nI (b2n al)), .int (nI (b2n ab))]))) (e1 : M me = some (.inr (3, [.ref (la), .ref (sa), .int (nI (mf)), .int (nI (mu)), .int (nI (ma)), .int (nI (mw))]))) (e2 : M la = some (.inl (G.2 1, 187, .inl (fun j => nI (lg j))))) (e3 : M hu = some (.inr (5, [.ref (ub), .int (nI (c9))]))) (e4 : M ub = some (.inl (G.2 1, 277, .inl (fun j => nI (g j))))) (hfi : fi ≤ 1) (hsn : sn < 128) (hmf : mf < 187) (hmu : mu ≤ 127) (hma : ma ≤ mu) (hg : ∀ i, i < 277 → g i < 256) (htd : (g 0 % 128 + mu + 128 - sn) % 128 ≤ mu)  : Met l yX0_takeBackward wsX0_takeBackward RM_X0_takeBackward (mw_pre G M sz [.ref (h0), .ref (hu)]) (mw_Qv G M sz (va_up (va_up M h0 (some (.inr (0, [.ref (li), .ref (me), .ref (so), .int (nI (if g 0 / 128 = fi then fi else 1 - fi)), .int (nI (bi)), .int (nI (sn)), .int (nI (tn)), .int (nI (er)), .int (nI (un)), .int (nI (b2n fl)), .int (nI (b2n al)), .int (nI (b2n ab))])))) me (some (.inr (3, [.ref (la), .ref (sa), .int (nI ((mf + (g 0 % 128 + mu + 128 - sn) % 128) % 187)), .int (nI (mu - (g 0 % 128 + mu + 128 - sn) % 128)), .int (nI (if g 0 / 128 = fi then min ma (mu - (g 0 % 128 + mu + 128 - sn) % 128) else mu - (g 0 % 128 + mu + 128 - sn) % 128)), .int (nI (mw))]))))) 0 0 (mw_A M sz) := by
  refine Met.ofW (cc := cX0_takeBackward) (maxL := 2) (ret := none) (by decide) rfl ?_
  intro p e s m args below meth c s₁ B hml hv
  obtain ⟨rfl, rfl, hC, hw⟩ := mw_in hv
  have hx := B.exec
  have hb := B.bytes
  have hr := B.returns
  have hts := atoms_spec (ws := wsX0_takeBackward) B.pre
  have hown : s.vm.findClass RX0 = some m.cls := findClass_of_methodNamed B.named
  have hlocks := B.notSynchronized
  have k_0 := hts (.fieldLink RX0 21 "LinkPair$End" "messages" "LLinkPair$Messages;") (by decide +kernel)
  have k_1 := hts (.fieldLink RX0 32 "LinkPair$End" "forwardIndicator" "I") (by decide +kernel)
  have m0_1 : h0 ≠ me := mw_ne e0 e1 (by intro h9; cases h9)
  have m1_3 : me ≠ hu := mw_ne e1 e3 (by intro h9; cases h9)
  have m1_4 : me ≠ ub := mw_ne e1 e4 (by intro h9; cases h9)
  have hl := lv_entry ([.ref (h0), .ref (hu)]) (n := 2) (Nat.le_of_ble_eq_true rfl)
  rw [lg_entry_eq]
  generalize (lg_sl ([.ref (h0), .ref (hu)]) ++ List.replicate (2 - (lg_sl ([.ref (h0), .ref (hu)])).length) Slot.unset).toArray = ls at hl ⊢
  have hl : lv_has ls 2 [(0, .ref (h0)), (1, .ref (hu))] := hl
  refine mw_start (fun H locs hw => ?_) hw
  refine lv_aload_n hx hb dX0_takeBackward_0 rfl (lv_at hl 0 rfl) ?_
  refine mw_get (C := RX0) (T := TX0) (N := 12) (v := .ref (me)) hx hb hts inX0_takeBackward_X0 hown hC hw e0 rfl 1 (by decide) k_0 rfl dX0_takeBackward_1 ?_
  refine lv_aload_n hx hb dX0_takeBackward_4 rfl (lv_at hl 0 rfl) ?_
  refine lv_aload_n hx hb dX0_takeBackward_5 rfl (lv_at hl 1 rfl) ?_
  refine mw_ci hC hw (va_runV (As := [.ref (hu)]) (rest := [.ref (me)]) ⟨hx, hb, hml, hown, hts⟩ (c_X0_toldBy l G _ H.size h0 li me so fi bi sn tn er un fl al ab la sa mf mu ma mw hu ub c9 g e0 e1 e3 e4 (by omega) (by omega) (hg)) (cwV 1 hts gX0_takeBackward_X0_toldBy rfl rfl rfl (by decide +kernel) ⟨Nat.le_of_ble_eq_true rfl, Nat.le_of_ble_eq_true rfl⟩) (mw_preV (ci := 0) hC hw rfl e0) rfl rfl hl.1 rfl (lv_room (Nat.le_of_ble_eq_true rfl)) dX0_takeBackward_6 ⟨Nat.le_of_ble_eq_true rfl, Nat.le_of_ble_eq_true rfl⟩) (fun H locs hz hw => ?_)
  refine mw_cv hC hw (va_runV (As := [.int (nI ((g 0 % 128 + mu + 128 - sn) % 128))]) (rest := []) ⟨hx, hb, hml, hown, hts⟩ (c_X3_forget l G _ H.size me la sa mf mu ma mw lg ((g 0 % 128 + mu + 128 - sn) % 128) e1 e2 (by omega) (by omega) (by omega) (htd)) (cwV 1 hts gX0_takeBackward_X3_forget rfl rfl rfl (by decide +kernel) ⟨Nat.le_of_ble_eq_true rfl, Nat.le_of_ble_eq_true rfl⟩) (mw_preV (ci := 3) hC hw rfl e1) rfl rfl hl.1 rfl (lv_room (Nat.le_of_ble_eq_true rfl)) dX0_takeBackward_9 ⟨Nat.le_of_ble_eq_true rfl, Nat.le_of_ble_eq_true rfl⟩) (fun H locs hz hw => ?_)
  refine lv_aload_n hx hb dX0_takeBackward_12 rfl (lv_at hl 1 rfl) ?_
  refine mw_ci hC hw (va_runV (As := []) (rest := []) ⟨hx, hb, hml, hown, hts⟩ (c_X5_backwardIndicator l G _ H.size hu ub c9 g (mw_u1 (Ne.symm m1_3) e3) (mw_u1 (Ne.symm m1_4) e4) (hg 0 (by omega))) (cwV 0 hts gX0_takeBackward_X5_backwardIndicator rfl rfl rfl (by decide +kernel) ⟨Nat.le_of_ble_eq_true rfl, Nat.le_of_ble_eq_true rfl⟩) (mw_preV (ci := 5) hC hw rfl (mw_u1 (Ne.symm m1_3) e3)) rfl rfl hl.1 rfl (lv_room (Nat.le_of_ble_eq_true rfl)) dX0_takeBackward_13 ⟨Nat.le_of_ble_eq_true rfl, Nat.le_of_ble_eq_true rfl⟩) (fun H locs hz hw => ?_)
  have hg0 := hg 0 (by omega)
  refine lv_aload_n hx hb dX0_takeBackward_16 rfl (lv_at hl 0 rfl) ?_
  refine mw_get (C := RX0) (T := TX0) (N := 12) (v := .int (nI (fi))) hx hb hts inX0_takeBackward_X0 hown hC hw (mw_u1 m0_1 e0) rfl 3 (by decide) k_1 rfl dX0_takeBackward_17 ?_
  refine lv_icmp_eq (tgt := 47) hx hb dX0_takeBackward_20 (by decide) (fun c_1 => ?_) (fun c_1 => ?_)
  · skip
    have c_1 : g 0 / 128 = fi := (nI_eq (a := g 0 / 128) (b := fi) (by omega) (by omega)).mp c_1
    have hc_3 : (.inr (0, [.ref (li), .ref (me), .ref (so), .int (nI (fi)), .int (nI (bi)), .int (nI (sn)), .int (nI (tn)), .int (nI (er)), .int (nI (un)), .int (nI (b2n fl)), .int (nI (b2n al)), .int (nI (b2n ab))]) : va_E) = .inr (0, [.ref (li), .ref (me), .ref (so), .int (nI (if g 0 / 128 = fi then fi else 1 - fi)), .int (nI (bi)), .int (nI (sn)), .int (nI (tn)), .int (nI (er)), .int (nI (un)), .int (nI (b2n fl)), .int (nI (b2n al)), .int (nI (b2n ab))]) := by first | (rw [if_pos (by assumption)]; done) | (rw [if_neg (by assumption)])
    have hc_4 : (.inr (3, [.ref (la), .ref (sa), .int (nI ((mf + ((g 0 % 128 + mu + 128 - sn) % 128)) % 187)), .int (nI (mu - ((g 0 % 128 + mu + 128 - sn) % 128))), .int (nI (min ma (mu - ((g 0 % 128 + mu + 128 - sn) % 128)))), .int (nI (mw))]) : va_E) = .inr (3, [.ref (la), .ref (sa), .int (nI ((mf + (g 0 % 128 + mu + 128 - sn) % 128) % 187)), .int (nI (mu - (g 0 % 128 + mu + 128 - sn) % 128)), .int (nI (if g 0 / 128 = fi then min ma (mu - (g 0 % 128 + mu + 128 - sn) % 128) else mu - (g 0 % 128 + mu + 128 - sn) % 128)), .int (nI (mw))]) := by first | (rw [if_pos (by assumption)]; done) | (rw [if_neg (by assumption)])
    have hw : mw_St G (mw_A M s.heap.size) s (va_up (va_up M h0 (some (.inr (0, [.ref (li), .ref (me), .ref (so), .int (nI (if g 0 / 128 = fi then fi else 1 - fi)), .int (nI (bi)), .int (nI (sn)), .int (nI (tn)), .int (nI (er)), .int (nI (un)), .int (nI (b2n fl)), .int (nI (b2n al)), .int (nI (b2n ab))])))) me (some (.inr (3, [.ref (la), .ref (sa), .int (nI ((mf + (g 0 % 128 + mu + 128 - sn) % 128) % 187)), .int (nI (mu - (g 0 % 128 + mu + 128 - sn) % 128)), .int (nI (if g 0 / 128 = fi then min ma (mu - (g 0 % 128 + mu + 128 - sn) % 128) else mu - (g 0 % 128 + mu + 128 - sn) % 128)), .int (nI (mw))])))) H locs := hw.to (fun q8 x8 h8 => by
      by_cases b_5 : q8 = h0
      · rw [b_5] at h8 ⊢; exact (mw_u1 m0_1 e0).trans ((congrArg some hc_3).trans ((mw_u1 m0_1 mw_u0).symm.trans h8))
      by_cases b_6 : q8 = me
      · rw [b_6] at h8 ⊢; exact mw_u0.trans ((congrArg some hc_4).trans (mw_u0.symm.trans h8))
      simp only [va_up_ne _ _ b_5, va_up_ne _ _ b_6] at h8 ⊢; exact h8)
    exact mw_vret hx hb hr hlocks hw (fun _ _ h9 => h9) dX0_takeBackward_47
  · skip
    have c_1 : g 0 / 128 ≠ fi := fun h => c_1 ((nI_eq (a := g 0 / 128) (b := fi) (by omega) (by omega)).mpr h)
    refine lv_aload_n hx hb dX0_takeBackward_23 rfl (lv_at hl 0 rfl) ?_
    refine lv_iconst (v := nI 1) hx hb dX0_takeBackward_24 (by decide) ?_
    refine lv_aload_n hx hb dX0_takeBackward_25 rfl (lv_at hl 0 rfl) ?_
    refine mw_get (C := RX0) (T := TX0) (N := 12) (v := .int (nI (fi))) hx hb hts inX0_takeBackward_X0 hown hC hw (mw_u1 m0_1 e0) rfl 3 (by decide) k_1 rfl dX0_takeBackward_26 ?_
    refine lv_isub hx hb dX0_takeBackward_29 ?_
    refine mw_ti (v' := nI (1 - fi)) (pk_sub (by omega)) ?_
    refine mw_put (C := RX0) (T := TX0) (N := 12) hx hb hts inX0_takeBackward_X0 tyX0 tyX0_ok nmX0 hown hC hw (mw_u1 m0_1 e0) rfl 3 (by decide) k_1 rfl rfl rfl (Nat.le_of_ble_eq_true rfl) dX0_takeBackward_30 (fun H locs hw => ?_)
    have hw : mw_St G _ s (va_up _ h0 (some (.inr (0, [.ref (li), .ref (me), .ref (so), .int (nI (1 - fi)), .int (nI (bi)), .int (nI (sn)), .int (nI (tn)), .int (nI (er)), .int (nI (un)), .int (nI (b2n fl)), .int (nI (b2n al)), .int (nI (b2n ab))])))) H locs := hw
    refine lv_aload_n hx hb dX0_takeBackward_33 rfl (lv_at hl 0 rfl) ?_
    refine mw_get (C := RX0) (T := TX0) (N := 12) (v := .ref (me)) hx hb hts inX0_takeBackward_X0 hown hC hw mw_u0 rfl 1 (by decide) k_0 rfl dX0_takeBackward_34 ?_
    refine lv_aload_n hx hb dX0_takeBackward_37 rfl (lv_at hl 0 rfl) ?_
    refine mw_get (C := RX0) (T := TX0) (N := 12) (v := .ref (me)) hx hb hts inX0_takeBackward_X0 hown hC hw mw_u0 rfl 1 (by decide) k_0 rfl dX0_takeBackward_38 ?_
    refine mw_getN (C := RX3) (T := TX3) (N := 6) (v := .int (nI (mu - ((g 0 % 128 + mu + 128 - sn) % 128)))) hx hb hts inX0_takeBackward_X3 hown hC hw (mw_u1 (Ne.symm m0_1) mw_u0) rfl 3 (by decide) (show Cond.fieldLinkNest RX0 89 (TX3 3).1 (TX3 3).2.1 (TX3 3).2.2.1 "LinkPair" ∈ mw_nestF by decide +kernel) rfl dX0_takeBackward_41 ?_
    refine mw_putN (C := RX3) (T := TX3) (N := 6) hx hb hts inX0_takeBackward_X3 tyX3 tyX3_ok nmX3 hown hC hw (mw_u1 (Ne.symm m0_1) mw_u0) rfl 4 (by decide) (show Cond.fieldLinkNest RX0 67 (TX3 4).1 (TX3 4).2.1 (TX3 4).2.2.1 "LinkPair" ∈ mw_nestF by decide +kernel) rfl rfl rfl (Nat.le_of_ble_eq_true rfl) dX0_takeBackward_44 (fun H locs hw => ?_)
    have hw : mw_St G _ s (va_up _ me (some (.inr (3, [.ref (la), .ref (sa), .int (nI ((mf + ((g 0 % 128 + mu + 128 - sn) % 128)) % 187)), .int (nI (mu - ((g 0 % 128 + mu + 128 - sn) % 128))), .int (nI (mu - ((g 0 % 128 + mu + 128 - sn) % 128))), .int (nI (mw))])))) H locs := hw
    have hc_8 : (.inr (0, [.ref (li), .ref (me), .ref (so), .int (nI (1 - fi)), .int (nI (bi)), .int (nI (sn)), .int (nI (tn)), .int (nI (er)), .int (nI (un)), .int (nI (b2n fl)), .int (nI (b2n al)), .int (nI (b2n ab))]) : va_E) = .inr (0, [.ref (li), .ref (me), .ref (so), .int (nI (if g 0 / 128 = fi then fi else 1 - fi)), .int (nI (bi)), .int (nI (sn)), .int (nI (tn)), .int (nI (er)), .int (nI (un)), .int (nI (b2n fl)), .int (nI (b2n al)), .int (nI (b2n ab))]) := by first | (rw [if_pos (by assumption)]; done) | (rw [if_neg (by assumption)])
    have hc_9 : (.inr (3, [.ref (la), .ref (sa), .int (nI ((mf + ((g 0 % 128 + mu + 128 - sn) % 128)) % 187)), .int (nI (mu - ((g 0 % 128 + mu + 128 - sn) % 128))), .int (nI (mu - ((g 0 % 128 + mu + 128 - sn) % 128))), .int (nI (mw))]) : va_E) = .inr (3, [.ref (la), .ref (sa), .int (nI ((mf + (g 0 % 128 + mu + 128 - sn) % 128) % 187)), .int (nI (mu - (g 0 % 128 + mu + 128 - sn) % 128)), .int (nI (if g 0 / 128 = fi then min ma (mu - (g 0 % 128 + mu + 128 - sn) % 128) else mu - (g 0 % 128 + mu + 128 - sn) % 128)), .int (nI (mw))]) := by first | (rw [if_pos (by assumption)]; done) | (rw [if_neg (by assumption)])
    have hw : mw_St G (mw_A M s.heap.size) s (va_up (va_up M h0 (some (.inr (0, [.ref (li), .ref (me), .ref (so), .int (nI (if g 0 / 128 = fi then fi else 1 - fi)), .int (nI (bi)), .int (nI (sn)), .int (nI (tn)), .int (nI (er)), .int (nI (un)), .int (nI (b2n fl)), .int (nI (b2n al)), .int (nI (b2n ab))])))) me (some (.inr (3, [.ref (la), .ref (sa), .int (nI ((mf + (g 0 % 128 + mu + 128 - sn) % 128) % 187)), .int (nI (mu - (g 0 % 128 + mu + 128 - sn) % 128)), .int (nI (if g 0 / 128 = fi then min ma (mu - (g 0 % 128 + mu + 128 - sn) % 128) else mu - (g 0 % 128 + mu + 128 - sn) % 128)), .int (nI (mw))])))) H locs := hw.to (fun q8 x8 h8 => by
      by_cases b_10 : q8 = h0
      · rw [b_10] at h8 ⊢; exact (mw_u1 m0_1 mw_u0).trans ((congrArg some hc_8).trans ((mw_u1 m0_1 mw_u0).symm.trans h8))
      by_cases b_11 : q8 = me
      · rw [b_11] at h8 ⊢; exact mw_u0.trans ((congrArg some hc_9).trans (mw_u0.symm.trans h8))
      simp only [va_up_ne _ _ b_10, va_up_ne _ _ b_11] at h8 ⊢; exact h8)
    exact mw_vret hx hb hr hlocks hw (fun _ _ h9 => h9) dX0_takeBackward_47
theorem inX0_takeForward_X0 : ∀ w ∈ wsX00, w ∈ wsX0_takeForward := by decide +kernel
def RM_X0_takeForward : Room := { frames := 2, cells := 0, slots := 0, locals := 44 }
set_option maxHeartbeats 4000000 in
set_option maxRecDepth 100000 in
theorem c_X0_takeForward (l : Launch) (G : mw_G) (M : mw_M) (sz : Nat) (h0 li me so fi bi sn tn er un : Nat) (fl al ab : Bool) (ba sl t : Nat) (bg ll : Nat → Nat) (hu ub c9 : Nat) (g : Nat → Nat) (e0 : M h0 = some (.inr (0, [.ref (li), .ref (me), .ref (so), .int (nI (fi)), .int (nI (bi)), .int (nI (sn)), .int (nI (tn)), .int (nI (er)), .int (nI (un)), .int (nI (b2n fl)), .int (nI (b2n al)), .int (nI (b2n ab))]))) (e1 : M so = some (.inr (4, [.ref (ba), .ref (sl), .int (nI (t))]))) (e2 : M ba = some (.inl (G.2 0, 13600, .inl (fun j => sb_b (bg j))))) (e3 : M sl = some (.inl (G.2 1, 50, .inl (fun j => nI (ll j))))) (e4 : M hu = some (.inr (5, [.ref (ub), .int (nI (c9))]))) (e5 : M ub = some (.inl (G.2 1, 277, .inl (fun j => nI (g j))))) (hbi : bi ≤ 1) (htn : tn < 128) (hg : ∀ i, i < 277 → g i < 256) (hc9 : 5 ≤ c9) (hc92 : c9 ≤ 277) (ht : t < 100000)  : Met l yX0_takeForward wsX0_takeForward RM_X0_takeForward (mw_pre G M sz [.ref (h0), .ref (hu)]) (mw_Qi G M sz (nI (if g 1 / 128 ≠ bi ∨ g 1 % 128 = tn then 0 else if 5 < c9 ∧ g 1 % 128 = (tn + 1) % 128 then 1 else 2)) (va_up (va_up (va_up (va_up M h0 (some (.inr (0, [.ref (li), .ref (me), .ref (so), .int (nI (fi)), .int (nI (if g 1 / 128 ≠ bi ∨ g 1 % 128 = tn then bi else if 5 < c9 ∧ g 1 % 128 = (tn + 1) % 128 then bi else 1 - bi)), .int (nI (sn)), .int (nI (if g 1 / 128 ≠ bi ∨ g 1 % 128 = tn then tn else if 5 < c9 ∧ g 1 % 128 = (tn + 1) % 128 then (tn + 1) % 128 else tn)), .int (nI (er)), .int (nI (un)), .int (nI (b2n fl)), .int (nI (b2n al)), .int (nI (b2n ab))])))) so (some (.inr (4, [.ref (ba), .ref (sl), .int (nI (if g 1 / 128 ≠ bi ∨ g 1 % 128 = tn then t else if 5 < c9 ∧ g 1 % 128 = (tn + 1) % 128 then t + 1 else t))])))) ba (some (.inl (G.2 0, 13600, .inl (fun j => sb_b ((if g 1 / 128 ≠ bi ∨ g 1 % 128 = tn then bg else if 5 < c9 ∧ g 1 % 128 = (tn + 1) % 128 then kee bg g (t % 50) (c9 - 5) else bg) j)))))) sl (some (.inl (G.2 1, 50, .inl (fun j => nI ((if g 1 / 128 ≠ bi ∨ g 1 % 128 = tn then ll else if 5 < c9 ∧ g 1 % 128 = (tn + 1) % 128 then va_up ll (t % 50) (c9 - 5) else ll) j))))))) 0 0 (mw_A M sz) := by
  refine Met.ofW (cc := cX0_takeForward) (maxL := 3) (ret := (some .int)) (by decide) rfl ?_
  intro p e s m args below meth c s₁ B hml hv
  obtain ⟨rfl, rfl, hC, hw⟩ := mw_in hv
  have hx := B.exec
  have hb := B.bytes
  have hr := B.returns
  have hts := atoms_spec (ws := wsX0_takeForward) B.pre
  have hown : s.vm.findClass RX0 = some m.cls := findClass_of_methodNamed B.named
  have hlocks := B.notSynchronized
  have k_0 := hts (.fieldLink RX0 36 "LinkPair$End" "backwardIndicator" "I") (by decide +kernel)
  have k_1 := hts (.fieldLink RX0 42 "LinkPair$End" "takenNumber" "I") (by decide +kernel)
  have k_2 := hts (.initialized RX6) (by decide +kernel)
  have k_3 := hts (.static yX6_nextNumber) (by decide +kernel)
  have k_4 := hts (.fieldLink RX0 28 "LinkPair$End" "store" "LLinkPair$Store;") (by decide +kernel)
  have m0_1 : h0 ≠ so := mw_ne e0 e1 (by intro h9; cases h9)
  have m0_2 : h0 ≠ ba := mw_ne e0 e2 (by intro h9; cases h9)
  have m0_3 : h0 ≠ sl := mw_ne e0 e3 (by intro h9; cases h9)
  have m0_4 : h0 ≠ hu := mw_ne e0 e4 (by intro h9; cases h9)
  have m0_5 : h0 ≠ ub := mw_ne e0 e5 (by intro h9; cases h9)
  have m1_2 : so ≠ ba := mw_ne e1 e2 (by intro h9; cases h9)
  have m1_3 : so ≠ sl := mw_ne e1 e3 (by intro h9; cases h9)
  have m2_3 : ba ≠ sl := mw_ne e2 e3 (by simp)
  have hl := lv_entry ([.ref (h0), .ref (hu)]) (n := 3) (Nat.le_of_ble_eq_true rfl)
  rw [lg_entry_eq]
  generalize (lg_sl ([.ref (h0), .ref (hu)]) ++ List.replicate (3 - (lg_sl ([.ref (h0), .ref (hu)])).length) Slot.unset).toArray = ls at hl ⊢
  have hl : lv_has ls 3 [(0, .ref (h0)), (1, .ref (hu))] := hl
  refine mw_start (fun H locs hw => ?_) hw
  have hg1 := hg 1 (by omega)
  refine lv_aload_n hx hb dX0_takeForward_0 rfl (lv_at hl 1 rfl) ?_
  refine mw_ci hC hw (va_runV (As := []) (rest := []) ⟨hx, hb, hml, hown, hts⟩ (c_X5_forwardIndicator l G _ H.size hu ub c9 g e4 e5 (hg1)) (cwV 0 hts gX0_takeForward_X5_forwardIndicator rfl rfl rfl (by decide +kernel) ⟨Nat.le_of_ble_eq_true rfl, Nat.le_of_ble_eq_true rfl⟩) (mw_preV (ci := 5) hC hw rfl e4) rfl rfl hl.1 rfl (lv_room (Nat.le_of_ble_eq_true rfl)) dX0_takeForward_1 ⟨Nat.le_of_ble_eq_true rfl, Nat.le_of_ble_eq_true rfl⟩) (fun H locs hz hw => ?_)
  refine lv_aload_n hx hb dX0_takeForward_4 rfl (lv_at hl 0 rfl) ?_
  refine mw_get (C := RX0) (T := TX0) (N := 12) (v := .int (nI (bi))) hx hb hts inX0_takeForward_X0 hown hC hw e0 rfl 4 (by decide) k_0 rfl dX0_takeForward_5 ?_
  refine lv_icmp_eq (tgt := 13) hx hb dX0_takeForward_8 (by decide) (fun c_1 => ?_) (fun c_1 => ?_)
  · skip
    have c_1 : g 1 / 128 = bi := (nI_eq (a := g 1 / 128) (b := bi) (by omega) (by omega)).mp c_1
    refine lv_aload_n hx hb dX0_takeForward_13 rfl (lv_at hl 1 rfl) ?_
    refine mw_ci hC hw (va_runV (As := []) (rest := []) ⟨hx, hb, hml, hown, hts⟩ (c_X5_forwardNumber l G _ H.size hu ub c9 g e4 e5 (hg1)) (cwV 0 hts gX0_takeForward_X5_forwardNumber rfl rfl rfl (by decide +kernel) ⟨Nat.le_of_ble_eq_true rfl, Nat.le_of_ble_eq_true rfl⟩) (mw_preV (ci := 5) hC hw rfl e4) rfl rfl hl.1 rfl (lv_room (Nat.le_of_ble_eq_true rfl)) dX0_takeForward_14 ⟨Nat.le_of_ble_eq_true rfl, Nat.le_of_ble_eq_true rfl⟩) (fun H locs hz hw => ?_)
    refine lv_istore_n (lv' := [(2, .int (nI (g 1 % 128))), (0, .ref (h0)), (1, .ref (hu))]) hx hb dX0_takeForward_17 rfl hl (by decide) rfl (fun ls hl => ?_)
    refine lv_iload_n hx hb dX0_takeForward_18 rfl (lv_at hl 0 rfl) ?_
    refine lv_aload_n hx hb dX0_takeForward_19 rfl (lv_at hl 1 rfl) ?_
    refine mw_get (C := RX0) (T := TX0) (N := 12) (v := .int (nI (tn))) hx hb hts inX0_takeForward_X0 hown hC hw e0 rfl 6 (by decide) k_1 rfl dX0_takeForward_20 ?_
    refine lv_icmp_ne (tgt := 28) hx hb dX0_takeForward_23 (by decide) (fun c_2 => ?_) (fun c_2 => ?_)
    · skip
      have c_2 : g 1 % 128 ≠ tn := fun h => c_2 ((nI_eq (a := g 1 % 128) (b := tn) (by omega) (by omega)).mpr h)
      refine lv_aload_n hx hb dX0_takeForward_28 rfl (lv_at hl 2 rfl) ?_
      refine mw_ci hC hw (va_runV (As := []) (rest := []) ⟨hx, hb, hml, hown, hts⟩ (c_X5_bodyLength l G _ H.size hu ub c9 e4 (by omega)) (cwV 0 hts gX0_takeForward_X5_bodyLength rfl rfl rfl (by decide +kernel) ⟨Nat.le_of_ble_eq_true rfl, Nat.le_of_ble_eq_true rfl⟩) (mw_preV (ci := 5) hC hw rfl e4) rfl rfl hl.1 rfl (lv_room (Nat.le_of_ble_eq_true rfl)) dX0_takeForward_29 ⟨Nat.le_of_ble_eq_true rfl, Nat.le_of_ble_eq_true rfl⟩) (fun H locs hz hw => ?_)
      refine lv_if_le (tgt := 61) hx hb dX0_takeForward_32 (by decide) (fun c_3 => ?_) (fun c_3 => ?_)
      · skip
        have c_3 : c9 - 5 ≤ 0 := (nI_leI (a := c9 - 5) (b := 0) (by omega) (by omega)).mp c_3
        refine lv_aload_n hx hb dX0_takeForward_61 rfl (lv_at hl 1 rfl) ?_
        refine lv_iconst (v := nI 1) hx hb dX0_takeForward_62 (by decide) ?_
        refine lv_aload_n hx hb dX0_takeForward_63 rfl (lv_at hl 1 rfl) ?_
        refine mw_get (C := RX0) (T := TX0) (N := 12) (v := .int (nI (bi))) hx hb hts inX0_takeForward_X0 hown hC hw e0 rfl 4 (by decide) k_0 rfl dX0_takeForward_64 ?_
        refine lv_isub hx hb dX0_takeForward_67 ?_
        refine mw_ti (v' := nI (1 - bi)) (pk_sub (by omega)) ?_
        refine mw_put (C := RX0) (T := TX0) (N := 12) hx hb hts inX0_takeForward_X0 tyX0 tyX0_ok nmX0 hown hC hw e0 rfl 4 (by decide) k_0 rfl rfl rfl (Nat.le_of_ble_eq_true rfl) dX0_takeForward_68 (fun H locs hw => ?_)
        have hw : mw_St G _ s (va_up _ h0 (some (.inr (0, [.ref (li), .ref (me), .ref (so), .int (nI (fi)), .int (nI (1 - bi)), .int (nI (sn)), .int (nI (tn)), .int (nI (er)), .int (nI (un)), .int (nI (b2n fl)), .int (nI (b2n al)), .int (nI (b2n ab))])))) H locs := hw
        refine lv_iconst (v := nI 2) hx hb dX0_takeForward_71 (by decide) ?_
        have hc_5 : (.inr (0, [.ref (li), .ref (me), .ref (so), .int (nI (fi)), .int (nI (1 - bi)), .int (nI (sn)), .int (nI (tn)), .int (nI (er)), .int (nI (un)), .int (nI (b2n fl)), .int (nI (b2n al)), .int (nI (b2n ab))]) : va_E) = .inr (0, [.ref (li), .ref (me), .ref (so), .int (nI (fi)), .int (nI (if g 1 / 128 ≠ bi ∨ g 1 % 128 = tn then bi else if 5 < c9 ∧ g 1 % 128 = (tn + 1) % 128 then bi else 1 - bi)), .int (nI (sn)), .int (nI (if g 1 / 128 ≠ bi ∨ g 1 % 128 = tn then tn else if 5 < c9 ∧ g 1 % 128 = (tn + 1) % 128 then (tn + 1) % 128 else tn)), .int (nI (er)), .int (nI (un)), .int (nI (b2n fl)), .int (nI (b2n al)), .int (nI (b2n ab))]) := by simp only [if_neg (show ¬ (g 1 / 128 ≠ bi ∨ g 1 % 128 = tn) by omega), if_neg (show ¬ (5 < c9 ∧ g 1 % 128 = (tn + 1) % 128) by omega)]
        have hc_6 : (.inr (4, [.ref (ba), .ref (sl), .int (nI (t))]) : va_E) = .inr (4, [.ref (ba), .ref (sl), .int (nI (if g 1 / 128 ≠ bi ∨ g 1 % 128 = tn then t else if 5 < c9 ∧ g 1 % 128 = (tn + 1) % 128 then t + 1 else t))]) := by simp only [if_neg (show ¬ (g 1 / 128 ≠ bi ∨ g 1 % 128 = tn) by omega), if_neg (show ¬ (5 < c9 ∧ g 1 % 128 = (tn + 1) % 128) by omega)]
        have hc_7 : (.inl (G.2 0, 13600, .inl (fun j => sb_b (bg j))) : va_E) = .inl (G.2 0, 13600, .inl (fun j => sb_b ((if g 1 / 128 ≠ bi ∨ g 1 % 128 = tn then bg else if 5 < c9 ∧ g 1 % 128 = (tn + 1) % 128 then kee bg g (t % 50) (c9 - 5) else bg) j))) := by simp only [if_neg (show ¬ (g 1 / 128 ≠ bi ∨ g 1 % 128 = tn) by omega), if_neg (show ¬ (5 < c9 ∧ g 1 % 128 = (tn + 1) % 128) by omega)]
        have hc_8 : (.inl (G.2 1, 50, .inl (fun j => nI (ll j))) : va_E) = .inl (G.2 1, 50, .inl (fun j => nI ((if g 1 / 128 ≠ bi ∨ g 1 % 128 = tn then ll else if 5 < c9 ∧ g 1 % 128 = (tn + 1) % 128 then va_up ll (t % 50) (c9 - 5) else ll) j))) := by simp only [if_neg (show ¬ (g 1 / 128 ≠ bi ∨ g 1 % 128 = tn) by omega), if_neg (show ¬ (5 < c9 ∧ g 1 % 128 = (tn + 1) % 128) by omega)]
        have hw : mw_St G (mw_A M s.heap.size) s (va_up (va_up (va_up (va_up M h0 (some (.inr (0, [.ref (li), .ref (me), .ref (so), .int (nI (fi)), .int (nI (if g 1 / 128 ≠ bi ∨ g 1 % 128 = tn then bi else if 5 < c9 ∧ g 1 % 128 = (tn + 1) % 128 then bi else 1 - bi)), .int (nI (sn)), .int (nI (if g 1 / 128 ≠ bi ∨ g 1 % 128 = tn then tn else if 5 < c9 ∧ g 1 % 128 = (tn + 1) % 128 then (tn + 1) % 128 else tn)), .int (nI (er)), .int (nI (un)), .int (nI (b2n fl)), .int (nI (b2n al)), .int (nI (b2n ab))])))) so (some (.inr (4, [.ref (ba), .ref (sl), .int (nI (if g 1 / 128 ≠ bi ∨ g 1 % 128 = tn then t else if 5 < c9 ∧ g 1 % 128 = (tn + 1) % 128 then t + 1 else t))])))) ba (some (.inl (G.2 0, 13600, .inl (fun j => sb_b ((if g 1 / 128 ≠ bi ∨ g 1 % 128 = tn then bg else if 5 < c9 ∧ g 1 % 128 = (tn + 1) % 128 then kee bg g (t % 50) (c9 - 5) else bg) j)))))) sl (some (.inl (G.2 1, 50, .inl (fun j => nI ((if g 1 / 128 ≠ bi ∨ g 1 % 128 = tn then ll else if 5 < c9 ∧ g 1 % 128 = (tn + 1) % 128 then va_up ll (t % 50) (c9 - 5) else ll) j)))))) H locs := hw.to (fun q8 x8 h8 => by
          by_cases b_9 : q8 = h0
          · rw [b_9] at h8 ⊢; exact mw_u0.trans ((congrArg some hc_5).trans ((mw_u1 m0_3 (mw_u1 m0_2 (mw_u1 m0_1 mw_u0))).symm.trans h8))
          by_cases b_10 : q8 = so
          · rw [b_10] at h8 ⊢; exact (mw_u1 (Ne.symm m0_1) e1).trans ((congrArg some hc_6).trans ((mw_u1 m1_3 (mw_u1 m1_2 mw_u0)).symm.trans h8))
          by_cases b_11 : q8 = ba
          · rw [b_11] at h8 ⊢; exact (mw_u1 (Ne.symm m0_2) e2).trans ((congrArg some hc_7).trans ((mw_u1 m2_3 mw_u0).symm.trans h8))
          by_cases b_12 : q8 = sl
          · rw [b_12] at h8 ⊢; exact (mw_u1 (Ne.symm m0_3) e3).trans ((congrArg some hc_8).trans (mw_u0.symm.trans h8))
          simp only [va_up_ne _ _ b_9, va_up_ne _ _ b_10, va_up_ne _ _ b_11, va_up_ne _ _ b_12] at h8 ⊢; exact h8)
        exact mw_iret hx hb hr hlocks hw (by simp only [if_neg (show ¬ (g 1 / 128 ≠ bi ∨ g 1 % 128 = tn) by omega), if_neg (show ¬ (5 < c9 ∧ g 1 % 128 = (tn + 1) % 128) by omega)]) (fun _ _ h9 => h9) dX0_takeForward_72
      · skip
        have c_3 : c9 - 5 > 0 := Nat.not_le.mp (fun h => c_3 ((nI_leI (a := c9 - 5) (b := 0) (by omega) (by omega)).mpr h))
        refine lv_iload_n hx hb dX0_takeForward_35 rfl (lv_at hl 0 rfl) ?_
        refine lv_aload_n hx hb dX0_takeForward_36 rfl (lv_at hl 1 rfl) ?_
        refine mw_get (C := RX0) (T := TX0) (N := 12) (v := .int (nI (tn))) hx hb hts inX0_takeForward_X0 hown hC hw e0 rfl 6 (by decide) k_1 rfl dX0_takeForward_37 ?_
        refine mw_ci hC hw (va_runSN (As := [.int (nI (tn))]) (rest := [.int (nI (g 1 % 128))]) ⟨hx, hb, hml, hown, hts⟩ (c_X6_nextNumber l G _ H.size tn  (by omega)) ⟨va_cnB 1 hts gX0_takeForward_X6_nextNumber_n81 rfl rfl rfl (hC.1.2.2.1 (.methodLinkNest RX0 81 yX6_nextNumber "LinkPair") (by decide +kernel)) k_2 (by decide +kernel) ⟨Nat.le_of_ble_eq_true rfl, Nat.le_of_ble_eq_true rfl⟩, k_3, trivial⟩ (mw_preS hC hw) rfl rfl hl.1 rfl (lv_room (Nat.le_of_ble_eq_true rfl)) dX0_takeForward_40 ⟨Nat.le_of_ble_eq_true rfl, Nat.le_of_ble_eq_true rfl⟩) (fun H locs hz hw => ?_)
        refine lv_icmp_ne (tgt := 61) hx hb dX0_takeForward_43 (by decide) (fun c_13 => ?_) (fun c_13 => ?_)
        · skip
          have c_13 : g 1 % 128 ≠ (tn + 1) % 128 := fun h => c_13 ((nI_eq (a := g 1 % 128) (b := (tn + 1) % 128) (by omega) (by omega)).mpr h)
          refine lv_aload_n hx hb dX0_takeForward_61 rfl (lv_at hl 1 rfl) ?_
          refine lv_iconst (v := nI 1) hx hb dX0_takeForward_62 (by decide) ?_
          refine lv_aload_n hx hb dX0_takeForward_63 rfl (lv_at hl 1 rfl) ?_
          refine mw_get (C := RX0) (T := TX0) (N := 12) (v := .int (nI (bi))) hx hb hts inX0_takeForward_X0 hown hC hw e0 rfl 4 (by decide) k_0 rfl dX0_takeForward_64 ?_
          refine lv_isub hx hb dX0_takeForward_67 ?_
          refine mw_ti (v' := nI (1 - bi)) (pk_sub (by omega)) ?_
          refine mw_put (C := RX0) (T := TX0) (N := 12) hx hb hts inX0_takeForward_X0 tyX0 tyX0_ok nmX0 hown hC hw e0 rfl 4 (by decide) k_0 rfl rfl rfl (Nat.le_of_ble_eq_true rfl) dX0_takeForward_68 (fun H locs hw => ?_)
          have hw : mw_St G _ s (va_up _ h0 (some (.inr (0, [.ref (li), .ref (me), .ref (so), .int (nI (fi)), .int (nI (1 - bi)), .int (nI (sn)), .int (nI (tn)), .int (nI (er)), .int (nI (un)), .int (nI (b2n fl)), .int (nI (b2n al)), .int (nI (b2n ab))])))) H locs := hw
          refine lv_iconst (v := nI 2) hx hb dX0_takeForward_71 (by decide) ?_
          have hc_15 : (.inr (0, [.ref (li), .ref (me), .ref (so), .int (nI (fi)), .int (nI (1 - bi)), .int (nI (sn)), .int (nI (tn)), .int (nI (er)), .int (nI (un)), .int (nI (b2n fl)), .int (nI (b2n al)), .int (nI (b2n ab))]) : va_E) = .inr (0, [.ref (li), .ref (me), .ref (so), .int (nI (fi)), .int (nI (if g 1 / 128 ≠ bi ∨ g 1 % 128 = tn then bi else if 5 < c9 ∧ g 1 % 128 = (tn + 1) % 128 then bi else 1 - bi)), .int (nI (sn)), .int (nI (if g 1 / 128 ≠ bi ∨ g 1 % 128 = tn then tn else if 5 < c9 ∧ g 1 % 128 = (tn + 1) % 128 then (tn + 1) % 128 else tn)), .int (nI (er)), .int (nI (un)), .int (nI (b2n fl)), .int (nI (b2n al)), .int (nI (b2n ab))]) := by simp only [if_neg (show ¬ (g 1 / 128 ≠ bi ∨ g 1 % 128 = tn) by omega), if_neg (show ¬ (5 < c9 ∧ g 1 % 128 = (tn + 1) % 128) by omega)]
          have hc_16 : (.inr (4, [.ref (ba), .ref (sl), .int (nI (t))]) : va_E) = .inr (4, [.ref (ba), .ref (sl), .int (nI (if g 1 / 128 ≠ bi ∨ g 1 % 128 = tn then t else if 5 < c9 ∧ g 1 % 128 = (tn + 1) % 128 then t + 1 else t))]) := by simp only [if_neg (show ¬ (g 1 / 128 ≠ bi ∨ g 1 % 128 = tn) by omega), if_neg (show ¬ (5 < c9 ∧ g 1 % 128 = (tn + 1) % 128) by omega)]
          have hc_17 : (.inl (G.2 0, 13600, .inl (fun j => sb_b (bg j))) : va_E) = .inl (G.2 0, 13600, .inl (fun j => sb_b ((if g 1 / 128 ≠ bi ∨ g 1 % 128 = tn then bg else if 5 < c9 ∧ g 1 % 128 = (tn + 1) % 128 then kee bg g (t % 50) (c9 - 5) else bg) j))) := by simp only [if_neg (show ¬ (g 1 / 128 ≠ bi ∨ g 1 % 128 = tn) by omega), if_neg (show ¬ (5 < c9 ∧ g 1 % 128 = (tn + 1) % 128) by omega)]
          have hc_18 : (.inl (G.2 1, 50, .inl (fun j => nI (ll j))) : va_E) = .inl (G.2 1, 50, .inl (fun j => nI ((if g 1 / 128 ≠ bi ∨ g 1 % 128 = tn then ll else if 5 < c9 ∧ g 1 % 128 = (tn + 1) % 128 then va_up ll (t % 50) (c9 - 5) else ll) j))) := by simp only [if_neg (show ¬ (g 1 / 128 ≠ bi ∨ g 1 % 128 = tn) by omega), if_neg (show ¬ (5 < c9 ∧ g 1 % 128 = (tn + 1) % 128) by omega)]
          have hw : mw_St G (mw_A M s.heap.size) s (va_up (va_up (va_up (va_up M h0 (some (.inr (0, [.ref (li), .ref (me), .ref (so), .int (nI (fi)), .int (nI (if g 1 / 128 ≠ bi ∨ g 1 % 128 = tn then bi else if 5 < c9 ∧ g 1 % 128 = (tn + 1) % 128 then bi else 1 - bi)), .int (nI (sn)), .int (nI (if g 1 / 128 ≠ bi ∨ g 1 % 128 = tn then tn else if 5 < c9 ∧ g 1 % 128 = (tn + 1) % 128 then (tn + 1) % 128 else tn)), .int (nI (er)), .int (nI (un)), .int (nI (b2n fl)), .int (nI (b2n al)), .int (nI (b2n ab))])))) so (some (.inr (4, [.ref (ba), .ref (sl), .int (nI (if g 1 / 128 ≠ bi ∨ g 1 % 128 = tn then t else if 5 < c9 ∧ g 1 % 128 = (tn + 1) % 128 then t + 1 else t))])))) ba (some (.inl (G.2 0, 13600, .inl (fun j => sb_b ((if g 1 / 128 ≠ bi ∨ g 1 % 128 = tn then bg else if 5 < c9 ∧ g 1 % 128 = (tn + 1) % 128 then kee bg g (t % 50) (c9 - 5) else bg) j)))))) sl (some (.inl (G.2 1, 50, .inl (fun j => nI ((if g 1 / 128 ≠ bi ∨ g 1 % 128 = tn then ll else if 5 < c9 ∧ g 1 % 128 = (tn + 1) % 128 then va_up ll (t % 50) (c9 - 5) else ll) j)))))) H locs := hw.to (fun q8 x8 h8 => by
            by_cases b_19 : q8 = h0
            · rw [b_19] at h8 ⊢; exact mw_u0.trans ((congrArg some hc_15).trans ((mw_u1 m0_3 (mw_u1 m0_2 (mw_u1 m0_1 mw_u0))).symm.trans h8))
            by_cases b_20 : q8 = so
            · rw [b_20] at h8 ⊢; exact (mw_u1 (Ne.symm m0_1) e1).trans ((congrArg some hc_16).trans ((mw_u1 m1_3 (mw_u1 m1_2 mw_u0)).symm.trans h8))
            by_cases b_21 : q8 = ba
            · rw [b_21] at h8 ⊢; exact (mw_u1 (Ne.symm m0_2) e2).trans ((congrArg some hc_17).trans ((mw_u1 m2_3 mw_u0).symm.trans h8))
            by_cases b_22 : q8 = sl
            · rw [b_22] at h8 ⊢; exact (mw_u1 (Ne.symm m0_3) e3).trans ((congrArg some hc_18).trans (mw_u0.symm.trans h8))
            simp only [va_up_ne _ _ b_19, va_up_ne _ _ b_20, va_up_ne _ _ b_21, va_up_ne _ _ b_22] at h8 ⊢; exact h8)
          exact mw_iret hx hb hr hlocks hw (by simp only [if_neg (show ¬ (g 1 / 128 ≠ bi ∨ g 1 % 128 = tn) by omega), if_neg (show ¬ (5 < c9 ∧ g 1 % 128 = (tn + 1) % 128) by omega)]) (fun _ _ h9 => h9) dX0_takeForward_72
        · skip
          have c_13 : g 1 % 128 = (tn + 1) % 128 := (nI_eq (a := g 1 % 128) (b := (tn + 1) % 128) (by omega) (by omega)).mp c_13
          refine lv_aload_n hx hb dX0_takeForward_46 rfl (lv_at hl 1 rfl) ?_
          refine lv_iload_n hx hb dX0_takeForward_47 rfl (lv_at hl 0 rfl) ?_
          refine mw_put (C := RX0) (T := TX0) (N := 12) hx hb hts inX0_takeForward_X0 tyX0 tyX0_ok nmX0 hown hC hw e0 rfl 6 (by decide) k_1 rfl rfl rfl (Nat.le_of_ble_eq_true rfl) dX0_takeForward_48 (fun H locs hw => ?_)
          have hw : mw_St G _ s (va_up _ h0 (some (.inr (0, [.ref (li), .ref (me), .ref (so), .int (nI (fi)), .int (nI (bi)), .int (nI (sn)), .int (nI (g 1 % 128)), .int (nI (er)), .int (nI (un)), .int (nI (b2n fl)), .int (nI (b2n al)), .int (nI (b2n ab))])))) H locs := hw
          refine lv_aload_n hx hb dX0_takeForward_51 rfl (lv_at hl 1 rfl) ?_
          refine mw_get (C := RX0) (T := TX0) (N := 12) (v := .ref (so)) hx hb hts inX0_takeForward_X0 hown hC hw mw_u0 rfl 2 (by decide) k_4 rfl dX0_takeForward_52 ?_
          refine lv_aload_n hx hb dX0_takeForward_55 rfl (lv_at hl 2 rfl) ?_
          refine mw_cv hC hw (va_runV (As := [.ref (hu)]) (rest := []) ⟨hx, hb, hml, hown, hts⟩ (c_X4_keep l G _ H.size so ba sl t bg ll hu ub c9 g (mw_u1 (Ne.symm m0_1) e1) (mw_u1 (Ne.symm m0_2) e2) (mw_u1 (Ne.symm m0_3) e3) (mw_u1 (Ne.symm m0_4) e4) (mw_u1 (Ne.symm m0_5) e5) (by omega) (by omega) (by omega)) (cwV 1 hts gX0_takeForward_X4_keep rfl rfl rfl (by decide +kernel) ⟨Nat.le_of_ble_eq_true rfl, Nat.le_of_ble_eq_true rfl⟩) (mw_preV (ci := 4) hC hw rfl (mw_u1 (Ne.symm m0_1) e1)) rfl rfl hl.1 rfl (lv_room (Nat.le_of_ble_eq_true rfl)) dX0_takeForward_56 ⟨Nat.le_of_ble_eq_true rfl, Nat.le_of_ble_eq_true rfl⟩) (fun H locs hz hw => ?_)
          refine lv_iconst (v := nI 1) hx hb dX0_takeForward_59 (by decide) ?_
          have hc_24 : (.inr (0, [.ref (li), .ref (me), .ref (so), .int (nI (fi)), .int (nI (bi)), .int (nI (sn)), .int (nI (g 1 % 128)), .int (nI (er)), .int (nI (un)), .int (nI (b2n fl)), .int (nI (b2n al)), .int (nI (b2n ab))]) : va_E) = .inr (0, [.ref (li), .ref (me), .ref (so), .int (nI (fi)), .int (nI (if g 1 / 128 ≠ bi ∨ g 1 % 128 = tn then bi else if 5 < c9 ∧ g 1 % 128 = (tn + 1) % 128 then bi else 1 - bi)), .int (nI (sn)), .int (nI (if g 1 / 128 ≠ bi ∨ g 1 % 128 = tn then tn else if 5 < c9 ∧ g 1 % 128 = (tn + 1) % 128 then (tn + 1) % 128 else tn)), .int (nI (er)), .int (nI (un)), .int (nI (b2n fl)), .int (nI (b2n al)), .int (nI (b2n ab))]) := by simp only [if_neg (show ¬ (g 1 / 128 ≠ bi ∨ g 1 % 128 = tn) by omega), if_pos (show 5 < c9 ∧ g 1 % 128 = (tn + 1) % 128 by omega)] <;> first | rfl | simp_all
          have hc_25 : (.inr (4, [.ref (ba), .ref (sl), .int (nI (t + 1))]) : va_E) = .inr (4, [.ref (ba), .ref (sl), .int (nI (if g 1 / 128 ≠ bi ∨ g 1 % 128 = tn then t else if 5 < c9 ∧ g 1 % 128 = (tn + 1) % 128 then t + 1 else t))]) := by simp only [if_neg (show ¬ (g 1 / 128 ≠ bi ∨ g 1 % 128 = tn) by omega), if_pos (show 5 < c9 ∧ g 1 % 128 = (tn + 1) % 128 by omega)] <;> first | rfl | simp_all
          have hc_26 : (.inl (G.2 0, 13600, .inl (fun j => sb_b ((kee bg g (t % 50) (c9 - 5)) j))) : va_E) = .inl (G.2 0, 13600, .inl (fun j => sb_b ((if g 1 / 128 ≠ bi ∨ g 1 % 128 = tn then bg else if 5 < c9 ∧ g 1 % 128 = (tn + 1) % 128 then kee bg g (t % 50) (c9 - 5) else bg) j))) := by simp only [if_neg (show ¬ (g 1 / 128 ≠ bi ∨ g 1 % 128 = tn) by omega), if_pos (show 5 < c9 ∧ g 1 % 128 = (tn + 1) % 128 by omega)] <;> first | rfl | simp_all
          have hc_27 : (.inl (G.2 1, 50, .inl (fun j => nI ((va_up ll (t % 50) (c9 - 5)) j))) : va_E) = .inl (G.2 1, 50, .inl (fun j => nI ((if g 1 / 128 ≠ bi ∨ g 1 % 128 = tn then ll else if 5 < c9 ∧ g 1 % 128 = (tn + 1) % 128 then va_up ll (t % 50) (c9 - 5) else ll) j))) := by simp only [if_neg (show ¬ (g 1 / 128 ≠ bi ∨ g 1 % 128 = tn) by omega), if_pos (show 5 < c9 ∧ g 1 % 128 = (tn + 1) % 128 by omega)] <;> first | rfl | simp_all
          have hw : mw_St G (mw_A M s.heap.size) s (va_up (va_up (va_up (va_up M h0 (some (.inr (0, [.ref (li), .ref (me), .ref (so), .int (nI (fi)), .int (nI (if g 1 / 128 ≠ bi ∨ g 1 % 128 = tn then bi else if 5 < c9 ∧ g 1 % 128 = (tn + 1) % 128 then bi else 1 - bi)), .int (nI (sn)), .int (nI (if g 1 / 128 ≠ bi ∨ g 1 % 128 = tn then tn else if 5 < c9 ∧ g 1 % 128 = (tn + 1) % 128 then (tn + 1) % 128 else tn)), .int (nI (er)), .int (nI (un)), .int (nI (b2n fl)), .int (nI (b2n al)), .int (nI (b2n ab))])))) so (some (.inr (4, [.ref (ba), .ref (sl), .int (nI (if g 1 / 128 ≠ bi ∨ g 1 % 128 = tn then t else if 5 < c9 ∧ g 1 % 128 = (tn + 1) % 128 then t + 1 else t))])))) ba (some (.inl (G.2 0, 13600, .inl (fun j => sb_b ((if g 1 / 128 ≠ bi ∨ g 1 % 128 = tn then bg else if 5 < c9 ∧ g 1 % 128 = (tn + 1) % 128 then kee bg g (t % 50) (c9 - 5) else bg) j)))))) sl (some (.inl (G.2 1, 50, .inl (fun j => nI ((if g 1 / 128 ≠ bi ∨ g 1 % 128 = tn then ll else if 5 < c9 ∧ g 1 % 128 = (tn + 1) % 128 then va_up ll (t % 50) (c9 - 5) else ll) j)))))) H locs := hw.to (fun q8 x8 h8 => by
            by_cases b_28 : q8 = h0
            · rw [b_28] at h8 ⊢; exact (mw_u1 m0_3 (mw_u1 m0_2 (mw_u1 m0_1 mw_u0))).trans ((congrArg some hc_24).trans ((mw_u1 m0_3 (mw_u1 m0_2 (mw_u1 m0_1 mw_u0))).symm.trans h8))
            by_cases b_29 : q8 = so
            · rw [b_29] at h8 ⊢; exact (mw_u1 m1_3 (mw_u1 m1_2 mw_u0)).trans ((congrArg some hc_25).trans ((mw_u1 m1_3 (mw_u1 m1_2 mw_u0)).symm.trans h8))
            by_cases b_30 : q8 = ba
            · rw [b_30] at h8 ⊢; exact (mw_u1 m2_3 mw_u0).trans ((congrArg some hc_26).trans ((mw_u1 m2_3 mw_u0).symm.trans h8))
            by_cases b_31 : q8 = sl
            · rw [b_31] at h8 ⊢; exact mw_u0.trans ((congrArg some hc_27).trans (mw_u0.symm.trans h8))
            simp only [va_up_ne _ _ b_28, va_up_ne _ _ b_29, va_up_ne _ _ b_30, va_up_ne _ _ b_31] at h8 ⊢; exact h8)
          exact mw_iret hx hb hr hlocks hw (by simp only [if_neg (show ¬ (g 1 / 128 ≠ bi ∨ g 1 % 128 = tn) by omega), if_pos (show 5 < c9 ∧ g 1 % 128 = (tn + 1) % 128 by omega)] <;> first | rfl | simp_all) (fun _ _ h9 => h9) dX0_takeForward_60
    · skip
      have c_2 : g 1 % 128 = tn := (nI_eq (a := g 1 % 128) (b := tn) (by omega) (by omega)).mp c_2
      refine lv_iconst (v := nI 0) hx hb dX0_takeForward_26 (by decide) ?_
      have hc_33 : (.inr (0, [.ref (li), .ref (me), .ref (so), .int (nI (fi)), .int (nI (bi)), .int (nI (sn)), .int (nI (tn)), .int (nI (er)), .int (nI (un)), .int (nI (b2n fl)), .int (nI (b2n al)), .int (nI (b2n ab))]) : va_E) = .inr (0, [.ref (li), .ref (me), .ref (so), .int (nI (fi)), .int (nI (if g 1 / 128 ≠ bi ∨ g 1 % 128 = tn then bi else if 5 < c9 ∧ g 1 % 128 = (tn + 1) % 128 then bi else 1 - bi)), .int (nI (sn)), .int (nI (if g 1 / 128 ≠ bi ∨ g 1 % 128 = tn then tn else if 5 < c9 ∧ g 1 % 128 = (tn + 1) % 128 then (tn + 1) % 128 else tn)), .int (nI (er)), .int (nI (un)), .int (nI (b2n fl)), .int (nI (b2n al)), .int (nI (b2n ab))]) := by simp only [if_pos (show g 1 / 128 ≠ bi ∨ g 1 % 128 = tn by omega)]
      have hc_34 : (.inr (4, [.ref (ba), .ref (sl), .int (nI (t))]) : va_E) = .inr (4, [.ref (ba), .ref (sl), .int (nI (if g 1 / 128 ≠ bi ∨ g 1 % 128 = tn then t else if 5 < c9 ∧ g 1 % 128 = (tn + 1) % 128 then t + 1 else t))]) := by simp only [if_pos (show g 1 / 128 ≠ bi ∨ g 1 % 128 = tn by omega)]
      have hc_35 : (.inl (G.2 0, 13600, .inl (fun j => sb_b (bg j))) : va_E) = .inl (G.2 0, 13600, .inl (fun j => sb_b ((if g 1 / 128 ≠ bi ∨ g 1 % 128 = tn then bg else if 5 < c9 ∧ g 1 % 128 = (tn + 1) % 128 then kee bg g (t % 50) (c9 - 5) else bg) j))) := by simp only [if_pos (show g 1 / 128 ≠ bi ∨ g 1 % 128 = tn by omega)]
      have hc_36 : (.inl (G.2 1, 50, .inl (fun j => nI (ll j))) : va_E) = .inl (G.2 1, 50, .inl (fun j => nI ((if g 1 / 128 ≠ bi ∨ g 1 % 128 = tn then ll else if 5 < c9 ∧ g 1 % 128 = (tn + 1) % 128 then va_up ll (t % 50) (c9 - 5) else ll) j))) := by simp only [if_pos (show g 1 / 128 ≠ bi ∨ g 1 % 128 = tn by omega)]
      have hw : mw_St G (mw_A M s.heap.size) s (va_up (va_up (va_up (va_up M h0 (some (.inr (0, [.ref (li), .ref (me), .ref (so), .int (nI (fi)), .int (nI (if g 1 / 128 ≠ bi ∨ g 1 % 128 = tn then bi else if 5 < c9 ∧ g 1 % 128 = (tn + 1) % 128 then bi else 1 - bi)), .int (nI (sn)), .int (nI (if g 1 / 128 ≠ bi ∨ g 1 % 128 = tn then tn else if 5 < c9 ∧ g 1 % 128 = (tn + 1) % 128 then (tn + 1) % 128 else tn)), .int (nI (er)), .int (nI (un)), .int (nI (b2n fl)), .int (nI (b2n al)), .int (nI (b2n ab))])))) so (some (.inr (4, [.ref (ba), .ref (sl), .int (nI (if g 1 / 128 ≠ bi ∨ g 1 % 128 = tn then t else if 5 < c9 ∧ g 1 % 128 = (tn + 1) % 128 then t + 1 else t))])))) ba (some (.inl (G.2 0, 13600, .inl (fun j => sb_b ((if g 1 / 128 ≠ bi ∨ g 1 % 128 = tn then bg else if 5 < c9 ∧ g 1 % 128 = (tn + 1) % 128 then kee bg g (t % 50) (c9 - 5) else bg) j)))))) sl (some (.inl (G.2 1, 50, .inl (fun j => nI ((if g 1 / 128 ≠ bi ∨ g 1 % 128 = tn then ll else if 5 < c9 ∧ g 1 % 128 = (tn + 1) % 128 then va_up ll (t % 50) (c9 - 5) else ll) j)))))) H locs := hw.to (fun q8 x8 h8 => by
        by_cases b_37 : q8 = h0
        · rw [b_37] at h8 ⊢; exact e0.trans ((congrArg some hc_33).trans ((mw_u1 m0_3 (mw_u1 m0_2 (mw_u1 m0_1 mw_u0))).symm.trans h8))
        by_cases b_38 : q8 = so
        · rw [b_38] at h8 ⊢; exact e1.trans ((congrArg some hc_34).trans ((mw_u1 m1_3 (mw_u1 m1_2 mw_u0)).symm.trans h8))
        by_cases b_39 : q8 = ba
        · rw [b_39] at h8 ⊢; exact e2.trans ((congrArg some hc_35).trans ((mw_u1 m2_3 mw_u0).symm.trans h8))
        by_cases b_40 : q8 = sl
        · rw [b_40] at h8 ⊢; exact e3.trans ((congrArg some hc_36).trans (mw_u0.symm.trans h8))
        simp only [va_up_ne _ _ b_37, va_up_ne _ _ b_38, va_up_ne _ _ b_39, va_up_ne _ _ b_40] at h8 ⊢; exact h8)
      exact mw_iret hx hb hr hlocks hw (by simp only [if_pos (show g 1 / 128 ≠ bi ∨ g 1 % 128 = tn by omega)]) (fun _ _ h9 => h9) dX0_takeForward_27
  · skip
    have c_1 : g 1 / 128 ≠ bi := fun h => c_1 ((nI_eq (a := g 1 / 128) (b := bi) (by omega) (by omega)).mpr h)
    refine lv_iconst (v := nI 0) hx hb dX0_takeForward_11 (by decide) ?_
    have hc_42 : (.inr (0, [.ref (li), .ref (me), .ref (so), .int (nI (fi)), .int (nI (bi)), .int (nI (sn)), .int (nI (tn)), .int (nI (er)), .int (nI (un)), .int (nI (b2n fl)), .int (nI (b2n al)), .int (nI (b2n ab))]) : va_E) = .inr (0, [.ref (li), .ref (me), .ref (so), .int (nI (fi)), .int (nI (if g 1 / 128 ≠ bi ∨ g 1 % 128 = tn then bi else if 5 < c9 ∧ g 1 % 128 = (tn + 1) % 128 then bi else 1 - bi)), .int (nI (sn)), .int (nI (if g 1 / 128 ≠ bi ∨ g 1 % 128 = tn then tn else if 5 < c9 ∧ g 1 % 128 = (tn + 1) % 128 then (tn + 1) % 128 else tn)), .int (nI (er)), .int (nI (un)), .int (nI (b2n fl)), .int (nI (b2n al)), .int (nI (b2n ab))]) := by simp only [if_pos (show g 1 / 128 ≠ bi ∨ g 1 % 128 = tn by omega)]
    have hc_43 : (.inr (4, [.ref (ba), .ref (sl), .int (nI (t))]) : va_E) = .inr (4, [.ref (ba), .ref (sl), .int (nI (if g 1 / 128 ≠ bi ∨ g 1 % 128 = tn then t else if 5 < c9 ∧ g 1 % 128 = (tn + 1) % 128 then t + 1 else t))]) := by simp only [if_pos (show g 1 / 128 ≠ bi ∨ g 1 % 128 = tn by omega)]
    have hc_44 : (.inl (G.2 0, 13600, .inl (fun j => sb_b (bg j))) : va_E) = .inl (G.2 0, 13600, .inl (fun j => sb_b ((if g 1 / 128 ≠ bi ∨ g 1 % 128 = tn then bg else if 5 < c9 ∧ g 1 % 128 = (tn + 1) % 128 then kee bg g (t % 50) (c9 - 5) else bg) j))) := by simp only [if_pos (show g 1 / 128 ≠ bi ∨ g 1 % 128 = tn by omega)]
    have hc_45 : (.inl (G.2 1, 50, .inl (fun j => nI (ll j))) : va_E) = .inl (G.2 1, 50, .inl (fun j => nI ((if g 1 / 128 ≠ bi ∨ g 1 % 128 = tn then ll else if 5 < c9 ∧ g 1 % 128 = (tn + 1) % 128 then va_up ll (t % 50) (c9 - 5) else ll) j))) := by simp only [if_pos (show g 1 / 128 ≠ bi ∨ g 1 % 128 = tn by omega)]
    have hw : mw_St G (mw_A M s.heap.size) s (va_up (va_up (va_up (va_up M h0 (some (.inr (0, [.ref (li), .ref (me), .ref (so), .int (nI (fi)), .int (nI (if g 1 / 128 ≠ bi ∨ g 1 % 128 = tn then bi else if 5 < c9 ∧ g 1 % 128 = (tn + 1) % 128 then bi else 1 - bi)), .int (nI (sn)), .int (nI (if g 1 / 128 ≠ bi ∨ g 1 % 128 = tn then tn else if 5 < c9 ∧ g 1 % 128 = (tn + 1) % 128 then (tn + 1) % 128 else tn)), .int (nI (er)), .int (nI (un)), .int (nI (b2n fl)), .int (nI (b2n al)), .int (nI (b2n ab))])))) so (some (.inr (4, [.ref (ba), .ref (sl), .int (nI (if g 1 / 128 ≠ bi ∨ g 1 % 128 = tn then t else if 5 < c9 ∧ g 1 % 128 = (tn + 1) % 128 then t + 1 else t))])))) ba (some (.inl (G.2 0, 13600, .inl (fun j => sb_b ((if g 1 / 128 ≠ bi ∨ g 1 % 128 = tn then bg else if 5 < c9 ∧ g 1 % 128 = (tn + 1) % 128 then kee bg g (t % 50) (c9 - 5) else bg) j)))))) sl (some (.inl (G.2 1, 50, .inl (fun j => nI ((if g 1 / 128 ≠ bi ∨ g 1 % 128 = tn then ll else if 5 < c9 ∧ g 1 % 128 = (tn + 1) % 128 then va_up ll (t % 50) (c9 - 5) else ll) j)))))) H locs := hw.to (fun q8 x8 h8 => by
      by_cases b_46 : q8 = h0
      · rw [b_46] at h8 ⊢; exact e0.trans ((congrArg some hc_42).trans ((mw_u1 m0_3 (mw_u1 m0_2 (mw_u1 m0_1 mw_u0))).symm.trans h8))
      by_cases b_47 : q8 = so
      · rw [b_47] at h8 ⊢; exact e1.trans ((congrArg some hc_43).trans ((mw_u1 m1_3 (mw_u1 m1_2 mw_u0)).symm.trans h8))
      by_cases b_48 : q8 = ba
      · rw [b_48] at h8 ⊢; exact e2.trans ((congrArg some hc_44).trans ((mw_u1 m2_3 mw_u0).symm.trans h8))
      by_cases b_49 : q8 = sl
      · rw [b_49] at h8 ⊢; exact e3.trans ((congrArg some hc_45).trans (mw_u0.symm.trans h8))
      simp only [va_up_ne _ _ b_46, va_up_ne _ _ b_47, va_up_ne _ _ b_48, va_up_ne _ _ b_49] at h8 ⊢; exact h8)
    exact mw_iret hx hb hr hlocks hw (by simp only [if_pos (show g 1 / 128 ≠ bi ∨ g 1 % 128 = tn by omega)]) (fun _ _ h9 => h9) dX0_takeForward_12
