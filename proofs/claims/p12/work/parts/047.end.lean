/-! ===== LinkPair.End, sending ===== -/
theorem inX0_writeUnit_X0 : ∀ w ∈ wsX00, w ∈ wsX0_writeUnit := by decide +kernel
def RM_X0_writeUnit : Room := { frames := 3, cells := 0, slots := 0, locals := 67 }
set_option maxHeartbeats 4000000 in
set_option maxRecDepth 100000 in
theorem c_X0_writeUnit (l : Launch) (G : mw_G) (M : mw_M) (sz : Nat) (h0 li me so fi bi sn tn er un : Nat) (fl al ab : Bool) (hu ub c9 : Nat) (g : Nat → Nat) (nu ln se : Nat) (e0 : M h0 = some (.inr (0, [.ref (li), .ref (me), .ref (so), .int (nI (fi)), .int (nI (bi)), .int (nI (sn)), .int (nI (tn)), .int (nI (er)), .int (nI (un)), .int (nI (b2n fl)), .int (nI (b2n al)), .int (nI (b2n ab))]))) (e1 : M hu = some (.inr (5, [.ref (ub), .int (nI (c9))]))) (e2 : M ub = some (.inl (G.2 1, 277, .inl (fun j => nI (g j))))) (hfi : fi ≤ 1) (hbi : bi ≤ 1) (hsn : sn < 128) (htn : tn < 128) (hnu : nu < 128) (hln : ln ≤ 272) (hse : se < 256) (hg : ∀ i, i < 277 → g i < 256)  : Met l yX0_writeUnit wsX0_writeUnit RM_X0_writeUnit (mw_pre G M sz [.ref (h0), .ref (hu), .int (nI (nu)), .int (nI (ln)), .int (nI (se))]) (mw_Qv G M sz (va_up (va_up M hu (some (.inr (5, [.ref (ub), .int (nI (5 + ln))])))) ub (some (.inl (G.2 1, 277, .inl (fun j => nI ((ubs g (tn + 128 * bi) (nu + 128 * fi) ln se) j))))))) 0 0 (mw_A M sz) := by
  refine Met.ofW (cc := cX0_writeUnit) (maxL := 6) (ret := none) (by decide) rfl ?_
  intro p e s m args below meth c s₁ B hml hv
  obtain ⟨rfl, rfl, hC, hw⟩ := mw_in hv
  have hx := B.exec
  have hb := B.bytes
  have hr := B.returns
  have hts := atoms_spec (ws := wsX0_writeUnit) B.pre
  have hown : s.vm.findClass RX0 = some m.cls := findClass_of_methodNamed B.named
  have hlocks := B.notSynchronized
  have k_0 := hts (.fieldLink RX0 42 "LinkPair$End" "takenNumber" "I") (by decide +kernel)
  have k_1 := hts (.fieldLink RX0 36 "LinkPair$End" "backwardIndicator" "I") (by decide +kernel)
  have k_2 := hts (.fieldLink RX0 32 "LinkPair$End" "forwardIndicator" "I") (by decide +kernel)
  have m1_2 : hu ≠ ub := mw_ne e1 e2 (by intro h9; cases h9)
  have hl := lv_entry ([.ref (h0), .ref (hu), .int (nI (nu)), .int (nI (ln)), .int (nI (se))]) (n := 6) (Nat.le_of_ble_eq_true rfl)
  rw [lg_entry_eq]
  generalize (lg_sl ([.ref (h0), .ref (hu), .int (nI (nu)), .int (nI (ln)), .int (nI (se))]) ++ List.replicate (6 - (lg_sl ([.ref (h0), .ref (hu), .int (nI (nu)), .int (nI (ln)), .int (nI (se))])).length) Slot.unset).toArray = ls at hl ⊢
  have hl : lv_has ls 6 [(0, .ref (h0)), (1, .ref (hu)), (2, .int (nI (nu))), (3, .int (nI (ln))), (4, .int (nI (se)))] := hl
  refine mw_start (fun H locs hw => ?_) hw
  have hg1 : ∀ i, i < 277 → va_up (va_up (va_up g 0 (tn + 128 * bi)) 1 (nu + 128 * fi)) 2 (min ln 63) i < 256 := up_lt (up_lt (up_lt hg (by omega)) (by omega)) (by omega)
  have hg2 := bod_lt hg1 se (5 + ln - 5)
  refine lv_aload_n hx hb dX0_writeUnit_0 rfl (lv_at hl 0 rfl) ?_
  refine mw_get (C := RX0) (T := TX0) (N := 12) (v := .int (nI (tn))) hx hb hts inX0_writeUnit_X0 hown hC hw e0 rfl 6 (by decide) k_0 rfl dX0_writeUnit_1 ?_
  refine lv_sipush (v := nI 128) hx hb dX0_writeUnit_4 (by decide) ?_
  refine lv_aload_n hx hb dX0_writeUnit_7 rfl (lv_at hl 0 rfl) ?_
  refine mw_get (C := RX0) (T := TX0) (N := 12) (v := .int (nI (bi))) hx hb hts inX0_writeUnit_X0 hown hC hw e0 rfl 4 (by decide) k_1 rfl dX0_writeUnit_8 ?_
  refine lv_imul hx hb dX0_writeUnit_11 ?_
  refine mw_ti (v' := nI (128 * bi)) (pk_mul _ _) ?_
  refine lv_iadd hx hb dX0_writeUnit_12 ?_
  refine mw_ti (v' := nI (tn + 128 * bi)) (nI_add _ _) ?_
  refine lv_istore (lv' := [(5, .int (nI (tn + 128 * bi))), (0, .ref (h0)), (1, .ref (hu)), (2, .int (nI (nu))), (3, .int (nI (ln))), (4, .int (nI (se)))]) hx hb dX0_writeUnit_13 hl (by decide) rfl (fun ls hl => ?_)
  refine lv_aload_n hx hb dX0_writeUnit_15 rfl (lv_at hl 2 rfl) ?_
  refine lv_iload hx hb dX0_writeUnit_16 (lv_at hl 0 rfl) ?_
  refine lv_iload_n hx hb dX0_writeUnit_18 rfl (lv_at hl 3 rfl) ?_
  refine lv_sipush (v := nI 128) hx hb dX0_writeUnit_19 (by decide) ?_
  refine lv_aload_n hx hb dX0_writeUnit_22 rfl (lv_at hl 1 rfl) ?_
  refine mw_get (C := RX0) (T := TX0) (N := 12) (v := .int (nI (fi))) hx hb hts inX0_writeUnit_X0 hown hC hw e0 rfl 3 (by decide) k_2 rfl dX0_writeUnit_23 ?_
  refine lv_imul hx hb dX0_writeUnit_26 ?_
  refine mw_ti (v' := nI (128 * fi)) (pk_mul _ _) ?_
  refine lv_iadd hx hb dX0_writeUnit_27 ?_
  refine mw_ti (v' := nI (nu + 128 * fi)) (nI_add _ _) ?_
  refine lv_iload_n hx hb dX0_writeUnit_28 rfl (lv_at hl 4 rfl) ?_
  refine mw_cv hC hw (va_runV (As := [.int (nI (tn + 128 * bi)), .int (nI (nu + 128 * fi)), .int (nI (ln))]) (rest := []) ⟨hx, hb, hml, hown, hts⟩ (c_X5_writeHead l G _ H.size hu ub c9 g (tn + 128 * bi) (nu + 128 * fi) ln e1 e2 (by omega)) (cwV 3 hts gX0_writeUnit_X5_writeHead rfl rfl rfl (by decide +kernel) ⟨Nat.le_of_ble_eq_true rfl, Nat.le_of_ble_eq_true rfl⟩) (mw_preV (ci := 5) hC hw rfl e1) rfl rfl hl.1 rfl (lv_room (Nat.le_of_ble_eq_true rfl)) dX0_writeUnit_29 ⟨Nat.le_of_ble_eq_true rfl, Nat.le_of_ble_eq_true rfl⟩) (fun H locs hz hw => ?_)
  refine lv_aload_n hx hb dX0_writeUnit_32 rfl (lv_at hl 2 rfl) ?_
  refine lv_iload hx hb dX0_writeUnit_33 (lv_at hl 5 rfl) ?_
  refine mw_cv hC hw (va_runV (As := [.int (nI (se))]) (rest := []) ⟨hx, hb, hml, hown, hts⟩ (c_X5_writeBody l G _ H.size hu ub (5 + ln) (va_up (va_up (va_up g 0 (tn + 128 * bi)) 1 (nu + 128 * fi)) 2 (min ln 63)) se (mw_u1 m1_2 mw_u0) mw_u0 (by omega) (by omega) (by omega)) (cwV 1 hts gX0_writeUnit_X5_writeBody rfl rfl rfl (by decide +kernel) ⟨Nat.le_of_ble_eq_true rfl, Nat.le_of_ble_eq_true rfl⟩) (mw_preV (ci := 5) hC hw rfl (mw_u1 m1_2 mw_u0)) rfl rfl hl.1 rfl (lv_room (Nat.le_of_ble_eq_true rfl)) dX0_writeUnit_35 ⟨Nat.le_of_ble_eq_true rfl, Nat.le_of_ble_eq_true rfl⟩) (fun H locs hz hw => ?_)
  refine lv_aload_n hx hb dX0_writeUnit_38 rfl (lv_at hl 2 rfl) ?_
  refine mw_cv hC hw (va_runV (As := []) (rest := []) ⟨hx, hb, hml, hown, hts⟩ (c_X5_writeCheck l G _ H.size hu ub (5 + ln) (bod (va_up (va_up (va_up g 0 (tn + 128 * bi)) 1 (nu + 128 * fi)) 2 (min ln 63)) se ((5 + ln) - 5)) (mw_u1 m1_2 (mw_u1 m1_2 mw_u0)) mw_u0 (by omega) (by omega) (hg2)) (cwV 0 hts gX0_writeUnit_X5_writeCheck rfl rfl rfl (by decide +kernel) ⟨Nat.le_of_ble_eq_true rfl, Nat.le_of_ble_eq_true rfl⟩) (mw_preV (ci := 5) hC hw rfl (mw_u1 m1_2 (mw_u1 m1_2 mw_u0))) rfl rfl hl.1 rfl (lv_room (Nat.le_of_ble_eq_true rfl)) dX0_writeUnit_39 ⟨Nat.le_of_ble_eq_true rfl, Nat.le_of_ble_eq_true rfl⟩) (fun H locs hz hw => ?_)
  have hc_2 : (.inl (G.2 1, 277, .inl (fun j => nI ((va_up (va_up (bod (va_up (va_up (va_up g 0 (tn + 128 * bi)) 1 (nu + 128 * fi)) 2 (min ln 63)) se ((5 + ln) - 5)) ((5 + ln) - 2) ((65535 - cdu (bod (va_up (va_up (va_up g 0 (tn + 128 * bi)) 1 (nu + 128 * fi)) 2 (min ln 63)) se ((5 + ln) - 5)) ((5 + ln) - 2)) % 256)) ((5 + ln) - 1) ((65535 - cdu (bod (va_up (va_up (va_up g 0 (tn + 128 * bi)) 1 (nu + 128 * fi)) 2 (min ln 63)) se ((5 + ln) - 5)) ((5 + ln) - 2)) / 256)) j))) : va_E) = .inl (G.2 1, 277, .inl (fun j => nI ((ubs g (tn + 128 * bi) (nu + 128 * fi) ln se) j))) := by first | rfl | (congr 2; omega) | simp_all
  have hw : mw_St G (mw_A M s.heap.size) s (va_up (va_up M hu (some (.inr (5, [.ref (ub), .int (nI (5 + ln))])))) ub (some (.inl (G.2 1, 277, .inl (fun j => nI ((ubs g (tn + 128 * bi) (nu + 128 * fi) ln se) j)))))) H locs := hw.to (fun q8 x8 h8 => by
    by_cases b_3 : q8 = hu
    · rw [b_3] at h8 ⊢; exact (mw_u1 m1_2 (mw_u1 m1_2 (mw_u1 m1_2 mw_u0))).trans (((mw_u1 m1_2 mw_u0).symm.trans h8))
    by_cases b_4 : q8 = ub
    · rw [b_4] at h8 ⊢; exact mw_u0.trans ((congrArg some hc_2).trans (mw_u0.symm.trans h8))
    simp only [va_up_ne _ _ b_3, va_up_ne _ _ b_4] at h8 ⊢; exact h8)
  exact mw_vret hx hb hr hlocks hw (fun _ _ h9 => h9) dX0_writeUnit_42
theorem inX0_writeMessage_X0 : ∀ w ∈ wsX00, w ∈ wsX0_writeMessage := by decide +kernel
theorem inX0_writeMessage_X3 : ∀ w ∈ wsX30, w ∈ wsX0_writeMessage := by decide +kernel
def RM_X0_writeMessage : Room := { frames := 4, cells := 0, slots := 0, locals := 92 }
set_option maxHeartbeats 4000000 in
set_option maxRecDepth 100000 in
theorem c_X0_writeMessage (l : Launch) (G : mw_G) (M : mw_M) (sz : Nat) (h0 li me so fi bi sn tn er un : Nat) (fl al ab : Bool) (hu ub c9 : Nat) (g : Nat → Nat) (la sa mf mu ma mw : Nat) (lg sd : Nat → Nat) (be : Nat) (e0 : M h0 = some (.inr (0, [.ref (li), .ref (me), .ref (so), .int (nI (fi)), .int (nI (bi)), .int (nI (sn)), .int (nI (tn)), .int (nI (er)), .int (nI (un)), .int (nI (b2n fl)), .int (nI (b2n al)), .int (nI (b2n ab))]))) (e1 : M hu = some (.inr (5, [.ref (ub), .int (nI (c9))]))) (e2 : M ub = some (.inl (G.2 1, 277, .inl (fun j => nI (g j))))) (e3 : M me = some (.inr (3, [.ref (la), .ref (sa), .int (nI (mf)), .int (nI (mu)), .int (nI (ma)), .int (nI (mw))]))) (e4 : M la = some (.inl (G.2 1, 187, .inl (fun j => nI (lg j))))) (e5 : M sa = some (.inl (G.2 1, 187, .inl (fun j => nI (sd j))))) (hfi : fi ≤ 1) (hbi : bi ≤ 1) (hsn : sn < 128) (htn : tn < 128) (hmf : mf < 187) (hmu : mu ≤ 127) (hlg : ∀ i, lg i ≤ 272) (hsd : ∀ i, sd i < 256) (hbe : be < mu) (hg : ∀ i, i < 277 → g i < 256) (nlasa : la ≠ sa) : Met l yX0_writeMessage wsX0_writeMessage RM_X0_writeMessage (mw_pre G M sz [.ref (h0), .ref (hu), .int (nI (be))]) (mw_Qv G M sz (va_up (va_up M hu (some (.inr (5, [.ref (ub), .int (nI (5 + (lg ((mf + (mu - 1 - be)) % 187))))])))) ub (some (.inl (G.2 1, 277, .inl (fun j => nI ((ubs g (tn + 128 * bi) (((sn + 128 - be) % 128) + 128 * fi) (lg ((mf + (mu - 1 - be)) % 187)) (sd ((mf + (mu - 1 - be)) % 187))) j))))))) 0 0 (mw_A M sz) := by
  refine Met.ofW (cc := cX0_writeMessage) (maxL := 5) (ret := none) (by decide) rfl ?_
  intro p e s m args below meth c s₁ B hml hv
  obtain ⟨rfl, rfl, hC, hw⟩ := mw_in hv
  have hx := B.exec
  have hb := B.bytes
  have hr := B.returns
  have hts := atoms_spec (ws := wsX0_writeMessage) B.pre
  have hown : s.vm.findClass RX0 = some m.cls := findClass_of_methodNamed B.named
  have hlocks := B.notSynchronized
  have k_0 := hts (.fieldLink RX0 21 "LinkPair$End" "messages" "LLinkPair$Messages;") (by decide +kernel)
  have k_1 := hts (.fieldLink RX0 39 "LinkPair$End" "sentNumber" "I") (by decide +kernel)
  have hl := lv_entry ([.ref (h0), .ref (hu), .int (nI (be))]) (n := 5) (Nat.le_of_ble_eq_true rfl)
  rw [lg_entry_eq]
  generalize (lg_sl ([.ref (h0), .ref (hu), .int (nI (be))]) ++ List.replicate (5 - (lg_sl ([.ref (h0), .ref (hu), .int (nI (be))])).length) Slot.unset).toArray = ls at hl ⊢
  have hl : lv_has ls 5 [(0, .ref (h0)), (1, .ref (hu)), (2, .int (nI (be)))] := hl
  refine mw_start (fun H locs hw => ?_) hw
  refine lv_aload_n hx hb dX0_writeMessage_0 rfl (lv_at hl 0 rfl) ?_
  refine mw_get (C := RX0) (T := TX0) (N := 12) (v := .ref (me)) hx hb hts inX0_writeMessage_X0 hown hC hw e0 rfl 1 (by decide) k_0 rfl dX0_writeMessage_1 ?_
  refine lv_aload_n hx hb dX0_writeMessage_4 rfl (lv_at hl 0 rfl) ?_
  refine mw_get (C := RX0) (T := TX0) (N := 12) (v := .ref (me)) hx hb hts inX0_writeMessage_X0 hown hC hw e0 rfl 1 (by decide) k_0 rfl dX0_writeMessage_5 ?_
  refine mw_getN (C := RX3) (T := TX3) (N := 6) (v := .int (nI (mu))) hx hb hts inX0_writeMessage_X3 hown hC hw e3 rfl 3 (by decide) (show Cond.fieldLinkNest RX0 89 (TX3 3).1 (TX3 3).2.1 (TX3 3).2.2.1 "LinkPair" ∈ mw_nestF by decide +kernel) rfl dX0_writeMessage_8 ?_
  refine lv_iconst (v := nI 1) hx hb dX0_writeMessage_11 (by decide) ?_
  refine lv_isub hx hb dX0_writeMessage_12 ?_
  refine mw_ti (v' := nI (mu - 1)) (pk_sub (by omega)) ?_
  refine lv_iload_n hx hb dX0_writeMessage_13 rfl (lv_at hl 2 rfl) ?_
  refine lv_isub hx hb dX0_writeMessage_14 ?_
  refine mw_ti (v' := nI (mu - 1 - be)) (pk_sub (by omega)) ?_
  refine mw_ci hC hw (va_runV (As := [.int (nI (mu - 1 - be))]) (rest := []) ⟨hx, hb, hml, hown, hts⟩ (c_X3_placeOf l G _ H.size me la sa mf mu ma mw lg (mu - 1 - be) e3 e4 (by omega) (by omega)) (cwV 1 hts gX0_writeMessage_X3_placeOf rfl rfl rfl (by decide +kernel) ⟨Nat.le_of_ble_eq_true rfl, Nat.le_of_ble_eq_true rfl⟩) (mw_preV (ci := 3) hC hw rfl e3) rfl rfl hl.1 rfl (lv_room (Nat.le_of_ble_eq_true rfl)) dX0_writeMessage_15 ⟨Nat.le_of_ble_eq_true rfl, Nat.le_of_ble_eq_true rfl⟩) (fun H locs hz hw => ?_)
  refine lv_istore_n (lv' := [(3, .int (nI ((mf + (mu - 1 - be)) % 187))), (0, .ref (h0)), (1, .ref (hu)), (2, .int (nI (be)))]) hx hb dX0_writeMessage_18 rfl hl (by decide) rfl (fun ls hl => ?_)
  refine lv_aload_n hx hb dX0_writeMessage_19 rfl (lv_at hl 1 rfl) ?_
  refine mw_get (C := RX0) (T := TX0) (N := 12) (v := .int (nI (sn))) hx hb hts inX0_writeMessage_X0 hown hC hw e0 rfl 5 (by decide) k_1 rfl dX0_writeMessage_20 ?_
  refine lv_iload_n hx hb dX0_writeMessage_23 rfl (lv_at hl 3 rfl) ?_
  refine lv_isub hx hb dX0_writeMessage_24 ?_
  refine mw_ti (v' := nI sn - nI be) (rfl) ?_
  refine lv_bipush (v := nI 127) hx hb dX0_writeMessage_25 (by decide) ?_
  refine lv_iand hx hb dX0_writeMessage_27 ?_
  refine mw_ti (v' := nI ((sn + 128 - be) % 128)) (nm_sub (by omega) (by omega)) ?_
  refine lv_istore (lv' := [(4, .int (nI ((sn + 128 - be) % 128))), (3, .int (nI ((mf + (mu - 1 - be)) % 187))), (0, .ref (h0)), (1, .ref (hu)), (2, .int (nI (be)))]) hx hb dX0_writeMessage_28 hl (by decide) rfl (fun ls hl => ?_)
  refine lv_aload_n hx hb dX0_writeMessage_30 rfl (lv_at hl 2 rfl) ?_
  refine lv_aload_n hx hb dX0_writeMessage_31 rfl (lv_at hl 3 rfl) ?_
  refine lv_iload hx hb dX0_writeMessage_32 (lv_at hl 0 rfl) ?_
  refine lv_aload_n hx hb dX0_writeMessage_34 rfl (lv_at hl 2 rfl) ?_
  refine mw_get (C := RX0) (T := TX0) (N := 12) (v := .ref (me)) hx hb hts inX0_writeMessage_X0 hown hC hw e0 rfl 1 (by decide) k_0 rfl dX0_writeMessage_35 ?_
  refine mw_getN (C := RX3) (T := TX3) (N := 6) (v := .ref (la)) hx hb hts inX0_writeMessage_X3 hown hC hw e3 rfl 0 (by decide) (show Cond.fieldLinkNest RX0 95 (TX3 0).1 (TX3 0).2.1 (TX3 0).2.2.1 "LinkPair" ∈ mw_nestF by decide +kernel) rfl dX0_writeMessage_38 ?_
  refine lv_iload_n hx hb dX0_writeMessage_41 rfl (lv_at hl 1 rfl) ?_
  refine mw_ildM (n := 187) (g := lg) (i := (mf + (mu - 1 - be)) % 187) hx hb hC hw e4 (by omega) (by decide) dX0_writeMessage_42 ?_
  refine lv_aload_n hx hb dX0_writeMessage_43 rfl (lv_at hl 2 rfl) ?_
  refine mw_get (C := RX0) (T := TX0) (N := 12) (v := .ref (me)) hx hb hts inX0_writeMessage_X0 hown hC hw e0 rfl 1 (by decide) k_0 rfl dX0_writeMessage_44 ?_
  refine mw_getN (C := RX3) (T := TX3) (N := 6) (v := .ref (sa)) hx hb hts inX0_writeMessage_X3 hown hC hw e3 rfl 1 (by decide) (show Cond.fieldLinkNest RX0 99 (TX3 1).1 (TX3 1).2.1 (TX3 1).2.2.1 "LinkPair" ∈ mw_nestF by decide +kernel) rfl dX0_writeMessage_47 ?_
  refine lv_iload_n hx hb dX0_writeMessage_50 rfl (lv_at hl 1 rfl) ?_
  refine mw_ildM (n := 187) (g := sd) (i := (mf + (mu - 1 - be)) % 187) hx hb hC hw e5 (by omega) (by decide) dX0_writeMessage_51 ?_
  have hl1 := hlg ((mf + (mu - 1 - be)) % 187)
  have hs1 := hsd ((mf + (mu - 1 - be)) % 187)
  refine mw_cv hC hw (va_runV (As := [.ref (hu), .int (nI ((sn + 128 - be) % 128)), .int (nI (lg ((mf + (mu - 1 - be)) % 187))), .int (nI (sd ((mf + (mu - 1 - be)) % 187)))]) (rest := []) ⟨hx, hb, hml, hown, hts⟩ (c_X0_writeUnit l G _ H.size h0 li me so fi bi sn tn er un fl al ab hu ub c9 g ((sn + 128 - be) % 128) (lg ((mf + (mu - 1 - be)) % 187)) (sd ((mf + (mu - 1 - be)) % 187)) e0 e1 e2 (by omega) (by omega) (by omega) (by omega) (by omega) (by omega) (by omega) (hg)) (cwV 4 hts gX0_writeMessage_X0_writeUnit rfl rfl rfl (by decide +kernel) ⟨Nat.le_of_ble_eq_true rfl, Nat.le_of_ble_eq_true rfl⟩) (mw_preV (ci := 0) hC hw rfl e0) rfl rfl hl.1 rfl (lv_room (Nat.le_of_ble_eq_true rfl)) dX0_writeMessage_52 ⟨Nat.le_of_ble_eq_true rfl, Nat.le_of_ble_eq_true rfl⟩) (fun H locs hz hw => ?_)
  exact mw_vret hx hb hr hlocks hw (fun _ _ h9 => h9) dX0_writeMessage_55
theorem inX0_nextUnit_X0 : ∀ w ∈ wsX00, w ∈ wsX0_nextUnit := by decide +kernel
theorem inX0_nextUnit_X3 : ∀ w ∈ wsX30, w ∈ wsX0_nextUnit := by decide +kernel
def RM_X0_nextUnit_again : Room := { frames := 5, cells := 0, slots := 0, locals := 116 }
set_option maxHeartbeats 4000000 in
set_option maxRecDepth 100000 in
theorem c_X0_nextUnit_again (l : Launch) (G : mw_G) (M : mw_M) (sz : Nat) (h0 li me so fi bi sn tn er un : Nat) (fl al ab : Bool) (hu ub c9 : Nat) (g : Nat → Nat) (la sa mf mu ma mw : Nat) (lg sd : Nat → Nat) (e0 : M h0 = some (.inr (0, [.ref (li), .ref (me), .ref (so), .int (nI (fi)), .int (nI (bi)), .int (nI (sn)), .int (nI (tn)), .int (nI (er)), .int (nI (un)), .int (nI (b2n fl)), .int (nI (b2n al)), .int (nI (b2n ab))]))) (e1 : M hu = some (.inr (5, [.ref (ub), .int (nI (c9))]))) (e2 : M ub = some (.inl (G.2 1, 277, .inl (fun j => nI (g j))))) (e3 : M me = some (.inr (3, [.ref (la), .ref (sa), .int (nI (mf)), .int (nI (mu)), .int (nI (ma)), .int (nI (mw))]))) (e4 : M la = some (.inl (G.2 1, 187, .inl (fun j => nI (lg j))))) (e5 : M sa = some (.inl (G.2 1, 187, .inl (fun j => nI (sd j))))) (hfi : fi ≤ 1) (hbi : bi ≤ 1) (hsn : sn < 128) (htn : tn < 128) (hmf : mf < 187) (hmu : mu ≤ 127) (hlg : ∀ i, lg i ≤ 272) (hsd : ∀ i, sd i < 256) (hma : ma ≤ mu) (hmw : mw ≤ 60) (hg : ∀ i, i < 277 → g i < 256) (hc : 0 < ma) (nlasa : la ≠ sa) : Met l yX0_nextUnit wsX0_nextUnit RM_X0_nextUnit_again (mw_pre G M sz [.ref (h0), .ref (hu)]) (mw_Qi G M sz (nI (2)) (va_up (va_up (va_up M me (some (.inr (3, [.ref (la), .ref (sa), .int (nI (mf)), .int (nI (mu)), .int (nI (ma - 1)), .int (nI (mw))])))) hu (some (.inr (5, [.ref (ub), .int (nI (5 + (lg ((mf + (mu - 1 - (ma - 1))) % 187))))])))) ub (some (.inl (G.2 1, 277, .inl (fun j => nI ((ubs g (tn + 128 * bi) (((sn + 128 - (ma - 1)) % 128) + 128 * fi) (lg ((mf + (mu - 1 - (ma - 1))) % 187)) (sd ((mf + (mu - 1 - (ma - 1))) % 187))) j))))))) 0 0 (mw_A M sz) := by
  refine Met.ofW (cc := cX0_nextUnit) (maxL := 3) (ret := (some .int)) (by decide) rfl ?_
  intro p e s m args below meth c s₁ B hml hv
  obtain ⟨rfl, rfl, hC, hw⟩ := mw_in hv
  have hx := B.exec
  have hb := B.bytes
  have hr := B.returns
  have hts := atoms_spec (ws := wsX0_nextUnit) B.pre
  have hown : s.vm.findClass RX0 = some m.cls := findClass_of_methodNamed B.named
  have hlocks := B.notSynchronized
  have k_0 := hts (.fieldLink RX0 21 "LinkPair$End" "messages" "LLinkPair$Messages;") (by decide +kernel)
  have m0_3 : h0 ≠ me := mw_ne e0 e3 (by intro h9; cases h9)
  have m1_3 : hu ≠ me := mw_ne e1 e3 (by intro h9; cases h9)
  have m2_3 : ub ≠ me := mw_ne e2 e3 (by intro h9; cases h9)
  have m3_4 : me ≠ la := mw_ne e3 e4 (by intro h9; cases h9)
  have m3_5 : me ≠ sa := mw_ne e3 e5 (by intro h9; cases h9)
  have hl := lv_entry ([.ref (h0), .ref (hu)]) (n := 3) (Nat.le_of_ble_eq_true rfl)
  rw [lg_entry_eq]
  generalize (lg_sl ([.ref (h0), .ref (hu)]) ++ List.replicate (3 - (lg_sl ([.ref (h0), .ref (hu)])).length) Slot.unset).toArray = ls at hl ⊢
  have hl : lv_has ls 3 [(0, .ref (h0)), (1, .ref (hu))] := hl
  refine mw_start (fun H locs hw => ?_) hw
  refine lv_aload_n hx hb dX0_nextUnit_0 rfl (lv_at hl 0 rfl) ?_
  refine mw_get (C := RX0) (T := TX0) (N := 12) (v := .ref (me)) hx hb hts inX0_nextUnit_X0 hown hC hw e0 rfl 1 (by decide) k_0 rfl dX0_nextUnit_1 ?_
  refine mw_getN (C := RX3) (T := TX3) (N := 6) (v := .int (nI (ma))) hx hb hts inX0_nextUnit_X3 hown hC hw e3 rfl 4 (by decide) (show Cond.fieldLinkNest RX0 67 (TX3 4).1 (TX3 4).2.1 (TX3 4).2.2.1 "LinkPair" ∈ mw_nestF by decide +kernel) rfl dX0_nextUnit_4 ?_
  refine lv_if_le (tgt := 36) hx hb dX0_nextUnit_7 (by decide) (fun c_1 => ?_) (fun c_1 => ?_)
  · skip
    have c_1 : ma ≤ 0 := (nI_leI (a := ma) (b := 0) (by omega) (by omega)).mp c_1
    exfalso; omega
  · skip
    have c_1 : ma > 0 := Nat.not_le.mp (fun h => c_1 ((nI_leI (a := ma) (b := 0) (by omega) (by omega)).mpr h))
    refine lv_aload_n hx hb dX0_nextUnit_10 rfl (lv_at hl 0 rfl) ?_
    refine mw_get (C := RX0) (T := TX0) (N := 12) (v := .ref (me)) hx hb hts inX0_nextUnit_X0 hown hC hw e0 rfl 1 (by decide) k_0 rfl dX0_nextUnit_11 ?_
    refine mw_getN (C := RX3) (T := TX3) (N := 6) (v := .int (nI (ma))) hx hb hts inX0_nextUnit_X3 hown hC hw e3 rfl 4 (by decide) (show Cond.fieldLinkNest RX0 67 (TX3 4).1 (TX3 4).2.1 (TX3 4).2.2.1 "LinkPair" ∈ mw_nestF by decide +kernel) rfl dX0_nextUnit_14 ?_
    refine lv_iconst (v := nI 1) hx hb dX0_nextUnit_17 (by decide) ?_
    refine lv_isub hx hb dX0_nextUnit_18 ?_
    refine mw_ti (v' := nI (ma - 1)) (pk_sub (by omega)) ?_
    refine lv_istore_n (lv' := [(2, .int (nI (ma - 1))), (0, .ref (h0)), (1, .ref (hu))]) hx hb dX0_nextUnit_19 rfl hl (by decide) rfl (fun ls hl => ?_)
    refine lv_aload_n hx hb dX0_nextUnit_20 rfl (lv_at hl 1 rfl) ?_
    refine mw_get (C := RX0) (T := TX0) (N := 12) (v := .ref (me)) hx hb hts inX0_nextUnit_X0 hown hC hw e0 rfl 1 (by decide) k_0 rfl dX0_nextUnit_21 ?_
    refine lv_iload_n hx hb dX0_nextUnit_24 rfl (lv_at hl 0 rfl) ?_
    refine mw_putN (C := RX3) (T := TX3) (N := 6) hx hb hts inX0_nextUnit_X3 tyX3 tyX3_ok nmX3 hown hC hw e3 rfl 4 (by decide) (show Cond.fieldLinkNest RX0 67 (TX3 4).1 (TX3 4).2.1 (TX3 4).2.2.1 "LinkPair" ∈ mw_nestF by decide +kernel) rfl rfl rfl (Nat.le_of_ble_eq_true rfl) dX0_nextUnit_25 (fun H locs hw => ?_)
    have hw : mw_St G _ s (va_up _ me (some (.inr (3, [.ref (la), .ref (sa), .int (nI (mf)), .int (nI (mu)), .int (nI (ma - 1)), .int (nI (mw))])))) H locs := hw
    refine lv_aload_n hx hb dX0_nextUnit_28 rfl (lv_at hl 1 rfl) ?_
    refine lv_aload_n hx hb dX0_nextUnit_29 rfl (lv_at hl 2 rfl) ?_
    refine lv_iload_n hx hb dX0_nextUnit_30 rfl (lv_at hl 0 rfl) ?_
    refine mw_cv hC hw (va_runV (As := [.ref (hu), .int (nI (ma - 1))]) (rest := []) ⟨hx, hb, hml, hown, hts⟩ (c_X0_writeMessage l G _ H.size h0 li me so fi bi sn tn er un fl al ab hu ub c9 g la sa mf mu (ma - 1) mw lg sd (ma - 1) (mw_u1 m0_3 e0) (mw_u1 m1_3 e1) (mw_u1 m2_3 e2) mw_u0 (mw_u1 (Ne.symm m3_4) e4) (mw_u1 (Ne.symm m3_5) e5) (by omega) (by omega) (by omega) (by omega) (by omega) (by omega) (hlg) (hsd) (by omega) (hg) nlasa) (cwV 2 hts gX0_nextUnit_X0_writeMessage rfl rfl rfl (by decide +kernel) ⟨Nat.le_of_ble_eq_true rfl, Nat.le_of_ble_eq_true rfl⟩) (mw_preV (ci := 0) hC hw rfl (mw_u1 m0_3 e0)) rfl rfl hl.1 rfl (lv_room (Nat.le_of_ble_eq_true rfl)) dX0_nextUnit_31 ⟨Nat.le_of_ble_eq_true rfl, Nat.le_of_ble_eq_true rfl⟩) (fun H locs hz hw => ?_)
    refine lv_iconst (v := nI 2) hx hb dX0_nextUnit_34 (by decide) ?_
    exact mw_iret hx hb hr hlocks hw (rfl) (fun _ _ h9 => h9) dX0_nextUnit_35
def RM_X0_nextUnit_first : Room := { frames := 5, cells := 0, slots := 0, locals := 116 }
set_option maxHeartbeats 4000000 in
set_option maxRecDepth 100000 in
theorem c_X0_nextUnit_first (l : Launch) (G : mw_G) (M : mw_M) (sz : Nat) (h0 li me so fi bi sn tn er un : Nat) (fl al ab : Bool) (hu ub c9 : Nat) (g : Nat → Nat) (la sa mf mu ma mw : Nat) (lg sd : Nat → Nat) (e0 : M h0 = some (.inr (0, [.ref (li), .ref (me), .ref (so), .int (nI (fi)), .int (nI (bi)), .int (nI (sn)), .int (nI (tn)), .int (nI (er)), .int (nI (un)), .int (nI (b2n fl)), .int (nI (b2n al)), .int (nI (b2n ab))]))) (e1 : M hu = some (.inr (5, [.ref (ub), .int (nI (c9))]))) (e2 : M ub = some (.inl (G.2 1, 277, .inl (fun j => nI (g j))))) (e3 : M me = some (.inr (3, [.ref (la), .ref (sa), .int (nI (mf)), .int (nI (mu)), .int (nI (ma)), .int (nI (mw))]))) (e4 : M la = some (.inl (G.2 1, 187, .inl (fun j => nI (lg j))))) (e5 : M sa = some (.inl (G.2 1, 187, .inl (fun j => nI (sd j))))) (hfi : fi ≤ 1) (hbi : bi ≤ 1) (hsn : sn < 128) (htn : tn < 128) (hmf : mf < 187) (hmu : mu ≤ 127) (hlg : ∀ i, lg i ≤ 272) (hsd : ∀ i, sd i < 256) (hma : ma ≤ mu) (hmw : mw ≤ 60) (hg : ∀ i, i < 277 → g i < 256) (hc : ma = 0) (hc2 : 0 < mw) (hc3 : mu < 127) (nlasa : la ≠ sa) : Met l yX0_nextUnit wsX0_nextUnit RM_X0_nextUnit_first (mw_pre G M sz [.ref (h0), .ref (hu)]) (mw_Qi G M sz (nI (1)) (va_up (va_up (va_up (va_up M h0 (some (.inr (0, [.ref (li), .ref (me), .ref (so), .int (nI (fi)), .int (nI (bi)), .int (nI ((sn + 1) % 128)), .int (nI (tn)), .int (nI (er)), .int (nI (un)), .int (nI (b2n fl)), .int (nI (b2n al)), .int (nI (b2n ab))])))) me (some (.inr (3, [.ref (la), .ref (sa), .int (nI (mf)), .int (nI (mu + 1)), .int (nI (ma)), .int (nI (mw - 1))])))) hu (some (.inr (5, [.ref (ub), .int (nI (5 + (lg ((mf + (mu + 1 - 1 - 0)) % 187))))])))) ub (some (.inl (G.2 1, 277, .inl (fun j => nI ((ubs g (tn + 128 * bi) ((((sn + 1) % 128 + 128 - 0) % 128) + 128 * fi) (lg ((mf + (mu + 1 - 1 - 0)) % 187)) (sd ((mf + (mu + 1 - 1 - 0)) % 187))) j))))))) 0 0 (mw_A M sz) := by
  refine Met.ofW (cc := cX0_nextUnit) (maxL := 3) (ret := (some .int)) (by decide) rfl ?_
  intro p e s m args below meth c s₁ B hml hv
  obtain ⟨rfl, rfl, hC, hw⟩ := mw_in hv
  have hx := B.exec
  have hb := B.bytes
  have hr := B.returns
  have hts := atoms_spec (ws := wsX0_nextUnit) B.pre
  have hown : s.vm.findClass RX0 = some m.cls := findClass_of_methodNamed B.named
  have hlocks := B.notSynchronized
  have k_0 := hts (.fieldLink RX0 21 "LinkPair$End" "messages" "LLinkPair$Messages;") (by decide +kernel)
  have k_1 := hts (.fieldLink RX0 39 "LinkPair$End" "sentNumber" "I") (by decide +kernel)
  have k_2 := hts (.initialized RX6) (by decide +kernel)
  have k_3 := hts (.static yX6_nextNumber) (by decide +kernel)
  have m0_1 : h0 ≠ hu := mw_ne e0 e1 (by intro h9; cases h9)
  have m0_2 : h0 ≠ ub := mw_ne e0 e2 (by intro h9; cases h9)
  have m0_3 : h0 ≠ me := mw_ne e0 e3 (by intro h9; cases h9)
  have m0_4 : h0 ≠ la := mw_ne e0 e4 (by intro h9; cases h9)
  have m0_5 : h0 ≠ sa := mw_ne e0 e5 (by intro h9; cases h9)
  have m1_2 : hu ≠ ub := mw_ne e1 e2 (by intro h9; cases h9)
  have m1_3 : hu ≠ me := mw_ne e1 e3 (by intro h9; cases h9)
  have m2_3 : ub ≠ me := mw_ne e2 e3 (by intro h9; cases h9)
  have m3_4 : me ≠ la := mw_ne e3 e4 (by intro h9; cases h9)
  have m3_5 : me ≠ sa := mw_ne e3 e5 (by intro h9; cases h9)
  have hl := lv_entry ([.ref (h0), .ref (hu)]) (n := 3) (Nat.le_of_ble_eq_true rfl)
  rw [lg_entry_eq]
  generalize (lg_sl ([.ref (h0), .ref (hu)]) ++ List.replicate (3 - (lg_sl ([.ref (h0), .ref (hu)])).length) Slot.unset).toArray = ls at hl ⊢
  have hl : lv_has ls 3 [(0, .ref (h0)), (1, .ref (hu))] := hl
  refine mw_start (fun H locs hw => ?_) hw
  refine lv_aload_n hx hb dX0_nextUnit_0 rfl (lv_at hl 0 rfl) ?_
  refine mw_get (C := RX0) (T := TX0) (N := 12) (v := .ref (me)) hx hb hts inX0_nextUnit_X0 hown hC hw e0 rfl 1 (by decide) k_0 rfl dX0_nextUnit_1 ?_
  refine mw_getN (C := RX3) (T := TX3) (N := 6) (v := .int (nI (ma))) hx hb hts inX0_nextUnit_X3 hown hC hw e3 rfl 4 (by decide) (show Cond.fieldLinkNest RX0 67 (TX3 4).1 (TX3 4).2.1 (TX3 4).2.2.1 "LinkPair" ∈ mw_nestF by decide +kernel) rfl dX0_nextUnit_4 ?_
  refine lv_if_le (tgt := 36) hx hb dX0_nextUnit_7 (by decide) (fun c_1 => ?_) (fun c_1 => ?_)
  · skip
    have c_1 : ma ≤ 0 := (nI_leI (a := ma) (b := 0) (by omega) (by omega)).mp c_1
    refine lv_aload_n hx hb dX0_nextUnit_36 rfl (lv_at hl 0 rfl) ?_
    refine mw_get (C := RX0) (T := TX0) (N := 12) (v := .ref (me)) hx hb hts inX0_nextUnit_X0 hown hC hw e0 rfl 1 (by decide) k_0 rfl dX0_nextUnit_37 ?_
    refine mw_ci hC hw (va_runV (As := []) (rest := []) ⟨hx, hb, hml, hown, hts⟩ (c_X3_mayGoFirstTime l G _ H.size me la sa mf mu ma mw e3 (by omega) (by omega)) (cwV 0 hts gX0_nextUnit_X3_mayGoFirstTime rfl rfl rfl (by decide +kernel) ⟨Nat.le_of_ble_eq_true rfl, Nat.le_of_ble_eq_true rfl⟩) (mw_preV (ci := 3) hC hw rfl e3) rfl rfl hl.1 rfl (lv_room (Nat.le_of_ble_eq_true rfl)) dX0_nextUnit_40 ⟨Nat.le_of_ble_eq_true rfl, Nat.le_of_ble_eq_true rfl⟩) (fun H locs hz hw => ?_)
    have hgo : (decide (0 < mw) && decide (mu < 127)) = true := by simp; omega
    refine mw_ti (v' := nI (1)) (by rw [hgo]; rfl) ?_
    refine lv_if_eq (tgt := 72) hx hb dX0_nextUnit_43 (by decide) (fun c_2 => ?_) (fun c_2 => ?_)
    · skip
      exact absurd c_2 (by decide)
    · skip
      refine lv_aload_n hx hb dX0_nextUnit_46 rfl (lv_at hl 0 rfl) ?_
      refine mw_get (C := RX0) (T := TX0) (N := 12) (v := .ref (me)) hx hb hts inX0_nextUnit_X0 hown hC hw e0 rfl 1 (by decide) k_0 rfl dX0_nextUnit_47 ?_
      refine mw_cv hC hw (va_runV (As := []) (rest := []) ⟨hx, hb, hml, hown, hts⟩ (c_X3_goFirstTime l G _ H.size me la sa mf mu ma mw e3 (by omega) (by omega) (by omega)) (cwV 0 hts gX0_nextUnit_X3_goFirstTime rfl rfl rfl (by decide +kernel) ⟨Nat.le_of_ble_eq_true rfl, Nat.le_of_ble_eq_true rfl⟩) (mw_preV (ci := 3) hC hw rfl e3) rfl rfl hl.1 rfl (lv_room (Nat.le_of_ble_eq_true rfl)) dX0_nextUnit_50 ⟨Nat.le_of_ble_eq_true rfl, Nat.le_of_ble_eq_true rfl⟩) (fun H locs hz hw => ?_)
      refine lv_aload_n hx hb dX0_nextUnit_53 rfl (lv_at hl 0 rfl) ?_
      refine lv_aload_n hx hb dX0_nextUnit_54 rfl (lv_at hl 0 rfl) ?_
      refine mw_get (C := RX0) (T := TX0) (N := 12) (v := .int (nI (sn))) hx hb hts inX0_nextUnit_X0 hown hC hw (mw_u1 m0_3 e0) rfl 5 (by decide) k_1 rfl dX0_nextUnit_55 ?_
      refine mw_ci hC hw (va_runSN (As := [.int (nI (sn))]) (rest := [.ref (h0)]) ⟨hx, hb, hml, hown, hts⟩ (c_X6_nextNumber l G _ H.size sn  (by omega)) ⟨va_cnB 1 hts gX0_nextUnit_X6_nextNumber_n81 rfl rfl rfl (hC.1.2.2.1 (.methodLinkNest RX0 81 yX6_nextNumber "LinkPair") (by decide +kernel)) k_2 (by decide +kernel) ⟨Nat.le_of_ble_eq_true rfl, Nat.le_of_ble_eq_true rfl⟩, k_3, trivial⟩ (mw_preS hC hw) rfl rfl hl.1 rfl (lv_room (Nat.le_of_ble_eq_true rfl)) dX0_nextUnit_58 ⟨Nat.le_of_ble_eq_true rfl, Nat.le_of_ble_eq_true rfl⟩) (fun H locs hz hw => ?_)
      refine mw_put (C := RX0) (T := TX0) (N := 12) hx hb hts inX0_nextUnit_X0 tyX0 tyX0_ok nmX0 hown hC hw (mw_u1 m0_3 e0) rfl 5 (by decide) k_1 rfl rfl rfl (Nat.le_of_ble_eq_true rfl) dX0_nextUnit_61 (fun H locs hw => ?_)
      have hw : mw_St G _ s (va_up _ h0 (some (.inr (0, [.ref (li), .ref (me), .ref (so), .int (nI (fi)), .int (nI (bi)), .int (nI ((sn + 1) % 128)), .int (nI (tn)), .int (nI (er)), .int (nI (un)), .int (nI (b2n fl)), .int (nI (b2n al)), .int (nI (b2n ab))])))) H locs := hw
      refine lv_aload_n hx hb dX0_nextUnit_64 rfl (lv_at hl 0 rfl) ?_
      refine lv_aload_n hx hb dX0_nextUnit_65 rfl (lv_at hl 1 rfl) ?_
      refine lv_iconst (v := nI 0) hx hb dX0_nextUnit_66 (by decide) ?_
      refine mw_cv hC hw (va_runV (As := [.ref (hu), .int (nI (0))]) (rest := []) ⟨hx, hb, hml, hown, hts⟩ (c_X0_writeMessage l G _ H.size h0 li me so fi bi ((sn + 1) % 128) tn er un fl al ab hu ub c9 g la sa mf (mu + 1) ma (mw - 1) lg sd 0 mw_u0 (mw_u1 (Ne.symm m0_1) (mw_u1 m1_3 e1)) (mw_u1 (Ne.symm m0_2) (mw_u1 m2_3 e2)) (mw_u1 (Ne.symm m0_3) mw_u0) (mw_u1 (Ne.symm m0_4) (mw_u1 (Ne.symm m3_4) e4)) (mw_u1 (Ne.symm m0_5) (mw_u1 (Ne.symm m3_5) e5)) (by omega) (by omega) (by omega) (by omega) (by omega) (by omega) (hlg) (hsd) (by omega) (hg) nlasa) (cwV 2 hts gX0_nextUnit_X0_writeMessage rfl rfl rfl (by decide +kernel) ⟨Nat.le_of_ble_eq_true rfl, Nat.le_of_ble_eq_true rfl⟩) (mw_preV (ci := 0) hC hw rfl mw_u0) rfl rfl hl.1 rfl (lv_room (Nat.le_of_ble_eq_true rfl)) dX0_nextUnit_67 ⟨Nat.le_of_ble_eq_true rfl, Nat.le_of_ble_eq_true rfl⟩) (fun H locs hz hw => ?_)
      refine lv_iconst (v := nI 1) hx hb dX0_nextUnit_70 (by decide) ?_
      have hc_4 : (.inr (5, [.ref (ub), .int (nI (5 + (lg ((mf + ((mu + 1) - 1 - 0)) % 187))))]) : va_E) = .inr (5, [.ref (ub), .int (nI (5 + (lg ((mf + (mu + 1 - 1 - 0)) % 187))))]) := by first | rfl | (congr 2; omega) | simp_all
      have hc_5 : (.inl (G.2 1, 277, .inl (fun j => nI ((ubs g (tn + 128 * bi) (((((sn + 1) % 128) + 128 - 0) % 128) + 128 * fi) (lg ((mf + ((mu + 1) - 1 - 0)) % 187)) (sd ((mf + ((mu + 1) - 1 - 0)) % 187))) j))) : va_E) = .inl (G.2 1, 277, .inl (fun j => nI ((ubs g (tn + 128 * bi) ((((sn + 1) % 128 + 128 - 0) % 128) + 128 * fi) (lg ((mf + (mu + 1 - 1 - 0)) % 187)) (sd ((mf + (mu + 1 - 1 - 0)) % 187))) j))) := by first | rfl | (congr 2; omega) | simp_all
      have hw : mw_St G (mw_A M s.heap.size) s (va_up (va_up (va_up (va_up M h0 (some (.inr (0, [.ref (li), .ref (me), .ref (so), .int (nI (fi)), .int (nI (bi)), .int (nI ((sn + 1) % 128)), .int (nI (tn)), .int (nI (er)), .int (nI (un)), .int (nI (b2n fl)), .int (nI (b2n al)), .int (nI (b2n ab))])))) me (some (.inr (3, [.ref (la), .ref (sa), .int (nI (mf)), .int (nI (mu + 1)), .int (nI (ma)), .int (nI (mw - 1))])))) hu (some (.inr (5, [.ref (ub), .int (nI (5 + (lg ((mf + (mu + 1 - 1 - 0)) % 187))))])))) ub (some (.inl (G.2 1, 277, .inl (fun j => nI ((ubs g (tn + 128 * bi) ((((sn + 1) % 128 + 128 - 0) % 128) + 128 * fi) (lg ((mf + (mu + 1 - 1 - 0)) % 187)) (sd ((mf + (mu + 1 - 1 - 0)) % 187))) j)))))) H locs := hw.to (fun q8 x8 h8 => by
        by_cases b_6 : q8 = h0
        · rw [b_6] at h8 ⊢; exact (mw_u1 m0_2 (mw_u1 m0_1 mw_u0)).trans (((mw_u1 m0_2 (mw_u1 m0_1 (mw_u1 m0_3 mw_u0))).symm.trans h8))
        by_cases b_7 : q8 = me
        · rw [b_7] at h8 ⊢; exact (mw_u1 (Ne.symm m2_3) (mw_u1 (Ne.symm m1_3) (mw_u1 (Ne.symm m0_3) mw_u0))).trans (((mw_u1 (Ne.symm m2_3) (mw_u1 (Ne.symm m1_3) mw_u0)).symm.trans h8))
        by_cases b_8 : q8 = hu
        · rw [b_8] at h8 ⊢; exact (mw_u1 m1_2 mw_u0).trans ((congrArg some hc_4).trans ((mw_u1 m1_2 mw_u0).symm.trans h8))
        by_cases b_9 : q8 = ub
        · rw [b_9] at h8 ⊢; exact mw_u0.trans ((congrArg some hc_5).trans (mw_u0.symm.trans h8))
        simp only [va_up_ne _ _ b_6, va_up_ne _ _ b_7, va_up_ne _ _ b_8, va_up_ne _ _ b_9] at h8 ⊢; exact h8)
      exact mw_iret hx hb hr hlocks hw (rfl) (fun _ _ h9 => h9) dX0_nextUnit_71
  · skip
    have c_1 : ma > 0 := Nat.not_le.mp (fun h => c_1 ((nI_leI (a := ma) (b := 0) (by omega) (by omega)).mpr h))
    exfalso; omega
def RM_X0_nextUnit_fill : Room := { frames := 4, cells := 0, slots := 0, locals := 92 }
set_option maxHeartbeats 4000000 in
set_option maxRecDepth 100000 in
theorem c_X0_nextUnit_fill (l : Launch) (G : mw_G) (M : mw_M) (sz : Nat) (h0 li me so fi bi sn tn er un : Nat) (fl al ab : Bool) (hu ub c9 : Nat) (g : Nat → Nat) (la sa mf mu ma mw : Nat) (lg sd : Nat → Nat) (e0 : M h0 = some (.inr (0, [.ref (li), .ref (me), .ref (so), .int (nI (fi)), .int (nI (bi)), .int (nI (sn)), .int (nI (tn)), .int (nI (er)), .int (nI (un)), .int (nI (b2n fl)), .int (nI (b2n al)), .int (nI (b2n ab))]))) (e1 : M hu = some (.inr (5, [.ref (ub), .int (nI (c9))]))) (e2 : M ub = some (.inl (G.2 1, 277, .inl (fun j => nI (g j))))) (e3 : M me = some (.inr (3, [.ref (la), .ref (sa), .int (nI (mf)), .int (nI (mu)), .int (nI (ma)), .int (nI (mw))]))) (e4 : M la = some (.inl (G.2 1, 187, .inl (fun j => nI (lg j))))) (e5 : M sa = some (.inl (G.2 1, 187, .inl (fun j => nI (sd j))))) (hfi : fi ≤ 1) (hbi : bi ≤ 1) (hsn : sn < 128) (htn : tn < 128) (hmf : mf < 187) (hmu : mu ≤ 127) (hlg : ∀ i, lg i ≤ 272) (hsd : ∀ i, sd i < 256) (hma : ma ≤ mu) (hmw : mw ≤ 60) (hg : ∀ i, i < 277 → g i < 256) (hc : ma = 0) (hc2 : mw = 0 ∨ mu = 127) (nlasa : la ≠ sa) : Met l yX0_nextUnit wsX0_nextUnit RM_X0_nextUnit_fill (mw_pre G M sz [.ref (h0), .ref (hu)]) (mw_Qi G M sz (nI (0)) (va_up (va_up M hu (some (.inr (5, [.ref (ub), .int (nI (5 + 0))])))) ub (some (.inl (G.2 1, 277, .inl (fun j => nI ((ubs g (tn + 128 * bi) (sn + 128 * fi) 0 0) j))))))) 0 0 (mw_A M sz) := by
  refine Met.ofW (cc := cX0_nextUnit) (maxL := 3) (ret := (some .int)) (by decide) rfl ?_
  intro p e s m args below meth c s₁ B hml hv
  obtain ⟨rfl, rfl, hC, hw⟩ := mw_in hv
  have hx := B.exec
  have hb := B.bytes
  have hr := B.returns
  have hts := atoms_spec (ws := wsX0_nextUnit) B.pre
  have hown : s.vm.findClass RX0 = some m.cls := findClass_of_methodNamed B.named
  have hlocks := B.notSynchronized
  have k_0 := hts (.fieldLink RX0 21 "LinkPair$End" "messages" "LLinkPair$Messages;") (by decide +kernel)
  have k_1 := hts (.fieldLink RX0 39 "LinkPair$End" "sentNumber" "I") (by decide +kernel)
  have hl := lv_entry ([.ref (h0), .ref (hu)]) (n := 3) (Nat.le_of_ble_eq_true rfl)
  rw [lg_entry_eq]
  generalize (lg_sl ([.ref (h0), .ref (hu)]) ++ List.replicate (3 - (lg_sl ([.ref (h0), .ref (hu)])).length) Slot.unset).toArray = ls at hl ⊢
  have hl : lv_has ls 3 [(0, .ref (h0)), (1, .ref (hu))] := hl
  refine mw_start (fun H locs hw => ?_) hw
  refine lv_aload_n hx hb dX0_nextUnit_0 rfl (lv_at hl 0 rfl) ?_
  refine mw_get (C := RX0) (T := TX0) (N := 12) (v := .ref (me)) hx hb hts inX0_nextUnit_X0 hown hC hw e0 rfl 1 (by decide) k_0 rfl dX0_nextUnit_1 ?_
  refine mw_getN (C := RX3) (T := TX3) (N := 6) (v := .int (nI (ma))) hx hb hts inX0_nextUnit_X3 hown hC hw e3 rfl 4 (by decide) (show Cond.fieldLinkNest RX0 67 (TX3 4).1 (TX3 4).2.1 (TX3 4).2.2.1 "LinkPair" ∈ mw_nestF by decide +kernel) rfl dX0_nextUnit_4 ?_
  refine lv_if_le (tgt := 36) hx hb dX0_nextUnit_7 (by decide) (fun c_1 => ?_) (fun c_1 => ?_)
  · skip
    have c_1 : ma ≤ 0 := (nI_leI (a := ma) (b := 0) (by omega) (by omega)).mp c_1
    refine lv_aload_n hx hb dX0_nextUnit_36 rfl (lv_at hl 0 rfl) ?_
    refine mw_get (C := RX0) (T := TX0) (N := 12) (v := .ref (me)) hx hb hts inX0_nextUnit_X0 hown hC hw e0 rfl 1 (by decide) k_0 rfl dX0_nextUnit_37 ?_
    refine mw_ci hC hw (va_runV (As := []) (rest := []) ⟨hx, hb, hml, hown, hts⟩ (c_X3_mayGoFirstTime l G _ H.size me la sa mf mu ma mw e3 (by omega) (by omega)) (cwV 0 hts gX0_nextUnit_X3_mayGoFirstTime rfl rfl rfl (by decide +kernel) ⟨Nat.le_of_ble_eq_true rfl, Nat.le_of_ble_eq_true rfl⟩) (mw_preV (ci := 3) hC hw rfl e3) rfl rfl hl.1 rfl (lv_room (Nat.le_of_ble_eq_true rfl)) dX0_nextUnit_40 ⟨Nat.le_of_ble_eq_true rfl, Nat.le_of_ble_eq_true rfl⟩) (fun H locs hz hw => ?_)
    have hgo : (decide (0 < mw) && decide (mu < 127)) = false := by simp; omega
    refine mw_ti (v' := nI (0)) (by rw [hgo]; rfl) ?_
    refine lv_if_eq (tgt := 72) hx hb dX0_nextUnit_43 (by decide) (fun c_2 => ?_) (fun c_2 => ?_)
    · skip
      refine lv_aload_n hx hb dX0_nextUnit_72 rfl (lv_at hl 0 rfl) ?_
      refine lv_aload_n hx hb dX0_nextUnit_73 rfl (lv_at hl 1 rfl) ?_
      refine lv_aload_n hx hb dX0_nextUnit_74 rfl (lv_at hl 0 rfl) ?_
      refine mw_get (C := RX0) (T := TX0) (N := 12) (v := .int (nI (sn))) hx hb hts inX0_nextUnit_X0 hown hC hw e0 rfl 5 (by decide) k_1 rfl dX0_nextUnit_75 ?_
      refine lv_iconst (v := nI 0) hx hb dX0_nextUnit_78 (by decide) ?_
      refine lv_iconst (v := nI 0) hx hb dX0_nextUnit_79 (by decide) ?_
      refine mw_cv hC hw (va_runV (As := [.ref (hu), .int (nI (sn)), .int (nI (0)), .int (nI (0))]) (rest := []) ⟨hx, hb, hml, hown, hts⟩ (c_X0_writeUnit l G _ H.size h0 li me so fi bi sn tn er un fl al ab hu ub c9 g sn 0 0 e0 e1 e2 (by omega) (by omega) (by omega) (by omega) (by omega) (by omega) (by omega) (hg)) (cwV 4 hts gX0_nextUnit_X0_writeUnit rfl rfl rfl (by decide +kernel) ⟨Nat.le_of_ble_eq_true rfl, Nat.le_of_ble_eq_true rfl⟩) (mw_preV (ci := 0) hC hw rfl e0) rfl rfl hl.1 rfl (lv_room (Nat.le_of_ble_eq_true rfl)) dX0_nextUnit_80 ⟨Nat.le_of_ble_eq_true rfl, Nat.le_of_ble_eq_true rfl⟩) (fun H locs hz hw => ?_)
      refine lv_iconst (v := nI 0) hx hb dX0_nextUnit_83 (by decide) ?_
      exact mw_iret hx hb hr hlocks hw (rfl) (fun _ _ h9 => h9) dX0_nextUnit_84
    · skip
      exact absurd c_2 (by decide)
  · skip
    have c_1 : ma > 0 := Nat.not_le.mp (fun h => c_1 ((nI_leI (a := ma) (b := 0) (by omega) (by omega)).mpr h))
    exfalso; omega
