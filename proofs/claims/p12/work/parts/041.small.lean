/-! ===== LinkPair.Messages, LinkPair.Line ===== -/
theorem inX3_placeOf_X3 : ∀ w ∈ wsX30, w ∈ wsX3_placeOf := by decide +kernel
def RM_X3_placeOf : Room := { frames := 0, cells := 0, slots := 0, locals := 0 }
set_option maxHeartbeats 4000000 in
set_option maxRecDepth 100000 in
theorem c_X3_placeOf (l : Launch) (G : mw_G) (M : mw_M) (sz : Nat) (h0 la sa fi un ag wa : Nat) (lg : Nat → Nat) (i : Nat) (e0 : M h0 = some (.inr (3, [.ref (la), .ref (sa), .int (nI (fi)), .int (nI (un)), .int (nI (ag)), .int (nI (wa))]))) (e1 : M la = some (.inl (G.2 1, 187, .inl (fun j => nI (lg j))))) (hfi : fi < 187) (hi : i < 100000)  : Met l yX3_placeOf wsX3_placeOf RM_X3_placeOf (mw_pre G M sz [.ref (h0), .int (nI (i))]) (mw_Qi G M sz (nI ((fi + i) % 187)) M) 0 0 (mw_A M sz) := by
  refine Met.ofW (cc := cX3_placeOf) (maxL := 2) (ret := (some .int)) (by decide) rfl ?_
  intro p e s m args below meth c s₁ B hml hv
  obtain ⟨rfl, rfl, hC, hw⟩ := mw_in hv
  have hx := B.exec
  have hb := B.bytes
  have hr := B.returns
  have hts := atoms_spec (ws := wsX3_placeOf) B.pre
  have hown : s.vm.findClass RX3 = some m.cls := findClass_of_methodNamed B.named
  have hlocks := B.notSynchronized
  have k_0 := hts (.fieldLink RX3 18 "LinkPair$Messages" "first" "I") (by decide +kernel)
  have k_1 := hts (.fieldLink RX3 9 "LinkPair$Messages" "lengths" "[I") (by decide +kernel)
  have hl := lv_entry ([.ref (h0), .int (nI (i))]) (n := 2) (Nat.le_of_ble_eq_true rfl)
  rw [lg_entry_eq]
  generalize (lg_sl ([.ref (h0), .int (nI (i))]) ++ List.replicate (2 - (lg_sl ([.ref (h0), .int (nI (i))])).length) Slot.unset).toArray = ls at hl ⊢
  have hl : lv_has ls 2 [(0, .ref (h0)), (1, .int (nI (i)))] := hl
  refine mw_start (fun H locs hw => ?_) hw
  refine lv_aload_n hx hb dX3_placeOf_0 rfl (lv_at hl 0 rfl) ?_
  refine mw_get (C := RX3) (T := TX3) (N := 6) (v := .int (nI (fi))) hx hb hts inX3_placeOf_X3 hown hC hw e0 rfl 2 (by decide) k_0 rfl dX3_placeOf_1 ?_
  refine lv_iload_n hx hb dX3_placeOf_4 rfl (lv_at hl 1 rfl) ?_
  refine lv_iadd hx hb dX3_placeOf_5 ?_
  refine mw_ti (v' := nI (fi + i)) (nI_add _ _) ?_
  refine lv_aload_n hx hb dX3_placeOf_6 rfl (lv_at hl 0 rfl) ?_
  refine mw_get (C := RX3) (T := TX3) (N := 6) (v := .ref (la)) hx hb hts inX3_placeOf_X3 hown hC hw e0 rfl 0 (by decide) k_1 rfl dX3_placeOf_7 ?_
  refine mw_alen (x := (187, .inl (fun j => nI (lg j)))) hx hb hC hw 1 e1 rfl dX3_placeOf_10 ?_
  refine mw_ti (v' := nI 187) rfl ?_
  refine lv_irem hx hb dX3_placeOf_11 (by decide) ?_
  refine mw_ti (v' := nI ((fi + i) % 187)) (pk_rem (by omega) (by omega) (by omega)) ?_
  exact mw_iret hx hb hr hlocks hw (rfl) (fun _ _ h9 => h9) dX3_placeOf_12
theorem inX3_join_X3 : ∀ w ∈ wsX30, w ∈ wsX3_join := by decide +kernel
def RM_X3_join : Room := { frames := 1, cells := 0, slots := 0, locals := 21 }
set_option maxHeartbeats 4000000 in
set_option maxRecDepth 100000 in
theorem c_X3_join (l : Launch) (G : mw_G) (M : mw_M) (sz : Nat) (h0 la sa fi un ag wa : Nat) (lg sd : Nat → Nat) (ln se : Nat) (e0 : M h0 = some (.inr (3, [.ref (la), .ref (sa), .int (nI (fi)), .int (nI (un)), .int (nI (ag)), .int (nI (wa))]))) (e1 : M la = some (.inl (G.2 1, 187, .inl (fun j => nI (lg j))))) (e2 : M sa = some (.inl (G.2 1, 187, .inl (fun j => nI (sd j))))) (hfi : fi < 187) (hun : un ≤ 127) (hwa : wa < 60) (nlasa : la ≠ sa) : Met l yX3_join wsX3_join RM_X3_join (mw_pre G M sz [.ref (h0), .int (nI (ln)), .int (nI (se))]) (mw_Qv G M sz (va_up (va_up (va_up M h0 (some (.inr (3, [.ref (la), .ref (sa), .int (nI (fi)), .int (nI (un)), .int (nI (ag)), .int (nI (wa + 1))])))) la (some (.inl (G.2 1, 187, .inl (fun j => nI ((va_up lg ((fi + (un + wa)) % 187) ln) j)))))) sa (some (.inl (G.2 1, 187, .inl (fun j => nI ((va_up sd ((fi + (un + wa)) % 187) se) j))))))) 0 0 (mw_A M sz) := by
  refine Met.ofW (cc := cX3_join) (maxL := 4) (ret := none) (by decide) rfl ?_
  intro p e s m args below meth c s₁ B hml hv
  obtain ⟨rfl, rfl, hC, hw⟩ := mw_in hv
  have hx := B.exec
  have hb := B.bytes
  have hr := B.returns
  have hts := atoms_spec (ws := wsX3_join) B.pre
  have hown : s.vm.findClass RX3 = some m.cls := findClass_of_methodNamed B.named
  have hlocks := B.notSynchronized
  have k_0 := hts (.fieldLink RX3 22 "LinkPair$Messages" "untold" "I") (by decide +kernel)
  have k_1 := hts (.fieldLink RX3 25 "LinkPair$Messages" "waiting" "I") (by decide +kernel)
  have k_2 := hts (.fieldLink RX3 9 "LinkPair$Messages" "lengths" "[I") (by decide +kernel)
  have k_3 := hts (.fieldLink RX3 15 "LinkPair$Messages" "seeds" "[I") (by decide +kernel)
  have m0_1 : h0 ≠ la := mw_ne e0 e1 (by intro h9; cases h9)
  have m0_2 : h0 ≠ sa := mw_ne e0 e2 (by intro h9; cases h9)
  have hl := lv_entry ([.ref (h0), .int (nI (ln)), .int (nI (se))]) (n := 4) (Nat.le_of_ble_eq_true rfl)
  rw [lg_entry_eq]
  generalize (lg_sl ([.ref (h0), .int (nI (ln)), .int (nI (se))]) ++ List.replicate (4 - (lg_sl ([.ref (h0), .int (nI (ln)), .int (nI (se))])).length) Slot.unset).toArray = ls at hl ⊢
  have hl : lv_has ls 4 [(0, .ref (h0)), (1, .int (nI (ln))), (2, .int (nI (se)))] := hl
  refine mw_start (fun H locs hw => ?_) hw
  refine lv_aload_n hx hb dX3_join_0 rfl (lv_at hl 0 rfl) ?_
  refine lv_aload_n hx hb dX3_join_1 rfl (lv_at hl 0 rfl) ?_
  refine mw_get (C := RX3) (T := TX3) (N := 6) (v := .int (nI (un))) hx hb hts inX3_join_X3 hown hC hw e0 rfl 3 (by decide) k_0 rfl dX3_join_2 ?_
  refine lv_aload_n hx hb dX3_join_5 rfl (lv_at hl 0 rfl) ?_
  refine mw_get (C := RX3) (T := TX3) (N := 6) (v := .int (nI (wa))) hx hb hts inX3_join_X3 hown hC hw e0 rfl 5 (by decide) k_1 rfl dX3_join_6 ?_
  refine lv_iadd hx hb dX3_join_9 ?_
  refine mw_ti (v' := nI (un + wa)) (nI_add _ _) ?_
  refine mw_ci hC hw (va_runV (As := [.int (nI (un + wa))]) (rest := []) ⟨hx, hb, hml, hown, hts⟩ (c_X3_placeOf l G _ H.size h0 la sa fi un ag wa lg (un + wa) e0 e1 (by omega) (by omega)) (cwV 1 hts gX3_join_X3_placeOf rfl rfl rfl (by decide +kernel) ⟨Nat.le_of_ble_eq_true rfl, Nat.le_of_ble_eq_true rfl⟩) (mw_preV (ci := 3) hC hw rfl e0) rfl rfl hl.1 rfl (lv_room (Nat.le_of_ble_eq_true rfl)) dX3_join_10 ⟨Nat.le_of_ble_eq_true rfl, Nat.le_of_ble_eq_true rfl⟩) (fun H locs hz hw => ?_)
  refine lv_istore_n (lv' := [(3, .int (nI ((fi + (un + wa)) % 187))), (0, .ref (h0)), (1, .int (nI (ln))), (2, .int (nI (se)))]) hx hb dX3_join_13 rfl hl (by decide) rfl (fun ls hl => ?_)
  refine lv_aload_n hx hb dX3_join_14 rfl (lv_at hl 1 rfl) ?_
  refine mw_get (C := RX3) (T := TX3) (N := 6) (v := .ref (la)) hx hb hts inX3_join_X3 hown hC hw e0 rfl 0 (by decide) k_2 rfl dX3_join_15 ?_
  refine lv_iload_n hx hb dX3_join_18 rfl (lv_at hl 0 rfl) ?_
  refine lv_iload_n hx hb dX3_join_19 rfl (lv_at hl 2 rfl) ?_
  refine mw_istM (n := 187) (g := lg) (i := (fi + (un + wa)) % 187) hx hb hC hw e1 (by omega) (by decide) dX3_join_20 (fun H locs hw => ?_)
  refine lv_aload_n hx hb dX3_join_21 rfl (lv_at hl 1 rfl) ?_
  refine mw_get (C := RX3) (T := TX3) (N := 6) (v := .ref (sa)) hx hb hts inX3_join_X3 hown hC hw (mw_u1 m0_1 e0) rfl 1 (by decide) k_3 rfl dX3_join_22 ?_
  refine lv_iload_n hx hb dX3_join_25 rfl (lv_at hl 0 rfl) ?_
  refine lv_iload_n hx hb dX3_join_26 rfl (lv_at hl 3 rfl) ?_
  refine mw_istM (n := 187) (g := sd) (i := (fi + (un + wa)) % 187) hx hb hC hw (mw_u1 (Ne.symm nlasa) e2) (by omega) (by decide) dX3_join_27 (fun H locs hw => ?_)
  refine lv_aload_n hx hb dX3_join_28 rfl (lv_at hl 1 rfl) ?_
  refine lv_dup hx hb dX3_join_29 rfl ?_
  refine mw_get (C := RX3) (T := TX3) (N := 6) (v := .int (nI (wa))) hx hb hts inX3_join_X3 hown hC hw (mw_u1 m0_2 (mw_u1 m0_1 e0)) rfl 5 (by decide) k_1 rfl dX3_join_30 ?_
  refine lv_iconst (v := nI 1) hx hb dX3_join_33 (by decide) ?_
  refine lv_iadd hx hb dX3_join_34 ?_
  refine mw_ti (v' := nI (wa + 1)) (nI_add _ _) ?_
  refine mw_put (C := RX3) (T := TX3) (N := 6) hx hb hts inX3_join_X3 tyX3 tyX3_ok nmX3 hown hC hw (mw_u1 m0_2 (mw_u1 m0_1 e0)) rfl 5 (by decide) k_1 rfl rfl rfl (Nat.le_of_ble_eq_true rfl) dX3_join_35 (fun H locs hw => ?_)
  have hw : mw_St G _ s (va_up _ h0 (some (.inr (3, [.ref (la), .ref (sa), .int (nI (fi)), .int (nI (un)), .int (nI (ag)), .int (nI (wa + 1))])))) H locs := hw
  have hw : mw_St G (mw_A M s.heap.size) s (va_up (va_up (va_up M h0 (some (.inr (3, [.ref (la), .ref (sa), .int (nI (fi)), .int (nI (un)), .int (nI (ag)), .int (nI (wa + 1))])))) la (some (.inl (G.2 1, 187, .inl (fun j => nI ((va_up lg ((fi + (un + wa)) % 187) ln) j)))))) sa (some (.inl (G.2 1, 187, .inl (fun j => nI ((va_up sd ((fi + (un + wa)) % 187) se) j)))))) H locs := hw.to (fun q8 x8 h8 => by
    by_cases b_2 : q8 = h0
    · rw [b_2] at h8 ⊢; exact mw_u0.trans (((mw_u1 m0_2 (mw_u1 m0_1 mw_u0)).symm.trans h8))
    by_cases b_3 : q8 = la
    · rw [b_3] at h8 ⊢; exact (mw_u1 (Ne.symm m0_1) (mw_u1 nlasa mw_u0)).trans (((mw_u1 nlasa mw_u0).symm.trans h8))
    by_cases b_4 : q8 = sa
    · rw [b_4] at h8 ⊢; exact (mw_u1 (Ne.symm m0_2) mw_u0).trans ((mw_u0.symm.trans h8))
    simp only [va_up_ne _ _ b_2, va_up_ne _ _ b_3, va_up_ne _ _ b_4] at h8 ⊢; exact h8)
  exact mw_vret hx hb hr hlocks hw (fun _ _ h9 => h9) dX3_join_38
theorem inX3_mayGoFirstTime_X3 : ∀ w ∈ wsX30, w ∈ wsX3_mayGoFirstTime := by decide +kernel
def RM_X3_mayGoFirstTime : Room := { frames := 0, cells := 0, slots := 0, locals := 0 }
set_option maxHeartbeats 4000000 in
set_option maxRecDepth 100000 in
theorem c_X3_mayGoFirstTime (l : Launch) (G : mw_G) (M : mw_M) (sz : Nat) (h0 la sa fi un ag wa : Nat) (e0 : M h0 = some (.inr (3, [.ref (la), .ref (sa), .int (nI (fi)), .int (nI (un)), .int (nI (ag)), .int (nI (wa))]))) (hun : un ≤ 127) (hwa : wa ≤ 60)  : Met l yX3_mayGoFirstTime wsX3_mayGoFirstTime RM_X3_mayGoFirstTime (mw_pre G M sz [.ref (h0)]) (mw_Qi G M sz (nI (b2n (decide (0 < wa) && decide (un < 127)))) M) 0 0 (mw_A M sz) := by
  refine Met.ofW (cc := cX3_mayGoFirstTime) (maxL := 1) (ret := (some .boolean)) (by decide) rfl ?_
  intro p e s m args below meth c s₁ B hml hv
  obtain ⟨rfl, rfl, hC, hw⟩ := mw_in hv
  have hx := B.exec
  have hb := B.bytes
  have hr := B.returns
  have hts := atoms_spec (ws := wsX3_mayGoFirstTime) B.pre
  have hown : s.vm.findClass RX3 = some m.cls := findClass_of_methodNamed B.named
  have hlocks := B.notSynchronized
  have k_0 := hts (.fieldLink RX3 25 "LinkPair$Messages" "waiting" "I") (by decide +kernel)
  have k_1 := hts (.fieldLink RX3 22 "LinkPair$Messages" "untold" "I") (by decide +kernel)
  have hl := lv_entry ([.ref (h0)]) (n := 1) (Nat.le_of_ble_eq_true rfl)
  rw [lg_entry_eq]
  generalize (lg_sl ([.ref (h0)]) ++ List.replicate (1 - (lg_sl ([.ref (h0)])).length) Slot.unset).toArray = ls at hl ⊢
  have hl : lv_has ls 1 [(0, .ref (h0))] := hl
  refine mw_start (fun H locs hw => ?_) hw
  refine lv_aload_n hx hb dX3_mayGoFirstTime_0 rfl (lv_at hl 0 rfl) ?_
  refine mw_get (C := RX3) (T := TX3) (N := 6) (v := .int (nI (wa))) hx hb hts inX3_mayGoFirstTime_X3 hown hC hw e0 rfl 5 (by decide) k_0 rfl dX3_mayGoFirstTime_1 ?_
  refine lv_if_le (tgt := 20) hx hb dX3_mayGoFirstTime_4 (by decide) (fun c_1 => ?_) (fun c_1 => ?_)
  · skip
    have c_1 : wa ≤ 0 := (nI_leI (a := wa) (b := 0) (by omega) (by omega)).mp c_1
    have hd_ : decide (0 < wa) = false := decide_eq_false (by omega)
    refine lv_iconst (v := nI 0) hx hb dX3_mayGoFirstTime_20 (by decide) ?_
    exact mw_zret hx hb hr hlocks hw (by decide) (by unfold b2n; rw [if_neg (by simp <;> omega)]) (fun _ _ h9 => h9) dX3_mayGoFirstTime_21
  · skip
    have c_1 : wa > 0 := Nat.not_le.mp (fun h => c_1 ((nI_leI (a := wa) (b := 0) (by omega) (by omega)).mpr h))
    have hd_ : decide (0 < wa) = true := decide_eq_true (by omega)
    refine lv_aload_n hx hb dX3_mayGoFirstTime_7 rfl (lv_at hl 0 rfl) ?_
    refine mw_get (C := RX3) (T := TX3) (N := 6) (v := .int (nI (un))) hx hb hts inX3_mayGoFirstTime_X3 hown hC hw e0 rfl 3 (by decide) k_1 rfl dX3_mayGoFirstTime_8 ?_
    refine lv_bipush (v := nI 127) hx hb dX3_mayGoFirstTime_11 (by decide) ?_
    refine lv_icmp_ge (tgt := 20) hx hb dX3_mayGoFirstTime_13 (by decide) (fun c_2 => ?_) (fun c_2 => ?_)
    · skip
      have c_2 : un ≥ 127 := (nI_leI (a := 127) (b := un) (by omega) (by omega)).mp c_2
      refine lv_iconst (v := nI 0) hx hb dX3_mayGoFirstTime_20 (by decide) ?_
      exact mw_zret hx hb hr hlocks hw (by decide) (by unfold b2n; rw [if_neg (by simp <;> omega)]) (fun _ _ h9 => h9) dX3_mayGoFirstTime_21
    · skip
      have c_2 : un < 127 := Nat.not_le.mp (fun h => c_2 ((nI_leI (a := 127) (b := un) (by omega) (by omega)).mpr h))
      refine lv_iconst (v := nI 1) hx hb dX3_mayGoFirstTime_16 (by decide) ?_
      refine lv_goto (tgt := 21) hx hb dX3_mayGoFirstTime_17 (by decide) ?_
      exact mw_zret hx hb hr hlocks hw (by decide) (by unfold b2n; rw [if_pos (by simp <;> omega)]) (fun _ _ h9 => h9) dX3_mayGoFirstTime_21
theorem inX3_goFirstTime_X3 : ∀ w ∈ wsX30, w ∈ wsX3_goFirstTime := by decide +kernel
def RM_X3_goFirstTime : Room := { frames := 0, cells := 0, slots := 0, locals := 0 }
set_option maxHeartbeats 4000000 in
set_option maxRecDepth 100000 in
theorem c_X3_goFirstTime (l : Launch) (G : mw_G) (M : mw_M) (sz : Nat) (h0 la sa fi un ag wa : Nat) (e0 : M h0 = some (.inr (3, [.ref (la), .ref (sa), .int (nI (fi)), .int (nI (un)), .int (nI (ag)), .int (nI (wa))]))) (hun : un < 127) (hwa : wa ≤ 60) (hw0 : 0 < wa)  : Met l yX3_goFirstTime wsX3_goFirstTime RM_X3_goFirstTime (mw_pre G M sz [.ref (h0)]) (mw_Qv G M sz (va_up M h0 (some (.inr (3, [.ref (la), .ref (sa), .int (nI (fi)), .int (nI (un + 1)), .int (nI (ag)), .int (nI (wa - 1))]))))) 0 0 (mw_A M sz) := by
  refine Met.ofW (cc := cX3_goFirstTime) (maxL := 1) (ret := none) (by decide) rfl ?_
  intro p e s m args below meth c s₁ B hml hv
  obtain ⟨rfl, rfl, hC, hw⟩ := mw_in hv
  have hx := B.exec
  have hb := B.bytes
  have hr := B.returns
  have hts := atoms_spec (ws := wsX3_goFirstTime) B.pre
  have hown : s.vm.findClass RX3 = some m.cls := findClass_of_methodNamed B.named
  have hlocks := B.notSynchronized
  have k_0 := hts (.fieldLink RX3 25 "LinkPair$Messages" "waiting" "I") (by decide +kernel)
  have k_1 := hts (.fieldLink RX3 22 "LinkPair$Messages" "untold" "I") (by decide +kernel)
  have hl := lv_entry ([.ref (h0)]) (n := 1) (Nat.le_of_ble_eq_true rfl)
  rw [lg_entry_eq]
  generalize (lg_sl ([.ref (h0)]) ++ List.replicate (1 - (lg_sl ([.ref (h0)])).length) Slot.unset).toArray = ls at hl ⊢
  have hl : lv_has ls 1 [(0, .ref (h0))] := hl
  refine mw_start (fun H locs hw => ?_) hw
  refine lv_aload_n hx hb dX3_goFirstTime_0 rfl (lv_at hl 0 rfl) ?_
  refine lv_dup hx hb dX3_goFirstTime_1 rfl ?_
  refine mw_get (C := RX3) (T := TX3) (N := 6) (v := .int (nI (wa))) hx hb hts inX3_goFirstTime_X3 hown hC hw e0 rfl 5 (by decide) k_0 rfl dX3_goFirstTime_2 ?_
  refine lv_iconst (v := nI 1) hx hb dX3_goFirstTime_5 (by decide) ?_
  refine lv_isub hx hb dX3_goFirstTime_6 ?_
  refine mw_ti (v' := nI (wa - 1)) (pk_sub (by omega)) ?_
  refine mw_put (C := RX3) (T := TX3) (N := 6) hx hb hts inX3_goFirstTime_X3 tyX3 tyX3_ok nmX3 hown hC hw e0 rfl 5 (by decide) k_0 rfl rfl rfl (Nat.le_of_ble_eq_true rfl) dX3_goFirstTime_7 (fun H locs hw => ?_)
  have hw : mw_St G _ s (va_up _ h0 (some (.inr (3, [.ref (la), .ref (sa), .int (nI (fi)), .int (nI (un)), .int (nI (ag)), .int (nI (wa - 1))])))) H locs := hw
  refine lv_aload_n hx hb dX3_goFirstTime_10 rfl (lv_at hl 0 rfl) ?_
  refine lv_dup hx hb dX3_goFirstTime_11 rfl ?_
  refine mw_get (C := RX3) (T := TX3) (N := 6) (v := .int (nI (un))) hx hb hts inX3_goFirstTime_X3 hown hC hw mw_u0 rfl 3 (by decide) k_1 rfl dX3_goFirstTime_12 ?_
  refine lv_iconst (v := nI 1) hx hb dX3_goFirstTime_15 (by decide) ?_
  refine lv_iadd hx hb dX3_goFirstTime_16 ?_
  refine mw_ti (v' := nI (un + 1)) (nI_add _ _) ?_
  refine mw_put (C := RX3) (T := TX3) (N := 6) hx hb hts inX3_goFirstTime_X3 tyX3 tyX3_ok nmX3 hown hC hw mw_u0 rfl 3 (by decide) k_1 rfl rfl rfl (Nat.le_of_ble_eq_true rfl) dX3_goFirstTime_17 (fun H locs hw => ?_)
  have hw : mw_St G _ s (va_up _ h0 (some (.inr (3, [.ref (la), .ref (sa), .int (nI (fi)), .int (nI (un + 1)), .int (nI (ag)), .int (nI (wa - 1))])))) H locs := hw
  have hw : mw_St G (mw_A M s.heap.size) s (va_up M h0 (some (.inr (3, [.ref (la), .ref (sa), .int (nI (fi)), .int (nI (un + 1)), .int (nI (ag)), .int (nI (wa - 1))])))) H locs := hw.to (fun q8 x8 h8 => by
    by_cases b_2 : q8 = h0
    · rw [b_2] at h8 ⊢; exact mw_u0.trans ((mw_u0.symm.trans h8))
    simp only [va_up_ne _ _ b_2] at h8 ⊢; exact h8)
  exact mw_vret hx hb hr hlocks hw (fun _ _ h9 => h9) dX3_goFirstTime_20
theorem inX3_forget_X3 : ∀ w ∈ wsX30, w ∈ wsX3_forget := by decide +kernel
def RM_X3_forget : Room := { frames := 1, cells := 0, slots := 0, locals := 40 }
set_option maxHeartbeats 4000000 in
set_option maxRecDepth 100000 in
theorem c_X3_forget (l : Launch) (G : mw_G) (M : mw_M) (sz : Nat) (h0 la sa fi un ag wa : Nat) (lg : Nat → Nat) (t : Nat) (e0 : M h0 = some (.inr (3, [.ref (la), .ref (sa), .int (nI (fi)), .int (nI (un)), .int (nI (ag)), .int (nI (wa))]))) (e1 : M la = some (.inl (G.2 1, 187, .inl (fun j => nI (lg j))))) (hfi : fi < 187) (hun : un ≤ 127) (hag : ag ≤ un) (ht : t ≤ un)  : Met l yX3_forget wsX3_forget RM_X3_forget (mw_pre G M sz [.ref (h0), .int (nI (t))]) (mw_Qv G M sz (va_up M h0 (some (.inr (3, [.ref (la), .ref (sa), .int (nI ((fi + t) % 187)), .int (nI (un - t)), .int (nI (min ag (un - t))), .int (nI (wa))]))))) 0 0 (mw_A M sz) := by
  refine Met.ofW (cc := cX3_forget) (maxL := 2) (ret := none) (by decide) rfl ?_
  intro p e s m args below meth c s₁ B hml hv
  obtain ⟨rfl, rfl, hC, hw⟩ := mw_in hv
  have hx := B.exec
  have hb := B.bytes
  have hr := B.returns
  have hts := atoms_spec (ws := wsX3_forget) B.pre
  have hown : s.vm.findClass RX3 = some m.cls := findClass_of_methodNamed B.named
  have hlocks := B.notSynchronized
  have k_0 := hts (.fieldLink RX3 18 "LinkPair$Messages" "first" "I") (by decide +kernel)
  have k_1 := hts (.fieldLink RX3 22 "LinkPair$Messages" "untold" "I") (by decide +kernel)
  have k_2 := hts (.fieldLink RX3 32 "LinkPair$Messages" "again" "I") (by decide +kernel)
  have k_3 := hts (.methodLink RX3 35 Lib.Math.min.name) (by decide +kernel)
  have k_4 := hts (.static Lib.Math.min.name) (by decide +kernel)
  have k_5 := hts (.initialized "java/lang/Math") (by decide +kernel)
  have k_6 := hts (.code Lib.Math.min.name Lib.Math.min.code 2 (some .int)) (by decide +kernel)
  have hl := lv_entry ([.ref (h0), .int (nI (t))]) (n := 2) (Nat.le_of_ble_eq_true rfl)
  rw [lg_entry_eq]
  generalize (lg_sl ([.ref (h0), .int (nI (t))]) ++ List.replicate (2 - (lg_sl ([.ref (h0), .int (nI (t))])).length) Slot.unset).toArray = ls at hl ⊢
  have hl : lv_has ls 2 [(0, .ref (h0)), (1, .int (nI (t)))] := hl
  refine mw_start (fun H locs hw => ?_) hw
  refine lv_aload_n hx hb dX3_forget_0 rfl (lv_at hl 0 rfl) ?_
  refine lv_aload_n hx hb dX3_forget_1 rfl (lv_at hl 0 rfl) ?_
  refine lv_iload_n hx hb dX3_forget_2 rfl (lv_at hl 1 rfl) ?_
  refine mw_ci hC hw (va_runV (As := [.int (nI (t))]) (rest := [.ref (h0)]) ⟨hx, hb, hml, hown, hts⟩ (c_X3_placeOf l G _ H.size h0 la sa fi un ag wa lg t e0 e1 (by omega) (by omega)) (cwV 1 hts gX3_forget_X3_placeOf rfl rfl rfl (by decide +kernel) ⟨Nat.le_of_ble_eq_true rfl, Nat.le_of_ble_eq_true rfl⟩) (mw_preV (ci := 3) hC hw rfl e0) rfl rfl hl.1 rfl (lv_room (Nat.le_of_ble_eq_true rfl)) dX3_forget_3 ⟨Nat.le_of_ble_eq_true rfl, Nat.le_of_ble_eq_true rfl⟩) (fun H locs hz hw => ?_)
  refine mw_put (C := RX3) (T := TX3) (N := 6) hx hb hts inX3_forget_X3 tyX3 tyX3_ok nmX3 hown hC hw e0 rfl 2 (by decide) k_0 rfl rfl rfl (Nat.le_of_ble_eq_true rfl) dX3_forget_6 (fun H locs hw => ?_)
  have hw : mw_St G _ s (va_up _ h0 (some (.inr (3, [.ref (la), .ref (sa), .int (nI ((fi + t) % 187)), .int (nI (un)), .int (nI (ag)), .int (nI (wa))])))) H locs := hw
  refine lv_aload_n hx hb dX3_forget_9 rfl (lv_at hl 0 rfl) ?_
  refine lv_dup hx hb dX3_forget_10 rfl ?_
  refine mw_get (C := RX3) (T := TX3) (N := 6) (v := .int (nI (un))) hx hb hts inX3_forget_X3 hown hC hw mw_u0 rfl 3 (by decide) k_1 rfl dX3_forget_11 ?_
  refine lv_iload_n hx hb dX3_forget_14 rfl (lv_at hl 1 rfl) ?_
  refine lv_isub hx hb dX3_forget_15 ?_
  refine mw_ti (v' := nI (un - t)) (pk_sub (by omega)) ?_
  refine mw_put (C := RX3) (T := TX3) (N := 6) hx hb hts inX3_forget_X3 tyX3 tyX3_ok nmX3 hown hC hw mw_u0 rfl 3 (by decide) k_1 rfl rfl rfl (Nat.le_of_ble_eq_true rfl) dX3_forget_16 (fun H locs hw => ?_)
  have hw : mw_St G _ s (va_up _ h0 (some (.inr (3, [.ref (la), .ref (sa), .int (nI ((fi + t) % 187)), .int (nI (un - t)), .int (nI (ag)), .int (nI (wa))])))) H locs := hw
  refine lv_aload_n hx hb dX3_forget_19 rfl (lv_at hl 0 rfl) ?_
  refine lv_aload_n hx hb dX3_forget_20 rfl (lv_at hl 0 rfl) ?_
  refine mw_get (C := RX3) (T := TX3) (N := 6) (v := .int (nI (ag))) hx hb hts inX3_forget_X3 hown hC hw mw_u0 rfl 4 (by decide) k_2 rfl dX3_forget_21 ?_
  refine lv_aload_n hx hb dX3_forget_24 rfl (lv_at hl 0 rfl) ?_
  refine mw_get (C := RX3) (T := TX3) (N := 6) (v := .int (nI (un - t))) hx hb hts inX3_forget_X3 hown hC hw mw_u0 rfl 3 (by decide) k_1 rfl dX3_forget_25 ?_
  refine va_mmin hx hb (hml.trans hl.1.symm) hown k_3 k_4 k_5 k_6 (Nat.le_of_ble_eq_true rfl) (Nat.le_of_ble_eq_true rfl) (Nat.zero_le _) (Nat.zero_le _) dX3_forget_28 ?_
  refine mw_ti (v' := nI (min ag (un - t))) (mw_min (by omega) (by omega)) ?_
  refine mw_put (C := RX3) (T := TX3) (N := 6) hx hb hts inX3_forget_X3 tyX3 tyX3_ok nmX3 hown hC hw mw_u0 rfl 4 (by decide) k_2 rfl rfl rfl (Nat.le_of_ble_eq_true rfl) dX3_forget_31 (fun H locs hw => ?_)
  have hw : mw_St G _ s (va_up _ h0 (some (.inr (3, [.ref (la), .ref (sa), .int (nI ((fi + t) % 187)), .int (nI (un - t)), .int (nI (min ag (un - t))), .int (nI (wa))])))) H locs := hw
  have hw : mw_St G (mw_A M s.heap.size) s (va_up M h0 (some (.inr (3, [.ref (la), .ref (sa), .int (nI ((fi + t) % 187)), .int (nI (un - t)), .int (nI (min ag (un - t))), .int (nI (wa))])))) H locs := hw.to (fun q8 x8 h8 => by
    by_cases b_2 : q8 = h0
    · rw [b_2] at h8 ⊢; exact mw_u0.trans ((mw_u0.symm.trans h8))
    simp only [va_up_ne _ _ b_2] at h8 ⊢; exact h8)
  exact mw_vret hx hb hr hlocks hw (fun _ _ h9 => h9) dX3_forget_34
theorem inX3_empty_X3 : ∀ w ∈ wsX30, w ∈ wsX3_empty := by decide +kernel
def RM_X3_empty : Room := { frames := 0, cells := 0, slots := 0, locals := 0 }
set_option maxHeartbeats 4000000 in
set_option maxRecDepth 100000 in
theorem c_X3_empty (l : Launch) (G : mw_G) (M : mw_M) (sz : Nat) (h0 la sa fi un ag wa : Nat) (e0 : M h0 = some (.inr (3, [.ref (la), .ref (sa), .int (nI (fi)), .int (nI (un)), .int (nI (ag)), .int (nI (wa))])))   : Met l yX3_empty wsX3_empty RM_X3_empty (mw_pre G M sz [.ref (h0)]) (mw_Qv G M sz (va_up M h0 (some (.inr (3, [.ref (la), .ref (sa), .int (nI (fi)), .int (nI (0)), .int (nI (0)), .int (nI (0))]))))) 0 0 (mw_A M sz) := by
  refine Met.ofW (cc := cX3_empty) (maxL := 1) (ret := none) (by decide) rfl ?_
  intro p e s m args below meth c s₁ B hml hv
  obtain ⟨rfl, rfl, hC, hw⟩ := mw_in hv
  have hx := B.exec
  have hb := B.bytes
  have hr := B.returns
  have hts := atoms_spec (ws := wsX3_empty) B.pre
  have hown : s.vm.findClass RX3 = some m.cls := findClass_of_methodNamed B.named
  have hlocks := B.notSynchronized
  have k_0 := hts (.fieldLink RX3 22 "LinkPair$Messages" "untold" "I") (by decide +kernel)
  have k_1 := hts (.fieldLink RX3 32 "LinkPair$Messages" "again" "I") (by decide +kernel)
  have k_2 := hts (.fieldLink RX3 25 "LinkPair$Messages" "waiting" "I") (by decide +kernel)
  have hl := lv_entry ([.ref (h0)]) (n := 1) (Nat.le_of_ble_eq_true rfl)
  rw [lg_entry_eq]
  generalize (lg_sl ([.ref (h0)]) ++ List.replicate (1 - (lg_sl ([.ref (h0)])).length) Slot.unset).toArray = ls at hl ⊢
  have hl : lv_has ls 1 [(0, .ref (h0))] := hl
  refine mw_start (fun H locs hw => ?_) hw
  refine lv_aload_n hx hb dX3_empty_0 rfl (lv_at hl 0 rfl) ?_
  refine lv_iconst (v := nI 0) hx hb dX3_empty_1 (by decide) ?_
  refine mw_put (C := RX3) (T := TX3) (N := 6) hx hb hts inX3_empty_X3 tyX3 tyX3_ok nmX3 hown hC hw e0 rfl 3 (by decide) k_0 rfl rfl rfl (Nat.le_of_ble_eq_true rfl) dX3_empty_2 (fun H locs hw => ?_)
  have hw : mw_St G _ s (va_up _ h0 (some (.inr (3, [.ref (la), .ref (sa), .int (nI (fi)), .int (nI (0)), .int (nI (ag)), .int (nI (wa))])))) H locs := hw
  refine lv_aload_n hx hb dX3_empty_5 rfl (lv_at hl 0 rfl) ?_
  refine lv_iconst (v := nI 0) hx hb dX3_empty_6 (by decide) ?_
  refine mw_put (C := RX3) (T := TX3) (N := 6) hx hb hts inX3_empty_X3 tyX3 tyX3_ok nmX3 hown hC hw mw_u0 rfl 4 (by decide) k_1 rfl rfl rfl (Nat.le_of_ble_eq_true rfl) dX3_empty_7 (fun H locs hw => ?_)
  have hw : mw_St G _ s (va_up _ h0 (some (.inr (3, [.ref (la), .ref (sa), .int (nI (fi)), .int (nI (0)), .int (nI (0)), .int (nI (wa))])))) H locs := hw
  refine lv_aload_n hx hb dX3_empty_10 rfl (lv_at hl 0 rfl) ?_
  refine lv_iconst (v := nI 0) hx hb dX3_empty_11 (by decide) ?_
  refine mw_put (C := RX3) (T := TX3) (N := 6) hx hb hts inX3_empty_X3 tyX3 tyX3_ok nmX3 hown hC hw mw_u0 rfl 5 (by decide) k_2 rfl rfl rfl (Nat.le_of_ble_eq_true rfl) dX3_empty_12 (fun H locs hw => ?_)
  have hw : mw_St G _ s (va_up _ h0 (some (.inr (3, [.ref (la), .ref (sa), .int (nI (fi)), .int (nI (0)), .int (nI (0)), .int (nI (0))])))) H locs := hw
  have hw : mw_St G (mw_A M s.heap.size) s (va_up M h0 (some (.inr (3, [.ref (la), .ref (sa), .int (nI (fi)), .int (nI (0)), .int (nI (0)), .int (nI (0))])))) H locs := hw.to (fun q8 x8 h8 => by
    by_cases b_2 : q8 = h0
    · rw [b_2] at h8 ⊢; exact mw_u0.trans ((mw_u0.symm.trans h8))
    simp only [va_up_ne _ _ b_2] at h8 ⊢; exact h8)
  exact mw_vret hx hb hr hlocks hw (fun _ _ h9 => h9) dX3_empty_15
theorem inX2_isFull_X2 : ∀ w ∈ wsX20, w ∈ wsX2_isFull := by decide +kernel
def RM_X2_isFull : Room := { frames := 0, cells := 0, slots := 0, locals := 0 }
set_option maxHeartbeats 4000000 in
set_option maxRecDepth 100000 in
theorem c_X2_isFull (l : Launch) (G : mw_G) (M : mw_M) (sz : Nat) (h0 fa n : Nat) (e0 : M h0 = some (.inr (2, [.ref (fa), .int (nI (n))]))) (hn : n ≤ 40)  : Met l yX2_isFull wsX2_isFull RM_X2_isFull (mw_pre G M sz [.ref (h0)]) (mw_Qi G M sz (nI (b2n (decide (n = 40)))) M) 0 0 (mw_A M sz) := by
  refine Met.ofW (cc := cX2_isFull) (maxL := 1) (ret := (some .boolean)) (by decide) rfl ?_
  intro p e s m args below meth c s₁ B hml hv
  obtain ⟨rfl, rfl, hC, hw⟩ := mw_in hv
  have hx := B.exec
  have hb := B.bytes
  have hr := B.returns
  have hts := atoms_spec (ws := wsX2_isFull) B.pre
  have hown : s.vm.findClass RX2 = some m.cls := findClass_of_methodNamed B.named
  have hlocks := B.notSynchronized
  have k_0 := hts (.fieldLink RX2 18 "LinkPair$Line" "count" "I") (by decide +kernel)
  have hl := lv_entry ([.ref (h0)]) (n := 1) (Nat.le_of_ble_eq_true rfl)
  rw [lg_entry_eq]
  generalize (lg_sl ([.ref (h0)]) ++ List.replicate (1 - (lg_sl ([.ref (h0)])).length) Slot.unset).toArray = ls at hl ⊢
  have hl : lv_has ls 1 [(0, .ref (h0))] := hl
  refine mw_start (fun H locs hw => ?_) hw
  refine lv_aload_n hx hb dX2_isFull_0 rfl (lv_at hl 0 rfl) ?_
  refine mw_get (C := RX2) (T := TX2) (N := 2) (v := .int (nI (n))) hx hb hts inX2_isFull_X2 hown hC hw e0 rfl 1 (by decide) k_0 rfl dX2_isFull_1 ?_
  refine lv_bipush (v := nI 40) hx hb dX2_isFull_4 (by decide) ?_
  refine lv_icmp_ne (tgt := 13) hx hb dX2_isFull_6 (by decide) (fun c_1 => ?_) (fun c_1 => ?_)
  · skip
    have c_1 : n ≠ 40 := fun h => c_1 ((nI_eq (a := n) (b := 40) (by omega) (by omega)).mpr h)
    refine lv_iconst (v := nI 0) hx hb dX2_isFull_13 (by decide) ?_
    exact mw_zret hx hb hr hlocks hw (by decide) (by unfold b2n; rw [if_neg (by simp <;> omega)]) (fun _ _ h9 => h9) dX2_isFull_14
  · skip
    have c_1 : n = 40 := (nI_eq (a := n) (b := 40) (by omega) (by omega)).mp c_1
    refine lv_iconst (v := nI 1) hx hb dX2_isFull_9 (by decide) ?_
    refine lv_goto (tgt := 14) hx hb dX2_isFull_10 (by decide) ?_
    exact mw_zret hx hb hr hlocks hw (by decide) (by unfold b2n; rw [if_pos (by simp <;> omega)]) (fun _ _ h9 => h9) dX2_isFull_14
theorem inX2_last_X2 : ∀ w ∈ wsX20, w ∈ wsX2_last := by decide +kernel
def RM_X2_last : Room := { frames := 0, cells := 0, slots := 0, locals := 0 }
set_option maxHeartbeats 4000000 in
set_option maxRecDepth 100000 in
theorem c_X2_last (l : Launch) (G : mw_G) (M : mw_M) (sz : Nat) (h0 fa n : Nat) (fr : Nat → Option Nat) (y : Nat) (e0 : M h0 = some (.inr (2, [.ref (fa), .int (nI (n))]))) (e1 : M fa = some (.inl (G.2 5, 40, .inr (.inr (.inr (.inr (fr))))))) (hn : n ≤ 40) (hn0 : 0 < n) (hy : fr (n - 1) = some y)  : Met l yX2_last wsX2_last RM_X2_last (mw_pre G M sz [.ref (h0)]) (mw_Qr G M sz (y) M) 0 0 (mw_A M sz) := by
  refine Met.ofW (cc := cX2_last) (maxL := 1) (ret := (some (.object "LinkPair$Frame"))) (by decide) rfl ?_
  intro p e s m args below meth c s₁ B hml hv
  obtain ⟨rfl, rfl, hC, hw⟩ := mw_in hv
  have hx := B.exec
  have hb := B.bytes
  have hr := B.returns
  have hts := atoms_spec (ws := wsX2_last) B.pre
  have hown : s.vm.findClass RX2 = some m.cls := findClass_of_methodNamed B.named
  have hlocks := B.notSynchronized
  have k_0 := hts (.fieldLink RX2 11 "LinkPair$Line" "frames" "[LLinkPair$Frame;") (by decide +kernel)
  have k_1 := hts (.fieldLink RX2 18 "LinkPair$Line" "count" "I") (by decide +kernel)
  have hl := lv_entry ([.ref (h0)]) (n := 1) (Nat.le_of_ble_eq_true rfl)
  rw [lg_entry_eq]
  generalize (lg_sl ([.ref (h0)]) ++ List.replicate (1 - (lg_sl ([.ref (h0)])).length) Slot.unset).toArray = ls at hl ⊢
  have hl : lv_has ls 1 [(0, .ref (h0))] := hl
  refine mw_start (fun H locs hw => ?_) hw
  refine lv_aload_n hx hb dX2_last_0 rfl (lv_at hl 0 rfl) ?_
  refine mw_get (C := RX2) (T := TX2) (N := 2) (v := .ref (fa)) hx hb hts inX2_last_X2 hown hC hw e0 rfl 0 (by decide) k_0 rfl dX2_last_1 ?_
  refine lv_aload_n hx hb dX2_last_4 rfl (lv_at hl 0 rfl) ?_
  refine mw_get (C := RX2) (T := TX2) (N := 2) (v := .int (nI (n))) hx hb hts inX2_last_X2 hown hC hw e0 rfl 1 (by decide) k_1 rfl dX2_last_5 ?_
  refine lv_iconst (v := nI 1) hx hb dX2_last_8 (by decide) ?_
  refine lv_isub hx hb dX2_last_9 ?_
  refine mw_ti (v' := nI (n - 1)) (pk_sub (by omega)) ?_
  refine mw_faldN (n := 40) (f := fr) (i := n - 1) hx hb hC hw e1 (by omega) (by decide) dX2_last_10 ?_
  refine mw_tr (v' := y) (hy) ?_
  exact mw_aret hx hb hr ⟨_, rfl⟩ hlocks hw rfl (fun _ _ h9 => h9) dX2_last_11
theorem inX2_open_X2 : ∀ w ∈ wsX20, w ∈ wsX2_open := by decide +kernel
theorem inX2_open_X1 : ∀ w ∈ wsX10, w ∈ wsX2_open := by decide +kernel
def RM_X2_open : Room := { frames := 1, cells := 0, slots := 0, locals := 20 }
set_option maxHeartbeats 4000000 in
set_option maxRecDepth 100000 in
theorem c_X2_open (l : Launch) (G : mw_G) (M : mw_M) (sz : Nat) (h0 fa n : Nat) (fr : Nat → Option Nat) (y w ln : Nat) (e0 : M h0 = some (.inr (2, [.ref (fa), .int (nI (n))]))) (e1 : M fa = some (.inl (G.2 5, 40, .inr (.inr (.inr (.inr (fr))))))) (e2 : M y = some (.inr (1, [.ref (w), .int (nI (ln))]))) (hn : n < 40) (hy : fr n = some y)  : Met l yX2_open wsX2_open RM_X2_open (mw_pre G M sz [.ref (h0)]) (mw_Qr G M sz (y) (va_up (va_up M h0 (some (.inr (2, [.ref (fa), .int (nI (n + 1))])))) y (some (.inr (1, [.ref (w), .int (nI (0))]))))) 0 0 (mw_A M sz) := by
  refine Met.ofW (cc := cX2_open) (maxL := 1) (ret := (some (.object "LinkPair$Frame"))) (by decide) rfl ?_
  intro p e s m args below meth c s₁ B hml hv
  obtain ⟨rfl, rfl, hC, hw⟩ := mw_in hv
  have hx := B.exec
  have hb := B.bytes
  have hr := B.returns
  have hts := atoms_spec (ws := wsX2_open) B.pre
  have hown : s.vm.findClass RX2 = some m.cls := findClass_of_methodNamed B.named
  have hlocks := B.notSynchronized
  have k_0 := hts (.fieldLink RX2 18 "LinkPair$Line" "count" "I") (by decide +kernel)
  have m0_1 : h0 ≠ fa := mw_ne e0 e1 (by intro h9; cases h9)
  have m0_2 : h0 ≠ y := mw_ne e0 e2 (by intro h9; cases h9)
  have m1_2 : fa ≠ y := mw_ne e1 e2 (by intro h9; cases h9)
  have hl := lv_entry ([.ref (h0)]) (n := 1) (Nat.le_of_ble_eq_true rfl)
  rw [lg_entry_eq]
  generalize (lg_sl ([.ref (h0)]) ++ List.replicate (1 - (lg_sl ([.ref (h0)])).length) Slot.unset).toArray = ls at hl ⊢
  have hl : lv_has ls 1 [(0, .ref (h0))] := hl
  refine mw_start (fun H locs hw => ?_) hw
  refine lv_aload_n hx hb dX2_open_0 rfl (lv_at hl 0 rfl) ?_
  refine lv_dup hx hb dX2_open_1 rfl ?_
  refine mw_get (C := RX2) (T := TX2) (N := 2) (v := .int (nI (n))) hx hb hts inX2_open_X2 hown hC hw e0 rfl 1 (by decide) k_0 rfl dX2_open_2 ?_
  refine lv_iconst (v := nI 1) hx hb dX2_open_5 (by decide) ?_
  refine lv_iadd hx hb dX2_open_6 ?_
  refine mw_ti (v' := nI (n + 1)) (nI_add _ _) ?_
  refine mw_put (C := RX2) (T := TX2) (N := 2) hx hb hts inX2_open_X2 tyX2 tyX2_ok nmX2 hown hC hw e0 rfl 1 (by decide) k_0 rfl rfl rfl (Nat.le_of_ble_eq_true rfl) dX2_open_7 (fun H locs hw => ?_)
  have hw : mw_St G _ s (va_up _ h0 (some (.inr (2, [.ref (fa), .int (nI (n + 1))])))) H locs := hw
  refine lv_aload_n hx hb dX2_open_10 rfl (lv_at hl 0 rfl) ?_
  refine mw_cr hC hw (va_runV (As := []) (rest := []) ⟨hx, hb, hml, hown, hts⟩ (c_X2_last l G _ H.size h0 fa (n + 1) fr y mw_u0 (mw_u1 (Ne.symm m0_1) e1) (by omega) (by omega) (by simpa using hy)) (cwV 0 hts gX2_open_X2_last rfl rfl rfl (by decide +kernel) ⟨Nat.le_of_ble_eq_true rfl, Nat.le_of_ble_eq_true rfl⟩) (mw_preV (ci := 2) hC hw rfl mw_u0) rfl rfl hl.1 rfl (lv_room (Nat.le_of_ble_eq_true rfl)) dX2_open_11 ⟨Nat.le_of_ble_eq_true rfl, Nat.le_of_ble_eq_true rfl⟩) (fun H locs hz hw => ?_)
  refine lv_iconst (v := nI 0) hx hb dX2_open_14 (by decide) ?_
  refine mw_putN (C := RX1) (T := TX1) (N := 2) hx hb hts inX2_open_X1 tyX1 tyX1_ok nmX1 hown hC hw (mw_u1 (Ne.symm m0_2) e2) rfl 1 (by decide) (show Cond.fieldLinkNest RX2 26 (TX1 1).1 (TX1 1).2.1 (TX1 1).2.2.1 "LinkPair" ∈ mw_nestF by decide +kernel) rfl rfl rfl (Nat.le_of_ble_eq_true rfl) dX2_open_15 (fun H locs hw => ?_)
  have hw : mw_St G _ s (va_up _ y (some (.inr (1, [.ref (w), .int (nI (0))])))) H locs := hw
  refine lv_aload_n hx hb dX2_open_18 rfl (lv_at hl 0 rfl) ?_
  refine mw_cr hC hw (va_runV (As := []) (rest := []) ⟨hx, hb, hml, hown, hts⟩ (c_X2_last l G _ H.size h0 fa (n + 1) fr y (mw_u1 m0_2 mw_u0) (mw_u1 m1_2 (mw_u1 (Ne.symm m0_1) e1)) (by omega) (by omega) (by simpa using hy)) (cwV 0 hts gX2_open_X2_last rfl rfl rfl (by decide +kernel) ⟨Nat.le_of_ble_eq_true rfl, Nat.le_of_ble_eq_true rfl⟩) (mw_preV (ci := 2) hC hw rfl (mw_u1 m0_2 mw_u0)) rfl rfl hl.1 rfl (lv_room (Nat.le_of_ble_eq_true rfl)) dX2_open_19 ⟨Nat.le_of_ble_eq_true rfl, Nat.le_of_ble_eq_true rfl⟩) (fun H locs hz hw => ?_)
  exact mw_aret hx hb hr ⟨_, rfl⟩ hlocks hw rfl (fun _ _ h9 => h9) dX2_open_22
theorem inX2_lose_X2 : ∀ w ∈ wsX20, w ∈ wsX2_lose := by decide +kernel
def RM_X2_lose : Room := { frames := 0, cells := 0, slots := 0, locals := 0 }
set_option maxHeartbeats 4000000 in
set_option maxRecDepth 100000 in
theorem c_X2_lose (l : Launch) (G : mw_G) (M : mw_M) (sz : Nat) (h0 fa n : Nat) (fr : Nat → Option Nat) (ya : Nat → Nat) (f : Nat) (e0 : M h0 = some (.inr (2, [.ref (fa), .int (nI (n))]))) (e1 : M fa = some (.inl (G.2 5, 40, .inr (.inr (.inr (.inr (fr))))))) (hn : n ≤ 40) (hf : f < n) (hy : ∀ i, i < 40 → fr i = some (ya i)) (hvv : ∀ i, i < 40 → ∃ vs, M (ya i) = some (.inr (1, vs)))  : Met l yX2_lose wsX2_lose RM_X2_lose (mw_pre G M sz [.ref (h0), .int (nI (f))]) (mw_Qv G M sz (va_up (va_up M h0 (some (.inr (2, [.ref (fa), .int (nI (n - 1))])))) fa (some (.inl (G.2 5, 40, .inr (.inr (.inr (.inr (va_up (lsh fr f (n - 1)) (n - 1) (some (ya f))))))))))) 0 0 (mw_A M sz) := by
  refine Met.ofW (cc := cX2_lose) (maxL := 4) (ret := none) (by decide) rfl ?_
  intro p e s m args below meth c s₁ B hml hv
  obtain ⟨rfl, rfl, hC, hw⟩ := mw_in hv
  have hx := B.exec
  have hb := B.bytes
  have hr := B.returns
  have hts := atoms_spec (ws := wsX2_lose) B.pre
  have hown : s.vm.findClass RX2 = some m.cls := findClass_of_methodNamed B.named
  have hlocks := B.notSynchronized
  have k_0 := hts (.fieldLink RX2 11 "LinkPair$Line" "frames" "[LLinkPair$Frame;") (by decide +kernel)
  have k_1 := hts (.fieldLink RX2 18 "LinkPair$Line" "count" "I") (by decide +kernel)
  have m0_1 : h0 ≠ fa := mw_ne e0 e1 (by intro h9; cases h9)
  have hl := lv_entry ([.ref (h0), .int (nI (f))]) (n := 4) (Nat.le_of_ble_eq_true rfl)
  rw [lg_entry_eq]
  generalize (lg_sl ([.ref (h0), .int (nI (f))]) ++ List.replicate (4 - (lg_sl ([.ref (h0), .int (nI (f))])).length) Slot.unset).toArray = ls at hl ⊢
  have hl : lv_has ls 4 [(0, .ref (h0)), (1, .int (nI (f)))] := hl
  refine mw_start (fun H locs hw => ?_) hw
  refine lv_aload_n hx hb dX2_lose_0 rfl (lv_at hl 0 rfl) ?_
  refine mw_get (C := RX2) (T := TX2) (N := 2) (v := .ref (fa)) hx hb hts inX2_lose_X2 hown hC hw e0 rfl 0 (by decide) k_0 rfl dX2_lose_1 ?_
  refine lv_iload_n hx hb dX2_lose_4 rfl (lv_at hl 1 rfl) ?_
  refine mw_faldN (n := 40) (f := fr) (i := f) hx hb hC hw e1 (by omega) (by decide) dX2_lose_5 ?_
  refine mw_tr (v' := ya f) (hy f (by omega)) ?_
  refine lv_astore_n (lv' := [(2, .ref (ya f)), (0, .ref (h0)), (1, .int (nI (f)))]) hx hb dX2_lose_6 rfl hl (by decide) rfl (fun ls hl => ?_)
  refine lv_iload_n hx hb dX2_lose_7 rfl (lv_at hl 2 rfl) ?_
  refine lv_istore_n (lv' := [(3, .int (nI (f))), (2, .ref (ya f)), (0, .ref (h0)), (1, .int (nI (f)))]) hx hb dX2_lose_8 rfl hl (by decide) rfl (fun ls hl => ?_)
  have lp_1 : ∀ (n9 : Nat) (k : Nat), (hk : f ≤ k) → (hk2 : k ≤ n - 1) → n - 1 - k < n9 → ∀ (H : Heap) (locs : List Loc) (ls : Array Slot), mw_St G (mw_A M s.heap.size) s (va_up M fa (some (.inl (G.2 5, 40, .inr (.inr (.inr (.inr (lsh fr f k)))))))) H locs → lv_has ls 4 [(0, .ref (h0)), (1, .int (nI (f))), (2, .ref (ya f)), (3, .int (nI (k)))] → W p l e (headSpec wsX2_lose RM_X2_lose).room s m ([.ref (h0), .int (nI (f))] : List Value).toArray below meth c H locs 0 0 (MQ below (mw_Qv G M s.heap.size (va_up (va_up M h0 (some (.inr (2, [.ref (fa), .int (nI (n - 1))])))) fa (some (.inl (G.2 5, 40, .inr (.inr (.inr (.inr (va_up (lsh fr f (n - 1)) (n - 1) (some (ya f))))))))))) ([.ref (h0), .int (nI (f))] : List Value).toArray s 0 0 (mw_A M s.heap.size)) (F0 m 9 ls []) := by
    intro n9
    induction n9 with
    | zero => intro k hk hk2 h9; exact absurd h9 (Nat.not_lt_zero _)
    | succ n9 ih =>
      intro k hk hk2 h9 H locs ls hw hl
      refine lv_iload_n hx hb dX2_lose_9 rfl (lv_at hl 3 rfl) ?_
      refine lv_aload_n hx hb dX2_lose_10 rfl (lv_at hl 0 rfl) ?_
      refine mw_get (C := RX2) (T := TX2) (N := 2) (v := .int (nI (n))) hx hb hts inX2_lose_X2 hown hC hw (mw_u1 m0_1 e0) rfl 1 (by decide) k_1 rfl dX2_lose_11 ?_
      refine lv_iconst (v := nI 1) hx hb dX2_lose_14 (by decide) ?_
      refine lv_isub hx hb dX2_lose_15 ?_
      refine mw_ti (v' := nI (n - 1)) (pk_sub (by omega)) ?_
      refine lv_icmp_ge (tgt := 39) hx hb dX2_lose_16 (by decide) (fun c_2 => ?_) (fun c_2 => ?_)
      · skip
        have c_2 : k ≥ n - 1 := (nI_leI (a := n - 1) (b := k) (by omega) (by omega)).mp c_2
        obtain rfl : k = n - 1 := by omega
        refine lv_aload_n hx hb dX2_lose_39 rfl (lv_at hl 0 rfl) ?_
        refine lv_dup hx hb dX2_lose_40 rfl ?_
        refine mw_get (C := RX2) (T := TX2) (N := 2) (v := .int (nI (n))) hx hb hts inX2_lose_X2 hown hC hw (mw_u1 m0_1 e0) rfl 1 (by decide) k_1 rfl dX2_lose_41 ?_
        refine lv_iconst (v := nI 1) hx hb dX2_lose_44 (by decide) ?_
        refine lv_isub hx hb dX2_lose_45 ?_
        refine mw_ti (v' := nI (n - 1)) (pk_sub (by omega)) ?_
        refine mw_put (C := RX2) (T := TX2) (N := 2) hx hb hts inX2_lose_X2 tyX2 tyX2_ok nmX2 hown hC hw (mw_u1 m0_1 e0) rfl 1 (by decide) k_1 rfl rfl rfl (Nat.le_of_ble_eq_true rfl) dX2_lose_46 (fun H locs hw => ?_)
        have hw : mw_St G _ s (va_up _ h0 (some (.inr (2, [.ref (fa), .int (nI (n - 1))])))) H locs := hw
        refine lv_aload_n hx hb dX2_lose_49 rfl (lv_at hl 0 rfl) ?_
        refine mw_get (C := RX2) (T := TX2) (N := 2) (v := .ref (fa)) hx hb hts inX2_lose_X2 hown hC hw mw_u0 rfl 0 (by decide) k_0 rfl dX2_lose_50 ?_
        refine lv_aload_n hx hb dX2_lose_53 rfl (lv_at hl 0 rfl) ?_
        refine mw_get (C := RX2) (T := TX2) (N := 2) (v := .int (nI (n - 1))) hx hb hts inX2_lose_X2 hown hC hw mw_u0 rfl 1 (by decide) k_1 rfl dX2_lose_54 ?_
        refine lv_aload_n hx hb dX2_lose_57 rfl (lv_at hl 2 rfl) ?_
        obtain ⟨vs, hvs⟩ := hvv f (by omega)
        have hnf : ya f ≠ fa := mw_ne hvs e1 (by intro h9; cases h9)
        have hn0 : ya f ≠ h0 := mw_ne hvs e0 (by intro h9; cases h9)
        refine mw_fastN (n := 40) (f := lsh fr f (n - 1)) (i := n - 1) hx hb hC hw (mw_u1 (Ne.symm m0_1) mw_u0) (mw_u1 hn0 (mw_u1 hnf hvs)) (by omega) (by decide) dX2_lose_58 (fun H locs hw => ?_)
        have hw : mw_St G (mw_A M s.heap.size) s (va_up (va_up M h0 (some (.inr (2, [.ref (fa), .int (nI (n - 1))])))) fa (some (.inl (G.2 5, 40, .inr (.inr (.inr (.inr (va_up (lsh fr f (n - 1)) (n - 1) (some (ya f)))))))))) H locs := hw.to (fun q8 x8 h8 => by
          by_cases b_4 : q8 = h0
          · rw [b_4] at h8 ⊢; exact (mw_u1 m0_1 mw_u0).trans (((mw_u1 m0_1 mw_u0).symm.trans h8))
          by_cases b_5 : q8 = fa
          · rw [b_5] at h8 ⊢; exact mw_u0.trans ((mw_u0.symm.trans h8))
          simp only [va_up_ne _ _ b_4, va_up_ne _ _ b_5] at h8 ⊢; exact h8)
        exact mw_vret hx hb hr hlocks hw (fun _ _ h9 => h9) dX2_lose_59
      · skip
        have c_2 : k < n - 1 := Nat.not_le.mp (fun h => c_2 ((nI_leI (a := n - 1) (b := k) (by omega) (by omega)).mpr h))
        refine lv_aload_n hx hb dX2_lose_19 rfl (lv_at hl 0 rfl) ?_
        refine mw_get (C := RX2) (T := TX2) (N := 2) (v := .ref (fa)) hx hb hts inX2_lose_X2 hown hC hw (mw_u1 m0_1 e0) rfl 0 (by decide) k_0 rfl dX2_lose_20 ?_
        refine lv_iload_n hx hb dX2_lose_23 rfl (lv_at hl 3 rfl) ?_
        refine lv_aload_n hx hb dX2_lose_24 rfl (lv_at hl 0 rfl) ?_
        refine mw_get (C := RX2) (T := TX2) (N := 2) (v := .ref (fa)) hx hb hts inX2_lose_X2 hown hC hw (mw_u1 m0_1 e0) rfl 0 (by decide) k_0 rfl dX2_lose_25 ?_
        refine lv_iload_n hx hb dX2_lose_28 rfl (lv_at hl 3 rfl) ?_
        refine lv_iconst (v := nI 1) hx hb dX2_lose_29 (by decide) ?_
        refine lv_iadd hx hb dX2_lose_30 ?_
        refine mw_ti (v' := nI (k + 1)) (nI_add _ _) ?_
        refine mw_faldN (n := 40) (f := lsh fr f k) (i := k + 1) hx hb hC hw mw_u0 (by omega) (by decide) dX2_lose_31 ?_
        refine mw_tr (v' := ya (k + 1)) ((lsh_hi fr f (by omega)).trans (hy (k + 1) (by omega))) ?_
        obtain ⟨vs, hvs⟩ := hvv (k + 1) (by omega)
        have hnf : ya (k + 1) ≠ fa := mw_ne hvs e1 (by intro h9; cases h9)
        refine mw_fastN (n := 40) (f := lsh fr f k) (i := k) hx hb hC hw mw_u0 (mw_u1 hnf hvs) (by omega) (by decide) dX2_lose_32 (fun H locs hw => ?_)
        refine lv_iinc (v := nI (k + 1)) (lv' := [(3, .int (nI (k + 1))), (0, .ref (h0)), (1, .int (nI (f))), (2, .ref (ya f))]) hx hb dX2_lose_33 hl (k := 3) rfl (by rw [show Int32.ofInt 1 = nI 1 by decide]; exact nI_add _ _) (by decide) rfl (fun ls hl => ?_)
        refine lv_goto (tgt := 9) hx hb dX2_lose_36 (by decide) ?_
        have hc_7 : (.inl (G.2 5, 40, .inr (.inr (.inr (.inr (va_up (lsh fr f k) (k) (some (ya (k + 1)))))))) : va_E) = .inl (G.2 5, 40, .inr (.inr (.inr (.inr (lsh fr f (k + 1)))))) := by rw [← hy (k + 1) (by omega), lsh_s fr (by omega)]
        have hw : mw_St G (mw_A M s.heap.size) s (va_up M fa (some (.inl (G.2 5, 40, .inr (.inr (.inr (.inr (lsh fr f (k + 1))))))))) H locs := hw.to (fun q8 x8 h8 => by
          by_cases b_8 : q8 = fa
          · rw [b_8] at h8 ⊢; exact mw_u0.trans ((congrArg some hc_7).trans (mw_u0.symm.trans h8))
          simp only [va_up_ne _ _ b_8] at h8 ⊢; exact h8)
        exact ih (k + 1) (by omega) (by omega) (by omega) _ _ ls hw (lv_sub hl [1, 2, 3, 0] rfl)
  have hc_10 : (.inl (G.2 5, 40, .inr (.inr (.inr (.inr (fr))))) : va_E) = .inl (G.2 5, 40, .inr (.inr (.inr (.inr (lsh fr f f))))) := by rw [lsh_0]
  have hw : mw_St G (mw_A M s.heap.size) s (va_up M fa (some (.inl (G.2 5, 40, .inr (.inr (.inr (.inr (lsh fr f f)))))))) H locs := hw.to (fun q8 x8 h8 => by
    by_cases b_11 : q8 = fa
    · rw [b_11] at h8 ⊢; exact e1.trans ((congrArg some hc_10).trans (mw_u0.symm.trans h8))
    simp only [va_up_ne _ _ b_11] at h8 ⊢; exact h8)
  exact lp_1 (n - 1 - f + 1) f (by omega) (by omega) (Nat.lt_succ_self _) _ _ ls hw (lv_sub hl [2, 3, 1, 0] rfl)
