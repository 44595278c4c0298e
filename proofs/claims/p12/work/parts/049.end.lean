/-! ===== LinkPair.End, taking a unit ===== -/
theorem inX0_takeUnit_X0 : ∀ w ∈ wsX00, w ∈ wsX0_takeUnit := by decide +kernel
def RM_X0_takeUnit_fault : Room := { frames := 0, cells := 0, slots := 0, locals := 0 }
set_option maxHeartbeats 4000000 in
set_option maxRecDepth 100000 in
theorem c_X0_takeUnit_fault (l : Launch) (G : mw_G) (M : mw_M) (sz : Nat) (h0 li me so fi bi sn tn er un : Nat) (fl al ab : Bool) (la sa mf mu ma mw : Nat) (lg : Nat → Nat) (ba sl t : Nat) (bg ll : Nat → Nat) (hu ub c9 : Nat) (g : Nat → Nat) (ft_ : Nat) (e0 : M h0 = some (.inr (0, [.ref (li), .ref (me), .ref (so), .int (nI (fi)), .int (nI (bi)), .int (nI (sn)), .int (nI (tn)), .int (nI (er)), .int (nI (un)), .int (nI (b2n fl)), .int (nI (b2n al)), .int (nI (b2n ab))]))) (e1 : M me = some (.inr (3, [.ref (la), .ref (sa), .int (nI (mf)), .int (nI (mu)), .int (nI (ma)), .int (nI (mw))]))) (e2 : M la = some (.inl (G.2 1, 187, .inl (fun j => nI (lg j))))) (e3 : M so = some (.inr (4, [.ref (ba), .ref (sl), .int (nI (t))]))) (e4 : M ba = some (.inl (G.2 0, 13600, .inl (fun j => sb_b (bg j))))) (e5 : M sl = some (.inl (G.2 1, 50, .inl (fun j => nI (ll j))))) (e6 : M hu = some (.inr (5, [.ref (ub), .int (nI (c9))]))) (e7 : M ub = some (.inl (G.2 1, 277, .inl (fun j => nI (g j))))) (hun : un < 100000) (her : er ≤ 64) (hft : 0 < ft_) (hft2 : ft_ ≤ 5)  : Met l yX0_takeUnit wsX0_takeUnit RM_X0_takeUnit_fault (mw_pre G M sz [.ref (h0), .ref (hu), .int (nI (ft_))]) (mw_Qi G M sz (-(nI (ft_))) (va_up M h0 (some (.inr (0, [.ref (li), .ref (me), .ref (so), .int (nI (fi)), .int (nI (bi)), .int (nI (sn)), .int (nI (tn)), .int (nI (lk er un + 1)), .int (nI (un + 1)), .int (nI (b2n (decide (64 ≤ lk er un + 1)))), .int (nI (b2n al)), .int (nI (b2n ab))]))))) 0 0 (mw_A M sz) := by
  refine Met.ofW (cc := cX0_takeUnit) (maxL := 4) (ret := (some .int)) (by decide) rfl ?_
  intro p e s m args below meth c s₁ B hml hv
  obtain ⟨rfl, rfl, hC, hw⟩ := mw_in hv
  have hx := B.exec
  have hb := B.bytes
  have hr := B.returns
  have hts := atoms_spec (ws := wsX0_takeUnit) B.pre
  have hown : s.vm.findClass RX0 = some m.cls := findClass_of_methodNamed B.named
  have hlocks := B.notSynchronized
  have k_0 := hts (.fieldLink RX0 54 "LinkPair$End" "units" "I") (by decide +kernel)
  have k_1 := hts (.fieldLink RX0 51 "LinkPair$End" "errors" "I") (by decide +kernel)
  have k_2 := hts (.fieldLink RX0 57 "LinkPair$End" "failed" "Z") (by decide +kernel)
  have hl := lv_entry ([.ref (h0), .ref (hu), .int (nI (ft_))]) (n := 4) (Nat.le_of_ble_eq_true rfl)
  rw [lg_entry_eq]
  generalize (lg_sl ([.ref (h0), .ref (hu), .int (nI (ft_))]) ++ List.replicate (4 - (lg_sl ([.ref (h0), .ref (hu), .int (nI (ft_))])).length) Slot.unset).toArray = ls at hl ⊢
  have hl : lv_has ls 4 [(0, .ref (h0)), (1, .ref (hu)), (2, .int (nI (ft_)))] := hl
  refine mw_start (fun H locs hw => ?_) hw
  refine lv_aload_n hx hb dX0_takeUnit_0 rfl (lv_at hl 0 rfl) ?_
  refine lv_dup hx hb dX0_takeUnit_1 rfl ?_
  refine mw_get (C := RX0) (T := TX0) (N := 12) (v := .int (nI (un))) hx hb hts inX0_takeUnit_X0 hown hC hw e0 rfl 8 (by decide) k_0 rfl dX0_takeUnit_2 ?_
  refine lv_iconst (v := nI 1) hx hb dX0_takeUnit_5 (by decide) ?_
  refine lv_iadd hx hb dX0_takeUnit_6 ?_
  refine mw_ti (v' := nI (un + 1)) (nI_add _ _) ?_
  refine mw_put (C := RX0) (T := TX0) (N := 12) hx hb hts inX0_takeUnit_X0 tyX0 tyX0_ok nmX0 hown hC hw e0 rfl 8 (by decide) k_0 rfl rfl rfl (Nat.le_of_ble_eq_true rfl) dX0_takeUnit_7 (fun H locs hw => ?_)
  have hw : mw_St G _ s (va_up _ h0 (some (.inr (0, [.ref (li), .ref (me), .ref (so), .int (nI (fi)), .int (nI (bi)), .int (nI (sn)), .int (nI (tn)), .int (nI (er)), .int (nI (un + 1)), .int (nI (b2n fl)), .int (nI (b2n al)), .int (nI (b2n ab))])))) H locs := hw
  refine lv_aload_n hx hb dX0_takeUnit_10 rfl (lv_at hl 0 rfl) ?_
  refine mw_get (C := RX0) (T := TX0) (N := 12) (v := .int (nI (un + 1))) hx hb hts inX0_takeUnit_X0 hown hC hw mw_u0 rfl 8 (by decide) k_0 rfl dX0_takeUnit_11 ?_
  refine lv_sipush (v := nI 256) hx hb dX0_takeUnit_14 (by decide) ?_
  refine lv_irem hx hb dX0_takeUnit_17 (by decide) ?_
  refine mw_ti (v' := nI ((un + 1) % 256)) (pk_rem (by omega) (by omega) (by omega)) ?_
  refine lv_if_ne (tgt := 38) hx hb dX0_takeUnit_18 (by decide) (fun c_1 => ?_) (fun c_1 => ?_)
  · skip
    have c_1 : (un + 1) % 256 ≠ 0 := fun h => c_1 ((nI_eq (a := (un + 1) % 256) (b := 0) (by omega) (by omega)).mpr h)
    have hlk : lk er un = er := by unfold lk; rw [if_neg (by omega)]
    refine lv_iload_n hx hb dX0_takeUnit_38 rfl (lv_at hl 2 rfl) ?_
    refine lv_if_eq (tgt := 73) hx hb dX0_takeUnit_39 (by decide) (fun c_2 => ?_) (fun c_2 => ?_)
    · skip
      have c_2 : ft_ = 0 := (nI_eq (a := ft_) (b := 0) (by omega) (by omega)).mp c_2
      exfalso; omega
    · skip
      have c_2 : ft_ ≠ 0 := fun h => c_2 ((nI_eq (a := ft_) (b := 0) (by omega) (by omega)).mpr h)
      refine lv_aload_n hx hb dX0_takeUnit_42 rfl (lv_at hl 0 rfl) ?_
      refine lv_dup hx hb dX0_takeUnit_43 rfl ?_
      refine mw_get (C := RX0) (T := TX0) (N := 12) (v := .int (nI (er))) hx hb hts inX0_takeUnit_X0 hown hC hw mw_u0 rfl 7 (by decide) k_1 rfl dX0_takeUnit_44 ?_
      refine lv_iconst (v := nI 1) hx hb dX0_takeUnit_47 (by decide) ?_
      refine lv_iadd hx hb dX0_takeUnit_48 ?_
      refine mw_ti (v' := nI (er + 1)) (nI_add _ _) ?_
      refine mw_put (C := RX0) (T := TX0) (N := 12) hx hb hts inX0_takeUnit_X0 tyX0 tyX0_ok nmX0 hown hC hw mw_u0 rfl 7 (by decide) k_1 rfl rfl rfl (Nat.le_of_ble_eq_true rfl) dX0_takeUnit_49 (fun H locs hw => ?_)
      have hw : mw_St G _ s (va_up _ h0 (some (.inr (0, [.ref (li), .ref (me), .ref (so), .int (nI (fi)), .int (nI (bi)), .int (nI (sn)), .int (nI (tn)), .int (nI (er + 1)), .int (nI (un + 1)), .int (nI (b2n fl)), .int (nI (b2n al)), .int (nI (b2n ab))])))) H locs := hw
      refine lv_aload_n hx hb dX0_takeUnit_52 rfl (lv_at hl 0 rfl) ?_
      refine lv_aload_n hx hb dX0_takeUnit_53 rfl (lv_at hl 0 rfl) ?_
      refine mw_get (C := RX0) (T := TX0) (N := 12) (v := .int (nI (er + 1))) hx hb hts inX0_takeUnit_X0 hown hC hw mw_u0 rfl 7 (by decide) k_1 rfl dX0_takeUnit_54 ?_
      refine lv_bipush (v := nI 64) hx hb dX0_takeUnit_57 (by decide) ?_
      refine lv_icmp_lt (tgt := 66) hx hb dX0_takeUnit_59 (by decide) (fun c_3 => ?_) (fun c_3 => ?_)
      · skip
        have c_3 : er + 1 < 64 := (nI_ltI (a := er + 1) (b := 64) (by omega) (by omega)).mp c_3
        refine lv_iconst (v := nI 0) hx hb dX0_takeUnit_66 (by decide) ?_
        have hfl : decide (64 ≤ lk er un + 1) = false := by rw [hlk]; exact decide_eq_false (by omega)
        refine mw_put (C := RX0) (T := TX0) (N := 12) hx hb hts inX0_takeUnit_X0 tyX0 tyX0_ok nmX0 hown hC hw mw_u0 rfl 9 (by decide) k_2 rfl (by decide) rfl (Nat.le_of_ble_eq_true rfl) dX0_takeUnit_67 (fun H locs hw => ?_)
        have hw : mw_St G _ s (va_up _ h0 (some (.inr (0, [.ref (li), .ref (me), .ref (so), .int (nI (fi)), .int (nI (bi)), .int (nI (sn)), .int (nI (tn)), .int (nI (er + 1)), .int (nI (un + 1)), .int (nI (0)), .int (nI (b2n al)), .int (nI (b2n ab))])))) H locs := hw
        refine lv_iload_n hx hb dX0_takeUnit_70 rfl (lv_at hl 2 rfl) ?_
        refine lv_ineg hx hb dX0_takeUnit_71 ?_
        have hc_5 : (.inr (0, [.ref (li), .ref (me), .ref (so), .int (nI (fi)), .int (nI (bi)), .int (nI (sn)), .int (nI (tn)), .int (nI (er + 1)), .int (nI (un + 1)), .int (nI (0)), .int (nI (b2n al)), .int (nI (b2n ab))]) : va_E) = .inr (0, [.ref (li), .ref (me), .ref (so), .int (nI (fi)), .int (nI (bi)), .int (nI (sn)), .int (nI (tn)), .int (nI (lk er un + 1)), .int (nI (un + 1)), .int (nI (b2n (decide (64 ≤ lk er un + 1)))), .int (nI (b2n al)), .int (nI (b2n ab))]) := by rw [hfl, hlk]; try rfl
        have hw : mw_St G (mw_A M s.heap.size) s (va_up M h0 (some (.inr (0, [.ref (li), .ref (me), .ref (so), .int (nI (fi)), .int (nI (bi)), .int (nI (sn)), .int (nI (tn)), .int (nI (lk er un + 1)), .int (nI (un + 1)), .int (nI (b2n (decide (64 ≤ lk er un + 1)))), .int (nI (b2n al)), .int (nI (b2n ab))])))) H locs := hw.to (fun q8 x8 h8 => by
          by_cases b_6 : q8 = h0
          · rw [b_6] at h8 ⊢; exact mw_u0.trans ((congrArg some hc_5).trans (mw_u0.symm.trans h8))
          simp only [va_up_ne _ _ b_6] at h8 ⊢; exact h8)
        exact mw_iret hx hb hr hlocks hw (rfl) (fun _ _ h9 => h9) dX0_takeUnit_72
      · skip
        have c_3 : er + 1 ≥ 64 := Nat.not_lt.mp (fun h => c_3 ((nI_ltI (a := er + 1) (b := 64) (by omega) (by omega)).mpr h))
        refine lv_iconst (v := nI 1) hx hb dX0_takeUnit_62 (by decide) ?_
        refine lv_goto (tgt := 67) hx hb dX0_takeUnit_63 (by decide) ?_
        have hfl : decide (64 ≤ lk er un + 1) = true := by rw [hlk]; exact decide_eq_true (by omega)
        refine mw_put (C := RX0) (T := TX0) (N := 12) hx hb hts inX0_takeUnit_X0 tyX0 tyX0_ok nmX0 hown hC hw mw_u0 rfl 9 (by decide) k_2 rfl (by decide) rfl (Nat.le_of_ble_eq_true rfl) dX0_takeUnit_67 (fun H locs hw => ?_)
        have hw : mw_St G _ s (va_up _ h0 (some (.inr (0, [.ref (li), .ref (me), .ref (so), .int (nI (fi)), .int (nI (bi)), .int (nI (sn)), .int (nI (tn)), .int (nI (er + 1)), .int (nI (un + 1)), .int (nI (1)), .int (nI (b2n al)), .int (nI (b2n ab))])))) H locs := hw
        refine lv_iload_n hx hb dX0_takeUnit_70 rfl (lv_at hl 2 rfl) ?_
        refine lv_ineg hx hb dX0_takeUnit_71 ?_
        have hc_8 : (.inr (0, [.ref (li), .ref (me), .ref (so), .int (nI (fi)), .int (nI (bi)), .int (nI (sn)), .int (nI (tn)), .int (nI (er + 1)), .int (nI (un + 1)), .int (nI (1)), .int (nI (b2n al)), .int (nI (b2n ab))]) : va_E) = .inr (0, [.ref (li), .ref (me), .ref (so), .int (nI (fi)), .int (nI (bi)), .int (nI (sn)), .int (nI (tn)), .int (nI (lk er un + 1)), .int (nI (un + 1)), .int (nI (b2n (decide (64 ≤ lk er un + 1)))), .int (nI (b2n al)), .int (nI (b2n ab))]) := by rw [hfl, hlk]; try rfl
        have hw : mw_St G (mw_A M s.heap.size) s (va_up M h0 (some (.inr (0, [.ref (li), .ref (me), .ref (so), .int (nI (fi)), .int (nI (bi)), .int (nI (sn)), .int (nI (tn)), .int (nI (lk er un + 1)), .int (nI (un + 1)), .int (nI (b2n (decide (64 ≤ lk er un + 1)))), .int (nI (b2n al)), .int (nI (b2n ab))])))) H locs := hw.to (fun q8 x8 h8 => by
          by_cases b_9 : q8 = h0
          · rw [b_9] at h8 ⊢; exact mw_u0.trans ((congrArg some hc_8).trans (mw_u0.symm.trans h8))
          simp only [va_up_ne _ _ b_9] at h8 ⊢; exact h8)
        exact mw_iret hx hb hr hlocks hw (rfl) (fun _ _ h9 => h9) dX0_takeUnit_72
  · skip
    have c_1 : (un + 1) % 256 = 0 := (nI_eq (a := (un + 1) % 256) (b := 0) (by omega) (by omega)).mp c_1
    refine lv_aload_n hx hb dX0_takeUnit_21 rfl (lv_at hl 0 rfl) ?_
    refine mw_get (C := RX0) (T := TX0) (N := 12) (v := .int (nI (er))) hx hb hts inX0_takeUnit_X0 hown hC hw mw_u0 rfl 7 (by decide) k_1 rfl dX0_takeUnit_22 ?_
    refine lv_if_le (tgt := 38) hx hb dX0_takeUnit_25 (by decide) (fun c_10 => ?_) (fun c_10 => ?_)
    · skip
      have c_10 : er ≤ 0 := (nI_leI (a := er) (b := 0) (by omega) (by omega)).mp c_10
      have hlk : lk er un = er := by unfold lk; rw [if_neg (by omega)]
      refine lv_iload_n hx hb dX0_takeUnit_38 rfl (lv_at hl 2 rfl) ?_
      refine lv_if_eq (tgt := 73) hx hb dX0_takeUnit_39 (by decide) (fun c_11 => ?_) (fun c_11 => ?_)
      · skip
        have c_11 : ft_ = 0 := (nI_eq (a := ft_) (b := 0) (by omega) (by omega)).mp c_11
        exfalso; omega
      · skip
        have c_11 : ft_ ≠ 0 := fun h => c_11 ((nI_eq (a := ft_) (b := 0) (by omega) (by omega)).mpr h)
        refine lv_aload_n hx hb dX0_takeUnit_42 rfl (lv_at hl 0 rfl) ?_
        refine lv_dup hx hb dX0_takeUnit_43 rfl ?_
        refine mw_get (C := RX0) (T := TX0) (N := 12) (v := .int (nI (er))) hx hb hts inX0_takeUnit_X0 hown hC hw mw_u0 rfl 7 (by decide) k_1 rfl dX0_takeUnit_44 ?_
        refine lv_iconst (v := nI 1) hx hb dX0_takeUnit_47 (by decide) ?_
        refine lv_iadd hx hb dX0_takeUnit_48 ?_
        refine mw_ti (v' := nI (er + 1)) (nI_add _ _) ?_
        refine mw_put (C := RX0) (T := TX0) (N := 12) hx hb hts inX0_takeUnit_X0 tyX0 tyX0_ok nmX0 hown hC hw mw_u0 rfl 7 (by decide) k_1 rfl rfl rfl (Nat.le_of_ble_eq_true rfl) dX0_takeUnit_49 (fun H locs hw => ?_)
        have hw : mw_St G _ s (va_up _ h0 (some (.inr (0, [.ref (li), .ref (me), .ref (so), .int (nI (fi)), .int (nI (bi)), .int (nI (sn)), .int (nI (tn)), .int (nI (er + 1)), .int (nI (un + 1)), .int (nI (b2n fl)), .int (nI (b2n al)), .int (nI (b2n ab))])))) H locs := hw
        refine lv_aload_n hx hb dX0_takeUnit_52 rfl (lv_at hl 0 rfl) ?_
        refine lv_aload_n hx hb dX0_takeUnit_53 rfl (lv_at hl 0 rfl) ?_
        refine mw_get (C := RX0) (T := TX0) (N := 12) (v := .int (nI (er + 1))) hx hb hts inX0_takeUnit_X0 hown hC hw mw_u0 rfl 7 (by decide) k_1 rfl dX0_takeUnit_54 ?_
        refine lv_bipush (v := nI 64) hx hb dX0_takeUnit_57 (by decide) ?_
        refine lv_icmp_lt (tgt := 66) hx hb dX0_takeUnit_59 (by decide) (fun c_12 => ?_) (fun c_12 => ?_)
        · skip
          have c_12 : er + 1 < 64 := (nI_ltI (a := er + 1) (b := 64) (by omega) (by omega)).mp c_12
          refine lv_iconst (v := nI 0) hx hb dX0_takeUnit_66 (by decide) ?_
          have hfl : decide (64 ≤ lk er un + 1) = false := by rw [hlk]; exact decide_eq_false (by omega)
          refine mw_put (C := RX0) (T := TX0) (N := 12) hx hb hts inX0_takeUnit_X0 tyX0 tyX0_ok nmX0 hown hC hw mw_u0 rfl 9 (by decide) k_2 rfl (by decide) rfl (Nat.le_of_ble_eq_true rfl) dX0_takeUnit_67 (fun H locs hw => ?_)
          have hw : mw_St G _ s (va_up _ h0 (some (.inr (0, [.ref (li), .ref (me), .ref (so), .int (nI (fi)), .int (nI (bi)), .int (nI (sn)), .int (nI (tn)), .int (nI (er + 1)), .int (nI (un + 1)), .int (nI (0)), .int (nI (b2n al)), .int (nI (b2n ab))])))) H locs := hw
          refine lv_iload_n hx hb dX0_takeUnit_70 rfl (lv_at hl 2 rfl) ?_
          refine lv_ineg hx hb dX0_takeUnit_71 ?_
          have hc_14 : (.inr (0, [.ref (li), .ref (me), .ref (so), .int (nI (fi)), .int (nI (bi)), .int (nI (sn)), .int (nI (tn)), .int (nI (er + 1)), .int (nI (un + 1)), .int (nI (0)), .int (nI (b2n al)), .int (nI (b2n ab))]) : va_E) = .inr (0, [.ref (li), .ref (me), .ref (so), .int (nI (fi)), .int (nI (bi)), .int (nI (sn)), .int (nI (tn)), .int (nI (lk er un + 1)), .int (nI (un + 1)), .int (nI (b2n (decide (64 ≤ lk er un + 1)))), .int (nI (b2n al)), .int (nI (b2n ab))]) := by rw [hfl, hlk]; try rfl
          have hw : mw_St G (mw_A M s.heap.size) s (va_up M h0 (some (.inr (0, [.ref (li), .ref (me), .ref (so), .int (nI (fi)), .int (nI (bi)), .int (nI (sn)), .int (nI (tn)), .int (nI (lk er un + 1)), .int (nI (un + 1)), .int (nI (b2n (decide (64 ≤ lk er un + 1)))), .int (nI (b2n al)), .int (nI (b2n ab))])))) H locs := hw.to (fun q8 x8 h8 => by
            by_cases b_15 : q8 = h0
            · rw [b_15] at h8 ⊢; exact mw_u0.trans ((congrArg some hc_14).trans (mw_u0.symm.trans h8))
            simp only [va_up_ne _ _ b_15] at h8 ⊢; exact h8)
          exact mw_iret hx hb hr hlocks hw (rfl) (fun _ _ h9 => h9) dX0_takeUnit_72
        · skip
          have c_12 : er + 1 ≥ 64 := Nat.not_lt.mp (fun h => c_12 ((nI_ltI (a := er + 1) (b := 64) (by omega) (by omega)).mpr h))
          refine lv_iconst (v := nI 1) hx hb dX0_takeUnit_62 (by decide) ?_
          refine lv_goto (tgt := 67) hx hb dX0_takeUnit_63 (by decide) ?_
          have hfl : decide (64 ≤ lk er un + 1) = true := by rw [hlk]; exact decide_eq_true (by omega)
          refine mw_put (C := RX0) (T := TX0) (N := 12) hx hb hts inX0_takeUnit_X0 tyX0 tyX0_ok nmX0 hown hC hw mw_u0 rfl 9 (by decide) k_2 rfl (by decide) rfl (Nat.le_of_ble_eq_true rfl) dX0_takeUnit_67 (fun H locs hw => ?_)
          have hw : mw_St G _ s (va_up _ h0 (some (.inr (0, [.ref (li), .ref (me), .ref (so), .int (nI (fi)), .int (nI (bi)), .int (nI (sn)), .int (nI (tn)), .int (nI (er + 1)), .int (nI (un + 1)), .int (nI (1)), .int (nI (b2n al)), .int (nI (b2n ab))])))) H locs := hw
          refine lv_iload_n hx hb dX0_takeUnit_70 rfl (lv_at hl 2 rfl) ?_
          refine lv_ineg hx hb dX0_takeUnit_71 ?_
          have hc_17 : (.inr (0, [.ref (li), .ref (me), .ref (so), .int (nI (fi)), .int (nI (bi)), .int (nI (sn)), .int (nI (tn)), .int (nI (er + 1)), .int (nI (un + 1)), .int (nI (1)), .int (nI (b2n al)), .int (nI (b2n ab))]) : va_E) = .inr (0, [.ref (li), .ref (me), .ref (so), .int (nI (fi)), .int (nI (bi)), .int (nI (sn)), .int (nI (tn)), .int (nI (lk er un + 1)), .int (nI (un + 1)), .int (nI (b2n (decide (64 ≤ lk er un + 1)))), .int (nI (b2n al)), .int (nI (b2n ab))]) := by rw [hfl, hlk]; try rfl
          have hw : mw_St G (mw_A M s.heap.size) s (va_up M h0 (some (.inr (0, [.ref (li), .ref (me), .ref (so), .int (nI (fi)), .int (nI (bi)), .int (nI (sn)), .int (nI (tn)), .int (nI (lk er un + 1)), .int (nI (un + 1)), .int (nI (b2n (decide (64 ≤ lk er un + 1)))), .int (nI (b2n al)), .int (nI (b2n ab))])))) H locs := hw.to (fun q8 x8 h8 => by
            by_cases b_18 : q8 = h0
            · rw [b_18] at h8 ⊢; exact mw_u0.trans ((congrArg some hc_17).trans (mw_u0.symm.trans h8))
            simp only [va_up_ne _ _ b_18] at h8 ⊢; exact h8)
          exact mw_iret hx hb hr hlocks hw (rfl) (fun _ _ h9 => h9) dX0_takeUnit_72
    · skip
      have c_10 : er > 0 := Nat.not_le.mp (fun h => c_10 ((nI_leI (a := er) (b := 0) (by omega) (by omega)).mpr h))
      refine lv_aload_n hx hb dX0_takeUnit_28 rfl (lv_at hl 0 rfl) ?_
      refine lv_dup hx hb dX0_takeUnit_29 rfl ?_
      refine mw_get (C := RX0) (T := TX0) (N := 12) (v := .int (nI (er))) hx hb hts inX0_takeUnit_X0 hown hC hw mw_u0 rfl 7 (by decide) k_1 rfl dX0_takeUnit_30 ?_
      refine lv_iconst (v := nI 1) hx hb dX0_takeUnit_33 (by decide) ?_
      refine lv_isub hx hb dX0_takeUnit_34 ?_
      refine mw_ti (v' := nI (er - 1)) (pk_sub (by omega)) ?_
      refine mw_put (C := RX0) (T := TX0) (N := 12) hx hb hts inX0_takeUnit_X0 tyX0 tyX0_ok nmX0 hown hC hw mw_u0 rfl 7 (by decide) k_1 rfl rfl rfl (Nat.le_of_ble_eq_true rfl) dX0_takeUnit_35 (fun H locs hw => ?_)
      have hw : mw_St G _ s (va_up _ h0 (some (.inr (0, [.ref (li), .ref (me), .ref (so), .int (nI (fi)), .int (nI (bi)), .int (nI (sn)), .int (nI (tn)), .int (nI (er - 1)), .int (nI (un + 1)), .int (nI (b2n fl)), .int (nI (b2n al)), .int (nI (b2n ab))])))) H locs := hw
      have hlk : lk er un = er - 1 := by unfold lk; rw [if_pos (by omega)]
      refine lv_iload_n hx hb dX0_takeUnit_38 rfl (lv_at hl 2 rfl) ?_
      refine lv_if_eq (tgt := 73) hx hb dX0_takeUnit_39 (by decide) (fun c_19 => ?_) (fun c_19 => ?_)
      · skip
        have c_19 : ft_ = 0 := (nI_eq (a := ft_) (b := 0) (by omega) (by omega)).mp c_19
        exfalso; omega
      · skip
        have c_19 : ft_ ≠ 0 := fun h => c_19 ((nI_eq (a := ft_) (b := 0) (by omega) (by omega)).mpr h)
        refine lv_aload_n hx hb dX0_takeUnit_42 rfl (lv_at hl 0 rfl) ?_
        refine lv_dup hx hb dX0_takeUnit_43 rfl ?_
        refine mw_get (C := RX0) (T := TX0) (N := 12) (v := .int (nI (er - 1))) hx hb hts inX0_takeUnit_X0 hown hC hw mw_u0 rfl 7 (by decide) k_1 rfl dX0_takeUnit_44 ?_
        refine lv_iconst (v := nI 1) hx hb dX0_takeUnit_47 (by decide) ?_
        refine lv_iadd hx hb dX0_takeUnit_48 ?_
        refine mw_ti (v' := nI (er - 1 + 1)) (nI_add _ _) ?_
        refine mw_put (C := RX0) (T := TX0) (N := 12) hx hb hts inX0_takeUnit_X0 tyX0 tyX0_ok nmX0 hown hC hw mw_u0 rfl 7 (by decide) k_1 rfl rfl rfl (Nat.le_of_ble_eq_true rfl) dX0_takeUnit_49 (fun H locs hw => ?_)
        have hw : mw_St G _ s (va_up _ h0 (some (.inr (0, [.ref (li), .ref (me), .ref (so), .int (nI (fi)), .int (nI (bi)), .int (nI (sn)), .int (nI (tn)), .int (nI (er - 1 + 1)), .int (nI (un + 1)), .int (nI (b2n fl)), .int (nI (b2n al)), .int (nI (b2n ab))])))) H locs := hw
        refine lv_aload_n hx hb dX0_takeUnit_52 rfl (lv_at hl 0 rfl) ?_
        refine lv_aload_n hx hb dX0_takeUnit_53 rfl (lv_at hl 0 rfl) ?_
        refine mw_get (C := RX0) (T := TX0) (N := 12) (v := .int (nI (er - 1 + 1))) hx hb hts inX0_takeUnit_X0 hown hC hw mw_u0 rfl 7 (by decide) k_1 rfl dX0_takeUnit_54 ?_
        refine lv_bipush (v := nI 64) hx hb dX0_takeUnit_57 (by decide) ?_
        refine lv_icmp_lt (tgt := 66) hx hb dX0_takeUnit_59 (by decide) (fun c_20 => ?_) (fun c_20 => ?_)
        · skip
          have c_20 : er - 1 + 1 < 64 := (nI_ltI (a := er - 1 + 1) (b := 64) (by omega) (by omega)).mp c_20
          refine lv_iconst (v := nI 0) hx hb dX0_takeUnit_66 (by decide) ?_
          have hfl : decide (64 ≤ lk er un + 1) = false := by rw [hlk]; exact decide_eq_false (by omega)
          refine mw_put (C := RX0) (T := TX0) (N := 12) hx hb hts inX0_takeUnit_X0 tyX0 tyX0_ok nmX0 hown hC hw mw_u0 rfl 9 (by decide) k_2 rfl (by decide) rfl (Nat.le_of_ble_eq_true rfl) dX0_takeUnit_67 (fun H locs hw => ?_)
          have hw : mw_St G _ s (va_up _ h0 (some (.inr (0, [.ref (li), .ref (me), .ref (so), .int (nI (fi)), .int (nI (bi)), .int (nI (sn)), .int (nI (tn)), .int (nI (er - 1 + 1)), .int (nI (un + 1)), .int (nI (0)), .int (nI (b2n al)), .int (nI (b2n ab))])))) H locs := hw
          refine lv_iload_n hx hb dX0_takeUnit_70 rfl (lv_at hl 2 rfl) ?_
          refine lv_ineg hx hb dX0_takeUnit_71 ?_
          have hc_22 : (.inr (0, [.ref (li), .ref (me), .ref (so), .int (nI (fi)), .int (nI (bi)), .int (nI (sn)), .int (nI (tn)), .int (nI (er - 1 + 1)), .int (nI (un + 1)), .int (nI (0)), .int (nI (b2n al)), .int (nI (b2n ab))]) : va_E) = .inr (0, [.ref (li), .ref (me), .ref (so), .int (nI (fi)), .int (nI (bi)), .int (nI (sn)), .int (nI (tn)), .int (nI (lk er un + 1)), .int (nI (un + 1)), .int (nI (b2n (decide (64 ≤ lk er un + 1)))), .int (nI (b2n al)), .int (nI (b2n ab))]) := by rw [hfl, hlk]; try rfl
          have hw : mw_St G (mw_A M s.heap.size) s (va_up M h0 (some (.inr (0, [.ref (li), .ref (me), .ref (so), .int (nI (fi)), .int (nI (bi)), .int (nI (sn)), .int (nI (tn)), .int (nI (lk er un + 1)), .int (nI (un + 1)), .int (nI (b2n (decide (64 ≤ lk er un + 1)))), .int (nI (b2n al)), .int (nI (b2n ab))])))) H locs := hw.to (fun q8 x8 h8 => by
            by_cases b_23 : q8 = h0
            · rw [b_23] at h8 ⊢; exact mw_u0.trans ((congrArg some hc_22).trans (mw_u0.symm.trans h8))
            simp only [va_up_ne _ _ b_23] at h8 ⊢; exact h8)
          exact mw_iret hx hb hr hlocks hw (rfl) (fun _ _ h9 => h9) dX0_takeUnit_72
        · skip
          have c_20 : er - 1 + 1 ≥ 64 := Nat.not_lt.mp (fun h => c_20 ((nI_ltI (a := er - 1 + 1) (b := 64) (by omega) (by omega)).mpr h))
          refine lv_iconst (v := nI 1) hx hb dX0_takeUnit_62 (by decide) ?_
          refine lv_goto (tgt := 67) hx hb dX0_takeUnit_63 (by decide) ?_
          have hfl : decide (64 ≤ lk er un + 1) = true := by rw [hlk]; exact decide_eq_true (by omega)
          refine mw_put (C := RX0) (T := TX0) (N := 12) hx hb hts inX0_takeUnit_X0 tyX0 tyX0_ok nmX0 hown hC hw mw_u0 rfl 9 (by decide) k_2 rfl (by decide) rfl (Nat.le_of_ble_eq_true rfl) dX0_takeUnit_67 (fun H locs hw => ?_)
          have hw : mw_St G _ s (va_up _ h0 (some (.inr (0, [.ref (li), .ref (me), .ref (so), .int (nI (fi)), .int (nI (bi)), .int (nI (sn)), .int (nI (tn)), .int (nI (er - 1 + 1)), .int (nI (un + 1)), .int (nI (1)), .int (nI (b2n al)), .int (nI (b2n ab))])))) H locs := hw
          refine lv_iload_n hx hb dX0_takeUnit_70 rfl (lv_at hl 2 rfl) ?_
          refine lv_ineg hx hb dX0_takeUnit_71 ?_
          have hc_25 : (.inr (0, [.ref (li), .ref (me), .ref (so), .int (nI (fi)), .int (nI (bi)), .int (nI (sn)), .int (nI (tn)), .int (nI (er - 1 + 1)), .int (nI (un + 1)), .int (nI (1)), .int (nI (b2n al)), .int (nI (b2n ab))]) : va_E) = .inr (0, [.ref (li), .ref (me), .ref (so), .int (nI (fi)), .int (nI (bi)), .int (nI (sn)), .int (nI (tn)), .int (nI (lk er un + 1)), .int (nI (un + 1)), .int (nI (b2n (decide (64 ≤ lk er un + 1)))), .int (nI (b2n al)), .int (nI (b2n ab))]) := by rw [hfl, hlk]; try rfl
          have hw : mw_St G (mw_A M s.heap.size) s (va_up M h0 (some (.inr (0, [.ref (li), .ref (me), .ref (so), .int (nI (fi)), .int (nI (bi)), .int (nI (sn)), .int (nI (tn)), .int (nI (lk er un + 1)), .int (nI (un + 1)), .int (nI (b2n (decide (64 ≤ lk er un + 1)))), .int (nI (b2n al)), .int (nI (b2n ab))])))) H locs := hw.to (fun q8 x8 h8 => by
            by_cases b_26 : q8 = h0
            · rw [b_26] at h8 ⊢; exact mw_u0.trans ((congrArg some hc_25).trans (mw_u0.symm.trans h8))
            simp only [va_up_ne _ _ b_26] at h8 ⊢; exact h8)
          exact mw_iret hx hb hr hlocks hw (rfl) (fun _ _ h9 => h9) dX0_takeUnit_72
def RM_X0_takeUnit_abn : Room := { frames := 3, cells := 0, slots := 0, locals := 63 }
set_option maxHeartbeats 4000000 in
set_option maxRecDepth 100000 in
theorem c_X0_takeUnit_abn (l : Launch) (G : mw_G) (M : mw_M) (sz : Nat) (h0 li me so fi bi sn tn er un : Nat) (fl al ab : Bool) (la sa mf mu ma mw : Nat) (lg : Nat → Nat) (ba sl t : Nat) (bg ll : Nat → Nat) (hu ub c9 : Nat) (g : Nat → Nat) (ft_ : Nat) (e0 : M h0 = some (.inr (0, [.ref (li), .ref (me), .ref (so), .int (nI (fi)), .int (nI (bi)), .int (nI (sn)), .int (nI (tn)), .int (nI (er)), .int (nI (un)), .int (nI (b2n fl)), .int (nI (b2n al)), .int (nI (b2n ab))]))) (e1 : M me = some (.inr (3, [.ref (la), .ref (sa), .int (nI (mf)), .int (nI (mu)), .int (nI (ma)), .int (nI (mw))]))) (e2 : M la = some (.inl (G.2 1, 187, .inl (fun j => nI (lg j))))) (e3 : M so = some (.inr (4, [.ref (ba), .ref (sl), .int (nI (t))]))) (e4 : M ba = some (.inl (G.2 0, 13600, .inl (fun j => sb_b (bg j))))) (e5 : M sl = some (.inl (G.2 1, 50, .inl (fun j => nI (ll j))))) (e6 : M hu = some (.inr (5, [.ref (ub), .int (nI (c9))]))) (e7 : M ub = some (.inl (G.2 1, 277, .inl (fun j => nI (g j))))) (hun : un < 100000) (her : er ≤ 64) (hft : ft_ = 0) (hsn : sn < 128) (hmu : mu ≤ 127) (hg : ∀ i, i < 277 → g i < 256) (hab : mu < (g 0 % 128 + mu + 128 - sn) % 128)  : Met l yX0_takeUnit wsX0_takeUnit RM_X0_takeUnit_abn (mw_pre G M sz [.ref (h0), .ref (hu), .int (nI (ft_))]) (mw_Qi G M sz (nI (3)) (va_up M h0 (some (.inr (0, [.ref (li), .ref (me), .ref (so), .int (nI (fi)), .int (nI (bi)), .int (nI (sn)), .int (nI (tn)), .int (nI (lk er un)), .int (nI (un + 1)), .int (nI (b2n (al || ab))), .int (nI (1)), .int (nI (b2n al))]))))) 0 0 (mw_A M sz) := by
  refine Met.ofW (cc := cX0_takeUnit) (maxL := 4) (ret := (some .int)) (by decide) rfl ?_
  intro p e s m args below meth c s₁ B hml hv
  obtain ⟨rfl, rfl, hC, hw⟩ := mw_in hv
  have hx := B.exec
  have hb := B.bytes
  have hr := B.returns
  have hts := atoms_spec (ws := wsX0_takeUnit) B.pre
  have hown : s.vm.findClass RX0 = some m.cls := findClass_of_methodNamed B.named
  have hlocks := B.notSynchronized
  have k_0 := hts (.fieldLink RX0 54 "LinkPair$End" "units" "I") (by decide +kernel)
  have k_1 := hts (.fieldLink RX0 61 "LinkPair$End" "abnormalLast" "Z") (by decide +kernel)
  have k_2 := hts (.fieldLink RX0 57 "LinkPair$End" "failed" "Z") (by decide +kernel)
  have k_3 := hts (.fieldLink RX0 64 "LinkPair$End" "abnormalLastButOne" "Z") (by decide +kernel)
  have k_4 := hts (.fieldLink RX0 51 "LinkPair$End" "errors" "I") (by decide +kernel)
  have m0_1 : h0 ≠ me := mw_ne e0 e1 (by intro h9; cases h9)
  have m0_6 : h0 ≠ hu := mw_ne e0 e6 (by intro h9; cases h9)
  have m0_7 : h0 ≠ ub := mw_ne e0 e7 (by intro h9; cases h9)
  have hl := lv_entry ([.ref (h0), .ref (hu), .int (nI (ft_))]) (n := 4) (Nat.le_of_ble_eq_true rfl)
  rw [lg_entry_eq]
  generalize (lg_sl ([.ref (h0), .ref (hu), .int (nI (ft_))]) ++ List.replicate (4 - (lg_sl ([.ref (h0), .ref (hu), .int (nI (ft_))])).length) Slot.unset).toArray = ls at hl ⊢
  have hl : lv_has ls 4 [(0, .ref (h0)), (1, .ref (hu)), (2, .int (nI (ft_)))] := hl
  refine mw_start (fun H locs hw => ?_) hw
  refine lv_aload_n hx hb dX0_takeUnit_0 rfl (lv_at hl 0 rfl) ?_
  refine lv_dup hx hb dX0_takeUnit_1 rfl ?_
  refine mw_get (C := RX0) (T := TX0) (N := 12) (v := .int (nI (un))) hx hb hts inX0_takeUnit_X0 hown hC hw e0 rfl 8 (by decide) k_0 rfl dX0_takeUnit_2 ?_
  refine lv_iconst (v := nI 1) hx hb dX0_takeUnit_5 (by decide) ?_
  refine lv_iadd hx hb dX0_takeUnit_6 ?_
  refine mw_ti (v' := nI (un + 1)) (nI_add _ _) ?_
  refine mw_put (C := RX0) (T := TX0) (N := 12) hx hb hts inX0_takeUnit_X0 tyX0 tyX0_ok nmX0 hown hC hw e0 rfl 8 (by decide) k_0 rfl rfl rfl (Nat.le_of_ble_eq_true rfl) dX0_takeUnit_7 (fun H locs hw => ?_)
  have hw : mw_St G _ s (va_up _ h0 (some (.inr (0, [.ref (li), .ref (me), .ref (so), .int (nI (fi)), .int (nI (bi)), .int (nI (sn)), .int (nI (tn)), .int (nI (er)), .int (nI (un + 1)), .int (nI (b2n fl)), .int (nI (b2n al)), .int (nI (b2n ab))])))) H locs := hw
  refine lv_aload_n hx hb dX0_takeUnit_10 rfl (lv_at hl 0 rfl) ?_
  refine mw_get (C := RX0) (T := TX0) (N := 12) (v := .int (nI (un + 1))) hx hb hts inX0_takeUnit_X0 hown hC hw mw_u0 rfl 8 (by decide) k_0 rfl dX0_takeUnit_11 ?_
  refine lv_sipush (v := nI 256) hx hb dX0_takeUnit_14 (by decide) ?_
  refine lv_irem hx hb dX0_takeUnit_17 (by decide) ?_
  refine mw_ti (v' := nI ((un + 1) % 256)) (pk_rem (by omega) (by omega) (by omega)) ?_
  refine lv_if_ne (tgt := 38) hx hb dX0_takeUnit_18 (by decide) (fun c_1 => ?_) (fun c_1 => ?_)
  · skip
    have c_1 : (un + 1) % 256 ≠ 0 := fun h => c_1 ((nI_eq (a := (un + 1) % 256) (b := 0) (by omega) (by omega)).mpr h)
    have hlk : lk er un = er := by unfold lk; rw [if_neg (by omega)]
    refine lv_iload_n hx hb dX0_takeUnit_38 rfl (lv_at hl 2 rfl) ?_
    refine lv_if_eq (tgt := 73) hx hb dX0_takeUnit_39 (by decide) (fun c_2 => ?_) (fun c_2 => ?_)
    · skip
      have c_2 : ft_ = 0 := (nI_eq (a := ft_) (b := 0) (by omega) (by omega)).mp c_2
      refine lv_aload_n hx hb dX0_takeUnit_73 rfl (lv_at hl 0 rfl) ?_
      refine lv_aload_n hx hb dX0_takeUnit_74 rfl (lv_at hl 1 rfl) ?_
      refine mw_ci hC hw (va_runV (As := [.ref (hu)]) (rest := []) ⟨hx, hb, hml, hown, hts⟩ (c_X0_isAbnormal l G _ H.size h0 li me so fi bi sn tn er (un + 1) fl al ab la sa mf mu ma mw hu ub c9 g mw_u0 (mw_u1 (Ne.symm m0_1) e1) (mw_u1 (Ne.symm m0_6) e6) (mw_u1 (Ne.symm m0_7) e7) (by omega) (by omega) (hg)) (cwV 1 hts gX0_takeUnit_X0_isAbnormal rfl rfl rfl (by decide +kernel) ⟨Nat.le_of_ble_eq_true rfl, Nat.le_of_ble_eq_true rfl⟩) (mw_preV (ci := 0) hC hw rfl mw_u0) rfl rfl hl.1 rfl (lv_room (Nat.le_of_ble_eq_true rfl)) dX0_takeUnit_75 ⟨Nat.le_of_ble_eq_true rfl, Nat.le_of_ble_eq_true rfl⟩) (fun H locs hz hw => ?_)
      refine mw_ti (v' := nI (1)) (by rw [decide_eq_true hab]; rfl) ?_
      refine lv_istore_n (lv' := [(3, .int (nI (1))), (0, .ref (h0)), (1, .ref (hu)), (2, .int (nI (ft_)))]) hx hb dX0_takeUnit_78 rfl hl (by decide) rfl (fun ls hl => ?_)
      refine lv_aload_n hx hb dX0_takeUnit_79 rfl (lv_at hl 1 rfl) ?_
      refine lv_iload_n hx hb dX0_takeUnit_80 rfl (lv_at hl 0 rfl) ?_
      refine lv_if_eq (tgt := 102) hx hb dX0_takeUnit_81 (by decide) (fun c_3 => ?_) (fun c_3 => ?_)
      · skip
        exact absurd c_3 (by decide)
      · skip
        refine lv_aload_n hx hb dX0_takeUnit_84 rfl (lv_at hl 1 rfl) ?_
        refine mw_get (C := RX0) (T := TX0) (N := 12) (v := .int (nI (b2n al))) hx hb hts inX0_takeUnit_X0 hown hC hw mw_u0 rfl 10 (by decide) k_1 rfl dX0_takeUnit_85 ?_
        have hb1 := b2n_le al
        refine lv_if_ne (tgt := 98) hx hb dX0_takeUnit_88 (by decide) (fun c_4 => ?_) (fun c_4 => ?_)
        · skip
          have c_4 : b2n al ≠ 0 := fun h => c_4 ((nI_eq (a := b2n al) (b := 0) (by omega) (by omega)).mpr h)
          refine lv_iconst (v := nI 1) hx hb dX0_takeUnit_98 (by decide) ?_
          refine lv_goto (tgt := 103) hx hb dX0_takeUnit_99 (by decide) ?_
          have hfl : (al || ab) = true := by cases al <;> cases ab <;> simp_all [b2n]
          refine mw_put (C := RX0) (T := TX0) (N := 12) hx hb hts inX0_takeUnit_X0 tyX0 tyX0_ok nmX0 hown hC hw mw_u0 rfl 9 (by decide) k_2 rfl (by decide) rfl (Nat.le_of_ble_eq_true rfl) dX0_takeUnit_103 (fun H locs hw => ?_)
          have hw : mw_St G _ s (va_up _ h0 (some (.inr (0, [.ref (li), .ref (me), .ref (so), .int (nI (fi)), .int (nI (bi)), .int (nI (sn)), .int (nI (tn)), .int (nI (er)), .int (nI (un + 1)), .int (nI (1)), .int (nI (b2n al)), .int (nI (b2n ab))])))) H locs := hw
          refine lv_aload_n hx hb dX0_takeUnit_106 rfl (lv_at hl 1 rfl) ?_
          refine lv_aload_n hx hb dX0_takeUnit_107 rfl (lv_at hl 1 rfl) ?_
          refine mw_get (C := RX0) (T := TX0) (N := 12) (v := .int (nI (b2n al))) hx hb hts inX0_takeUnit_X0 hown hC hw mw_u0 rfl 10 (by decide) k_1 rfl dX0_takeUnit_108 ?_
          refine mw_put (C := RX0) (T := TX0) (N := 12) hx hb hts inX0_takeUnit_X0 tyX0 tyX0_ok nmX0 hown hC hw mw_u0 rfl 11 (by decide) k_3 rfl (nar_b al) (fit_b al) (Nat.le_of_ble_eq_true rfl) dX0_takeUnit_111 (fun H locs hw => ?_)
          have hw : mw_St G _ s (va_up _ h0 (some (.inr (0, [.ref (li), .ref (me), .ref (so), .int (nI (fi)), .int (nI (bi)), .int (nI (sn)), .int (nI (tn)), .int (nI (er)), .int (nI (un + 1)), .int (nI (1)), .int (nI (b2n al)), .int (nI (b2n al))])))) H locs := hw
          refine lv_aload_n hx hb dX0_takeUnit_114 rfl (lv_at hl 1 rfl) ?_
          refine lv_iload_n hx hb dX0_takeUnit_115 rfl (lv_at hl 0 rfl) ?_
          refine mw_put (C := RX0) (T := TX0) (N := 12) hx hb hts inX0_takeUnit_X0 tyX0 tyX0_ok nmX0 hown hC hw mw_u0 rfl 10 (by decide) k_1 rfl (by decide) rfl (Nat.le_of_ble_eq_true rfl) dX0_takeUnit_116 (fun H locs hw => ?_)
          have hw : mw_St G _ s (va_up _ h0 (some (.inr (0, [.ref (li), .ref (me), .ref (so), .int (nI (fi)), .int (nI (bi)), .int (nI (sn)), .int (nI (tn)), .int (nI (er)), .int (nI (un + 1)), .int (nI (1)), .int (nI (1)), .int (nI (b2n al))])))) H locs := hw
          refine lv_iload_n hx hb dX0_takeUnit_119 rfl (lv_at hl 0 rfl) ?_
          refine lv_if_eq (tgt := 125) hx hb dX0_takeUnit_120 (by decide) (fun c_5 => ?_) (fun c_5 => ?_)
          · skip
            exact absurd c_5 (by decide)
          · skip
            refine lv_iconst (v := nI 3) hx hb dX0_takeUnit_123 (by decide) ?_
            have hc_7 : (.inr (0, [.ref (li), .ref (me), .ref (so), .int (nI (fi)), .int (nI (bi)), .int (nI (sn)), .int (nI (tn)), .int (nI (er)), .int (nI (un + 1)), .int (nI (1)), .int (nI (1)), .int (nI (b2n al))]) : va_E) = .inr (0, [.ref (li), .ref (me), .ref (so), .int (nI (fi)), .int (nI (bi)), .int (nI (sn)), .int (nI (tn)), .int (nI (lk er un)), .int (nI (un + 1)), .int (nI (b2n (al || ab))), .int (nI (1)), .int (nI (b2n al))]) := by rw [hfl, hlk]; try rfl
            have hw : mw_St G (mw_A M s.heap.size) s (va_up M h0 (some (.inr (0, [.ref (li), .ref (me), .ref (so), .int (nI (fi)), .int (nI (bi)), .int (nI (sn)), .int (nI (tn)), .int (nI (lk er un)), .int (nI (un + 1)), .int (nI (b2n (al || ab))), .int (nI (1)), .int (nI (b2n al))])))) H locs := hw.to (fun q8 x8 h8 => by
              by_cases b_8 : q8 = h0
              · rw [b_8] at h8 ⊢; exact mw_u0.trans ((congrArg some hc_7).trans (mw_u0.symm.trans h8))
              simp only [va_up_ne _ _ b_8] at h8 ⊢; exact h8)
            exact mw_iret hx hb hr hlocks hw (rfl) (fun _ _ h9 => h9) dX0_takeUnit_124
        · skip
          have c_4 : b2n al = 0 := (nI_eq (a := b2n al) (b := 0) (by omega) (by omega)).mp c_4
          refine lv_aload_n hx hb dX0_takeUnit_91 rfl (lv_at hl 1 rfl) ?_
          refine mw_get (C := RX0) (T := TX0) (N := 12) (v := .int (nI (b2n ab))) hx hb hts inX0_takeUnit_X0 hown hC hw mw_u0 rfl 11 (by decide) k_3 rfl dX0_takeUnit_92 ?_
          have hb2 := b2n_le ab
          refine lv_if_eq (tgt := 102) hx hb dX0_takeUnit_95 (by decide) (fun c_9 => ?_) (fun c_9 => ?_)
          · skip
            have c_9 : b2n ab = 0 := (nI_eq (a := b2n ab) (b := 0) (by omega) (by omega)).mp c_9
            refine lv_iconst (v := nI 0) hx hb dX0_takeUnit_102 (by decide) ?_
            have hfl : (al || ab) = false := by cases al <;> cases ab <;> simp_all [b2n]
            refine mw_put (C := RX0) (T := TX0) (N := 12) hx hb hts inX0_takeUnit_X0 tyX0 tyX0_ok nmX0 hown hC hw mw_u0 rfl 9 (by decide) k_2 rfl (by decide) rfl (Nat.le_of_ble_eq_true rfl) dX0_takeUnit_103 (fun H locs hw => ?_)
            have hw : mw_St G _ s (va_up _ h0 (some (.inr (0, [.ref (li), .ref (me), .ref (so), .int (nI (fi)), .int (nI (bi)), .int (nI (sn)), .int (nI (tn)), .int (nI (er)), .int (nI (un + 1)), .int (nI (0)), .int (nI (b2n al)), .int (nI (b2n ab))])))) H locs := hw
            refine lv_aload_n hx hb dX0_takeUnit_106 rfl (lv_at hl 1 rfl) ?_
            refine lv_aload_n hx hb dX0_takeUnit_107 rfl (lv_at hl 1 rfl) ?_
            refine mw_get (C := RX0) (T := TX0) (N := 12) (v := .int (nI (b2n al))) hx hb hts inX0_takeUnit_X0 hown hC hw mw_u0 rfl 10 (by decide) k_1 rfl dX0_takeUnit_108 ?_
            refine mw_put (C := RX0) (T := TX0) (N := 12) hx hb hts inX0_takeUnit_X0 tyX0 tyX0_ok nmX0 hown hC hw mw_u0 rfl 11 (by decide) k_3 rfl (nar_b al) (fit_b al) (Nat.le_of_ble_eq_true rfl) dX0_takeUnit_111 (fun H locs hw => ?_)
            have hw : mw_St G _ s (va_up _ h0 (some (.inr (0, [.ref (li), .ref (me), .ref (so), .int (nI (fi)), .int (nI (bi)), .int (nI (sn)), .int (nI (tn)), .int (nI (er)), .int (nI (un + 1)), .int (nI (0)), .int (nI (b2n al)), .int (nI (b2n al))])))) H locs := hw
            refine lv_aload_n hx hb dX0_takeUnit_114 rfl (lv_at hl 1 rfl) ?_
            refine lv_iload_n hx hb dX0_takeUnit_115 rfl (lv_at hl 0 rfl) ?_
            refine mw_put (C := RX0) (T := TX0) (N := 12) hx hb hts inX0_takeUnit_X0 tyX0 tyX0_ok nmX0 hown hC hw mw_u0 rfl 10 (by decide) k_1 rfl (by decide) rfl (Nat.le_of_ble_eq_true rfl) dX0_takeUnit_116 (fun H locs hw => ?_)
            have hw : mw_St G _ s (va_up _ h0 (some (.inr (0, [.ref (li), .ref (me), .ref (so), .int (nI (fi)), .int (nI (bi)), .int (nI (sn)), .int (nI (tn)), .int (nI (er)), .int (nI (un + 1)), .int (nI (0)), .int (nI (1)), .int (nI (b2n al))])))) H locs := hw
            refine lv_iload_n hx hb dX0_takeUnit_119 rfl (lv_at hl 0 rfl) ?_
            refine lv_if_eq (tgt := 125) hx hb dX0_takeUnit_120 (by decide) (fun c_10 => ?_) (fun c_10 => ?_)
            · skip
              exact absurd c_10 (by decide)
            · skip
              refine lv_iconst (v := nI 3) hx hb dX0_takeUnit_123 (by decide) ?_
              have hc_12 : (.inr (0, [.ref (li), .ref (me), .ref (so), .int (nI (fi)), .int (nI (bi)), .int (nI (sn)), .int (nI (tn)), .int (nI (er)), .int (nI (un + 1)), .int (nI (0)), .int (nI (1)), .int (nI (b2n al))]) : va_E) = .inr (0, [.ref (li), .ref (me), .ref (so), .int (nI (fi)), .int (nI (bi)), .int (nI (sn)), .int (nI (tn)), .int (nI (lk er un)), .int (nI (un + 1)), .int (nI (b2n (al || ab))), .int (nI (1)), .int (nI (b2n al))]) := by rw [hfl, hlk]; try rfl
              have hw : mw_St G (mw_A M s.heap.size) s (va_up M h0 (some (.inr (0, [.ref (li), .ref (me), .ref (so), .int (nI (fi)), .int (nI (bi)), .int (nI (sn)), .int (nI (tn)), .int (nI (lk er un)), .int (nI (un + 1)), .int (nI (b2n (al || ab))), .int (nI (1)), .int (nI (b2n al))])))) H locs := hw.to (fun q8 x8 h8 => by
                by_cases b_13 : q8 = h0
                · rw [b_13] at h8 ⊢; exact mw_u0.trans ((congrArg some hc_12).trans (mw_u0.symm.trans h8))
                simp only [va_up_ne _ _ b_13] at h8 ⊢; exact h8)
              exact mw_iret hx hb hr hlocks hw (rfl) (fun _ _ h9 => h9) dX0_takeUnit_124
          · skip
            have c_9 : b2n ab ≠ 0 := fun h => c_9 ((nI_eq (a := b2n ab) (b := 0) (by omega) (by omega)).mpr h)
            refine lv_iconst (v := nI 1) hx hb dX0_takeUnit_98 (by decide) ?_
            refine lv_goto (tgt := 103) hx hb dX0_takeUnit_99 (by decide) ?_
            have hfl : (al || ab) = true := by cases al <;> cases ab <;> simp_all [b2n]
            refine mw_put (C := RX0) (T := TX0) (N := 12) hx hb hts inX0_takeUnit_X0 tyX0 tyX0_ok nmX0 hown hC hw mw_u0 rfl 9 (by decide) k_2 rfl (by decide) rfl (Nat.le_of_ble_eq_true rfl) dX0_takeUnit_103 (fun H locs hw => ?_)
            have hw : mw_St G _ s (va_up _ h0 (some (.inr (0, [.ref (li), .ref (me), .ref (so), .int (nI (fi)), .int (nI (bi)), .int (nI (sn)), .int (nI (tn)), .int (nI (er)), .int (nI (un + 1)), .int (nI (1)), .int (nI (b2n al)), .int (nI (b2n ab))])))) H locs := hw
            refine lv_aload_n hx hb dX0_takeUnit_106 rfl (lv_at hl 1 rfl) ?_
            refine lv_aload_n hx hb dX0_takeUnit_107 rfl (lv_at hl 1 rfl) ?_
            refine mw_get (C := RX0) (T := TX0) (N := 12) (v := .int (nI (b2n al))) hx hb hts inX0_takeUnit_X0 hown hC hw mw_u0 rfl 10 (by decide) k_1 rfl dX0_takeUnit_108 ?_
            refine mw_put (C := RX0) (T := TX0) (N := 12) hx hb hts inX0_takeUnit_X0 tyX0 tyX0_ok nmX0 hown hC hw mw_u0 rfl 11 (by decide) k_3 rfl (nar_b al) (fit_b al) (Nat.le_of_ble_eq_true rfl) dX0_takeUnit_111 (fun H locs hw => ?_)
            have hw : mw_St G _ s (va_up _ h0 (some (.inr (0, [.ref (li), .ref (me), .ref (so), .int (nI (fi)), .int (nI (bi)), .int (nI (sn)), .int (nI (tn)), .int (nI (er)), .int (nI (un + 1)), .int (nI (1)), .int (nI (b2n al)), .int (nI (b2n al))])))) H locs := hw
            refine lv_aload_n hx hb dX0_takeUnit_114 rfl (lv_at hl 1 rfl) ?_
            refine lv_iload_n hx hb dX0_takeUnit_115 rfl (lv_at hl 0 rfl) ?_
            refine mw_put (C := RX0) (T := TX0) (N := 12) hx hb hts inX0_takeUnit_X0 tyX0 tyX0_ok nmX0 hown hC hw mw_u0 rfl 10 (by decide) k_1 rfl (by decide) rfl (Nat.le_of_ble_eq_true rfl) dX0_takeUnit_116 (fun H locs hw => ?_)
            have hw : mw_St G _ s (va_up _ h0 (some (.inr (0, [.ref (li), .ref (me), .ref (so), .int (nI (fi)), .int (nI (bi)), .int (nI (sn)), .int (nI (tn)), .int (nI (er)), .int (nI (un + 1)), .int (nI (1)), .int (nI (1)), .int (nI (b2n al))])))) H locs := hw
            refine lv_iload_n hx hb dX0_takeUnit_119 rfl (lv_at hl 0 rfl) ?_
            refine lv_if_eq (tgt := 125) hx hb dX0_takeUnit_120 (by decide) (fun c_14 => ?_) (fun c_14 => ?_)
            · skip
              exact absurd c_14 (by decide)
            · skip
              refine lv_iconst (v := nI 3) hx hb dX0_takeUnit_123 (by decide) ?_
              have hc_16 : (.inr (0, [.ref (li), .ref (me), .ref (so), .int (nI (fi)), .int (nI (bi)), .int (nI (sn)), .int (nI (tn)), .int (nI (er)), .int (nI (un + 1)), .int (nI (1)), .int (nI (1)), .int (nI (b2n al))]) : va_E) = .inr (0, [.ref (li), .ref (me), .ref (so), .int (nI (fi)), .int (nI (bi)), .int (nI (sn)), .int (nI (tn)), .int (nI (lk er un)), .int (nI (un + 1)), .int (nI (b2n (al || ab))), .int (nI (1)), .int (nI (b2n al))]) := by rw [hfl, hlk]; try rfl
              have hw : mw_St G (mw_A M s.heap.size) s (va_up M h0 (some (.inr (0, [.ref (li), .ref (me), .ref (so), .int (nI (fi)), .int (nI (bi)), .int (nI (sn)), .int (nI (tn)), .int (nI (lk er un)), .int (nI (un + 1)), .int (nI (b2n (al || ab))), .int (nI (1)), .int (nI (b2n al))])))) H locs := hw.to (fun q8 x8 h8 => by
                by_cases b_17 : q8 = h0
                · rw [b_17] at h8 ⊢; exact mw_u0.trans ((congrArg some hc_16).trans (mw_u0.symm.trans h8))
                simp only [va_up_ne _ _ b_17] at h8 ⊢; exact h8)
              exact mw_iret hx hb hr hlocks hw (rfl) (fun _ _ h9 => h9) dX0_takeUnit_124
    · skip
      have c_2 : ft_ ≠ 0 := fun h => c_2 ((nI_eq (a := ft_) (b := 0) (by omega) (by omega)).mpr h)
      exfalso; omega
  · skip
    have c_1 : (un + 1) % 256 = 0 := (nI_eq (a := (un + 1) % 256) (b := 0) (by omega) (by omega)).mp c_1
    refine lv_aload_n hx hb dX0_takeUnit_21 rfl (lv_at hl 0 rfl) ?_
    refine mw_get (C := RX0) (T := TX0) (N := 12) (v := .int (nI (er))) hx hb hts inX0_takeUnit_X0 hown hC hw mw_u0 rfl 7 (by decide) k_4 rfl dX0_takeUnit_22 ?_
    refine lv_if_le (tgt := 38) hx hb dX0_takeUnit_25 (by decide) (fun c_18 => ?_) (fun c_18 => ?_)
    · skip
      have c_18 : er ≤ 0 := (nI_leI (a := er) (b := 0) (by omega) (by omega)).mp c_18
      have hlk : lk er un = er := by unfold lk; rw [if_neg (by omega)]
      refine lv_iload_n hx hb dX0_takeUnit_38 rfl (lv_at hl 2 rfl) ?_
      refine lv_if_eq (tgt := 73) hx hb dX0_takeUnit_39 (by decide) (fun c_19 => ?_) (fun c_19 => ?_)
      · skip
        have c_19 : ft_ = 0 := (nI_eq (a := ft_) (b := 0) (by omega) (by omega)).mp c_19
        refine lv_aload_n hx hb dX0_takeUnit_73 rfl (lv_at hl 0 rfl) ?_
        refine lv_aload_n hx hb dX0_takeUnit_74 rfl (lv_at hl 1 rfl) ?_
        refine mw_ci hC hw (va_runV (As := [.ref (hu)]) (rest := []) ⟨hx, hb, hml, hown, hts⟩ (c_X0_isAbnormal l G _ H.size h0 li me so fi bi sn tn er (un + 1) fl al ab la sa mf mu ma mw hu ub c9 g mw_u0 (mw_u1 (Ne.symm m0_1) e1) (mw_u1 (Ne.symm m0_6) e6) (mw_u1 (Ne.symm m0_7) e7) (by omega) (by omega) (hg)) (cwV 1 hts gX0_takeUnit_X0_isAbnormal rfl rfl rfl (by decide +kernel) ⟨Nat.le_of_ble_eq_true rfl, Nat.le_of_ble_eq_true rfl⟩) (mw_preV (ci := 0) hC hw rfl mw_u0) rfl rfl hl.1 rfl (lv_room (Nat.le_of_ble_eq_true rfl)) dX0_takeUnit_75 ⟨Nat.le_of_ble_eq_true rfl, Nat.le_of_ble_eq_true rfl⟩) (fun H locs hz hw => ?_)
        refine mw_ti (v' := nI (1)) (by rw [decide_eq_true hab]; rfl) ?_
        refine lv_istore_n (lv' := [(3, .int (nI (1))), (0, .ref (h0)), (1, .ref (hu)), (2, .int (nI (ft_)))]) hx hb dX0_takeUnit_78 rfl hl (by decide) rfl (fun ls hl => ?_)
        refine lv_aload_n hx hb dX0_takeUnit_79 rfl (lv_at hl 1 rfl) ?_
        refine lv_iload_n hx hb dX0_takeUnit_80 rfl (lv_at hl 0 rfl) ?_
        refine lv_if_eq (tgt := 102) hx hb dX0_takeUnit_81 (by decide) (fun c_20 => ?_) (fun c_20 => ?_)
        · skip
          exact absurd c_20 (by decide)
        · skip
          refine lv_aload_n hx hb dX0_takeUnit_84 rfl (lv_at hl 1 rfl) ?_
          refine mw_get (C := RX0) (T := TX0) (N := 12) (v := .int (nI (b2n al))) hx hb hts inX0_takeUnit_X0 hown hC hw mw_u0 rfl 10 (by decide) k_1 rfl dX0_takeUnit_85 ?_
          have hb1 := b2n_le al
          refine lv_if_ne (tgt := 98) hx hb dX0_takeUnit_88 (by decide) (fun c_21 => ?_) (fun c_21 => ?_)
          · skip
            have c_21 : b2n al ≠ 0 := fun h => c_21 ((nI_eq (a := b2n al) (b := 0) (by omega) (by omega)).mpr h)
            refine lv_iconst (v := nI 1) hx hb dX0_takeUnit_98 (by decide) ?_
            refine lv_goto (tgt := 103) hx hb dX0_takeUnit_99 (by decide) ?_
            have hfl : (al || ab) = true := by cases al <;> cases ab <;> simp_all [b2n]
            refine mw_put (C := RX0) (T := TX0) (N := 12) hx hb hts inX0_takeUnit_X0 tyX0 tyX0_ok nmX0 hown hC hw mw_u0 rfl 9 (by decide) k_2 rfl (by decide) rfl (Nat.le_of_ble_eq_true rfl) dX0_takeUnit_103 (fun H locs hw => ?_)
            have hw : mw_St G _ s (va_up _ h0 (some (.inr (0, [.ref (li), .ref (me), .ref (so), .int (nI (fi)), .int (nI (bi)), .int (nI (sn)), .int (nI (tn)), .int (nI (er)), .int (nI (un + 1)), .int (nI (1)), .int (nI (b2n al)), .int (nI (b2n ab))])))) H locs := hw
            refine lv_aload_n hx hb dX0_takeUnit_106 rfl (lv_at hl 1 rfl) ?_
            refine lv_aload_n hx hb dX0_takeUnit_107 rfl (lv_at hl 1 rfl) ?_
            refine mw_get (C := RX0) (T := TX0) (N := 12) (v := .int (nI (b2n al))) hx hb hts inX0_takeUnit_X0 hown hC hw mw_u0 rfl 10 (by decide) k_1 rfl dX0_takeUnit_108 ?_
            refine mw_put (C := RX0) (T := TX0) (N := 12) hx hb hts inX0_takeUnit_X0 tyX0 tyX0_ok nmX0 hown hC hw mw_u0 rfl 11 (by decide) k_3 rfl (nar_b al) (fit_b al) (Nat.le_of_ble_eq_true rfl) dX0_takeUnit_111 (fun H locs hw => ?_)
            have hw : mw_St G _ s (va_up _ h0 (some (.inr (0, [.ref (li), .ref (me), .ref (so), .int (nI (fi)), .int (nI (bi)), .int (nI (sn)), .int (nI (tn)), .int (nI (er)), .int (nI (un + 1)), .int (nI (1)), .int (nI (b2n al)), .int (nI (b2n al))])))) H locs := hw
            refine lv_aload_n hx hb dX0_takeUnit_114 rfl (lv_at hl 1 rfl) ?_
            refine lv_iload_n hx hb dX0_takeUnit_115 rfl (lv_at hl 0 rfl) ?_
            refine mw_put (C := RX0) (T := TX0) (N := 12) hx hb hts inX0_takeUnit_X0 tyX0 tyX0_ok nmX0 hown hC hw mw_u0 rfl 10 (by decide) k_1 rfl (by decide) rfl (Nat.le_of_ble_eq_true rfl) dX0_takeUnit_116 (fun H locs hw => ?_)
            have hw : mw_St G _ s (va_up _ h0 (some (.inr (0, [.ref (li), .ref (me), .ref (so), .int (nI (fi)), .int (nI (bi)), .int (nI (sn)), .int (nI (tn)), .int (nI (er)), .int (nI (un + 1)), .int (nI (1)), .int (nI (1)), .int (nI (b2n al))])))) H locs := hw
            refine lv_iload_n hx hb dX0_takeUnit_119 rfl (lv_at hl 0 rfl) ?_
            refine lv_if_eq (tgt := 125) hx hb dX0_takeUnit_120 (by decide) (fun c_22 => ?_) (fun c_22 => ?_)
            · skip
              exact absurd c_22 (by decide)
            · skip
              refine lv_iconst (v := nI 3) hx hb dX0_takeUnit_123 (by decide) ?_
              have hc_24 : (.inr (0, [.ref (li), .ref (me), .ref (so), .int (nI (fi)), .int (nI (bi)), .int (nI (sn)), .int (nI (tn)), .int (nI (er)), .int (nI (un + 1)), .int (nI (1)), .int (nI (1)), .int (nI (b2n al))]) : va_E) = .inr (0, [.ref (li), .ref (me), .ref (so), .int (nI (fi)), .int (nI (bi)), .int (nI (sn)), .int (nI (tn)), .int (nI (lk er un)), .int (nI (un + 1)), .int (nI (b2n (al || ab))), .int (nI (1)), .int (nI (b2n al))]) := by rw [hfl, hlk]; try rfl
              have hw : mw_St G (mw_A M s.heap.size) s (va_up M h0 (some (.inr (0, [.ref (li), .ref (me), .ref (so), .int (nI (fi)), .int (nI (bi)), .int (nI (sn)), .int (nI (tn)), .int (nI (lk er un)), .int (nI (un + 1)), .int (nI (b2n (al || ab))), .int (nI (1)), .int (nI (b2n al))])))) H locs := hw.to (fun q8 x8 h8 => by
                by_cases b_25 : q8 = h0
                · rw [b_25] at h8 ⊢; exact mw_u0.trans ((congrArg some hc_24).trans (mw_u0.symm.trans h8))
                simp only [va_up_ne _ _ b_25] at h8 ⊢; exact h8)
              exact mw_iret hx hb hr hlocks hw (rfl) (fun _ _ h9 => h9) dX0_takeUnit_124
          · skip
            have c_21 : b2n al = 0 := (nI_eq (a := b2n al) (b := 0) (by omega) (by omega)).mp c_21
            refine lv_aload_n hx hb dX0_takeUnit_91 rfl (lv_at hl 1 rfl) ?_
            refine mw_get (C := RX0) (T := TX0) (N := 12) (v := .int (nI (b2n ab))) hx hb hts inX0_takeUnit_X0 hown hC hw mw_u0 rfl 11 (by decide) k_3 rfl dX0_takeUnit_92 ?_
            have hb2 := b2n_le ab
            refine lv_if_eq (tgt := 102) hx hb dX0_takeUnit_95 (by decide) (fun c_26 => ?_) (fun c_26 => ?_)
            · skip
              have c_26 : b2n ab = 0 := (nI_eq (a := b2n ab) (b := 0) (by omega) (by omega)).mp c_26
              refine lv_iconst (v := nI 0) hx hb dX0_takeUnit_102 (by decide) ?_
              have hfl : (al || ab) = false := by cases al <;> cases ab <;> simp_all [b2n]
              refine mw_put (C := RX0) (T := TX0) (N := 12) hx hb hts inX0_takeUnit_X0 tyX0 tyX0_ok nmX0 hown hC hw mw_u0 rfl 9 (by decide) k_2 rfl (by decide) rfl (Nat.le_of_ble_eq_true rfl) dX0_takeUnit_103 (fun H locs hw => ?_)
              have hw : mw_St G _ s (va_up _ h0 (some (.inr (0, [.ref (li), .ref (me), .ref (so), .int (nI (fi)), .int (nI (bi)), .int (nI (sn)), .int (nI (tn)), .int (nI (er)), .int (nI (un + 1)), .int (nI (0)), .int (nI (b2n al)), .int (nI (b2n ab))])))) H locs := hw
              refine lv_aload_n hx hb dX0_takeUnit_106 rfl (lv_at hl 1 rfl) ?_
              refine lv_aload_n hx hb dX0_takeUnit_107 rfl (lv_at hl 1 rfl) ?_
              refine mw_get (C := RX0) (T := TX0) (N := 12) (v := .int (nI (b2n al))) hx hb hts inX0_takeUnit_X0 hown hC hw mw_u0 rfl 10 (by decide) k_1 rfl dX0_takeUnit_108 ?_
              refine mw_put (C := RX0) (T := TX0) (N := 12) hx hb hts inX0_takeUnit_X0 tyX0 tyX0_ok nmX0 hown hC hw mw_u0 rfl 11 (by decide) k_3 rfl (nar_b al) (fit_b al) (Nat.le_of_ble_eq_true rfl) dX0_takeUnit_111 (fun H locs hw => ?_)
              have hw : mw_St G _ s (va_up _ h0 (some (.inr (0, [.ref (li), .ref (me), .ref (so), .int (nI (fi)), .int (nI (bi)), .int (nI (sn)), .int (nI (tn)), .int (nI (er)), .int (nI (un + 1)), .int (nI (0)), .int (nI (b2n al)), .int (nI (b2n al))])))) H locs := hw
              refine lv_aload_n hx hb dX0_takeUnit_114 rfl (lv_at hl 1 rfl) ?_
              refine lv_iload_n hx hb dX0_takeUnit_115 rfl (lv_at hl 0 rfl) ?_
              refine mw_put (C := RX0) (T := TX0) (N := 12) hx hb hts inX0_takeUnit_X0 tyX0 tyX0_ok nmX0 hown hC hw mw_u0 rfl 10 (by decide) k_1 rfl (by decide) rfl (Nat.le_of_ble_eq_true rfl) dX0_takeUnit_116 (fun H locs hw => ?_)
              have hw : mw_St G _ s (va_up _ h0 (some (.inr (0, [.ref (li), .ref (me), .ref (so), .int (nI (fi)), .int (nI (bi)), .int (nI (sn)), .int (nI (tn)), .int (nI (er)), .int (nI (un + 1)), .int (nI (0)), .int (nI (1)), .int (nI (b2n al))])))) H locs := hw
              refine lv_iload_n hx hb dX0_takeUnit_119 rfl (lv_at hl 0 rfl) ?_
              refine lv_if_eq (tgt := 125) hx hb dX0_takeUnit_120 (by decide) (fun c_27 => ?_) (fun c_27 => ?_)
              · skip
                exact absurd c_27 (by decide)
              · skip
                refine lv_iconst (v := nI 3) hx hb dX0_takeUnit_123 (by decide) ?_
                have hc_29 : (.inr (0, [.ref (li), .ref (me), .ref (so), .int (nI (fi)), .int (nI (bi)), .int (nI (sn)), .int (nI (tn)), .int (nI (er)), .int (nI (un + 1)), .int (nI (0)), .int (nI (1)), .int (nI (b2n al))]) : va_E) = .inr (0, [.ref (li), .ref (me), .ref (so), .int (nI (fi)), .int (nI (bi)), .int (nI (sn)), .int (nI (tn)), .int (nI (lk er un)), .int (nI (un + 1)), .int (nI (b2n (al || ab))), .int (nI (1)), .int (nI (b2n al))]) := by rw [hfl, hlk]; try rfl
                have hw : mw_St G (mw_A M s.heap.size) s (va_up M h0 (some (.inr (0, [.ref (li), .ref (me), .ref (so), .int (nI (fi)), .int (nI (bi)), .int (nI (sn)), .int (nI (tn)), .int (nI (lk er un)), .int (nI (un + 1)), .int (nI (b2n (al || ab))), .int (nI (1)), .int (nI (b2n al))])))) H locs := hw.to (fun q8 x8 h8 => by
                  by_cases b_30 : q8 = h0
                  · rw [b_30] at h8 ⊢; exact mw_u0.trans ((congrArg some hc_29).trans (mw_u0.symm.trans h8))
                  simp only [va_up_ne _ _ b_30] at h8 ⊢; exact h8)
                exact mw_iret hx hb hr hlocks hw (rfl) (fun _ _ h9 => h9) dX0_takeUnit_124
            · skip
              have c_26 : b2n ab ≠ 0 := fun h => c_26 ((nI_eq (a := b2n ab) (b := 0) (by omega) (by omega)).mpr h)
              refine lv_iconst (v := nI 1) hx hb dX0_takeUnit_98 (by decide) ?_
              refine lv_goto (tgt := 103) hx hb dX0_takeUnit_99 (by decide) ?_
              have hfl : (al || ab) = true := by cases al <;> cases ab <;> simp_all [b2n]
              refine mw_put (C := RX0) (T := TX0) (N := 12) hx hb hts inX0_takeUnit_X0 tyX0 tyX0_ok nmX0 hown hC hw mw_u0 rfl 9 (by decide) k_2 rfl (by decide) rfl (Nat.le_of_ble_eq_true rfl) dX0_takeUnit_103 (fun H locs hw => ?_)
              have hw : mw_St G _ s (va_up _ h0 (some (.inr (0, [.ref (li), .ref (me), .ref (so), .int (nI (fi)), .int (nI (bi)), .int (nI (sn)), .int (nI (tn)), .int (nI (er)), .int (nI (un + 1)), .int (nI (1)), .int (nI (b2n al)), .int (nI (b2n ab))])))) H locs := hw
              refine lv_aload_n hx hb dX0_takeUnit_106 rfl (lv_at hl 1 rfl) ?_
              refine lv_aload_n hx hb dX0_takeUnit_107 rfl (lv_at hl 1 rfl) ?_
              refine mw_get (C := RX0) (T := TX0) (N := 12) (v := .int (nI (b2n al))) hx hb hts inX0_takeUnit_X0 hown hC hw mw_u0 rfl 10 (by decide) k_1 rfl dX0_takeUnit_108 ?_
              refine mw_put (C := RX0) (T := TX0) (N := 12) hx hb hts inX0_takeUnit_X0 tyX0 tyX0_ok nmX0 hown hC hw mw_u0 rfl 11 (by decide) k_3 rfl (nar_b al) (fit_b al) (Nat.le_of_ble_eq_true rfl) dX0_takeUnit_111 (fun H locs hw => ?_)
              have hw : mw_St G _ s (va_up _ h0 (some (.inr (0, [.ref (li), .ref (me), .ref (so), .int (nI (fi)), .int (nI (bi)), .int (nI (sn)), .int (nI (tn)), .int (nI (er)), .int (nI (un + 1)), .int (nI (1)), .int (nI (b2n al)), .int (nI (b2n al))])))) H locs := hw
              refine lv_aload_n hx hb dX0_takeUnit_114 rfl (lv_at hl 1 rfl) ?_
              refine lv_iload_n hx hb dX0_takeUnit_115 rfl (lv_at hl 0 rfl) ?_
              refine mw_put (C := RX0) (T := TX0) (N := 12) hx hb hts inX0_takeUnit_X0 tyX0 tyX0_ok nmX0 hown hC hw mw_u0 rfl 10 (by decide) k_1 rfl (by decide) rfl (Nat.le_of_ble_eq_true rfl) dX0_takeUnit_116 (fun H locs hw => ?_)
              have hw : mw_St G _ s (va_up _ h0 (some (.inr (0, [.ref (li), .ref (me), .ref (so), .int (nI (fi)), .int (nI (bi)), .int (nI (sn)), .int (nI (tn)), .int (nI (er)), .int (nI (un + 1)), .int (nI (1)), .int (nI (1)), .int (nI (b2n al))])))) H locs := hw
              refine lv_iload_n hx hb dX0_takeUnit_119 rfl (lv_at hl 0 rfl) ?_
              refine lv_if_eq (tgt := 125) hx hb dX0_takeUnit_120 (by decide) (fun c_31 => ?_) (fun c_31 => ?_)
              · skip
                exact absurd c_31 (by decide)
              · skip
                refine lv_iconst (v := nI 3) hx hb dX0_takeUnit_123 (by decide) ?_
                have hc_33 : (.inr (0, [.ref (li), .ref (me), .ref (so), .int (nI (fi)), .int (nI (bi)), .int (nI (sn)), .int (nI (tn)), .int (nI (er)), .int (nI (un + 1)), .int (nI (1)), .int (nI (1)), .int (nI (b2n al))]) : va_E) = .inr (0, [.ref (li), .ref (me), .ref (so), .int (nI (fi)), .int (nI (bi)), .int (nI (sn)), .int (nI (tn)), .int (nI (lk er un)), .int (nI (un + 1)), .int (nI (b2n (al || ab))), .int (nI (1)), .int (nI (b2n al))]) := by rw [hfl, hlk]; try rfl
                have hw : mw_St G (mw_A M s.heap.size) s (va_up M h0 (some (.inr (0, [.ref (li), .ref (me), .ref (so), .int (nI (fi)), .int (nI (bi)), .int (nI (sn)), .int (nI (tn)), .int (nI (lk er un)), .int (nI (un + 1)), .int (nI (b2n (al || ab))), .int (nI (1)), .int (nI (b2n al))])))) H locs := hw.to (fun q8 x8 h8 => by
                  by_cases b_34 : q8 = h0
                  · rw [b_34] at h8 ⊢; exact mw_u0.trans ((congrArg some hc_33).trans (mw_u0.symm.trans h8))
                  simp only [va_up_ne _ _ b_34] at h8 ⊢; exact h8)
                exact mw_iret hx hb hr hlocks hw (rfl) (fun _ _ h9 => h9) dX0_takeUnit_124
      · skip
        have c_19 : ft_ ≠ 0 := fun h => c_19 ((nI_eq (a := ft_) (b := 0) (by omega) (by omega)).mpr h)
        exfalso; omega
    · skip
      have c_18 : er > 0 := Nat.not_le.mp (fun h => c_18 ((nI_leI (a := er) (b := 0) (by omega) (by omega)).mpr h))
      refine lv_aload_n hx hb dX0_takeUnit_28 rfl (lv_at hl 0 rfl) ?_
      refine lv_dup hx hb dX0_takeUnit_29 rfl ?_
      refine mw_get (C := RX0) (T := TX0) (N := 12) (v := .int (nI (er))) hx hb hts inX0_takeUnit_X0 hown hC hw mw_u0 rfl 7 (by decide) k_4 rfl dX0_takeUnit_30 ?_
      refine lv_iconst (v := nI 1) hx hb dX0_takeUnit_33 (by decide) ?_
      refine lv_isub hx hb dX0_takeUnit_34 ?_
      refine mw_ti (v' := nI (er - 1)) (pk_sub (by omega)) ?_
      refine mw_put (C := RX0) (T := TX0) (N := 12) hx hb hts inX0_takeUnit_X0 tyX0 tyX0_ok nmX0 hown hC hw mw_u0 rfl 7 (by decide) k_4 rfl rfl rfl (Nat.le_of_ble_eq_true rfl) dX0_takeUnit_35 (fun H locs hw => ?_)
      have hw : mw_St G _ s (va_up _ h0 (some (.inr (0, [.ref (li), .ref (me), .ref (so), .int (nI (fi)), .int (nI (bi)), .int (nI (sn)), .int (nI (tn)), .int (nI (er - 1)), .int (nI (un + 1)), .int (nI (b2n fl)), .int (nI (b2n al)), .int (nI (b2n ab))])))) H locs := hw
      have hlk : lk er un = er - 1 := by unfold lk; rw [if_pos (by omega)]
      refine lv_iload_n hx hb dX0_takeUnit_38 rfl (lv_at hl 2 rfl) ?_
      refine lv_if_eq (tgt := 73) hx hb dX0_takeUnit_39 (by decide) (fun c_35 => ?_) (fun c_35 => ?_)
      · skip
        have c_35 : ft_ = 0 := (nI_eq (a := ft_) (b := 0) (by omega) (by omega)).mp c_35
        refine lv_aload_n hx hb dX0_takeUnit_73 rfl (lv_at hl 0 rfl) ?_
        refine lv_aload_n hx hb dX0_takeUnit_74 rfl (lv_at hl 1 rfl) ?_
        refine mw_ci hC hw (va_runV (As := [.ref (hu)]) (rest := []) ⟨hx, hb, hml, hown, hts⟩ (c_X0_isAbnormal l G _ H.size h0 li me so fi bi sn tn (er - 1) (un + 1) fl al ab la sa mf mu ma mw hu ub c9 g mw_u0 (mw_u1 (Ne.symm m0_1) (mw_u1 (Ne.symm m0_1) e1)) (mw_u1 (Ne.symm m0_6) (mw_u1 (Ne.symm m0_6) e6)) (mw_u1 (Ne.symm m0_7) (mw_u1 (Ne.symm m0_7) e7)) (by omega) (by omega) (hg)) (cwV 1 hts gX0_takeUnit_X0_isAbnormal rfl rfl rfl (by decide +kernel) ⟨Nat.le_of_ble_eq_true rfl, Nat.le_of_ble_eq_true rfl⟩) (mw_preV (ci := 0) hC hw rfl mw_u0) rfl rfl hl.1 rfl (lv_room (Nat.le_of_ble_eq_true rfl)) dX0_takeUnit_75 ⟨Nat.le_of_ble_eq_true rfl, Nat.le_of_ble_eq_true rfl⟩) (fun H locs hz hw => ?_)
        refine mw_ti (v' := nI (1)) (by rw [decide_eq_true hab]; rfl) ?_
        refine lv_istore_n (lv' := [(3, .int (nI (1))), (0, .ref (h0)), (1, .ref (hu)), (2, .int (nI (ft_)))]) hx hb dX0_takeUnit_78 rfl hl (by decide) rfl (fun ls hl => ?_)
        refine lv_aload_n hx hb dX0_takeUnit_79 rfl (lv_at hl 1 rfl) ?_
        refine lv_iload_n hx hb dX0_takeUnit_80 rfl (lv_at hl 0 rfl) ?_
        refine lv_if_eq (tgt := 102) hx hb dX0_takeUnit_81 (by decide) (fun c_36 => ?_) (fun c_36 => ?_)
        · skip
          exact absurd c_36 (by decide)
        · skip
          refine lv_aload_n hx hb dX0_takeUnit_84 rfl (lv_at hl 1 rfl) ?_
          refine mw_get (C := RX0) (T := TX0) (N := 12) (v := .int (nI (b2n al))) hx hb hts inX0_takeUnit_X0 hown hC hw mw_u0 rfl 10 (by decide) k_1 rfl dX0_takeUnit_85 ?_
          have hb1 := b2n_le al
          refine lv_if_ne (tgt := 98) hx hb dX0_takeUnit_88 (by decide) (fun c_37 => ?_) (fun c_37 => ?_)
          · skip
            have c_37 : b2n al ≠ 0 := fun h => c_37 ((nI_eq (a := b2n al) (b := 0) (by omega) (by omega)).mpr h)
            refine lv_iconst (v := nI 1) hx hb dX0_takeUnit_98 (by decide) ?_
            refine lv_goto (tgt := 103) hx hb dX0_takeUnit_99 (by decide) ?_
            have hfl : (al || ab) = true := by cases al <;> cases ab <;> simp_all [b2n]
            refine mw_put (C := RX0) (T := TX0) (N := 12) hx hb hts inX0_takeUnit_X0 tyX0 tyX0_ok nmX0 hown hC hw mw_u0 rfl 9 (by decide) k_2 rfl (by decide) rfl (Nat.le_of_ble_eq_true rfl) dX0_takeUnit_103 (fun H locs hw => ?_)
            have hw : mw_St G _ s (va_up _ h0 (some (.inr (0, [.ref (li), .ref (me), .ref (so), .int (nI (fi)), .int (nI (bi)), .int (nI (sn)), .int (nI (tn)), .int (nI (er - 1)), .int (nI (un + 1)), .int (nI (1)), .int (nI (b2n al)), .int (nI (b2n ab))])))) H locs := hw
            refine lv_aload_n hx hb dX0_takeUnit_106 rfl (lv_at hl 1 rfl) ?_
            refine lv_aload_n hx hb dX0_takeUnit_107 rfl (lv_at hl 1 rfl) ?_
            refine mw_get (C := RX0) (T := TX0) (N := 12) (v := .int (nI (b2n al))) hx hb hts inX0_takeUnit_X0 hown hC hw mw_u0 rfl 10 (by decide) k_1 rfl dX0_takeUnit_108 ?_
            refine mw_put (C := RX0) (T := TX0) (N := 12) hx hb hts inX0_takeUnit_X0 tyX0 tyX0_ok nmX0 hown hC hw mw_u0 rfl 11 (by decide) k_3 rfl (nar_b al) (fit_b al) (Nat.le_of_ble_eq_true rfl) dX0_takeUnit_111 (fun H locs hw => ?_)
            have hw : mw_St G _ s (va_up _ h0 (some (.inr (0, [.ref (li), .ref (me), .ref (so), .int (nI (fi)), .int (nI (bi)), .int (nI (sn)), .int (nI (tn)), .int (nI (er - 1)), .int (nI (un + 1)), .int (nI (1)), .int (nI (b2n al)), .int (nI (b2n al))])))) H locs := hw
            refine lv_aload_n hx hb dX0_takeUnit_114 rfl (lv_at hl 1 rfl) ?_
            refine lv_iload_n hx hb dX0_takeUnit_115 rfl (lv_at hl 0 rfl) ?_
            refine mw_put (C := RX0) (T := TX0) (N := 12) hx hb hts inX0_takeUnit_X0 tyX0 tyX0_ok nmX0 hown hC hw mw_u0 rfl 10 (by decide) k_1 rfl (by decide) rfl (Nat.le_of_ble_eq_true rfl) dX0_takeUnit_116 (fun H locs hw => ?_)
            have hw : mw_St G _ s (va_up _ h0 (some (.inr (0, [.ref (li), .ref (me), .ref (so), .int (nI (fi)), .int (nI (bi)), .int (nI (sn)), .int (nI (tn)), .int (nI (er - 1)), .int (nI (un + 1)), .int (nI (1)), .int (nI (1)), .int (nI (b2n al))])))) H locs := hw
            refine lv_iload_n hx hb dX0_takeUnit_119 rfl (lv_at hl 0 rfl) ?_
            refine lv_if_eq (tgt := 125) hx hb dX0_takeUnit_120 (by decide) (fun c_38 => ?_) (fun c_38 => ?_)
            · skip
              exact absurd c_38 (by decide)
            · skip
              refine lv_iconst (v := nI 3) hx hb dX0_takeUnit_123 (by decide) ?_
              have hc_40 : (.inr (0, [.ref (li), .ref (me), .ref (so), .int (nI (fi)), .int (nI (bi)), .int (nI (sn)), .int (nI (tn)), .int (nI (er - 1)), .int (nI (un + 1)), .int (nI (1)), .int (nI (1)), .int (nI (b2n al))]) : va_E) = .inr (0, [.ref (li), .ref (me), .ref (so), .int (nI (fi)), .int (nI (bi)), .int (nI (sn)), .int (nI (tn)), .int (nI (lk er un)), .int (nI (un + 1)), .int (nI (b2n (al || ab))), .int (nI (1)), .int (nI (b2n al))]) := by rw [hfl, hlk]; try rfl
              have hw : mw_St G (mw_A M s.heap.size) s (va_up M h0 (some (.inr (0, [.ref (li), .ref (me), .ref (so), .int (nI (fi)), .int (nI (bi)), .int (nI (sn)), .int (nI (tn)), .int (nI (lk er un)), .int (nI (un + 1)), .int (nI (b2n (al || ab))), .int (nI (1)), .int (nI (b2n al))])))) H locs := hw.to (fun q8 x8 h8 => by
                by_cases b_41 : q8 = h0
                · rw [b_41] at h8 ⊢; exact mw_u0.trans ((congrArg some hc_40).trans (mw_u0.symm.trans h8))
                simp only [va_up_ne _ _ b_41] at h8 ⊢; exact h8)
              exact mw_iret hx hb hr hlocks hw (rfl) (fun _ _ h9 => h9) dX0_takeUnit_124
          · skip
            have c_37 : b2n al = 0 := (nI_eq (a := b2n al) (b := 0) (by omega) (by omega)).mp c_37
            refine lv_aload_n hx hb dX0_takeUnit_91 rfl (lv_at hl 1 rfl) ?_
            refine mw_get (C := RX0) (T := TX0) (N := 12) (v := .int (nI (b2n ab))) hx hb hts inX0_takeUnit_X0 hown hC hw mw_u0 rfl 11 (by decide) k_3 rfl dX0_takeUnit_92 ?_
            have hb2 := b2n_le ab
            refine lv_if_eq (tgt := 102) hx hb dX0_takeUnit_95 (by decide) (fun c_42 => ?_) (fun c_42 => ?_)
            · skip
              have c_42 : b2n ab = 0 := (nI_eq (a := b2n ab) (b := 0) (by omega) (by omega)).mp c_42
              refine lv_iconst (v := nI 0) hx hb dX0_takeUnit_102 (by decide) ?_
              have hfl : (al || ab) = false := by cases al <;> cases ab <;> simp_all [b2n]
              refine mw_put (C := RX0) (T := TX0) (N := 12) hx hb hts inX0_takeUnit_X0 tyX0 tyX0_ok nmX0 hown hC hw mw_u0 rfl 9 (by decide) k_2 rfl (by decide) rfl (Nat.le_of_ble_eq_true rfl) dX0_takeUnit_103 (fun H locs hw => ?_)
              have hw : mw_St G _ s (va_up _ h0 (some (.inr (0, [.ref (li), .ref (me), .ref (so), .int (nI (fi)), .int (nI (bi)), .int (nI (sn)), .int (nI (tn)), .int (nI (er - 1)), .int (nI (un + 1)), .int (nI (0)), .int (nI (b2n al)), .int (nI (b2n ab))])))) H locs := hw
              refine lv_aload_n hx hb dX0_takeUnit_106 rfl (lv_at hl 1 rfl) ?_
              refine lv_aload_n hx hb dX0_takeUnit_107 rfl (lv_at hl 1 rfl) ?_
              refine mw_get (C := RX0) (T := TX0) (N := 12) (v := .int (nI (b2n al))) hx hb hts inX0_takeUnit_X0 hown hC hw mw_u0 rfl 10 (by decide) k_1 rfl dX0_takeUnit_108 ?_
              refine mw_put (C := RX0) (T := TX0) (N := 12) hx hb hts inX0_takeUnit_X0 tyX0 tyX0_ok nmX0 hown hC hw mw_u0 rfl 11 (by decide) k_3 rfl (nar_b al) (fit_b al) (Nat.le_of_ble_eq_true rfl) dX0_takeUnit_111 (fun H locs hw => ?_)
              have hw : mw_St G _ s (va_up _ h0 (some (.inr (0, [.ref (li), .ref (me), .ref (so), .int (nI (fi)), .int (nI (bi)), .int (nI (sn)), .int (nI (tn)), .int (nI (er - 1)), .int (nI (un + 1)), .int (nI (0)), .int (nI (b2n al)), .int (nI (b2n al))])))) H locs := hw
              refine lv_aload_n hx hb dX0_takeUnit_114 rfl (lv_at hl 1 rfl) ?_
              refine lv_iload_n hx hb dX0_takeUnit_115 rfl (lv_at hl 0 rfl) ?_
              refine mw_put (C := RX0) (T := TX0) (N := 12) hx hb hts inX0_takeUnit_X0 tyX0 tyX0_ok nmX0 hown hC hw mw_u0 rfl 10 (by decide) k_1 rfl (by decide) rfl (Nat.le_of_ble_eq_true rfl) dX0_takeUnit_116 (fun H locs hw => ?_)
              have hw : mw_St G _ s (va_up _ h0 (some (.inr (0, [.ref (li), .ref (me), .ref (so), .int (nI (fi)), .int (nI (bi)), .int (nI (sn)), .int (nI (tn)), .int (nI (er - 1)), .int (nI (un + 1)), .int (nI (0)), .int (nI (1)), .int (nI (b2n al))])))) H locs := hw
              refine lv_iload_n hx hb dX0_takeUnit_119 rfl (lv_at hl 0 rfl) ?_
              refine lv_if_eq (tgt := 125) hx hb dX0_takeUnit_120 (by decide) (fun c_43 => ?_) (fun c_43 => ?_)
              · skip
                exact absurd c_43 (by decide)
              · skip
                refine lv_iconst (v := nI 3) hx hb dX0_takeUnit_123 (by decide) ?_
                have hc_45 : (.inr (0, [.ref (li), .ref (me), .ref (so), .int (nI (fi)), .int (nI (bi)), .int (nI (sn)), .int (nI (tn)), .int (nI (er - 1)), .int (nI (un + 1)), .int (nI (0)), .int (nI (1)), .int (nI (b2n al))]) : va_E) = .inr (0, [.ref (li), .ref (me), .ref (so), .int (nI (fi)), .int (nI (bi)), .int (nI (sn)), .int (nI (tn)), .int (nI (lk er un)), .int (nI (un + 1)), .int (nI (b2n (al || ab))), .int (nI (1)), .int (nI (b2n al))]) := by rw [hfl, hlk]; try rfl
                have hw : mw_St G (mw_A M s.heap.size) s (va_up M h0 (some (.inr (0, [.ref (li), .ref (me), .ref (so), .int (nI (fi)), .int (nI (bi)), .int (nI (sn)), .int (nI (tn)), .int (nI (lk er un)), .int (nI (un + 1)), .int (nI (b2n (al || ab))), .int (nI (1)), .int (nI (b2n al))])))) H locs := hw.to (fun q8 x8 h8 => by
                  by_cases b_46 : q8 = h0
                  · rw [b_46] at h8 ⊢; exact mw_u0.trans ((congrArg some hc_45).trans (mw_u0.symm.trans h8))
                  simp only [va_up_ne _ _ b_46] at h8 ⊢; exact h8)
                exact mw_iret hx hb hr hlocks hw (rfl) (fun _ _ h9 => h9) dX0_takeUnit_124
            · skip
              have c_42 : b2n ab ≠ 0 := fun h => c_42 ((nI_eq (a := b2n ab) (b := 0) (by omega) (by omega)).mpr h)
              refine lv_iconst (v := nI 1) hx hb dX0_takeUnit_98 (by decide) ?_
              refine lv_goto (tgt := 103) hx hb dX0_takeUnit_99 (by decide) ?_
              have hfl : (al || ab) = true := by cases al <;> cases ab <;> simp_all [b2n]
              refine mw_put (C := RX0) (T := TX0) (N := 12) hx hb hts inX0_takeUnit_X0 tyX0 tyX0_ok nmX0 hown hC hw mw_u0 rfl 9 (by decide) k_2 rfl (by decide) rfl (Nat.le_of_ble_eq_true rfl) dX0_takeUnit_103 (fun H locs hw => ?_)
              have hw : mw_St G _ s (va_up _ h0 (some (.inr (0, [.ref (li), .ref (me), .ref (so), .int (nI (fi)), .int (nI (bi)), .int (nI (sn)), .int (nI (tn)), .int (nI (er - 1)), .int (nI (un + 1)), .int (nI (1)), .int (nI (b2n al)), .int (nI (b2n ab))])))) H locs := hw
              refine lv_aload_n hx hb dX0_takeUnit_106 rfl (lv_at hl 1 rfl) ?_
              refine lv_aload_n hx hb dX0_takeUnit_107 rfl (lv_at hl 1 rfl) ?_
              refine mw_get (C := RX0) (T := TX0) (N := 12) (v := .int (nI (b2n al))) hx hb hts inX0_takeUnit_X0 hown hC hw mw_u0 rfl 10 (by decide) k_1 rfl dX0_takeUnit_108 ?_
              refine mw_put (C := RX0) (T := TX0) (N := 12) hx hb hts inX0_takeUnit_X0 tyX0 tyX0_ok nmX0 hown hC hw mw_u0 rfl 11 (by decide) k_3 rfl (nar_b al) (fit_b al) (Nat.le_of_ble_eq_true rfl) dX0_takeUnit_111 (fun H locs hw => ?_)
              have hw : mw_St G _ s (va_up _ h0 (some (.inr (0, [.ref (li), .ref (me), .ref (so), .int (nI (fi)), .int (nI (bi)), .int (nI (sn)), .int (nI (tn)), .int (nI (er - 1)), .int (nI (un + 1)), .int (nI (1)), .int (nI (b2n al)), .int (nI (b2n al))])))) H locs := hw
              refine lv_aload_n hx hb dX0_takeUnit_114 rfl (lv_at hl 1 rfl) ?_
              refine lv_iload_n hx hb dX0_takeUnit_115 rfl (lv_at hl 0 rfl) ?_
              refine mw_put (C := RX0) (T := TX0) (N := 12) hx hb hts inX0_takeUnit_X0 tyX0 tyX0_ok nmX0 hown hC hw mw_u0 rfl 10 (by decide) k_1 rfl (by decide) rfl (Nat.le_of_ble_eq_true rfl) dX0_takeUnit_116 (fun H locs hw => ?_)
              have hw : mw_St G _ s (va_up _ h0 (some (.inr (0, [.ref (li), .ref (me), .ref (so), .int (nI (fi)), .int (nI (bi)), .int (nI (sn)), .int (nI (tn)), .int (nI (er - 1)), .int (nI (un + 1)), .int (nI (1)), .int (nI (1)), .int (nI (b2n al))])))) H locs := hw
              refine lv_iload_n hx hb dX0_takeUnit_119 rfl (lv_at hl 0 rfl) ?_
              refine lv_if_eq (tgt := 125) hx hb dX0_takeUnit_120 (by decide) (fun c_47 => ?_) (fun c_47 => ?_)
              · skip
                exact absurd c_47 (by decide)
              · skip
                refine lv_iconst (v := nI 3) hx hb dX0_takeUnit_123 (by decide) ?_
                have hc_49 : (.inr (0, [.ref (li), .ref (me), .ref (so), .int (nI (fi)), .int (nI (bi)), .int (nI (sn)), .int (nI (tn)), .int (nI (er - 1)), .int (nI (un + 1)), .int (nI (1)), .int (nI (1)), .int (nI (b2n al))]) : va_E) = .inr (0, [.ref (li), .ref (me), .ref (so), .int (nI (fi)), .int (nI (bi)), .int (nI (sn)), .int (nI (tn)), .int (nI (lk er un)), .int (nI (un + 1)), .int (nI (b2n (al || ab))), .int (nI (1)), .int (nI (b2n al))]) := by rw [hfl, hlk]; try rfl
                have hw : mw_St G (mw_A M s.heap.size) s (va_up M h0 (some (.inr (0, [.ref (li), .ref (me), .ref (so), .int (nI (fi)), .int (nI (bi)), .int (nI (sn)), .int (nI (tn)), .int (nI (lk er un)), .int (nI (un + 1)), .int (nI (b2n (al || ab))), .int (nI (1)), .int (nI (b2n al))])))) H locs := hw.to (fun q8 x8 h8 => by
                  by_cases b_50 : q8 = h0
                  · rw [b_50] at h8 ⊢; exact mw_u0.trans ((congrArg some hc_49).trans (mw_u0.symm.trans h8))
                  simp only [va_up_ne _ _ b_50] at h8 ⊢; exact h8)
                exact mw_iret hx hb hr hlocks hw (rfl) (fun _ _ h9 => h9) dX0_takeUnit_124
      · skip
        have c_35 : ft_ ≠ 0 := fun h => c_35 ((nI_eq (a := ft_) (b := 0) (by omega) (by omega)).mpr h)
        exfalso; omega
def RM_X0_takeUnit_ok : Room := { frames := 3, cells := 0, slots := 0, locals := 82 }
set_option maxHeartbeats 4000000 in
set_option maxRecDepth 100000 in
theorem c_X0_takeUnit_ok (l : Launch) (G : mw_G) (M : mw_M) (sz : Nat) (h0 li me so fi bi sn tn er un : Nat) (fl al ab : Bool) (la sa mf mu ma mw : Nat) (lg : Nat → Nat) (ba sl t : Nat) (bg ll : Nat → Nat) (hu ub c9 : Nat) (g : Nat → Nat) (ft_ : Nat) (e0 : M h0 = some (.inr (0, [.ref (li), .ref (me), .ref (so), .int (nI (fi)), .int (nI (bi)), .int (nI (sn)), .int (nI (tn)), .int (nI (er)), .int (nI (un)), .int (nI (b2n fl)), .int (nI (b2n al)), .int (nI (b2n ab))]))) (e1 : M me = some (.inr (3, [.ref (la), .ref (sa), .int (nI (mf)), .int (nI (mu)), .int (nI (ma)), .int (nI (mw))]))) (e2 : M la = some (.inl (G.2 1, 187, .inl (fun j => nI (lg j))))) (e3 : M so = some (.inr (4, [.ref (ba), .ref (sl), .int (nI (t))]))) (e4 : M ba = some (.inl (G.2 0, 13600, .inl (fun j => sb_b (bg j))))) (e5 : M sl = some (.inl (G.2 1, 50, .inl (fun j => nI (ll j))))) (e6 : M hu = some (.inr (5, [.ref (ub), .int (nI (c9))]))) (e7 : M ub = some (.inl (G.2 1, 277, .inl (fun j => nI (g j))))) (hun : un < 100000) (her : er ≤ 64) (hft : ft_ = 0) (hfi : fi ≤ 1) (hbi : bi ≤ 1) (hsn : sn < 128) (htn : tn < 128) (hmf : mf < 187) (hmu : mu ≤ 127) (hma : ma ≤ mu) (hg : ∀ i, i < 277 → g i < 256) (hab : (g 0 % 128 + mu + 128 - sn) % 128 ≤ mu) (hc9 : 5 ≤ c9) (hc92 : c9 ≤ 277) (ht : t < 100000)  : Met l yX0_takeUnit wsX0_takeUnit RM_X0_takeUnit_ok (mw_pre G M sz [.ref (h0), .ref (hu), .int (nI (ft_))]) (mw_Qi G M sz (nI (if g 1 / 128 ≠ bi ∨ g 1 % 128 = tn then 0 else if 5 < c9 ∧ g 1 % 128 = (tn + 1) % 128 then 1 else 2)) (va_up (va_up (va_up (va_up (va_up M h0 (some (.inr (0, [.ref (li), .ref (me), .ref (so), .int (nI (if g 0 / 128 = fi then fi else 1 - fi)), .int (nI (if g 1 / 128 ≠ bi ∨ g 1 % 128 = tn then bi else if 5 < c9 ∧ g 1 % 128 = (tn + 1) % 128 then bi else 1 - bi)), .int (nI (sn)), .int (nI (if g 1 / 128 ≠ bi ∨ g 1 % 128 = tn then tn else if 5 < c9 ∧ g 1 % 128 = (tn + 1) % 128 then (tn + 1) % 128 else tn)), .int (nI (lk er un)), .int (nI (un + 1)), .int (nI (0)), .int (nI (0)), .int (nI (b2n al))])))) me (some (.inr (3, [.ref (la), .ref (sa), .int (nI ((mf + (g 0 % 128 + mu + 128 - sn) % 128) % 187)), .int (nI (mu - (g 0 % 128 + mu + 128 - sn) % 128)), .int (nI (if g 0 / 128 = fi then min ma (mu - (g 0 % 128 + mu + 128 - sn) % 128) else mu - (g 0 % 128 + mu + 128 - sn) % 128)), .int (nI (mw))])))) so (some (.inr (4, [.ref (ba), .ref (sl), .int (nI (if g 1 / 128 ≠ bi ∨ g 1 % 128 = tn then t else if 5 < c9 ∧ g 1 % 128 = (tn + 1) % 128 then t + 1 else t))])))) ba (some (.inl (G.2 0, 13600, .inl (fun j => sb_b ((if g 1 / 128 ≠ bi ∨ g 1 % 128 = tn then bg else if 5 < c9 ∧ g 1 % 128 = (tn + 1) % 128 then kee bg g (t % 50) (c9 - 5) else bg) j)))))) sl (some (.inl (G.2 1, 50, .inl (fun j => nI ((if g 1 / 128 ≠ bi ∨ g 1 % 128 = tn then ll else if 5 < c9 ∧ g 1 % 128 = (tn + 1) % 128 then va_up ll (t % 50) (c9 - 5) else ll) j))))))) 0 0 (mw_A M sz) := by
  refine Met.ofW (cc := cX0_takeUnit) (maxL := 4) (ret := (some .int)) (by decide) rfl ?_
  intro p e s m args below meth c s₁ B hml hv
  obtain ⟨rfl, rfl, hC, hw⟩ := mw_in hv
  have hx := B.exec
  have hb := B.bytes
  have hr := B.returns
  have hts := atoms_spec (ws := wsX0_takeUnit) B.pre
  have hown : s.vm.findClass RX0 = some m.cls := findClass_of_methodNamed B.named
  have hlocks := B.notSynchronized
  have k_0 := hts (.fieldLink RX0 54 "LinkPair$End" "units" "I") (by decide +kernel)
  have k_1 := hts (.fieldLink RX0 57 "LinkPair$End" "failed" "Z") (by decide +kernel)
  have k_2 := hts (.fieldLink RX0 61 "LinkPair$End" "abnormalLast" "Z") (by decide +kernel)
  have k_3 := hts (.fieldLink RX0 64 "LinkPair$End" "abnormalLastButOne" "Z") (by decide +kernel)
  have k_4 := hts (.fieldLink RX0 51 "LinkPair$End" "errors" "I") (by decide +kernel)
  have m0_1 : h0 ≠ me := mw_ne e0 e1 (by intro h9; cases h9)
  have m0_2 : h0 ≠ la := mw_ne e0 e2 (by intro h9; cases h9)
  have m0_3 : h0 ≠ so := mw_ne e0 e3 (by intro h9; cases h9)
  have m0_4 : h0 ≠ ba := mw_ne e0 e4 (by intro h9; cases h9)
  have m0_5 : h0 ≠ sl := mw_ne e0 e5 (by intro h9; cases h9)
  have m0_6 : h0 ≠ hu := mw_ne e0 e6 (by intro h9; cases h9)
  have m0_7 : h0 ≠ ub := mw_ne e0 e7 (by intro h9; cases h9)
  have m1_3 : me ≠ so := mw_ne e1 e3 (by intro h9; cases h9)
  have m1_4 : me ≠ ba := mw_ne e1 e4 (by intro h9; cases h9)
  have m1_5 : me ≠ sl := mw_ne e1 e5 (by intro h9; cases h9)
  have m1_6 : me ≠ hu := mw_ne e1 e6 (by intro h9; cases h9)
  have m1_7 : me ≠ ub := mw_ne e1 e7 (by intro h9; cases h9)
  have m3_4 : so ≠ ba := mw_ne e3 e4 (by intro h9; cases h9)
  have m3_5 : so ≠ sl := mw_ne e3 e5 (by intro h9; cases h9)
  have m4_5 : ba ≠ sl := mw_ne e4 e5 (by simp)
  have hl := lv_entry ([.ref (h0), .ref (hu), .int (nI (ft_))]) (n := 4) (Nat.le_of_ble_eq_true rfl)
  rw [lg_entry_eq]
  generalize (lg_sl ([.ref (h0), .ref (hu), .int (nI (ft_))]) ++ List.replicate (4 - (lg_sl ([.ref (h0), .ref (hu), .int (nI (ft_))])).length) Slot.unset).toArray = ls at hl ⊢
  have hl : lv_has ls 4 [(0, .ref (h0)), (1, .ref (hu)), (2, .int (nI (ft_)))] := hl
  refine mw_start (fun H locs hw => ?_) hw
  refine lv_aload_n hx hb dX0_takeUnit_0 rfl (lv_at hl 0 rfl) ?_
  refine lv_dup hx hb dX0_takeUnit_1 rfl ?_
  refine mw_get (C := RX0) (T := TX0) (N := 12) (v := .int (nI (un))) hx hb hts inX0_takeUnit_X0 hown hC hw e0 rfl 8 (by decide) k_0 rfl dX0_takeUnit_2 ?_
  refine lv_iconst (v := nI 1) hx hb dX0_takeUnit_5 (by decide) ?_
  refine lv_iadd hx hb dX0_takeUnit_6 ?_
  refine mw_ti (v' := nI (un + 1)) (nI_add _ _) ?_
  refine mw_put (C := RX0) (T := TX0) (N := 12) hx hb hts inX0_takeUnit_X0 tyX0 tyX0_ok nmX0 hown hC hw e0 rfl 8 (by decide) k_0 rfl rfl rfl (Nat.le_of_ble_eq_true rfl) dX0_takeUnit_7 (fun H locs hw => ?_)
  have hw : mw_St G _ s (va_up _ h0 (some (.inr (0, [.ref (li), .ref (me), .ref (so), .int (nI (fi)), .int (nI (bi)), .int (nI (sn)), .int (nI (tn)), .int (nI (er)), .int (nI (un + 1)), .int (nI (b2n fl)), .int (nI (b2n al)), .int (nI (b2n ab))])))) H locs := hw
  refine lv_aload_n hx hb dX0_takeUnit_10 rfl (lv_at hl 0 rfl) ?_
  refine mw_get (C := RX0) (T := TX0) (N := 12) (v := .int (nI (un + 1))) hx hb hts inX0_takeUnit_X0 hown hC hw mw_u0 rfl 8 (by decide) k_0 rfl dX0_takeUnit_11 ?_
  refine lv_sipush (v := nI 256) hx hb dX0_takeUnit_14 (by decide) ?_
  refine lv_irem hx hb dX0_takeUnit_17 (by decide) ?_
  refine mw_ti (v' := nI ((un + 1) % 256)) (pk_rem (by omega) (by omega) (by omega)) ?_
  refine lv_if_ne (tgt := 38) hx hb dX0_takeUnit_18 (by decide) (fun c_1 => ?_) (fun c_1 => ?_)
  · skip
    have c_1 : (un + 1) % 256 ≠ 0 := fun h => c_1 ((nI_eq (a := (un + 1) % 256) (b := 0) (by omega) (by omega)).mpr h)
    have hlk : lk er un = er := by unfold lk; rw [if_neg (by omega)]
    refine lv_iload_n hx hb dX0_takeUnit_38 rfl (lv_at hl 2 rfl) ?_
    refine lv_if_eq (tgt := 73) hx hb dX0_takeUnit_39 (by decide) (fun c_2 => ?_) (fun c_2 => ?_)
    · skip
      have c_2 : ft_ = 0 := (nI_eq (a := ft_) (b := 0) (by omega) (by omega)).mp c_2
      refine lv_aload_n hx hb dX0_takeUnit_73 rfl (lv_at hl 0 rfl) ?_
      refine lv_aload_n hx hb dX0_takeUnit_74 rfl (lv_at hl 1 rfl) ?_
      refine mw_ci hC hw (va_runV (As := [.ref (hu)]) (rest := []) ⟨hx, hb, hml, hown, hts⟩ (c_X0_isAbnormal l G _ H.size h0 li me so fi bi sn tn er (un + 1) fl al ab la sa mf mu ma mw hu ub c9 g mw_u0 (mw_u1 (Ne.symm m0_1) e1) (mw_u1 (Ne.symm m0_6) e6) (mw_u1 (Ne.symm m0_7) e7) (by omega) (by omega) (hg)) (cwV 1 hts gX0_takeUnit_X0_isAbnormal rfl rfl rfl (by decide +kernel) ⟨Nat.le_of_ble_eq_true rfl, Nat.le_of_ble_eq_true rfl⟩) (mw_preV (ci := 0) hC hw rfl mw_u0) rfl rfl hl.1 rfl (lv_room (Nat.le_of_ble_eq_true rfl)) dX0_takeUnit_75 ⟨Nat.le_of_ble_eq_true rfl, Nat.le_of_ble_eq_true rfl⟩) (fun H locs hz hw => ?_)
      refine mw_ti (v' := nI (0)) (by rw [decide_eq_false (Nat.not_lt.mpr hab)]; rfl) ?_
      refine lv_istore_n (lv' := [(3, .int (nI (0))), (0, .ref (h0)), (1, .ref (hu)), (2, .int (nI (ft_)))]) hx hb dX0_takeUnit_78 rfl hl (by decide) rfl (fun ls hl => ?_)
      refine lv_aload_n hx hb dX0_takeUnit_79 rfl (lv_at hl 1 rfl) ?_
      refine lv_iload_n hx hb dX0_takeUnit_80 rfl (lv_at hl 0 rfl) ?_
      refine lv_if_eq (tgt := 102) hx hb dX0_takeUnit_81 (by decide) (fun c_3 => ?_) (fun c_3 => ?_)
      · skip
        refine lv_iconst (v := nI 0) hx hb dX0_takeUnit_102 (by decide) ?_
        refine mw_put (C := RX0) (T := TX0) (N := 12) hx hb hts inX0_takeUnit_X0 tyX0 tyX0_ok nmX0 hown hC hw mw_u0 rfl 9 (by decide) k_1 rfl (by decide) rfl (Nat.le_of_ble_eq_true rfl) dX0_takeUnit_103 (fun H locs hw => ?_)
        have hw : mw_St G _ s (va_up _ h0 (some (.inr (0, [.ref (li), .ref (me), .ref (so), .int (nI (fi)), .int (nI (bi)), .int (nI (sn)), .int (nI (tn)), .int (nI (er)), .int (nI (un + 1)), .int (nI (0)), .int (nI (b2n al)), .int (nI (b2n ab))])))) H locs := hw
        refine lv_aload_n hx hb dX0_takeUnit_106 rfl (lv_at hl 1 rfl) ?_
        refine lv_aload_n hx hb dX0_takeUnit_107 rfl (lv_at hl 1 rfl) ?_
        refine mw_get (C := RX0) (T := TX0) (N := 12) (v := .int (nI (b2n al))) hx hb hts inX0_takeUnit_X0 hown hC hw mw_u0 rfl 10 (by decide) k_2 rfl dX0_takeUnit_108 ?_
        refine mw_put (C := RX0) (T := TX0) (N := 12) hx hb hts inX0_takeUnit_X0 tyX0 tyX0_ok nmX0 hown hC hw mw_u0 rfl 11 (by decide) k_3 rfl (nar_b al) (fit_b al) (Nat.le_of_ble_eq_true rfl) dX0_takeUnit_111 (fun H locs hw => ?_)
        have hw : mw_St G _ s (va_up _ h0 (some (.inr (0, [.ref (li), .ref (me), .ref (so), .int (nI (fi)), .int (nI (bi)), .int (nI (sn)), .int (nI (tn)), .int (nI (er)), .int (nI (un + 1)), .int (nI (0)), .int (nI (b2n al)), .int (nI (b2n al))])))) H locs := hw
        refine lv_aload_n hx hb dX0_takeUnit_114 rfl (lv_at hl 1 rfl) ?_
        refine lv_iload_n hx hb dX0_takeUnit_115 rfl (lv_at hl 0 rfl) ?_
        refine mw_put (C := RX0) (T := TX0) (N := 12) hx hb hts inX0_takeUnit_X0 tyX0 tyX0_ok nmX0 hown hC hw mw_u0 rfl 10 (by decide) k_2 rfl (by decide) rfl (Nat.le_of_ble_eq_true rfl) dX0_takeUnit_116 (fun H locs hw => ?_)
        have hw : mw_St G _ s (va_up _ h0 (some (.inr (0, [.ref (li), .ref (me), .ref (so), .int (nI (fi)), .int (nI (bi)), .int (nI (sn)), .int (nI (tn)), .int (nI (er)), .int (nI (un + 1)), .int (nI (0)), .int (nI (0)), .int (nI (b2n al))])))) H locs := hw
        refine lv_iload_n hx hb dX0_takeUnit_119 rfl (lv_at hl 0 rfl) ?_
        refine lv_if_eq (tgt := 125) hx hb dX0_takeUnit_120 (by decide) (fun c_4 => ?_) (fun c_4 => ?_)
        · skip
          refine lv_aload_n hx hb dX0_takeUnit_125 rfl (lv_at hl 1 rfl) ?_
          refine lv_aload_n hx hb dX0_takeUnit_126 rfl (lv_at hl 2 rfl) ?_
          refine mw_cv hC hw (va_runV (As := [.ref (hu)]) (rest := []) ⟨hx, hb, hml, hown, hts⟩ (c_X0_takeBackward l G _ H.size h0 li me so fi bi sn tn er (un + 1) false false al la sa mf mu ma mw lg hu ub c9 g mw_u0 (mw_u1 (Ne.symm m0_1) (mw_u1 (Ne.symm m0_1) (mw_u1 (Ne.symm m0_1) (mw_u1 (Ne.symm m0_1) e1)))) (mw_u1 (Ne.symm m0_2) (mw_u1 (Ne.symm m0_2) (mw_u1 (Ne.symm m0_2) (mw_u1 (Ne.symm m0_2) e2)))) (mw_u1 (Ne.symm m0_6) (mw_u1 (Ne.symm m0_6) (mw_u1 (Ne.symm m0_6) (mw_u1 (Ne.symm m0_6) e6)))) (mw_u1 (Ne.symm m0_7) (mw_u1 (Ne.symm m0_7) (mw_u1 (Ne.symm m0_7) (mw_u1 (Ne.symm m0_7) e7)))) (by omega) (by omega) (by omega) (by omega) (by omega) (hg) (hab)) (cwV 1 hts gX0_takeUnit_X0_takeBackward rfl rfl rfl (by decide +kernel) ⟨Nat.le_of_ble_eq_true rfl, Nat.le_of_ble_eq_true rfl⟩) (mw_preV (ci := 0) hC hw rfl mw_u0) rfl rfl hl.1 rfl (lv_room (Nat.le_of_ble_eq_true rfl)) dX0_takeUnit_127 ⟨Nat.le_of_ble_eq_true rfl, Nat.le_of_ble_eq_true rfl⟩) (fun H locs hz hw => ?_)
          refine lv_aload_n hx hb dX0_takeUnit_130 rfl (lv_at hl 1 rfl) ?_
          refine lv_aload_n hx hb dX0_takeUnit_131 rfl (lv_at hl 2 rfl) ?_
          refine mw_ci hC hw (va_runV (As := [.ref (hu)]) (rest := []) ⟨hx, hb, hml, hown, hts⟩ (c_X0_takeForward l G _ H.size h0 li me so (if g 0 / 128 = fi then fi else 1 - fi) bi sn tn er (un + 1) false false al ba sl t bg ll hu ub c9 g (mw_u1 m0_1 mw_u0) (mw_u1 (Ne.symm m1_3) (mw_u1 (Ne.symm m0_3) (mw_u1 (Ne.symm m0_3) (mw_u1 (Ne.symm m0_3) (mw_u1 (Ne.symm m0_3) (mw_u1 (Ne.symm m0_3) e3)))))) (mw_u1 (Ne.symm m1_4) (mw_u1 (Ne.symm m0_4) (mw_u1 (Ne.symm m0_4) (mw_u1 (Ne.symm m0_4) (mw_u1 (Ne.symm m0_4) (mw_u1 (Ne.symm m0_4) e4)))))) (mw_u1 (Ne.symm m1_5) (mw_u1 (Ne.symm m0_5) (mw_u1 (Ne.symm m0_5) (mw_u1 (Ne.symm m0_5) (mw_u1 (Ne.symm m0_5) (mw_u1 (Ne.symm m0_5) e5)))))) (mw_u1 (Ne.symm m1_6) (mw_u1 (Ne.symm m0_6) (mw_u1 (Ne.symm m0_6) (mw_u1 (Ne.symm m0_6) (mw_u1 (Ne.symm m0_6) (mw_u1 (Ne.symm m0_6) e6)))))) (mw_u1 (Ne.symm m1_7) (mw_u1 (Ne.symm m0_7) (mw_u1 (Ne.symm m0_7) (mw_u1 (Ne.symm m0_7) (mw_u1 (Ne.symm m0_7) (mw_u1 (Ne.symm m0_7) e7)))))) (by omega) (by omega) (hg) (by omega) (by omega) (by omega)) (cwV 1 hts gX0_takeUnit_X0_takeForward rfl rfl rfl (by decide +kernel) ⟨Nat.le_of_ble_eq_true rfl, Nat.le_of_ble_eq_true rfl⟩) (mw_preV (ci := 0) hC hw rfl (mw_u1 m0_1 mw_u0)) rfl rfl hl.1 rfl (lv_room (Nat.le_of_ble_eq_true rfl)) dX0_takeUnit_132 ⟨Nat.le_of_ble_eq_true rfl, Nat.le_of_ble_eq_true rfl⟩) (fun H locs hz hw => ?_)
          have hc_6 : (.inr (0, [.ref (li), .ref (me), .ref (so), .int (nI (if g 0 / 128 = fi then fi else 1 - fi)), .int (nI (if g 1 / 128 ≠ bi ∨ g 1 % 128 = tn then bi else if 5 < c9 ∧ g 1 % 128 = (tn + 1) % 128 then bi else 1 - bi)), .int (nI (sn)), .int (nI (if g 1 / 128 ≠ bi ∨ g 1 % 128 = tn then tn else if 5 < c9 ∧ g 1 % 128 = (tn + 1) % 128 then (tn + 1) % 128 else tn)), .int (nI (er)), .int (nI (un + 1)), .int (nI (b2n false)), .int (nI (b2n false)), .int (nI (b2n al))]) : va_E) = .inr (0, [.ref (li), .ref (me), .ref (so), .int (nI (if g 0 / 128 = fi then fi else 1 - fi)), .int (nI (if g 1 / 128 ≠ bi ∨ g 1 % 128 = tn then bi else if 5 < c9 ∧ g 1 % 128 = (tn + 1) % 128 then bi else 1 - bi)), .int (nI (sn)), .int (nI (if g 1 / 128 ≠ bi ∨ g 1 % 128 = tn then tn else if 5 < c9 ∧ g 1 % 128 = (tn + 1) % 128 then (tn + 1) % 128 else tn)), .int (nI (lk er un)), .int (nI (un + 1)), .int (nI (0)), .int (nI (0)), .int (nI (b2n al))]) := by first | rfl | (rw [hlk]; try rfl)
          have hw : mw_St G (mw_A M s.heap.size) s (va_up (va_up (va_up (va_up (va_up M h0 (some (.inr (0, [.ref (li), .ref (me), .ref (so), .int (nI (if g 0 / 128 = fi then fi else 1 - fi)), .int (nI (if g 1 / 128 ≠ bi ∨ g 1 % 128 = tn then bi else if 5 < c9 ∧ g 1 % 128 = (tn + 1) % 128 then bi else 1 - bi)), .int (nI (sn)), .int (nI (if g 1 / 128 ≠ bi ∨ g 1 % 128 = tn then tn else if 5 < c9 ∧ g 1 % 128 = (tn + 1) % 128 then (tn + 1) % 128 else tn)), .int (nI (lk er un)), .int (nI (un + 1)), .int (nI (0)), .int (nI (0)), .int (nI (b2n al))])))) me (some (.inr (3, [.ref (la), .ref (sa), .int (nI ((mf + (g 0 % 128 + mu + 128 - sn) % 128) % 187)), .int (nI (mu - (g 0 % 128 + mu + 128 - sn) % 128)), .int (nI (if g 0 / 128 = fi then min ma (mu - (g 0 % 128 + mu + 128 - sn) % 128) else mu - (g 0 % 128 + mu + 128 - sn) % 128)), .int (nI (mw))])))) so (some (.inr (4, [.ref (ba), .ref (sl), .int (nI (if g 1 / 128 ≠ bi ∨ g 1 % 128 = tn then t else if 5 < c9 ∧ g 1 % 128 = (tn + 1) % 128 then t + 1 else t))])))) ba (some (.inl (G.2 0, 13600, .inl (fun j => sb_b ((if g 1 / 128 ≠ bi ∨ g 1 % 128 = tn then bg else if 5 < c9 ∧ g 1 % 128 = (tn + 1) % 128 then kee bg g (t % 50) (c9 - 5) else bg) j)))))) sl (some (.inl (G.2 1, 50, .inl (fun j => nI ((if g 1 / 128 ≠ bi ∨ g 1 % 128 = tn then ll else if 5 < c9 ∧ g 1 % 128 = (tn + 1) % 128 then va_up ll (t % 50) (c9 - 5) else ll) j)))))) H locs := hw.to (fun q8 x8 h8 => by
            by_cases b_7 : q8 = h0
            · rw [b_7] at h8 ⊢; exact (mw_u1 m0_5 (mw_u1 m0_4 (mw_u1 m0_3 mw_u0))).trans ((congrArg some hc_6).trans ((mw_u1 m0_5 (mw_u1 m0_4 (mw_u1 m0_3 (mw_u1 m0_1 mw_u0)))).symm.trans h8))
            by_cases b_8 : q8 = me
            · rw [b_8] at h8 ⊢; exact (mw_u1 m1_5 (mw_u1 m1_4 (mw_u1 m1_3 (mw_u1 (Ne.symm m0_1) mw_u0)))).trans (((mw_u1 m1_5 (mw_u1 m1_4 (mw_u1 m1_3 mw_u0))).symm.trans h8))
            by_cases b_9 : q8 = so
            · rw [b_9] at h8 ⊢; exact (mw_u1 m3_5 (mw_u1 m3_4 mw_u0)).trans (((mw_u1 m3_5 (mw_u1 m3_4 mw_u0)).symm.trans h8))
            by_cases b_10 : q8 = ba
            · rw [b_10] at h8 ⊢; exact (mw_u1 m4_5 mw_u0).trans (((mw_u1 m4_5 mw_u0).symm.trans h8))
            by_cases b_11 : q8 = sl
            · rw [b_11] at h8 ⊢; exact mw_u0.trans ((mw_u0.symm.trans h8))
            simp only [va_up_ne _ _ b_7, va_up_ne _ _ b_8, va_up_ne _ _ b_9, va_up_ne _ _ b_10, va_up_ne _ _ b_11] at h8 ⊢; exact h8)
          exact mw_iret hx hb hr hlocks hw (rfl) (fun _ _ h9 => h9) dX0_takeUnit_135
        · skip
          exact absurd c_4 (by decide)
      · skip
        exact absurd c_3 (by decide)
    · skip
      have c_2 : ft_ ≠ 0 := fun h => c_2 ((nI_eq (a := ft_) (b := 0) (by omega) (by omega)).mpr h)
      exfalso; omega
  · skip
    have c_1 : (un + 1) % 256 = 0 := (nI_eq (a := (un + 1) % 256) (b := 0) (by omega) (by omega)).mp c_1
    refine lv_aload_n hx hb dX0_takeUnit_21 rfl (lv_at hl 0 rfl) ?_
    refine mw_get (C := RX0) (T := TX0) (N := 12) (v := .int (nI (er))) hx hb hts inX0_takeUnit_X0 hown hC hw mw_u0 rfl 7 (by decide) k_4 rfl dX0_takeUnit_22 ?_
    refine lv_if_le (tgt := 38) hx hb dX0_takeUnit_25 (by decide) (fun c_12 => ?_) (fun c_12 => ?_)
    · skip
      have c_12 : er ≤ 0 := (nI_leI (a := er) (b := 0) (by omega) (by omega)).mp c_12
      have hlk : lk er un = er := by unfold lk; rw [if_neg (by omega)]
      refine lv_iload_n hx hb dX0_takeUnit_38 rfl (lv_at hl 2 rfl) ?_
      refine lv_if_eq (tgt := 73) hx hb dX0_takeUnit_39 (by decide) (fun c_13 => ?_) (fun c_13 => ?_)
      · skip
        have c_13 : ft_ = 0 := (nI_eq (a := ft_) (b := 0) (by omega) (by omega)).mp c_13
        refine lv_aload_n hx hb dX0_takeUnit_73 rfl (lv_at hl 0 rfl) ?_
        refine lv_aload_n hx hb dX0_takeUnit_74 rfl (lv_at hl 1 rfl) ?_
        refine mw_ci hC hw (va_runV (As := [.ref (hu)]) (rest := []) ⟨hx, hb, hml, hown, hts⟩ (c_X0_isAbnormal l G _ H.size h0 li me so fi bi sn tn er (un + 1) fl al ab la sa mf mu ma mw hu ub c9 g mw_u0 (mw_u1 (Ne.symm m0_1) e1) (mw_u1 (Ne.symm m0_6) e6) (mw_u1 (Ne.symm m0_7) e7) (by omega) (by omega) (hg)) (cwV 1 hts gX0_takeUnit_X0_isAbnormal rfl rfl rfl (by decide +kernel) ⟨Nat.le_of_ble_eq_true rfl, Nat.le_of_ble_eq_true rfl⟩) (mw_preV (ci := 0) hC hw rfl mw_u0) rfl rfl hl.1 rfl (lv_room (Nat.le_of_ble_eq_true rfl)) dX0_takeUnit_75 ⟨Nat.le_of_ble_eq_true rfl, Nat.le_of_ble_eq_true rfl⟩) (fun H locs hz hw => ?_)
        refine mw_ti (v' := nI (0)) (by rw [decide_eq_false (Nat.not_lt.mpr hab)]; rfl) ?_
        refine lv_istore_n (lv' := [(3, .int (nI (0))), (0, .ref (h0)), (1, .ref (hu)), (2, .int (nI (ft_)))]) hx hb dX0_takeUnit_78 rfl hl (by decide) rfl (fun ls hl => ?_)
        refine lv_aload_n hx hb dX0_takeUnit_79 rfl (lv_at hl 1 rfl) ?_
        refine lv_iload_n hx hb dX0_takeUnit_80 rfl (lv_at hl 0 rfl) ?_
        refine lv_if_eq (tgt := 102) hx hb dX0_takeUnit_81 (by decide) (fun c_14 => ?_) (fun c_14 => ?_)
        · skip
          refine lv_iconst (v := nI 0) hx hb dX0_takeUnit_102 (by decide) ?_
          refine mw_put (C := RX0) (T := TX0) (N := 12) hx hb hts inX0_takeUnit_X0 tyX0 tyX0_ok nmX0 hown hC hw mw_u0 rfl 9 (by decide) k_1 rfl (by decide) rfl (Nat.le_of_ble_eq_true rfl) dX0_takeUnit_103 (fun H locs hw => ?_)
          have hw : mw_St G _ s (va_up _ h0 (some (.inr (0, [.ref (li), .ref (me), .ref (so), .int (nI (fi)), .int (nI (bi)), .int (nI (sn)), .int (nI (tn)), .int (nI (er)), .int (nI (un + 1)), .int (nI (0)), .int (nI (b2n al)), .int (nI (b2n ab))])))) H locs := hw
          refine lv_aload_n hx hb dX0_takeUnit_106 rfl (lv_at hl 1 rfl) ?_
          refine lv_aload_n hx hb dX0_takeUnit_107 rfl (lv_at hl 1 rfl) ?_
          refine mw_get (C := RX0) (T := TX0) (N := 12) (v := .int (nI (b2n al))) hx hb hts inX0_takeUnit_X0 hown hC hw mw_u0 rfl 10 (by decide) k_2 rfl dX0_takeUnit_108 ?_
          refine mw_put (C := RX0) (T := TX0) (N := 12) hx hb hts inX0_takeUnit_X0 tyX0 tyX0_ok nmX0 hown hC hw mw_u0 rfl 11 (by decide) k_3 rfl (nar_b al) (fit_b al) (Nat.le_of_ble_eq_true rfl) dX0_takeUnit_111 (fun H locs hw => ?_)
          have hw : mw_St G _ s (va_up _ h0 (some (.inr (0, [.ref (li), .ref (me), .ref (so), .int (nI (fi)), .int (nI (bi)), .int (nI (sn)), .int (nI (tn)), .int (nI (er)), .int (nI (un + 1)), .int (nI (0)), .int (nI (b2n al)), .int (nI (b2n al))])))) H locs := hw
          refine lv_aload_n hx hb dX0_takeUnit_114 rfl (lv_at hl 1 rfl) ?_
          refine lv_iload_n hx hb dX0_takeUnit_115 rfl (lv_at hl 0 rfl) ?_
          refine mw_put (C := RX0) (T := TX0) (N := 12) hx hb hts inX0_takeUnit_X0 tyX0 tyX0_ok nmX0 hown hC hw mw_u0 rfl 10 (by decide) k_2 rfl (by decide) rfl (Nat.le_of_ble_eq_true rfl) dX0_takeUnit_116 (fun H locs hw => ?_)
          have hw : mw_St G _ s (va_up _ h0 (some (.inr (0, [.ref (li), .ref (me), .ref (so), .int (nI (fi)), .int (nI (bi)), .int (nI (sn)), .int (nI (tn)), .int (nI (er)), .int (nI (un + 1)), .int (nI (0)), .int (nI (0)), .int (nI (b2n al))])))) H locs := hw
          refine lv_iload_n hx hb dX0_takeUnit_119 rfl (lv_at hl 0 rfl) ?_
          refine lv_if_eq (tgt := 125) hx hb dX0_takeUnit_120 (by decide) (fun c_15 => ?_) (fun c_15 => ?_)
          · skip
            refine lv_aload_n hx hb dX0_takeUnit_125 rfl (lv_at hl 1 rfl) ?_
            refine lv_aload_n hx hb dX0_takeUnit_126 rfl (lv_at hl 2 rfl) ?_
            refine mw_cv hC hw (va_runV (As := [.ref (hu)]) (rest := []) ⟨hx, hb, hml, hown, hts⟩ (c_X0_takeBackward l G _ H.size h0 li me so fi bi sn tn er (un + 1) false false al la sa mf mu ma mw lg hu ub c9 g mw_u0 (mw_u1 (Ne.symm m0_1) (mw_u1 (Ne.symm m0_1) (mw_u1 (Ne.symm m0_1) (mw_u1 (Ne.symm m0_1) e1)))) (mw_u1 (Ne.symm m0_2) (mw_u1 (Ne.symm m0_2) (mw_u1 (Ne.symm m0_2) (mw_u1 (Ne.symm m0_2) e2)))) (mw_u1 (Ne.symm m0_6) (mw_u1 (Ne.symm m0_6) (mw_u1 (Ne.symm m0_6) (mw_u1 (Ne.symm m0_6) e6)))) (mw_u1 (Ne.symm m0_7) (mw_u1 (Ne.symm m0_7) (mw_u1 (Ne.symm m0_7) (mw_u1 (Ne.symm m0_7) e7)))) (by omega) (by omega) (by omega) (by omega) (by omega) (hg) (hab)) (cwV 1 hts gX0_takeUnit_X0_takeBackward rfl rfl rfl (by decide +kernel) ⟨Nat.le_of_ble_eq_true rfl, Nat.le_of_ble_eq_true rfl⟩) (mw_preV (ci := 0) hC hw rfl mw_u0) rfl rfl hl.1 rfl (lv_room (Nat.le_of_ble_eq_true rfl)) dX0_takeUnit_127 ⟨Nat.le_of_ble_eq_true rfl, Nat.le_of_ble_eq_true rfl⟩) (fun H locs hz hw => ?_)
            refine lv_aload_n hx hb dX0_takeUnit_130 rfl (lv_at hl 1 rfl) ?_
            refine lv_aload_n hx hb dX0_takeUnit_131 rfl (lv_at hl 2 rfl) ?_
            refine mw_ci hC hw (va_runV (As := [.ref (hu)]) (rest := []) ⟨hx, hb, hml, hown, hts⟩ (c_X0_takeForward l G _ H.size h0 li me so (if g 0 / 128 = fi then fi else 1 - fi) bi sn tn er (un + 1) false false al ba sl t bg ll hu ub c9 g (mw_u1 m0_1 mw_u0) (mw_u1 (Ne.symm m1_3) (mw_u1 (Ne.symm m0_3) (mw_u1 (Ne.symm m0_3) (mw_u1 (Ne.symm m0_3) (mw_u1 (Ne.symm m0_3) (mw_u1 (Ne.symm m0_3) e3)))))) (mw_u1 (Ne.symm m1_4) (mw_u1 (Ne.symm m0_4) (mw_u1 (Ne.symm m0_4) (mw_u1 (Ne.symm m0_4) (mw_u1 (Ne.symm m0_4) (mw_u1 (Ne.symm m0_4) e4)))))) (mw_u1 (Ne.symm m1_5) (mw_u1 (Ne.symm m0_5) (mw_u1 (Ne.symm m0_5) (mw_u1 (Ne.symm m0_5) (mw_u1 (Ne.symm m0_5) (mw_u1 (Ne.symm m0_5) e5)))))) (mw_u1 (Ne.symm m1_6) (mw_u1 (Ne.symm m0_6) (mw_u1 (Ne.symm m0_6) (mw_u1 (Ne.symm m0_6) (mw_u1 (Ne.symm m0_6) (mw_u1 (Ne.symm m0_6) e6)))))) (mw_u1 (Ne.symm m1_7) (mw_u1 (Ne.symm m0_7) (mw_u1 (Ne.symm m0_7) (mw_u1 (Ne.symm m0_7) (mw_u1 (Ne.symm m0_7) (mw_u1 (Ne.symm m0_7) e7)))))) (by omega) (by omega) (hg) (by omega) (by omega) (by omega)) (cwV 1 hts gX0_takeUnit_X0_takeForward rfl rfl rfl (by decide +kernel) ⟨Nat.le_of_ble_eq_true rfl, Nat.le_of_ble_eq_true rfl⟩) (mw_preV (ci := 0) hC hw rfl (mw_u1 m0_1 mw_u0)) rfl rfl hl.1 rfl (lv_room (Nat.le_of_ble_eq_true rfl)) dX0_takeUnit_132 ⟨Nat.le_of_ble_eq_true rfl, Nat.le_of_ble_eq_true rfl⟩) (fun H locs hz hw => ?_)
            have hc_17 : (.inr (0, [.ref (li), .ref (me), .ref (so), .int (nI (if g 0 / 128 = fi then fi else 1 - fi)), .int (nI (if g 1 / 128 ≠ bi ∨ g 1 % 128 = tn then bi else if 5 < c9 ∧ g 1 % 128 = (tn + 1) % 128 then bi else 1 - bi)), .int (nI (sn)), .int (nI (if g 1 / 128 ≠ bi ∨ g 1 % 128 = tn then tn else if 5 < c9 ∧ g 1 % 128 = (tn + 1) % 128 then (tn + 1) % 128 else tn)), .int (nI (er)), .int (nI (un + 1)), .int (nI (b2n false)), .int (nI (b2n false)), .int (nI (b2n al))]) : va_E) = .inr (0, [.ref (li), .ref (me), .ref (so), .int (nI (if g 0 / 128 = fi then fi else 1 - fi)), .int (nI (if g 1 / 128 ≠ bi ∨ g 1 % 128 = tn then bi else if 5 < c9 ∧ g 1 % 128 = (tn + 1) % 128 then bi else 1 - bi)), .int (nI (sn)), .int (nI (if g 1 / 128 ≠ bi ∨ g 1 % 128 = tn then tn else if 5 < c9 ∧ g 1 % 128 = (tn + 1) % 128 then (tn + 1) % 128 else tn)), .int (nI (lk er un)), .int (nI (un + 1)), .int (nI (0)), .int (nI (0)), .int (nI (b2n al))]) := by first | rfl | (rw [hlk]; try rfl)
            have hw : mw_St G (mw_A M s.heap.size) s (va_up (va_up (va_up (va_up (va_up M h0 (some (.inr (0, [.ref (li), .ref (me), .ref (so), .int (nI (if g 0 / 128 = fi then fi else 1 - fi)), .int (nI (if g 1 / 128 ≠ bi ∨ g 1 % 128 = tn then bi else if 5 < c9 ∧ g 1 % 128 = (tn + 1) % 128 then bi else 1 - bi)), .int (nI (sn)), .int (nI (if g 1 / 128 ≠ bi ∨ g 1 % 128 = tn then tn else if 5 < c9 ∧ g 1 % 128 = (tn + 1) % 128 then (tn + 1) % 128 else tn)), .int (nI (lk er un)), .int (nI (un + 1)), .int (nI (0)), .int (nI (0)), .int (nI (b2n al))])))) me (some (.inr (3, [.ref (la), .ref (sa), .int (nI ((mf + (g 0 % 128 + mu + 128 - sn) % 128) % 187)), .int (nI (mu - (g 0 % 128 + mu + 128 - sn) % 128)), .int (nI (if g 0 / 128 = fi then min ma (mu - (g 0 % 128 + mu + 128 - sn) % 128) else mu - (g 0 % 128 + mu + 128 - sn) % 128)), .int (nI (mw))])))) so (some (.inr (4, [.ref (ba), .ref (sl), .int (nI (if g 1 / 128 ≠ bi ∨ g 1 % 128 = tn then t else if 5 < c9 ∧ g 1 % 128 = (tn + 1) % 128 then t + 1 else t))])))) ba (some (.inl (G.2 0, 13600, .inl (fun j => sb_b ((if g 1 / 128 ≠ bi ∨ g 1 % 128 = tn then bg else if 5 < c9 ∧ g 1 % 128 = (tn + 1) % 128 then kee bg g (t % 50) (c9 - 5) else bg) j)))))) sl (some (.inl (G.2 1, 50, .inl (fun j => nI ((if g 1 / 128 ≠ bi ∨ g 1 % 128 = tn then ll else if 5 < c9 ∧ g 1 % 128 = (tn + 1) % 128 then va_up ll (t % 50) (c9 - 5) else ll) j)))))) H locs := hw.to (fun q8 x8 h8 => by
              by_cases b_18 : q8 = h0
              · rw [b_18] at h8 ⊢; exact (mw_u1 m0_5 (mw_u1 m0_4 (mw_u1 m0_3 mw_u0))).trans ((congrArg some hc_17).trans ((mw_u1 m0_5 (mw_u1 m0_4 (mw_u1 m0_3 (mw_u1 m0_1 mw_u0)))).symm.trans h8))
              by_cases b_19 : q8 = me
              · rw [b_19] at h8 ⊢; exact (mw_u1 m1_5 (mw_u1 m1_4 (mw_u1 m1_3 (mw_u1 (Ne.symm m0_1) mw_u0)))).trans (((mw_u1 m1_5 (mw_u1 m1_4 (mw_u1 m1_3 mw_u0))).symm.trans h8))
              by_cases b_20 : q8 = so
              · rw [b_20] at h8 ⊢; exact (mw_u1 m3_5 (mw_u1 m3_4 mw_u0)).trans (((mw_u1 m3_5 (mw_u1 m3_4 mw_u0)).symm.trans h8))
              by_cases b_21 : q8 = ba
              · rw [b_21] at h8 ⊢; exact (mw_u1 m4_5 mw_u0).trans (((mw_u1 m4_5 mw_u0).symm.trans h8))
              by_cases b_22 : q8 = sl
              · rw [b_22] at h8 ⊢; exact mw_u0.trans ((mw_u0.symm.trans h8))
              simp only [va_up_ne _ _ b_18, va_up_ne _ _ b_19, va_up_ne _ _ b_20, va_up_ne _ _ b_21, va_up_ne _ _ b_22] at h8 ⊢; exact h8)
            exact mw_iret hx hb hr hlocks hw (rfl) (fun _ _ h9 => h9) dX0_takeUnit_135
          · skip
            exact absurd c_15 (by decide)
        · skip
          exact absurd c_14 (by decide)
      · skip
        have c_13 : ft_ ≠ 0 := fun h => c_13 ((nI_eq (a := ft_) (b := 0) (by omega) (by omega)).mpr h)
        exfalso; omega
    · skip
      have c_12 : er > 0 := Nat.not_le.mp (fun h => c_12 ((nI_leI (a := er) (b := 0) (by omega) (by omega)).mpr h))
      refine lv_aload_n hx hb dX0_takeUnit_28 rfl (lv_at hl 0 rfl) ?_
      refine lv_dup hx hb dX0_takeUnit_29 rfl ?_
      refine mw_get (C := RX0) (T := TX0) (N := 12) (v := .int (nI (er))) hx hb hts inX0_takeUnit_X0 hown hC hw mw_u0 rfl 7 (by decide) k_4 rfl dX0_takeUnit_30 ?_
      refine lv_iconst (v := nI 1) hx hb dX0_takeUnit_33 (by decide) ?_
      refine lv_isub hx hb dX0_takeUnit_34 ?_
      refine mw_ti (v' := nI (er - 1)) (pk_sub (by omega)) ?_
      refine mw_put (C := RX0) (T := TX0) (N := 12) hx hb hts inX0_takeUnit_X0 tyX0 tyX0_ok nmX0 hown hC hw mw_u0 rfl 7 (by decide) k_4 rfl rfl rfl (Nat.le_of_ble_eq_true rfl) dX0_takeUnit_35 (fun H locs hw => ?_)
      have hw : mw_St G _ s (va_up _ h0 (some (.inr (0, [.ref (li), .ref (me), .ref (so), .int (nI (fi)), .int (nI (bi)), .int (nI (sn)), .int (nI (tn)), .int (nI (er - 1)), .int (nI (un + 1)), .int (nI (b2n fl)), .int (nI (b2n al)), .int (nI (b2n ab))])))) H locs := hw
      have hlk : lk er un = er - 1 := by unfold lk; rw [if_pos (by omega)]
      refine lv_iload_n hx hb dX0_takeUnit_38 rfl (lv_at hl 2 rfl) ?_
      refine lv_if_eq (tgt := 73) hx hb dX0_takeUnit_39 (by decide) (fun c_23 => ?_) (fun c_23 => ?_)
      · skip
        have c_23 : ft_ = 0 := (nI_eq (a := ft_) (b := 0) (by omega) (by omega)).mp c_23
        refine lv_aload_n hx hb dX0_takeUnit_73 rfl (lv_at hl 0 rfl) ?_
        refine lv_aload_n hx hb dX0_takeUnit_74 rfl (lv_at hl 1 rfl) ?_
        refine mw_ci hC hw (va_runV (As := [.ref (hu)]) (rest := []) ⟨hx, hb, hml, hown, hts⟩ (c_X0_isAbnormal l G _ H.size h0 li me so fi bi sn tn (er - 1) (un + 1) fl al ab la sa mf mu ma mw hu ub c9 g mw_u0 (mw_u1 (Ne.symm m0_1) (mw_u1 (Ne.symm m0_1) e1)) (mw_u1 (Ne.symm m0_6) (mw_u1 (Ne.symm m0_6) e6)) (mw_u1 (Ne.symm m0_7) (mw_u1 (Ne.symm m0_7) e7)) (by omega) (by omega) (hg)) (cwV 1 hts gX0_takeUnit_X0_isAbnormal rfl rfl rfl (by decide +kernel) ⟨Nat.le_of_ble_eq_true rfl, Nat.le_of_ble_eq_true rfl⟩) (mw_preV (ci := 0) hC hw rfl mw_u0) rfl rfl hl.1 rfl (lv_room (Nat.le_of_ble_eq_true rfl)) dX0_takeUnit_75 ⟨Nat.le_of_ble_eq_true rfl, Nat.le_of_ble_eq_true rfl⟩) (fun H locs hz hw => ?_)
        refine mw_ti (v' := nI (0)) (by rw [decide_eq_false (Nat.not_lt.mpr hab)]; rfl) ?_
        refine lv_istore_n (lv' := [(3, .int (nI (0))), (0, .ref (h0)), (1, .ref (hu)), (2, .int (nI (ft_)))]) hx hb dX0_takeUnit_78 rfl hl (by decide) rfl (fun ls hl => ?_)
        refine lv_aload_n hx hb dX0_takeUnit_79 rfl (lv_at hl 1 rfl) ?_
        refine lv_iload_n hx hb dX0_takeUnit_80 rfl (lv_at hl 0 rfl) ?_
        refine lv_if_eq (tgt := 102) hx hb dX0_takeUnit_81 (by decide) (fun c_24 => ?_) (fun c_24 => ?_)
        · skip
          refine lv_iconst (v := nI 0) hx hb dX0_takeUnit_102 (by decide) ?_
          refine mw_put (C := RX0) (T := TX0) (N := 12) hx hb hts inX0_takeUnit_X0 tyX0 tyX0_ok nmX0 hown hC hw mw_u0 rfl 9 (by decide) k_1 rfl (by decide) rfl (Nat.le_of_ble_eq_true rfl) dX0_takeUnit_103 (fun H locs hw => ?_)
          have hw : mw_St G _ s (va_up _ h0 (some (.inr (0, [.ref (li), .ref (me), .ref (so), .int (nI (fi)), .int (nI (bi)), .int (nI (sn)), .int (nI (tn)), .int (nI (er - 1)), .int (nI (un + 1)), .int (nI (0)), .int (nI (b2n al)), .int (nI (b2n ab))])))) H locs := hw
          refine lv_aload_n hx hb dX0_takeUnit_106 rfl (lv_at hl 1 rfl) ?_
          refine lv_aload_n hx hb dX0_takeUnit_107 rfl (lv_at hl 1 rfl) ?_
          refine mw_get (C := RX0) (T := TX0) (N := 12) (v := .int (nI (b2n al))) hx hb hts inX0_takeUnit_X0 hown hC hw mw_u0 rfl 10 (by decide) k_2 rfl dX0_takeUnit_108 ?_
          refine mw_put (C := RX0) (T := TX0) (N := 12) hx hb hts inX0_takeUnit_X0 tyX0 tyX0_ok nmX0 hown hC hw mw_u0 rfl 11 (by decide) k_3 rfl (nar_b al) (fit_b al) (Nat.le_of_ble_eq_true rfl) dX0_takeUnit_111 (fun H locs hw => ?_)
          have hw : mw_St G _ s (va_up _ h0 (some (.inr (0, [.ref (li), .ref (me), .ref (so), .int (nI (fi)), .int (nI (bi)), .int (nI (sn)), .int (nI (tn)), .int (nI (er - 1)), .int (nI (un + 1)), .int (nI (0)), .int (nI (b2n al)), .int (nI (b2n al))])))) H locs := hw
          refine lv_aload_n hx hb dX0_takeUnit_114 rfl (lv_at hl 1 rfl) ?_
          refine lv_iload_n hx hb dX0_takeUnit_115 rfl (lv_at hl 0 rfl) ?_
          refine mw_put (C := RX0) (T := TX0) (N := 12) hx hb hts inX0_takeUnit_X0 tyX0 tyX0_ok nmX0 hown hC hw mw_u0 rfl 10 (by decide) k_2 rfl (by decide) rfl (Nat.le_of_ble_eq_true rfl) dX0_takeUnit_116 (fun H locs hw => ?_)
          have hw : mw_St G _ s (va_up _ h0 (some (.inr (0, [.ref (li), .ref (me), .ref (so), .int (nI (fi)), .int (nI (bi)), .int (nI (sn)), .int (nI (tn)), .int (nI (er - 1)), .int (nI (un + 1)), .int (nI (0)), .int (nI (0)), .int (nI (b2n al))])))) H locs := hw
          refine lv_iload_n hx hb dX0_takeUnit_119 rfl (lv_at hl 0 rfl) ?_
          refine lv_if_eq (tgt := 125) hx hb dX0_takeUnit_120 (by decide) (fun c_25 => ?_) (fun c_25 => ?_)
          · skip
            refine lv_aload_n hx hb dX0_takeUnit_125 rfl (lv_at hl 1 rfl) ?_
            refine lv_aload_n hx hb dX0_takeUnit_126 rfl (lv_at hl 2 rfl) ?_
            refine mw_cv hC hw (va_runV (As := [.ref (hu)]) (rest := []) ⟨hx, hb, hml, hown, hts⟩ (c_X0_takeBackward l G _ H.size h0 li me so fi bi sn tn (er - 1) (un + 1) false false al la sa mf mu ma mw lg hu ub c9 g mw_u0 (mw_u1 (Ne.symm m0_1) (mw_u1 (Ne.symm m0_1) (mw_u1 (Ne.symm m0_1) (mw_u1 (Ne.symm m0_1) (mw_u1 (Ne.symm m0_1) e1))))) (mw_u1 (Ne.symm m0_2) (mw_u1 (Ne.symm m0_2) (mw_u1 (Ne.symm m0_2) (mw_u1 (Ne.symm m0_2) (mw_u1 (Ne.symm m0_2) e2))))) (mw_u1 (Ne.symm m0_6) (mw_u1 (Ne.symm m0_6) (mw_u1 (Ne.symm m0_6) (mw_u1 (Ne.symm m0_6) (mw_u1 (Ne.symm m0_6) e6))))) (mw_u1 (Ne.symm m0_7) (mw_u1 (Ne.symm m0_7) (mw_u1 (Ne.symm m0_7) (mw_u1 (Ne.symm m0_7) (mw_u1 (Ne.symm m0_7) e7))))) (by omega) (by omega) (by omega) (by omega) (by omega) (hg) (hab)) (cwV 1 hts gX0_takeUnit_X0_takeBackward rfl rfl rfl (by decide +kernel) ⟨Nat.le_of_ble_eq_true rfl, Nat.le_of_ble_eq_true rfl⟩) (mw_preV (ci := 0) hC hw rfl mw_u0) rfl rfl hl.1 rfl (lv_room (Nat.le_of_ble_eq_true rfl)) dX0_takeUnit_127 ⟨Nat.le_of_ble_eq_true rfl, Nat.le_of_ble_eq_true rfl⟩) (fun H locs hz hw => ?_)
            refine lv_aload_n hx hb dX0_takeUnit_130 rfl (lv_at hl 1 rfl) ?_
            refine lv_aload_n hx hb dX0_takeUnit_131 rfl (lv_at hl 2 rfl) ?_
            refine mw_ci hC hw (va_runV (As := [.ref (hu)]) (rest := []) ⟨hx, hb, hml, hown, hts⟩ (c_X0_takeForward l G _ H.size h0 li me so (if g 0 / 128 = fi then fi else 1 - fi) bi sn tn (er - 1) (un + 1) false false al ba sl t bg ll hu ub c9 g (mw_u1 m0_1 mw_u0) (mw_u1 (Ne.symm m1_3) (mw_u1 (Ne.symm m0_3) (mw_u1 (Ne.symm m0_3) (mw_u1 (Ne.symm m0_3) (mw_u1 (Ne.symm m0_3) (mw_u1 (Ne.symm m0_3) (mw_u1 (Ne.symm m0_3) e3))))))) (mw_u1 (Ne.symm m1_4) (mw_u1 (Ne.symm m0_4) (mw_u1 (Ne.symm m0_4) (mw_u1 (Ne.symm m0_4) (mw_u1 (Ne.symm m0_4) (mw_u1 (Ne.symm m0_4) (mw_u1 (Ne.symm m0_4) e4))))))) (mw_u1 (Ne.symm m1_5) (mw_u1 (Ne.symm m0_5) (mw_u1 (Ne.symm m0_5) (mw_u1 (Ne.symm m0_5) (mw_u1 (Ne.symm m0_5) (mw_u1 (Ne.symm m0_5) (mw_u1 (Ne.symm m0_5) e5))))))) (mw_u1 (Ne.symm m1_6) (mw_u1 (Ne.symm m0_6) (mw_u1 (Ne.symm m0_6) (mw_u1 (Ne.symm m0_6) (mw_u1 (Ne.symm m0_6) (mw_u1 (Ne.symm m0_6) (mw_u1 (Ne.symm m0_6) e6))))))) (mw_u1 (Ne.symm m1_7) (mw_u1 (Ne.symm m0_7) (mw_u1 (Ne.symm m0_7) (mw_u1 (Ne.symm m0_7) (mw_u1 (Ne.symm m0_7) (mw_u1 (Ne.symm m0_7) (mw_u1 (Ne.symm m0_7) e7))))))) (by omega) (by omega) (hg) (by omega) (by omega) (by omega)) (cwV 1 hts gX0_takeUnit_X0_takeForward rfl rfl rfl (by decide +kernel) ⟨Nat.le_of_ble_eq_true rfl, Nat.le_of_ble_eq_true rfl⟩) (mw_preV (ci := 0) hC hw rfl (mw_u1 m0_1 mw_u0)) rfl rfl hl.1 rfl (lv_room (Nat.le_of_ble_eq_true rfl)) dX0_takeUnit_132 ⟨Nat.le_of_ble_eq_true rfl, Nat.le_of_ble_eq_true rfl⟩) (fun H locs hz hw => ?_)
            have hc_27 : (.inr (0, [.ref (li), .ref (me), .ref (so), .int (nI (if g 0 / 128 = fi then fi else 1 - fi)), .int (nI (if g 1 / 128 ≠ bi ∨ g 1 % 128 = tn then bi else if 5 < c9 ∧ g 1 % 128 = (tn + 1) % 128 then bi else 1 - bi)), .int (nI (sn)), .int (nI (if g 1 / 128 ≠ bi ∨ g 1 % 128 = tn then tn else if 5 < c9 ∧ g 1 % 128 = (tn + 1) % 128 then (tn + 1) % 128 else tn)), .int (nI (er - 1)), .int (nI (un + 1)), .int (nI (b2n false)), .int (nI (b2n false)), .int (nI (b2n al))]) : va_E) = .inr (0, [.ref (li), .ref (me), .ref (so), .int (nI (if g 0 / 128 = fi then fi else 1 - fi)), .int (nI (if g 1 / 128 ≠ bi ∨ g 1 % 128 = tn then bi else if 5 < c9 ∧ g 1 % 128 = (tn + 1) % 128 then bi else 1 - bi)), .int (nI (sn)), .int (nI (if g 1 / 128 ≠ bi ∨ g 1 % 128 = tn then tn else if 5 < c9 ∧ g 1 % 128 = (tn + 1) % 128 then (tn + 1) % 128 else tn)), .int (nI (lk er un)), .int (nI (un + 1)), .int (nI (0)), .int (nI (0)), .int (nI (b2n al))]) := by first | rfl | (rw [hlk]; try rfl)
            have hw : mw_St G (mw_A M s.heap.size) s (va_up (va_up (va_up (va_up (va_up M h0 (some (.inr (0, [.ref (li), .ref (me), .ref (so), .int (nI (if g 0 / 128 = fi then fi else 1 - fi)), .int (nI (if g 1 / 128 ≠ bi ∨ g 1 % 128 = tn then bi else if 5 < c9 ∧ g 1 % 128 = (tn + 1) % 128 then bi else 1 - bi)), .int (nI (sn)), .int (nI (if g 1 / 128 ≠ bi ∨ g 1 % 128 = tn then tn else if 5 < c9 ∧ g 1 % 128 = (tn + 1) % 128 then (tn + 1) % 128 else tn)), .int (nI (lk er un)), .int (nI (un + 1)), .int (nI (0)), .int (nI (0)), .int (nI (b2n al))])))) me (some (.inr (3, [.ref (la), .ref (sa), .int (nI ((mf + (g 0 % 128 + mu + 128 - sn) % 128) % 187)), .int (nI (mu - (g 0 % 128 + mu + 128 - sn) % 128)), .int (nI (if g 0 / 128 = fi then min ma (mu - (g 0 % 128 + mu + 128 - sn) % 128) else mu - (g 0 % 128 + mu + 128 - sn) % 128)), .int (nI (mw))])))) so (some (.inr (4, [.ref (ba), .ref (sl), .int (nI (if g 1 / 128 ≠ bi ∨ g 1 % 128 = tn then t else if 5 < c9 ∧ g 1 % 128 = (tn + 1) % 128 then t + 1 else t))])))) ba (some (.inl (G.2 0, 13600, .inl (fun j => sb_b ((if g 1 / 128 ≠ bi ∨ g 1 % 128 = tn then bg else if 5 < c9 ∧ g 1 % 128 = (tn + 1) % 128 then kee bg g (t % 50) (c9 - 5) else bg) j)))))) sl (some (.inl (G.2 1, 50, .inl (fun j => nI ((if g 1 / 128 ≠ bi ∨ g 1 % 128 = tn then ll else if 5 < c9 ∧ g 1 % 128 = (tn + 1) % 128 then va_up ll (t % 50) (c9 - 5) else ll) j)))))) H locs := hw.to (fun q8 x8 h8 => by
              by_cases b_28 : q8 = h0
              · rw [b_28] at h8 ⊢; exact (mw_u1 m0_5 (mw_u1 m0_4 (mw_u1 m0_3 mw_u0))).trans ((congrArg some hc_27).trans ((mw_u1 m0_5 (mw_u1 m0_4 (mw_u1 m0_3 (mw_u1 m0_1 mw_u0)))).symm.trans h8))
              by_cases b_29 : q8 = me
              · rw [b_29] at h8 ⊢; exact (mw_u1 m1_5 (mw_u1 m1_4 (mw_u1 m1_3 (mw_u1 (Ne.symm m0_1) mw_u0)))).trans (((mw_u1 m1_5 (mw_u1 m1_4 (mw_u1 m1_3 mw_u0))).symm.trans h8))
              by_cases b_30 : q8 = so
              · rw [b_30] at h8 ⊢; exact (mw_u1 m3_5 (mw_u1 m3_4 mw_u0)).trans (((mw_u1 m3_5 (mw_u1 m3_4 mw_u0)).symm.trans h8))
              by_cases b_31 : q8 = ba
              · rw [b_31] at h8 ⊢; exact (mw_u1 m4_5 mw_u0).trans (((mw_u1 m4_5 mw_u0).symm.trans h8))
              by_cases b_32 : q8 = sl
              · rw [b_32] at h8 ⊢; exact mw_u0.trans ((mw_u0.symm.trans h8))
              simp only [va_up_ne _ _ b_28, va_up_ne _ _ b_29, va_up_ne _ _ b_30, va_up_ne _ _ b_31, va_up_ne _ _ b_32] at h8 ⊢; exact h8)
            exact mw_iret hx hb hr hlocks hw (rfl) (fun _ _ h9 => h9) dX0_takeUnit_135
          · skip
            exact absurd c_25 (by decide)
        · skip
          exact absurd c_24 (by decide)
      · skip
        have c_23 : ft_ ≠ 0 := fun h => c_23 ((nI_eq (a := ft_) (b := 0) (by omega) (by omega)).mpr h)
        exfalso; omega
