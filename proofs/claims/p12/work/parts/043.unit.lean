/-! ===== LinkPair.Unit, writing ===== -/
theorem inX5_writeHead_X5 : ∀ w ∈ wsX50, w ∈ wsX5_writeHead := by decide +kernel
def RM_X5_writeHead : Room := { frames := 1, cells := 0, slots := 0, locals := 40 }
set_option maxHeartbeats 4000000 in
set_option maxRecDepth 100000 in
theorem c_X5_writeHead (l : Launch) (G : mw_G) (M : mw_M) (sz : Nat) (h0 ub n : Nat) (g : Nat → Nat) (b f ln : Nat) (e0 : M h0 = some (.inr (5, [.ref (ub), .int (nI (n))]))) (e1 : M ub = some (.inl (G.2 1, 277, .inl (fun j => nI (g j))))) (hln : ln ≤ 272)  : Met l yX5_writeHead wsX5_writeHead RM_X5_writeHead (mw_pre G M sz [.ref (h0), .int (nI (b)), .int (nI (f)), .int (nI (ln))]) (mw_Qv G M sz (va_up (va_up M h0 (some (.inr (5, [.ref (ub), .int (nI (5 + ln))])))) ub (some (.inl (G.2 1, 277, .inl (fun j => nI ((va_up (va_up (va_up g 0 b) 1 f) 2 (min ln 63)) j))))))) 0 0 (mw_A M sz) := by
  refine Met.ofW (cc := cX5_writeHead) (maxL := 4) (ret := none) (by decide) rfl ?_
  intro p e s m args below meth c s₁ B hml hv
  obtain ⟨rfl, rfl, hC, hw⟩ := mw_in hv
  have hx := B.exec
  have hb := B.bytes
  have hr := B.returns
  have hts := atoms_spec (ws := wsX5_writeHead) B.pre
  have hown : s.vm.findClass RX5 = some m.cls := findClass_of_methodNamed B.named
  have hlocks := B.notSynchronized
  have k_0 := hts (.fieldLink RX5 9 "LinkPair$Unit" "bytes" "[I") (by decide +kernel)
  have k_1 := hts (.methodLink RX5 19 Lib.Math.min.name) (by decide +kernel)
  have k_2 := hts (.static Lib.Math.min.name) (by decide +kernel)
  have k_3 := hts (.initialized "java/lang/Math") (by decide +kernel)
  have k_4 := hts (.code Lib.Math.min.name Lib.Math.min.code 2 (some .int)) (by decide +kernel)
  have k_5 := hts (.fieldLink RX5 15 "LinkPair$Unit" "count" "I") (by decide +kernel)
  have m0_1 : h0 ≠ ub := mw_ne e0 e1 (by intro h9; cases h9)
  have hl := lv_entry ([.ref (h0), .int (nI (b)), .int (nI (f)), .int (nI (ln))]) (n := 4) (Nat.le_of_ble_eq_true rfl)
  rw [lg_entry_eq]
  generalize (lg_sl ([.ref (h0), .int (nI (b)), .int (nI (f)), .int (nI (ln))]) ++ List.replicate (4 - (lg_sl ([.ref (h0), .int (nI (b)), .int (nI (f)), .int (nI (ln))])).length) Slot.unset).toArray = ls at hl ⊢
  have hl : lv_has ls 4 [(0, .ref (h0)), (1, .int (nI (b))), (2, .int (nI (f))), (3, .int (nI (ln)))] := hl
  refine mw_start (fun H locs hw => ?_) hw
  refine lv_aload_n hx hb dX5_writeHead_0 rfl (lv_at hl 0 rfl) ?_
  refine mw_get (C := RX5) (T := TX5) (N := 2) (v := .ref (ub)) hx hb hts inX5_writeHead_X5 hown hC hw e0 rfl 0 (by decide) k_0 rfl dX5_writeHead_1 ?_
  refine lv_iconst (v := nI 0) hx hb dX5_writeHead_4 (by decide) ?_
  refine lv_iload_n hx hb dX5_writeHead_5 rfl (lv_at hl 1 rfl) ?_
  refine mw_istM (n := 277) (g := g) (i := 0) hx hb hC hw e1 (by omega) (by decide) dX5_writeHead_6 (fun H locs hw => ?_)
  refine lv_aload_n hx hb dX5_writeHead_7 rfl (lv_at hl 0 rfl) ?_
  refine mw_get (C := RX5) (T := TX5) (N := 2) (v := .ref (ub)) hx hb hts inX5_writeHead_X5 hown hC hw (mw_u1 m0_1 e0) rfl 0 (by decide) k_0 rfl dX5_writeHead_8 ?_
  refine lv_iconst (v := nI 1) hx hb dX5_writeHead_11 (by decide) ?_
  refine lv_iload_n hx hb dX5_writeHead_12 rfl (lv_at hl 2 rfl) ?_
  refine mw_istM (n := 277) (g := va_up g 0 b) (i := 1) hx hb hC hw mw_u0 (by omega) (by decide) dX5_writeHead_13 (fun H locs hw => ?_)
  refine lv_aload_n hx hb dX5_writeHead_14 rfl (lv_at hl 0 rfl) ?_
  refine mw_get (C := RX5) (T := TX5) (N := 2) (v := .ref (ub)) hx hb hts inX5_writeHead_X5 hown hC hw (mw_u1 m0_1 (mw_u1 m0_1 e0)) rfl 0 (by decide) k_0 rfl dX5_writeHead_15 ?_
  refine lv_iconst (v := nI 2) hx hb dX5_writeHead_18 (by decide) ?_
  refine lv_iload_n hx hb dX5_writeHead_19 rfl (lv_at hl 3 rfl) ?_
  refine lv_bipush (v := nI 63) hx hb dX5_writeHead_20 (by decide) ?_
  refine va_mmin hx hb (hml.trans hl.1.symm) hown k_1 k_2 k_3 k_4 (Nat.le_of_ble_eq_true rfl) (Nat.le_of_ble_eq_true rfl) (Nat.zero_le _) (Nat.zero_le _) dX5_writeHead_22 ?_
  refine mw_ti (v' := nI (min ln 63)) (mw_min (by omega) (by omega)) ?_
  refine mw_istM (n := 277) (g := va_up (va_up g 0 b) 1 f) (i := 2) hx hb hC hw mw_u0 (by omega) (by decide) dX5_writeHead_25 (fun H locs hw => ?_)
  refine lv_aload_n hx hb dX5_writeHead_26 rfl (lv_at hl 0 rfl) ?_
  refine lv_iconst (v := nI 5) hx hb dX5_writeHead_27 (by decide) ?_
  refine lv_iload_n hx hb dX5_writeHead_28 rfl (lv_at hl 3 rfl) ?_
  refine lv_iadd hx hb dX5_writeHead_29 ?_
  refine mw_ti (v' := nI (5 + ln)) (nI_add _ _) ?_
  refine mw_put (C := RX5) (T := TX5) (N := 2) hx hb hts inX5_writeHead_X5 tyX5 tyX5_ok nmX5 hown hC hw (mw_u1 m0_1 (mw_u1 m0_1 (mw_u1 m0_1 e0))) rfl 1 (by decide) k_5 rfl rfl rfl (Nat.le_of_ble_eq_true rfl) dX5_writeHead_30 (fun H locs hw => ?_)
  have hw : mw_St G _ s (va_up _ h0 (some (.inr (5, [.ref (ub), .int (nI (5 + ln))])))) H locs := hw
  have hw : mw_St G (mw_A M s.heap.size) s (va_up (va_up M h0 (some (.inr (5, [.ref (ub), .int (nI (5 + ln))])))) ub (some (.inl (G.2 1, 277, .inl (fun j => nI ((va_up (va_up (va_up g 0 b) 1 f) 2 (min ln 63)) j)))))) H locs := hw.to (fun q8 x8 h8 => by
    by_cases b_2 : q8 = h0
    · rw [b_2] at h8 ⊢; exact mw_u0.trans (((mw_u1 m0_1 mw_u0).symm.trans h8))
    by_cases b_3 : q8 = ub
    · rw [b_3] at h8 ⊢; exact (mw_u1 (Ne.symm m0_1) mw_u0).trans ((mw_u0.symm.trans h8))
    simp only [va_up_ne _ _ b_2, va_up_ne _ _ b_3] at h8 ⊢; exact h8)
  exact mw_vret hx hb hr hlocks hw (fun _ _ h9 => h9) dX5_writeHead_33
theorem inX5_writeBody_X5 : ∀ w ∈ wsX50, w ∈ wsX5_writeBody := by decide +kernel
def RM_X5_writeBody : Room := { frames := 1, cells := 0, slots := 0, locals := 20 }
set_option maxHeartbeats 4000000 in
set_option maxRecDepth 100000 in
theorem c_X5_writeBody (l : Launch) (G : mw_G) (M : mw_M) (sz : Nat) (h0 ub n : Nat) (g : Nat → Nat) (se : Nat) (e0 : M h0 = some (.inr (5, [.ref (ub), .int (nI (n))]))) (e1 : M ub = some (.inl (G.2 1, 277, .inl (fun j => nI (g j))))) (hn : 5 ≤ n) (hn2 : n ≤ 277) (hs : se < 256)  : Met l yX5_writeBody wsX5_writeBody RM_X5_writeBody (mw_pre G M sz [.ref (h0), .int (nI (se))]) (mw_Qv G M sz (va_up M ub (some (.inl (G.2 1, 277, .inl (fun j => nI ((bod g se (n - 5)) j))))))) 0 0 (mw_A M sz) := by
  refine Met.ofW (cc := cX5_writeBody) (maxL := 3) (ret := none) (by decide) rfl ?_
  intro p e s m args below meth c s₁ B hml hv
  obtain ⟨rfl, rfl, hC, hw⟩ := mw_in hv
  have hx := B.exec
  have hb := B.bytes
  have hr := B.returns
  have hts := atoms_spec (ws := wsX5_writeBody) B.pre
  have hown : s.vm.findClass RX5 = some m.cls := findClass_of_methodNamed B.named
  have hlocks := B.notSynchronized
  have k_0 := hts (.fieldLink RX5 9 "LinkPair$Unit" "bytes" "[I") (by decide +kernel)
  have m0_1 : h0 ≠ ub := mw_ne e0 e1 (by intro h9; cases h9)
  have hl := lv_entry ([.ref (h0), .int (nI (se))]) (n := 3) (Nat.le_of_ble_eq_true rfl)
  rw [lg_entry_eq]
  generalize (lg_sl ([.ref (h0), .int (nI (se))]) ++ List.replicate (3 - (lg_sl ([.ref (h0), .int (nI (se))])).length) Slot.unset).toArray = ls at hl ⊢
  have hl : lv_has ls 3 [(0, .ref (h0)), (1, .int (nI (se)))] := hl
  refine mw_start (fun H locs hw => ?_) hw
  refine lv_iconst (v := nI 0) hx hb dX5_writeBody_0 (by decide) ?_
  refine lv_istore_n (lv' := [(2, .int (nI (0))), (0, .ref (h0)), (1, .int (nI (se)))]) hx hb dX5_writeBody_1 rfl hl (by decide) rfl (fun ls hl => ?_)
  have lp_1 : ∀ (n9 : Nat) (k : Nat), (hk : k ≤ n - 5) → n - 5 - k < n9 → ∀ (H : Heap) (locs : List Loc) (ls : Array Slot), mw_St G (mw_A M s.heap.size) s (va_up M ub (some (.inl (G.2 1, 277, .inl (fun j => nI ((bod g se k) j)))))) H locs → lv_has ls 3 [(0, .ref (h0)), (1, .int (nI (se))), (2, .int (nI (k)))] → W p l e (headSpec wsX5_writeBody RM_X5_writeBody).room s m ([.ref (h0), .int (nI (se))] : List Value).toArray below meth c H locs 0 0 (MQ below (mw_Qv G M s.heap.size (va_up M ub (some (.inl (G.2 1, 277, .inl (fun j => nI ((bod g se (n - 5)) j))))))) ([.ref (h0), .int (nI (se))] : List Value).toArray s 0 0 (mw_A M s.heap.size)) (F0 m 2 ls []) := by
    intro n9
    induction n9 with
    | zero => intro k hk h9; exact absurd h9 (Nat.not_lt_zero _)
    | succ n9 ih =>
      intro k hk h9 H locs ls hw hl
      refine lv_iload_n hx hb dX5_writeBody_2 rfl (lv_at hl 2 rfl) ?_
      refine lv_aload_n hx hb dX5_writeBody_3 rfl (lv_at hl 0 rfl) ?_
      refine mw_ci hC hw (va_runV (As := []) (rest := [.int (nI (k))]) ⟨hx, hb, hml, hown, hts⟩ (c_X5_bodyLength l G _ H.size h0 ub n (mw_u1 m0_1 e0) (by omega)) (cwV 0 hts gX5_writeBody_X5_bodyLength rfl rfl rfl (by decide +kernel) ⟨Nat.le_of_ble_eq_true rfl, Nat.le_of_ble_eq_true rfl⟩) (mw_preV (ci := 5) hC hw rfl (mw_u1 m0_1 e0)) rfl rfl hl.1 rfl (lv_room (Nat.le_of_ble_eq_true rfl)) dX5_writeBody_4 ⟨Nat.le_of_ble_eq_true rfl, Nat.le_of_ble_eq_true rfl⟩) (fun H locs hz hw => ?_)
      refine lv_icmp_ge (tgt := 39) hx hb dX5_writeBody_7 (by decide) (fun c_2 => ?_) (fun c_2 => ?_)
      · skip
        have c_2 : k ≥ n - 5 := (nI_leI (a := n - 5) (b := k) (by omega) (by omega)).mp c_2
        obtain rfl : k = n - 5 := by omega
        exact mw_vret hx hb hr hlocks hw (fun _ _ h9 => h9) dX5_writeBody_39
      · skip
        have c_2 : k < n - 5 := Nat.not_le.mp (fun h => c_2 ((nI_leI (a := n - 5) (b := k) (by omega) (by omega)).mpr h))
        refine lv_aload_n hx hb dX5_writeBody_10 rfl (lv_at hl 0 rfl) ?_
        refine mw_get (C := RX5) (T := TX5) (N := 2) (v := .ref (ub)) hx hb hts inX5_writeBody_X5 hown hC hw (mw_u1 m0_1 e0) rfl 0 (by decide) k_0 rfl dX5_writeBody_11 ?_
        refine lv_iconst (v := nI 3) hx hb dX5_writeBody_14 (by decide) ?_
        refine lv_iload_n hx hb dX5_writeBody_15 rfl (lv_at hl 2 rfl) ?_
        refine lv_iadd hx hb dX5_writeBody_16 ?_
        refine mw_ti (v' := nI (3 + k)) (nI_add _ _) ?_
        refine lv_iload_n hx hb dX5_writeBody_17 rfl (lv_at hl 1 rfl) ?_
        refine lv_bipush (v := nI 37) hx hb dX5_writeBody_18 (by decide) ?_
        refine lv_iload_n hx hb dX5_writeBody_20 rfl (lv_at hl 2 rfl) ?_
        refine lv_imul hx hb dX5_writeBody_21 ?_
        refine mw_ti (v' := nI (37 * k)) (pk_mul _ _) ?_
        refine lv_iadd hx hb dX5_writeBody_22 ?_
        refine mw_ti (v' := nI (se + 37 * k)) (nI_add _ _) ?_
        refine lv_iload_n hx hb dX5_writeBody_23 rfl (lv_at hl 2 rfl) ?_
        refine lv_bipush (v := nI 8) hx hb dX5_writeBody_24 (by decide) ?_
        refine lv_idiv hx hb dX5_writeBody_26 (by decide) ?_
        refine mw_ti (v' := nI (k / 8)) (pk_div (by omega) (by omega) (by omega)) ?_
        refine lv_iadd hx hb dX5_writeBody_27 ?_
        refine mw_ti (v' := nI (se + 37 * k + k / 8)) (nI_add _ _) ?_
        refine lv_sipush (v := nI 255) hx hb dX5_writeBody_28 (by decide) ?_
        refine lv_iand hx hb dX5_writeBody_31 ?_
        refine mw_ti (v' := nI ((se + 37 * k + k / 8) % 256)) (pk_andN (by omega) 8 (by decide)) ?_
        refine mw_istM (n := 277) (g := bod g se k) (i := 3 + k) hx hb hC hw mw_u0 (by omega) (by decide) dX5_writeBody_32 (fun H locs hw => ?_)
        refine lv_iinc (v := nI (k + 1)) (lv' := [(2, .int (nI (k + 1))), (0, .ref (h0)), (1, .int (nI (se)))]) hx hb dX5_writeBody_33 hl (k := 2) rfl (by rw [show Int32.ofInt 1 = nI 1 by decide]; exact nI_add _ _) (by decide) rfl (fun ls hl => ?_)
        refine lv_goto (tgt := 2) hx hb dX5_writeBody_36 (by decide) ?_
        have hc_4 : (.inl (G.2 1, 277, .inl (fun j => nI ((va_up (bod g se k) (3 + k) ((se + 37 * k + k / 8) % 256)) j))) : va_E) = .inl (G.2 1, 277, .inl (fun j => nI ((bod g se (k + 1)) j))) := by first | rfl | (congr 2; omega) | simp_all
        have hw : mw_St G (mw_A M s.heap.size) s (va_up M ub (some (.inl (G.2 1, 277, .inl (fun j => nI ((bod g se (k + 1)) j)))))) H locs := hw.to (fun q8 x8 h8 => by
          by_cases b_5 : q8 = ub
          · rw [b_5] at h8 ⊢; exact mw_u0.trans ((congrArg some hc_4).trans (mw_u0.symm.trans h8))
          simp only [va_up_ne _ _ b_5] at h8 ⊢; exact h8)
        exact ih (k + 1) (by omega) (by omega) _ _ ls hw (lv_sub hl [1, 2, 0] rfl)
  have hc_7 : (.inl (G.2 1, 277, .inl (fun j => nI (g j))) : va_E) = .inl (G.2 1, 277, .inl (fun j => nI ((bod g se 0) j))) := by first | rfl | (congr 2; omega) | simp_all
  have hw : mw_St G (mw_A M s.heap.size) s (va_up M ub (some (.inl (G.2 1, 277, .inl (fun j => nI ((bod g se 0) j)))))) H locs := hw.to (fun q8 x8 h8 => by
    by_cases b_8 : q8 = ub
    · rw [b_8] at h8 ⊢; exact e1.trans ((congrArg some hc_7).trans (mw_u0.symm.trans h8))
    simp only [va_up_ne _ _ b_8] at h8 ⊢; exact h8)
  exact lp_1 (n - 5 - 0 + 1) 0 (by omega) (Nat.lt_succ_self _) _ _ ls hw (lv_sub hl [1, 2, 0] rfl)
theorem inX5_checkDue_X5 : ∀ w ∈ wsX50, w ∈ wsX5_checkDue := by decide +kernel
def RM_X5_checkDue : Room := { frames := 1, cells := 0, slots := 0, locals := 24 }
set_option maxHeartbeats 4000000 in
set_option maxRecDepth 100000 in
theorem c_X5_checkDue (l : Launch) (G : mw_G) (M : mw_M) (sz : Nat) (h0 ub n : Nat) (g : Nat → Nat) (e0 : M h0 = some (.inr (5, [.ref (ub), .int (nI (n))]))) (e1 : M ub = some (.inl (G.2 1, 277, .inl (fun j => nI (g j))))) (hn : 5 ≤ n) (hn2 : n ≤ 277) (hg : ∀ i, i < 277 → g i < 256)  : Met l yX5_checkDue wsX5_checkDue RM_X5_checkDue (mw_pre G M sz [.ref (h0)]) (mw_Qi G M sz (nI (65535 - cdu g (n - 2))) M) 0 0 (mw_A M sz) := by
  refine Met.ofW (cc := cX5_checkDue) (maxL := 3) (ret := (some .int)) (by decide) rfl ?_
  intro p e s m args below meth c s₁ B hml hv
  obtain ⟨rfl, rfl, hC, hw⟩ := mw_in hv
  have hx := B.exec
  have hb := B.bytes
  have hr := B.returns
  have hts := atoms_spec (ws := wsX5_checkDue) B.pre
  have hown : s.vm.findClass RX5 = some m.cls := findClass_of_methodNamed B.named
  have hlocks := B.notSynchronized
  have k_0 := hts (.constant RX5 32 (65535)) (by decide +kernel)
  have k_1 := hts (.fieldLink RX5 15 "LinkPair$Unit" "count" "I") (by decide +kernel)
  have k_2 := hts (.fieldLink RX5 9 "LinkPair$Unit" "bytes" "[I") (by decide +kernel)
  have k_3 := hts (.initialized RX6) (by decide +kernel)
  have k_4 := hts (.static yX6_restBehind) (by decide +kernel)
  have hl := lv_entry ([.ref (h0)]) (n := 3) (Nat.le_of_ble_eq_true rfl)
  rw [lg_entry_eq]
  generalize (lg_sl ([.ref (h0)]) ++ List.replicate (3 - (lg_sl ([.ref (h0)])).length) Slot.unset).toArray = ls at hl ⊢
  have hl : lv_has ls 3 [(0, .ref (h0))] := hl
  refine mw_start (fun H locs hw => ?_) hw
  refine lv_ldc hx hb hown k_0 dX5_checkDue_0 ?_
  refine mw_ti (show (65535 : Int32) = nI 65535 by decide) ?_
  refine lv_istore_n (lv' := [(1, .int (nI (65535))), (0, .ref (h0))]) hx hb dX5_checkDue_2 rfl hl (by decide) rfl (fun ls hl => ?_)
  refine lv_iconst (v := nI 0) hx hb dX5_checkDue_3 (by decide) ?_
  refine lv_istore_n (lv' := [(2, .int (nI (0))), (1, .int (nI (65535))), (0, .ref (h0))]) hx hb dX5_checkDue_4 rfl hl (by decide) rfl (fun ls hl => ?_)
  have lp_1 : ∀ (n9 : Nat) (k : Nat), (hk : k ≤ n - 2) → n - 2 - k < n9 → ∀ (H : Heap) (locs : List Loc) (ls : Array Slot), mw_St G (mw_A M s.heap.size) s M H locs → lv_has ls 3 [(0, .ref (h0)), (1, .int (nI (cdu g k))), (2, .int (nI (k)))] → W p l e (headSpec wsX5_checkDue RM_X5_checkDue).room s m ([.ref (h0)] : List Value).toArray below meth c H locs 0 0 (MQ below (mw_Qi G M s.heap.size (nI (65535 - cdu g (n - 2))) M) ([.ref (h0)] : List Value).toArray s 0 0 (mw_A M s.heap.size)) (F0 m 5 ls []) := by
    intro n9
    induction n9 with
    | zero => intro k hk h9; exact absurd h9 (Nat.not_lt_zero _)
    | succ n9 ih =>
      intro k hk h9 H locs ls hw hl
      have hcd := cdu_lt g k
      refine lv_iload_n hx hb dX5_checkDue_5 rfl (lv_at hl 2 rfl) ?_
      refine lv_aload_n hx hb dX5_checkDue_6 rfl (lv_at hl 0 rfl) ?_
      refine mw_get (C := RX5) (T := TX5) (N := 2) (v := .int (nI (n))) hx hb hts inX5_checkDue_X5 hown hC hw e0 rfl 1 (by decide) k_1 rfl dX5_checkDue_7 ?_
      refine lv_iconst (v := nI 2) hx hb dX5_checkDue_10 (by decide) ?_
      refine lv_isub hx hb dX5_checkDue_11 ?_
      refine mw_ti (v' := nI (n - 2)) (pk_sub (by omega)) ?_
      refine lv_icmp_ge (tgt := 32) hx hb dX5_checkDue_12 (by decide) (fun c_2 => ?_) (fun c_2 => ?_)
      · skip
        have c_2 : k ≥ n - 2 := (nI_leI (a := n - 2) (b := k) (by omega) (by omega)).mp c_2
        obtain rfl : k = n - 2 := by omega
        refine lv_ldc hx hb hown k_0 dX5_checkDue_32 ?_
        refine mw_ti (show (65535 : Int32) = nI 65535 by decide) ?_
        refine lv_iload_n hx hb dX5_checkDue_34 rfl (lv_at hl 1 rfl) ?_
        refine lv_isub hx hb dX5_checkDue_35 ?_
        refine mw_ti (v' := nI (65535 - (cdu g (n - 2)))) (pk_sub (by omega)) ?_
        exact mw_iret hx hb hr hlocks hw (by first | rfl | simp_all | (congr 1; omega)) (fun _ _ h9 => h9) dX5_checkDue_36
      · skip
        have c_2 : k < n - 2 := Nat.not_le.mp (fun h => c_2 ((nI_leI (a := n - 2) (b := k) (by omega) (by omega)).mpr h))
        refine lv_iload_n hx hb dX5_checkDue_15 rfl (lv_at hl 1 rfl) ?_
        refine lv_aload_n hx hb dX5_checkDue_16 rfl (lv_at hl 0 rfl) ?_
        refine mw_get (C := RX5) (T := TX5) (N := 2) (v := .ref (ub)) hx hb hts inX5_checkDue_X5 hown hC hw e0 rfl 0 (by decide) k_2 rfl dX5_checkDue_17 ?_
        refine lv_iload_n hx hb dX5_checkDue_20 rfl (lv_at hl 2 rfl) ?_
        refine mw_ildM (n := 277) (g := g) (i := k) hx hb hC hw e1 (by omega) (by decide) dX5_checkDue_21 ?_
        have hgk := hg k (by omega)
        refine mw_ci hC hw (va_runSN (As := [.int (nI (cdu g k)), .int (nI (g (k)))]) (rest := []) ⟨hx, hb, hml, hown, hts⟩ (c_X6_restBehind l G _ H.size (cdu g k) (g (k))  (by omega) (by omega)) ⟨va_cnB 2 hts gX5_checkDue_X6_restBehind_n33 rfl rfl rfl (hC.1.2.2.1 (.methodLinkNest RX5 33 yX6_restBehind "LinkPair") (by decide +kernel)) k_3 (by decide +kernel) ⟨Nat.le_of_ble_eq_true rfl, Nat.le_of_ble_eq_true rfl⟩, k_4, trivial⟩ (mw_preS hC hw) rfl rfl hl.1 rfl (lv_room (Nat.le_of_ble_eq_true rfl)) dX5_checkDue_22 ⟨Nat.le_of_ble_eq_true rfl, Nat.le_of_ble_eq_true rfl⟩) (fun H locs hz hw => ?_)
        refine lv_istore_n (lv' := [(1, .int (nI (rst (cdu g k) (g (k)) 8))), (0, .ref (h0)), (2, .int (nI (k)))]) hx hb dX5_checkDue_25 rfl hl (by decide) rfl (fun ls hl => ?_)
        refine lv_iinc (v := nI (k + 1)) (lv' := [(2, .int (nI (k + 1))), (1, .int (nI (rst (cdu g k) (g (k)) 8))), (0, .ref (h0))]) hx hb dX5_checkDue_26 hl (k := 2) rfl (by rw [show Int32.ofInt 1 = nI 1 by decide]; exact nI_add _ _) (by decide) rfl (fun ls hl => ?_)
        refine lv_goto (tgt := 5) hx hb dX5_checkDue_29 (by decide) ?_
        have hv_3 : (.int (nI (rst (cdu g k) (g (k)) 8)) : Value) = .int (nI (cdu g (k + 1))) := by first | rfl | simp_all
        rw [hv_3] at hl
        exact ih (k + 1) (by omega) (by omega) _ _ ls hw (lv_sub hl [2, 1, 0] rfl)
  exact lp_1 (n - 2 - 0 + 1) 0 (by omega) (Nat.lt_succ_self _) _ _ ls hw (lv_sub hl [2, 1, 0] rfl)
theorem inX5_writeCheck_X5 : ∀ w ∈ wsX50, w ∈ wsX5_writeCheck := by decide +kernel
def RM_X5_writeCheck : Room := { frames := 2, cells := 0, slots := 0, locals := 46 }
set_option maxHeartbeats 4000000 in
set_option maxRecDepth 100000 in
theorem c_X5_writeCheck (l : Launch) (G : mw_G) (M : mw_M) (sz : Nat) (h0 ub n : Nat) (g : Nat → Nat) (e0 : M h0 = some (.inr (5, [.ref (ub), .int (nI (n))]))) (e1 : M ub = some (.inl (G.2 1, 277, .inl (fun j => nI (g j))))) (hn : 5 ≤ n) (hn2 : n ≤ 277) (hg : ∀ i, i < 277 → g i < 256)  : Met l yX5_writeCheck wsX5_writeCheck RM_X5_writeCheck (mw_pre G M sz [.ref (h0)]) (mw_Qv G M sz (va_up M ub (some (.inl (G.2 1, 277, .inl (fun j => nI ((va_up (va_up g (n - 2) ((65535 - cdu g (n - 2)) % 256)) (n - 1) ((65535 - cdu g (n - 2)) / 256)) j))))))) 0 0 (mw_A M sz) := by
  refine Met.ofW (cc := cX5_writeCheck) (maxL := 2) (ret := none) (by decide) rfl ?_
  intro p e s m args below meth c s₁ B hml hv
  obtain ⟨rfl, rfl, hC, hw⟩ := mw_in hv
  have hx := B.exec
  have hb := B.bytes
  have hr := B.returns
  have hts := atoms_spec (ws := wsX5_writeCheck) B.pre
  have hown : s.vm.findClass RX5 = some m.cls := findClass_of_methodNamed B.named
  have hlocks := B.notSynchronized
  have k_0 := hts (.fieldLink RX5 9 "LinkPair$Unit" "bytes" "[I") (by decide +kernel)
  have k_1 := hts (.fieldLink RX5 15 "LinkPair$Unit" "count" "I") (by decide +kernel)
  have m0_1 : h0 ≠ ub := mw_ne e0 e1 (by intro h9; cases h9)
  have hl := lv_entry ([.ref (h0)]) (n := 2) (Nat.le_of_ble_eq_true rfl)
  rw [lg_entry_eq]
  generalize (lg_sl ([.ref (h0)]) ++ List.replicate (2 - (lg_sl ([.ref (h0)])).length) Slot.unset).toArray = ls at hl ⊢
  have hl : lv_has ls 2 [(0, .ref (h0))] := hl
  refine mw_start (fun H locs hw => ?_) hw
  have hcd := cdu_lt g (n - 2)
  refine lv_aload_n hx hb dX5_writeCheck_0 rfl (lv_at hl 0 rfl) ?_
  refine mw_ci hC hw (va_runV (As := []) (rest := []) ⟨hx, hb, hml, hown, hts⟩ (c_X5_checkDue l G _ H.size h0 ub n g e0 e1 (by omega) (by omega) (hg)) (cwV 0 hts gX5_writeCheck_X5_checkDue rfl rfl rfl (by decide +kernel) ⟨Nat.le_of_ble_eq_true rfl, Nat.le_of_ble_eq_true rfl⟩) (mw_preV (ci := 5) hC hw rfl e0) rfl rfl hl.1 rfl (lv_room (Nat.le_of_ble_eq_true rfl)) dX5_writeCheck_1 ⟨Nat.le_of_ble_eq_true rfl, Nat.le_of_ble_eq_true rfl⟩) (fun H locs hz hw => ?_)
  refine lv_istore_n (lv' := [(1, .int (nI (65535 - cdu g (n - 2)))), (0, .ref (h0))]) hx hb dX5_writeCheck_4 rfl hl (by decide) rfl (fun ls hl => ?_)
  refine lv_aload_n hx hb dX5_writeCheck_5 rfl (lv_at hl 1 rfl) ?_
  refine mw_get (C := RX5) (T := TX5) (N := 2) (v := .ref (ub)) hx hb hts inX5_writeCheck_X5 hown hC hw e0 rfl 0 (by decide) k_0 rfl dX5_writeCheck_6 ?_
  refine lv_aload_n hx hb dX5_writeCheck_9 rfl (lv_at hl 1 rfl) ?_
  refine mw_get (C := RX5) (T := TX5) (N := 2) (v := .int (nI (n))) hx hb hts inX5_writeCheck_X5 hown hC hw e0 rfl 1 (by decide) k_1 rfl dX5_writeCheck_10 ?_
  refine lv_iconst (v := nI 2) hx hb dX5_writeCheck_13 (by decide) ?_
  refine lv_isub hx hb dX5_writeCheck_14 ?_
  refine mw_ti (v' := nI (n - 2)) (pk_sub (by omega)) ?_
  refine lv_iload_n hx hb dX5_writeCheck_15 rfl (lv_at hl 0 rfl) ?_
  refine lv_sipush (v := nI 255) hx hb dX5_writeCheck_16 (by decide) ?_
  refine lv_iand hx hb dX5_writeCheck_19 ?_
  refine mw_ti (v' := nI ((65535 - cdu g (n - 2)) % 256)) (pk_andN (by omega) 8 (by decide)) ?_
  refine mw_istM (n := 277) (g := g) (i := n - 2) hx hb hC hw e1 (by omega) (by decide) dX5_writeCheck_20 (fun H locs hw => ?_)
  refine lv_aload_n hx hb dX5_writeCheck_21 rfl (lv_at hl 1 rfl) ?_
  refine mw_get (C := RX5) (T := TX5) (N := 2) (v := .ref (ub)) hx hb hts inX5_writeCheck_X5 hown hC hw (mw_u1 m0_1 e0) rfl 0 (by decide) k_0 rfl dX5_writeCheck_22 ?_
  refine lv_aload_n hx hb dX5_writeCheck_25 rfl (lv_at hl 1 rfl) ?_
  refine mw_get (C := RX5) (T := TX5) (N := 2) (v := .int (nI (n))) hx hb hts inX5_writeCheck_X5 hown hC hw (mw_u1 m0_1 e0) rfl 1 (by decide) k_1 rfl dX5_writeCheck_26 ?_
  refine lv_iconst (v := nI 1) hx hb dX5_writeCheck_29 (by decide) ?_
  refine lv_isub hx hb dX5_writeCheck_30 ?_
  refine mw_ti (v' := nI (n - 1)) (pk_sub (by omega)) ?_
  refine lv_iload_n hx hb dX5_writeCheck_31 rfl (lv_at hl 0 rfl) ?_
  refine lv_bipush (v := nI 8) hx hb dX5_writeCheck_32 (by decide) ?_
  refine lv_ishr hx hb dX5_writeCheck_34 ?_
  refine mw_ti (v' := nI ((65535 - cdu g (n - 2)) / 256)) (pk_shrN (by omega) _ 8 (by decide)) ?_
  refine mw_istM (n := 277) (g := va_up g (n - 2) ((65535 - cdu g (n - 2)) % 256)) (i := n - 1) hx hb hC hw mw_u0 (by omega) (by decide) dX5_writeCheck_35 (fun H locs hw => ?_)
  have hw : mw_St G (mw_A M s.heap.size) s (va_up M ub (some (.inl (G.2 1, 277, .inl (fun j => nI ((va_up (va_up g (n - 2) ((65535 - cdu g (n - 2)) % 256)) (n - 1) ((65535 - cdu g (n - 2)) / 256)) j)))))) H locs := hw.to (fun q8 x8 h8 => by
    by_cases b_2 : q8 = ub
    · rw [b_2] at h8 ⊢; exact mw_u0.trans ((mw_u0.symm.trans h8))
    simp only [va_up_ne _ _ b_2] at h8 ⊢; exact h8)
  exact mw_vret hx hb hr hlocks hw (fun _ _ h9 => h9) dX5_writeCheck_36
