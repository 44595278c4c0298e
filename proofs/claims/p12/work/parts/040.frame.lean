/-! ===== LinkPair.Frame ===== -/
theorem inX1_valueAt_X1 : ∀ w ∈ wsX10, w ∈ wsX1_valueAt := by decide +kernel
def RM_X1_valueAt : Room := { frames := 0, cells := 0, slots := 0, locals := 0 }
set_option maxHeartbeats 4000000 in
set_option maxRecDepth 100000 in
/-- valueAt(i): bit i -/
theorem c_X1_valueAt (l : Launch) (G : mw_G) (M : mw_M) (sz : Nat) (h0 w n : Nat) (f : Nat → Int64) (i : Nat) (e0 : M h0 = some (.inr (1, [.ref (w), .int (nI (n))]))) (e1 : M w = some (.inl (G.2 2, 47, .inr (.inl (f))))) (hi : i < 3008)  : Met l yX1_valueAt wsX1_valueAt RM_X1_valueAt (mw_pre G M sz [.ref (h0), .int (nI (i))]) (mw_Qi G M sz (nI (fb f i)) M) 0 0 (mw_A M sz) := by
  refine Met.ofW (cc := cX1_valueAt) (maxL := 2) (ret := (some .int)) (by decide) rfl ?_
  intro p e s m args below meth c s₁ B hml hv
  obtain ⟨rfl, rfl, hC, hw⟩ := mw_in hv
  have hx := B.exec
  have hb := B.bytes
  have hr := B.returns
  have hts := atoms_spec (ws := wsX1_valueAt) B.pre
  have hown : s.vm.findClass RX1 = some m.cls := findClass_of_methodNamed B.named
  have hlocks := B.notSynchronized
  have k_0 := hts (.fieldLink RX1 9 "LinkPair$Frame" "words" "[J") (by decide +kernel)
  have hl := lv_entry ([.ref (h0), .int (nI (i))]) (n := 2) (Nat.le_of_ble_eq_true rfl)
  rw [lg_entry_eq]
  generalize (lg_sl ([.ref (h0), .int (nI (i))]) ++ List.replicate (2 - (lg_sl ([.ref (h0), .int (nI (i))])).length) Slot.unset).toArray = ls at hl ⊢
  have hl : lv_has ls 2 [(0, .ref (h0)), (1, .int (nI (i)))] := hl
  refine mw_start (fun H locs hw => ?_) hw
  refine lv_aload_n hx hb dX1_valueAt_0 rfl (lv_at hl 0 rfl) ?_
  refine mw_get (C := RX1) (T := TX1) (N := 2) (v := .ref (w)) hx hb hts inX1_valueAt_X1 hown hC hw e0 rfl 0 (by decide) k_0 rfl dX1_valueAt_1 ?_
  refine lv_iload_n hx hb dX1_valueAt_4 rfl (lv_at hl 1 rfl) ?_
  refine lv_bipush (v := nI 64) hx hb dX1_valueAt_5 (by decide) ?_
  refine lv_idiv hx hb dX1_valueAt_7 (by decide) ?_
  refine mw_ti (v' := nI (i / 64)) (pk_div (by omega) (by omega) (by omega)) ?_
  refine mw_laldN (n := 47) (f := f) (i := i / 64) hx hb hC hw e1 (by omega) (by decide) dX1_valueAt_8 ?_
  refine lv_iload_n hx hb dX1_valueAt_9 rfl (lv_at hl 1 rfl) ?_
  refine lv_bipush (v := nI 64) hx hb dX1_valueAt_10 (by decide) ?_
  refine lv_irem hx hb dX1_valueAt_12 (by decide) ?_
  refine mw_ti (v' := nI (i % 64)) (pk_rem (by omega) (by omega) (by omega)) ?_
  refine lv_lushr hx hb dX1_valueAt_13 rfl ?_
  refine lv_l2i hx hb dX1_valueAt_14 rfl ?_
  refine lv_iconst (v := nI 1) hx hb dX1_valueAt_15 (by decide) ?_
  refine lv_iand hx hb dX1_valueAt_16 ?_
  refine mw_ti (v' := nI (fb f i)) (fb_val f i) ?_
  exact mw_iret hx hb hr hlocks hw (rfl) (fun _ _ h9 => h9) dX1_valueAt_17
theorem inX1_turn_X1 : ∀ w ∈ wsX10, w ∈ wsX1_turn := by decide +kernel
def RM_X1_turn : Room := { frames := 0, cells := 0, slots := 0, locals := 0 }
set_option maxHeartbeats 4000000 in
set_option maxRecDepth 100000 in
/-- turn(i): bit i turns -/
theorem c_X1_turn (l : Launch) (G : mw_G) (M : mw_M) (sz : Nat) (h0 w n : Nat) (f : Nat → Int64) (i : Nat) (e0 : M h0 = some (.inr (1, [.ref (w), .int (nI (n))]))) (e1 : M w = some (.inl (G.2 2, 47, .inr (.inl (f))))) (hi : i < 3008)  : Met l yX1_turn wsX1_turn RM_X1_turn (mw_pre G M sz [.ref (h0), .int (nI (i))]) (mw_Qv G M sz (va_up M w (some (.inl (G.2 2, 47, .inr (.inl (ft f i))))))) 0 0 (mw_A M sz) := by
  refine Met.ofW (cc := cX1_turn) (maxL := 2) (ret := none) (by decide) rfl ?_
  intro p e s m args below meth c s₁ B hml hv
  obtain ⟨rfl, rfl, hC, hw⟩ := mw_in hv
  have hx := B.exec
  have hb := B.bytes
  have hr := B.returns
  have hts := atoms_spec (ws := wsX1_turn) B.pre
  have hown : s.vm.findClass RX1 = some m.cls := findClass_of_methodNamed B.named
  have hlocks := B.notSynchronized
  have k_0 := hts (.fieldLink RX1 9 "LinkPair$Frame" "words" "[J") (by decide +kernel)
  have hl := lv_entry ([.ref (h0), .int (nI (i))]) (n := 2) (Nat.le_of_ble_eq_true rfl)
  rw [lg_entry_eq]
  generalize (lg_sl ([.ref (h0), .int (nI (i))]) ++ List.replicate (2 - (lg_sl ([.ref (h0), .int (nI (i))])).length) Slot.unset).toArray = ls at hl ⊢
  have hl : lv_has ls 2 [(0, .ref (h0)), (1, .int (nI (i)))] := hl
  refine mw_start (fun H locs hw => ?_) hw
  refine lv_aload_n hx hb dX1_turn_0 rfl (lv_at hl 0 rfl) ?_
  refine mw_get (C := RX1) (T := TX1) (N := 2) (v := .ref (w)) hx hb hts inX1_turn_X1 hown hC hw e0 rfl 0 (by decide) k_0 rfl dX1_turn_1 ?_
  refine lv_iload_n hx hb dX1_turn_4 rfl (lv_at hl 1 rfl) ?_
  refine lv_bipush (v := nI 64) hx hb dX1_turn_5 (by decide) ?_
  refine lv_idiv hx hb dX1_turn_7 (by decide) ?_
  refine mw_ti (v' := nI (i / 64)) (pk_div (by omega) (by omega) (by omega)) ?_
  refine lv_dup2_11 hx hb dX1_turn_8 rfl rfl ?_
  refine mw_laldN (n := 47) (f := f) (i := i / 64) hx hb hC hw e1 (by omega) (by decide) dX1_turn_9 ?_
  refine lv_lconst (v := 1) hx hb dX1_turn_10 (by decide) ?_
  refine lv_iload_n hx hb dX1_turn_11 rfl (lv_at hl 1 rfl) ?_
  refine lv_bipush (v := nI 64) hx hb dX1_turn_12 (by decide) ?_
  refine lv_irem hx hb dX1_turn_14 (by decide) ?_
  refine mw_ti (v' := nI (i % 64)) (pk_rem (by omega) (by omega) (by omega)) ?_
  refine lv_lshl hx hb dX1_turn_15 rfl ?_
  refine lv_lxor hx hb dX1_turn_16 ?_
  refine mw_lastN (n := 47) (f := f) (i := i / 64) hx hb hC hw e1 (by omega) (by decide) dX1_turn_17 (fun H locs hw => ?_)
  have hc_2 : (.inl (G.2 2, 47, .inr (.inl (vp_updL (f) (i / 64) ((f (i / 64)) ^^^ ((1) <<< ((nI (i % 64)).toInt64 &&& 63)))))) : va_E) = .inl (G.2 2, 47, .inr (.inl (ft f i))) := by first | rfl | (congr 2; omega) | simp_all
  have hw : mw_St G (mw_A M s.heap.size) s (va_up M w (some (.inl (G.2 2, 47, .inr (.inl (ft f i)))))) H locs := hw.to (fun q8 x8 h8 => by
    by_cases b_3 : q8 = w
    · rw [b_3] at h8 ⊢; exact mw_u0.trans ((congrArg some hc_2).trans (mw_u0.symm.trans h8))
    simp only [va_up_ne _ _ b_3] at h8 ⊢; exact h8)
  exact mw_vret hx hb hr hlocks hw (fun _ _ h9 => h9) dX1_turn_18
theorem inX1_add_X1 : ∀ w ∈ wsX10, w ∈ wsX1_add := by decide +kernel
def RM_X1_add : Room := { frames := 1, cells := 0, slots := 0, locals := 21 }
set_option maxHeartbeats 4000000 in
set_option maxRecDepth 100000 in
/-- add(v): the bit v comes behind the last -/
theorem c_X1_add (l : Launch) (G : mw_G) (M : mw_M) (sz : Nat) (h0 w n : Nat) (f : Nat → Int64) (v : Nat) (e0 : M h0 = some (.inr (1, [.ref (w), .int (nI (n))]))) (e1 : M w = some (.inl (G.2 2, 47, .inr (.inl (f))))) (hn : n < 3008) (hv : v ≤ 1)  : Met l yX1_add wsX1_add RM_X1_add (mw_pre G M sz [.ref (h0), .int (nI (v))]) (mw_Qv G M sz (va_up (va_up M h0 (some (.inr (1, [.ref (w), .int (nI (n + 1))])))) w (some (.inl (G.2 2, 47, .inr (.inl (fadd f n v))))))) 0 0 (mw_A M sz) := by
  refine Met.ofW (cc := cX1_add) (maxL := 2) (ret := none) (by decide) rfl ?_
  intro p e s m args below meth c s₁ B hml hv
  obtain ⟨rfl, rfl, hC, hw⟩ := mw_in hv
  have hx := B.exec
  have hb := B.bytes
  have hr := B.returns
  have hts := atoms_spec (ws := wsX1_add) B.pre
  have hown : s.vm.findClass RX1 = some m.cls := findClass_of_methodNamed B.named
  have hlocks := B.notSynchronized
  have k_0 := hts (.fieldLink RX1 15 "LinkPair$Frame" "length" "I") (by decide +kernel)
  have m0_1 : h0 ≠ w := mw_ne e0 e1 (by intro h9; cases h9)
  have hl := lv_entry ([.ref (h0), .int (nI (v))]) (n := 2) (Nat.le_of_ble_eq_true rfl)
  rw [lg_entry_eq]
  generalize (lg_sl ([.ref (h0), .int (nI (v))]) ++ List.replicate (2 - (lg_sl ([.ref (h0), .int (nI (v))])).length) Slot.unset).toArray = ls at hl ⊢
  have hl : lv_has ls 2 [(0, .ref (h0)), (1, .int (nI (v)))] := hl
  refine mw_start (fun H locs hw => ?_) hw
  have hfb := fb_le f n
  refine lv_aload_n hx hb dX1_add_0 rfl (lv_at hl 0 rfl) ?_
  refine lv_dup hx hb dX1_add_1 rfl ?_
  refine mw_get (C := RX1) (T := TX1) (N := 2) (v := .int (nI (n))) hx hb hts inX1_add_X1 hown hC hw e0 rfl 1 (by decide) k_0 rfl dX1_add_2 ?_
  refine lv_iconst (v := nI 1) hx hb dX1_add_5 (by decide) ?_
  refine lv_iadd hx hb dX1_add_6 ?_
  refine mw_ti (v' := nI (n + 1)) (nI_add _ _) ?_
  refine mw_put (C := RX1) (T := TX1) (N := 2) hx hb hts inX1_add_X1 tyX1 tyX1_ok nmX1 hown hC hw e0 rfl 1 (by decide) k_0 rfl rfl rfl (Nat.le_of_ble_eq_true rfl) dX1_add_7 (fun H locs hw => ?_)
  have hw : mw_St G _ s (va_up _ h0 (some (.inr (1, [.ref (w), .int (nI (n + 1))])))) H locs := hw
  refine lv_aload_n hx hb dX1_add_10 rfl (lv_at hl 0 rfl) ?_
  refine lv_aload_n hx hb dX1_add_11 rfl (lv_at hl 0 rfl) ?_
  refine mw_get (C := RX1) (T := TX1) (N := 2) (v := .int (nI (n + 1))) hx hb hts inX1_add_X1 hown hC hw mw_u0 rfl 1 (by decide) k_0 rfl dX1_add_12 ?_
  refine lv_iconst (v := nI 1) hx hb dX1_add_15 (by decide) ?_
  refine lv_isub hx hb dX1_add_16 ?_
  refine mw_ti (v' := nI (n)) ((pk_sub (by omega)).trans (congrArg nI (by omega))) ?_
  refine mw_ci hC hw (va_runV (As := [.int (nI (n))]) (rest := []) ⟨hx, hb, hml, hown, hts⟩ (c_X1_valueAt l G _ H.size h0 w (n + 1) f n mw_u0 (mw_u1 (Ne.symm m0_1) e1) (by omega)) (cwV 1 hts gX1_add_X1_valueAt rfl rfl rfl (by decide +kernel) ⟨Nat.le_of_ble_eq_true rfl, Nat.le_of_ble_eq_true rfl⟩) (mw_preV (ci := 1) hC hw rfl mw_u0) rfl rfl hl.1 rfl (lv_room (Nat.le_of_ble_eq_true rfl)) dX1_add_17 ⟨Nat.le_of_ble_eq_true rfl, Nat.le_of_ble_eq_true rfl⟩) (fun H locs hz hw => ?_)
  refine lv_iload_n hx hb dX1_add_20 rfl (lv_at hl 1 rfl) ?_
  refine lv_icmp_eq (tgt := 34) hx hb dX1_add_21 (by decide) (fun c_1 => ?_) (fun c_1 => ?_)
  · skip
    have c_1 : fb f n = v := (nI_eq (a := fb f n) (b := v) (by omega) (by omega)).mp c_1
    have hc_3 : (.inl (G.2 2, 47, .inr (.inl (f))) : va_E) = .inl (G.2 2, 47, .inr (.inl (fadd f n v))) := by first | (rw [fadd, if_pos (by assumption)]; done) | (rw [fadd, if_neg (by assumption)])
    have hw : mw_St G (mw_A M s.heap.size) s (va_up (va_up M h0 (some (.inr (1, [.ref (w), .int (nI (n + 1))])))) w (some (.inl (G.2 2, 47, .inr (.inl (fadd f n v)))))) H locs := hw.to (fun q8 x8 h8 => by
      by_cases b_4 : q8 = h0
      · rw [b_4] at h8 ⊢; exact mw_u0.trans (((mw_u1 m0_1 mw_u0).symm.trans h8))
      by_cases b_5 : q8 = w
      · rw [b_5] at h8 ⊢; exact (mw_u1 (Ne.symm m0_1) e1).trans ((congrArg some hc_3).trans (mw_u0.symm.trans h8))
      simp only [va_up_ne _ _ b_4, va_up_ne _ _ b_5] at h8 ⊢; exact h8)
    exact mw_vret hx hb hr hlocks hw (fun _ _ h9 => h9) dX1_add_34
  · skip
    have c_1 : fb f n ≠ v := fun h => c_1 ((nI_eq (a := fb f n) (b := v) (by omega) (by omega)).mpr h)
    refine lv_aload_n hx hb dX1_add_24 rfl (lv_at hl 0 rfl) ?_
    refine lv_aload_n hx hb dX1_add_25 rfl (lv_at hl 0 rfl) ?_
    refine mw_get (C := RX1) (T := TX1) (N := 2) (v := .int (nI (n + 1))) hx hb hts inX1_add_X1 hown hC hw mw_u0 rfl 1 (by decide) k_0 rfl dX1_add_26 ?_
    refine lv_iconst (v := nI 1) hx hb dX1_add_29 (by decide) ?_
    refine lv_isub hx hb dX1_add_30 ?_
    refine mw_ti (v' := nI (n)) ((pk_sub (by omega)).trans (congrArg nI (by omega))) ?_
    refine mw_cv hC hw (va_runV (As := [.int (nI (n))]) (rest := []) ⟨hx, hb, hml, hown, hts⟩ (c_X1_turn l G _ H.size h0 w (n + 1) f n mw_u0 (mw_u1 (Ne.symm m0_1) e1) (by omega)) (cwV 1 hts gX1_add_X1_turn rfl rfl rfl (by decide +kernel) ⟨Nat.le_of_ble_eq_true rfl, Nat.le_of_ble_eq_true rfl⟩) (mw_preV (ci := 1) hC hw rfl mw_u0) rfl rfl hl.1 rfl (lv_room (Nat.le_of_ble_eq_true rfl)) dX1_add_31 ⟨Nat.le_of_ble_eq_true rfl, Nat.le_of_ble_eq_true rfl⟩) (fun H locs hz hw => ?_)
    have hc_7 : (.inl (G.2 2, 47, .inr (.inl (ft f n))) : va_E) = .inl (G.2 2, 47, .inr (.inl (fadd f n v))) := by first | (rw [fadd, if_pos (by assumption)]; done) | (rw [fadd, if_neg (by assumption)])
    have hw : mw_St G (mw_A M s.heap.size) s (va_up (va_up M h0 (some (.inr (1, [.ref (w), .int (nI (n + 1))])))) w (some (.inl (G.2 2, 47, .inr (.inl (fadd f n v)))))) H locs := hw.to (fun q8 x8 h8 => by
      by_cases b_8 : q8 = h0
      · rw [b_8] at h8 ⊢; exact (mw_u1 m0_1 mw_u0).trans (((mw_u1 m0_1 mw_u0).symm.trans h8))
      by_cases b_9 : q8 = w
      · rw [b_9] at h8 ⊢; exact mw_u0.trans ((congrArg some hc_7).trans (mw_u0.symm.trans h8))
      simp only [va_up_ne _ _ b_8, va_up_ne _ _ b_9] at h8 ⊢; exact h8)
    exact mw_vret hx hb hr hlocks hw (fun _ _ h9 => h9) dX1_add_34
def RM_X1_addFlag : Room := { frames := 2, cells := 0, slots := 0, locals := 42 }
set_option maxHeartbeats 4000000 in
set_option maxRecDepth 100000 in
/-- addFlag(): eight bits come -/
theorem c_X1_addFlag (l : Launch) (G : mw_G) (M : mw_M) (sz : Nat) (h0 w n : Nat) (f : Nat → Int64) (e0 : M h0 = some (.inr (1, [.ref (w), .int (nI (n))]))) (e1 : M w = some (.inl (G.2 2, 47, .inr (.inl (f))))) (hn : n + 8 < 3008)  : Met l yX1_addFlag wsX1_addFlag RM_X1_addFlag (mw_pre G M sz [.ref (h0)]) (mw_Qv G M sz (va_up (va_up M h0 (some (.inr (1, [.ref (w), .int (nI (n + 8))])))) w (some (.inl (G.2 2, 47, .inr (.inl (ffl f n 8))))))) 0 0 (mw_A M sz) := by
  refine Met.ofW (cc := cX1_addFlag) (maxL := 2) (ret := none) (by decide) rfl ?_
  intro p e s m args below meth c s₁ B hml hv
  obtain ⟨rfl, rfl, hC, hw⟩ := mw_in hv
  have hx := B.exec
  have hb := B.bytes
  have hr := B.returns
  have hts := atoms_spec (ws := wsX1_addFlag) B.pre
  have hown : s.vm.findClass RX1 = some m.cls := findClass_of_methodNamed B.named
  have hlocks := B.notSynchronized
  have m0_1 : h0 ≠ w := mw_ne e0 e1 (by intro h9; cases h9)
  have hl := lv_entry ([.ref (h0)]) (n := 2) (Nat.le_of_ble_eq_true rfl)
  rw [lg_entry_eq]
  generalize (lg_sl ([.ref (h0)]) ++ List.replicate (2 - (lg_sl ([.ref (h0)])).length) Slot.unset).toArray = ls at hl ⊢
  have hl : lv_has ls 2 [(0, .ref (h0))] := hl
  refine mw_start (fun H locs hw => ?_) hw
  refine lv_iconst (v := nI 0) hx hb dX1_addFlag_0 (by decide) ?_
  refine lv_istore_n (lv' := [(1, .int (nI (0))), (0, .ref (h0))]) hx hb dX1_addFlag_1 rfl hl (by decide) rfl (fun ls hl => ?_)
  have lp_1 : ∀ (n9 : Nat) (k : Nat), (hk : k ≤ 8) → 8 - k < n9 → ∀ (H : Heap) (locs : List Loc) (ls : Array Slot), mw_St G (mw_A M s.heap.size) s (va_up (va_up M h0 (some (.inr (1, [.ref (w), .int (nI (n + k))])))) w (some (.inl (G.2 2, 47, .inr (.inl (ffl f n k)))))) H locs → lv_has ls 2 [(0, .ref (h0)), (1, .int (nI (k)))] → W p l e (headSpec wsX1_addFlag RM_X1_addFlag).room s m ([.ref (h0)] : List Value).toArray below meth c H locs 0 0 (MQ below (mw_Qv G M s.heap.size (va_up (va_up M h0 (some (.inr (1, [.ref (w), .int (nI (n + 8))])))) w (some (.inl (G.2 2, 47, .inr (.inl (ffl f n 8))))))) ([.ref (h0)] : List Value).toArray s 0 0 (mw_A M s.heap.size)) (F0 m 2 ls []) := by
    intro n9
    induction n9 with
    | zero => intro k hk h9; exact absurd h9 (Nat.not_lt_zero _)
    | succ n9 ih =>
      intro k hk h9 H locs ls hw hl
      refine lv_iload_n hx hb dX1_addFlag_2 rfl (lv_at hl 1 rfl) ?_
      refine lv_bipush (v := nI 8) hx hb dX1_addFlag_3 (by decide) ?_
      refine lv_icmp_ge (tgt := 24) hx hb dX1_addFlag_5 (by decide) (fun c_2 => ?_) (fun c_2 => ?_)
      · skip
        have c_2 : k ≥ 8 := (nI_leI (a := 8) (b := k) (by omega) (by omega)).mp c_2
        obtain rfl : k = 8 := by omega
        exact mw_vret hx hb hr hlocks hw (fun _ _ h9 => h9) dX1_addFlag_24
      · skip
        have c_2 : k < 8 := Nat.not_le.mp (fun h => c_2 ((nI_leI (a := 8) (b := k) (by omega) (by omega)).mpr h))
        refine lv_aload_n hx hb dX1_addFlag_8 rfl (lv_at hl 0 rfl) ?_
        refine lv_bipush (v := nI 126) hx hb dX1_addFlag_9 (by decide) ?_
        refine lv_iload_n hx hb dX1_addFlag_11 rfl (lv_at hl 1 rfl) ?_
        refine lv_ishr hx hb dX1_addFlag_12 ?_
        refine lv_iconst (v := nI 1) hx hb dX1_addFlag_13 (by decide) ?_
        refine lv_iand hx hb dX1_addFlag_14 ?_
        refine mw_ti (v' := nI (flg k)) (flg_val k (by omega)) ?_
        refine mw_cv hC hw (va_runV (As := [.int (nI (flg k))]) (rest := []) ⟨hx, hb, hml, hown, hts⟩ (c_X1_add l G _ H.size h0 w (n + k) (ffl f n k) (flg k) (mw_u1 m0_1 mw_u0) mw_u0 (by omega) (flg_le k)) (cwV 1 hts gX1_addFlag_X1_add rfl rfl rfl (by decide +kernel) ⟨Nat.le_of_ble_eq_true rfl, Nat.le_of_ble_eq_true rfl⟩) (mw_preV (ci := 1) hC hw rfl (mw_u1 m0_1 mw_u0)) rfl rfl hl.1 rfl (lv_room (Nat.le_of_ble_eq_true rfl)) dX1_addFlag_15 ⟨Nat.le_of_ble_eq_true rfl, Nat.le_of_ble_eq_true rfl⟩) (fun H locs hz hw => ?_)
        refine lv_iinc (v := nI (k + 1)) (lv' := [(1, .int (nI (k + 1))), (0, .ref (h0))]) hx hb dX1_addFlag_18 hl (k := 1) rfl (by rw [show Int32.ofInt 1 = nI 1 by decide]; exact nI_add _ _) (by decide) rfl (fun ls hl => ?_)
        refine lv_goto (tgt := 2) hx hb dX1_addFlag_21 (by decide) ?_
        have hc_4 : (.inr (1, [.ref (w), .int (nI ((n + k) + 1))]) : va_E) = .inr (1, [.ref (w), .int (nI (n + (k + 1)))]) := by first | rfl | (congr 2; omega) | simp_all
        have hc_5 : (.inl (G.2 2, 47, .inr (.inl (fadd (ffl f n k) (n + k) (flg k)))) : va_E) = .inl (G.2 2, 47, .inr (.inl (ffl f n (k + 1)))) := by first | rfl | (congr 2; omega) | simp_all
        have hw : mw_St G (mw_A M s.heap.size) s (va_up (va_up M h0 (some (.inr (1, [.ref (w), .int (nI (n + (k + 1)))])))) w (some (.inl (G.2 2, 47, .inr (.inl (ffl f n (k + 1))))))) H locs := hw.to (fun q8 x8 h8 => by
          by_cases b_6 : q8 = h0
          · rw [b_6] at h8 ⊢; exact (mw_u1 m0_1 mw_u0).trans ((congrArg some hc_4).trans ((mw_u1 m0_1 mw_u0).symm.trans h8))
          by_cases b_7 : q8 = w
          · rw [b_7] at h8 ⊢; exact mw_u0.trans ((congrArg some hc_5).trans (mw_u0.symm.trans h8))
          simp only [va_up_ne _ _ b_6, va_up_ne _ _ b_7] at h8 ⊢; exact h8)
        exact ih (k + 1) (by omega) (by omega) _ _ ls hw (lv_sub hl [1, 0] rfl)
  have hc_9 : (.inr (1, [.ref (w), .int (nI (n))]) : va_E) = .inr (1, [.ref (w), .int (nI (n + 0))]) := by first | rfl | (congr 2; omega) | simp_all
  have hc_10 : (.inl (G.2 2, 47, .inr (.inl (f))) : va_E) = .inl (G.2 2, 47, .inr (.inl (ffl f n 0))) := by first | rfl | (congr 2; omega) | simp_all
  have hw : mw_St G (mw_A M s.heap.size) s (va_up (va_up M h0 (some (.inr (1, [.ref (w), .int (nI (n + 0))])))) w (some (.inl (G.2 2, 47, .inr (.inl (ffl f n 0)))))) H locs := hw.to (fun q8 x8 h8 => by
    by_cases b_11 : q8 = h0
    · rw [b_11] at h8 ⊢; exact e0.trans ((congrArg some hc_9).trans ((mw_u1 m0_1 mw_u0).symm.trans h8))
    by_cases b_12 : q8 = w
    · rw [b_12] at h8 ⊢; exact e1.trans ((congrArg some hc_10).trans (mw_u0.symm.trans h8))
    simp only [va_up_ne _ _ b_11, va_up_ne _ _ b_12] at h8 ⊢; exact h8)
  exact lp_1 (8 - 0 + 1) 0 (by omega) (Nat.lt_succ_self _) _ _ ls hw (lv_sub hl [1, 0] rfl)
def RM_X1_hasFlagAt : Room := { frames := 1, cells := 0, slots := 0, locals := 21 }
set_option maxHeartbeats 4000000 in
set_option maxRecDepth 100000 in
/-- hasFlagAt(a) -/
theorem c_X1_hasFlagAt (l : Launch) (G : mw_G) (M : mw_M) (sz : Nat) (h0 w n : Nat) (f : Nat → Int64) (a : Nat) (e0 : M h0 = some (.inr (1, [.ref (w), .int (nI (n))]))) (e1 : M w = some (.inl (G.2 2, 47, .inr (.inl (f))))) (ha : a + 8 ≤ 3008)  : Met l yX1_hasFlagAt wsX1_hasFlagAt RM_X1_hasFlagAt (mw_pre G M sz [.ref (h0), .int (nI (a))]) (mw_Qi G M sz (nI (b2n (isfl f a 8))) M) 0 0 (mw_A M sz) := by
  refine Met.ofW (cc := cX1_hasFlagAt) (maxL := 4) (ret := (some .boolean)) (by decide) rfl ?_
  intro p e s m args below meth c s₁ B hml hv
  obtain ⟨rfl, rfl, hC, hw⟩ := mw_in hv
  have hx := B.exec
  have hb := B.bytes
  have hr := B.returns
  have hts := atoms_spec (ws := wsX1_hasFlagAt) B.pre
  have hown : s.vm.findClass RX1 = some m.cls := findClass_of_methodNamed B.named
  have hlocks := B.notSynchronized
  have hl := lv_entry ([.ref (h0), .int (nI (a))]) (n := 4) (Nat.le_of_ble_eq_true rfl)
  rw [lg_entry_eq]
  generalize (lg_sl ([.ref (h0), .int (nI (a))]) ++ List.replicate (4 - (lg_sl ([.ref (h0), .int (nI (a))])).length) Slot.unset).toArray = ls at hl ⊢
  have hl : lv_has ls 4 [(0, .ref (h0)), (1, .int (nI (a)))] := hl
  refine mw_start (fun H locs hw => ?_) hw
  refine lv_iconst (v := nI 1) hx hb dX1_hasFlagAt_0 (by decide) ?_
  refine lv_istore_n (lv' := [(2, .int (nI (1))), (0, .ref (h0)), (1, .int (nI (a)))]) hx hb dX1_hasFlagAt_1 rfl hl (by decide) rfl (fun ls hl => ?_)
  refine lv_iconst (v := nI 0) hx hb dX1_hasFlagAt_2 (by decide) ?_
  refine lv_istore_n (lv' := [(3, .int (nI (0))), (2, .int (nI (1))), (0, .ref (h0)), (1, .int (nI (a)))]) hx hb dX1_hasFlagAt_3 rfl hl (by decide) rfl (fun ls hl => ?_)
  have lp_1 : ∀ (n9 : Nat) (k : Nat), (hk : k ≤ 8) → 8 - k < n9 → ∀ (H : Heap) (locs : List Loc) (ls : Array Slot), mw_St G (mw_A M s.heap.size) s M H locs → lv_has ls 4 [(0, .ref (h0)), (1, .int (nI (a))), (2, .int (nI (b2n (isfl f a k)))), (3, .int (nI (k)))] → W p l e (headSpec wsX1_hasFlagAt RM_X1_hasFlagAt).room s m ([.ref (h0), .int (nI (a))] : List Value).toArray below meth c H locs 0 0 (MQ below (mw_Qi G M s.heap.size (nI (b2n (isfl f a 8))) M) ([.ref (h0), .int (nI (a))] : List Value).toArray s 0 0 (mw_A M s.heap.size)) (F0 m 4 ls []) := by
    intro n9
    induction n9 with
    | zero => intro k hk h9; exact absurd h9 (Nat.not_lt_zero _)
    | succ n9 ih =>
      intro k hk h9 H locs ls hw hl
      refine lv_iload_n hx hb dX1_hasFlagAt_4 rfl (lv_at hl 3 rfl) ?_
      refine lv_bipush (v := nI 8) hx hb dX1_hasFlagAt_5 (by decide) ?_
      refine lv_icmp_ge (tgt := 42) hx hb dX1_hasFlagAt_7 (by decide) (fun c_2 => ?_) (fun c_2 => ?_)
      · skip
        have c_2 : k ≥ 8 := (nI_leI (a := 8) (b := k) (by omega) (by omega)).mp c_2
        obtain rfl : k = 8 := by omega
        refine lv_iload_n hx hb dX1_hasFlagAt_42 rfl (lv_at hl 2 rfl) ?_
        exact mw_zret hx hb hr hlocks hw (by cases isfl f a 8 <;> decide) (rfl) (fun _ _ h9 => h9) dX1_hasFlagAt_43
      · skip
        have c_2 : k < 8 := Nat.not_le.mp (fun h => c_2 ((nI_leI (a := 8) (b := k) (by omega) (by omega)).mpr h))
        refine lv_iload_n hx hb dX1_hasFlagAt_10 rfl (lv_at hl 2 rfl) ?_
        have hb2 := b2n_le (isfl f a k)
        refine lv_if_eq (tgt := 34) hx hb dX1_hasFlagAt_11 (by decide) (fun c_3 => ?_) (fun c_3 => ?_)
        · skip
          have c_3 : b2n (isfl f a k) = 0 := (nI_eq (a := b2n (isfl f a k)) (b := 0) (by omega) (by omega)).mp c_3
          have hz_ : isfl f a k = false := by cases h : isfl f a k <;> simp_all [b2n]
          refine lv_iconst (v := nI 0) hx hb dX1_hasFlagAt_34 (by decide) ?_
          refine lv_istore_n (lv' := [(2, .int (nI (0))), (0, .ref (h0)), (1, .int (nI (a))), (3, .int (nI (k)))]) hx hb dX1_hasFlagAt_35 rfl hl (by decide) rfl (fun ls hl => ?_)
          refine lv_iinc (v := nI (k + 1)) (lv' := [(3, .int (nI (k + 1))), (2, .int (nI (0))), (0, .ref (h0)), (1, .int (nI (a)))]) hx hb dX1_hasFlagAt_36 hl (k := 3) rfl (by rw [show Int32.ofInt 1 = nI 1 by decide]; exact nI_add _ _) (by decide) rfl (fun ls hl => ?_)
          refine lv_goto (tgt := 4) hx hb dX1_hasFlagAt_39 (by decide) ?_
          have hv_4 : (.int (nI (0)) : Value) = .int (nI (b2n (isfl f a (k + 1)))) := by simp_all [isfl, b2n]
          rw [hv_4] at hl
          exact ih (k + 1) (by omega) (by omega) _ _ ls hw (lv_sub hl [2, 3, 1, 0] rfl)
        · skip
          have c_3 : b2n (isfl f a k) ≠ 0 := fun h => c_3 ((nI_eq (a := b2n (isfl f a k)) (b := 0) (by omega) (by omega)).mpr h)
          have hz_ : isfl f a k = true := by cases h : isfl f a k <;> simp_all [b2n]
          refine lv_aload_n hx hb dX1_hasFlagAt_14 rfl (lv_at hl 0 rfl) ?_
          refine lv_iload_n hx hb dX1_hasFlagAt_15 rfl (lv_at hl 1 rfl) ?_
          refine lv_iload_n hx hb dX1_hasFlagAt_16 rfl (lv_at hl 3 rfl) ?_
          refine lv_iadd hx hb dX1_hasFlagAt_17 ?_
          refine mw_ti (v' := nI (a + k)) (nI_add _ _) ?_
          refine mw_ci hC hw (va_runV (As := [.int (nI (a + k))]) (rest := []) ⟨hx, hb, hml, hown, hts⟩ (c_X1_valueAt l G _ H.size h0 w n f (a + k) e0 e1 (by omega)) (cwV 1 hts gX1_hasFlagAt_X1_valueAt rfl rfl rfl (by decide +kernel) ⟨Nat.le_of_ble_eq_true rfl, Nat.le_of_ble_eq_true rfl⟩) (mw_preV (ci := 1) hC hw rfl e0) rfl rfl hl.1 rfl (lv_room (Nat.le_of_ble_eq_true rfl)) dX1_hasFlagAt_18 ⟨Nat.le_of_ble_eq_true rfl, Nat.le_of_ble_eq_true rfl⟩) (fun H locs hz hw => ?_)
          refine lv_bipush (v := nI 126) hx hb dX1_hasFlagAt_21 (by decide) ?_
          refine lv_iload_n hx hb dX1_hasFlagAt_23 rfl (lv_at hl 3 rfl) ?_
          refine lv_ishr hx hb dX1_hasFlagAt_24 ?_
          refine lv_iconst (v := nI 1) hx hb dX1_hasFlagAt_25 (by decide) ?_
          refine lv_iand hx hb dX1_hasFlagAt_26 ?_
          refine mw_ti (v' := nI (flg k)) (flg_val k (by omega)) ?_
          have hf1 := fb_le f (a + k)
          have hf2 := flg_le k
          refine lv_icmp_ne (tgt := 34) hx hb dX1_hasFlagAt_27 (by decide) (fun c_5 => ?_) (fun c_5 => ?_)
          · skip
            have c_5 : fb f (a + k) ≠ flg k := fun h => c_5 ((nI_eq (a := fb f (a + k)) (b := flg k) (by omega) (by omega)).mpr h)
            refine lv_iconst (v := nI 0) hx hb dX1_hasFlagAt_34 (by decide) ?_
            refine lv_istore_n (lv' := [(2, .int (nI (0))), (0, .ref (h0)), (1, .int (nI (a))), (3, .int (nI (k)))]) hx hb dX1_hasFlagAt_35 rfl hl (by decide) rfl (fun ls hl => ?_)
            refine lv_iinc (v := nI (k + 1)) (lv' := [(3, .int (nI (k + 1))), (2, .int (nI (0))), (0, .ref (h0)), (1, .int (nI (a)))]) hx hb dX1_hasFlagAt_36 hl (k := 3) rfl (by rw [show Int32.ofInt 1 = nI 1 by decide]; exact nI_add _ _) (by decide) rfl (fun ls hl => ?_)
            refine lv_goto (tgt := 4) hx hb dX1_hasFlagAt_39 (by decide) ?_
            have hv_6 : (.int (nI (0)) : Value) = .int (nI (b2n (isfl f a (k + 1)))) := by simp_all [isfl, b2n]
            rw [hv_6] at hl
            exact ih (k + 1) (by omega) (by omega) _ _ ls hw (lv_sub hl [2, 3, 1, 0] rfl)
          · skip
            have c_5 : fb f (a + k) = flg k := (nI_eq (a := fb f (a + k)) (b := flg k) (by omega) (by omega)).mp c_5
            refine lv_iconst (v := nI 1) hx hb dX1_hasFlagAt_30 (by decide) ?_
            refine lv_goto (tgt := 35) hx hb dX1_hasFlagAt_31 (by decide) ?_
            refine lv_istore_n (lv' := [(2, .int (nI (1))), (0, .ref (h0)), (1, .int (nI (a))), (3, .int (nI (k)))]) hx hb dX1_hasFlagAt_35 rfl hl (by decide) rfl (fun ls hl => ?_)
            refine lv_iinc (v := nI (k + 1)) (lv' := [(3, .int (nI (k + 1))), (2, .int (nI (1))), (0, .ref (h0)), (1, .int (nI (a)))]) hx hb dX1_hasFlagAt_36 hl (k := 3) rfl (by rw [show Int32.ofInt 1 = nI 1 by decide]; exact nI_add _ _) (by decide) rfl (fun ls hl => ?_)
            refine lv_goto (tgt := 4) hx hb dX1_hasFlagAt_39 (by decide) ?_
            have hv_7 : (.int (nI (1)) : Value) = .int (nI (b2n (isfl f a (k + 1)))) := by simp_all [isfl, b2n]
            rw [hv_7] at hl
            exact ih (k + 1) (by omega) (by omega) _ _ ls hw (lv_sub hl [2, 3, 1, 0] rfl)
  exact lp_1 (8 - 0 + 1) 0 (by omega) (Nat.lt_succ_self _) _ _ ls hw (lv_sub hl [2, 3, 1, 0] rfl)
theorem inX1_isBetweenFlags_X1 : ∀ w ∈ wsX10, w ∈ wsX1_isBetweenFlags := by decide +kernel
def RM_X1_isBetweenFlags : Room := { frames := 2, cells := 0, slots := 0, locals := 44 }
set_option maxHeartbeats 4000000 in
set_option maxRecDepth 100000 in
/-- isBetweenFlags() -/
theorem c_X1_isBetweenFlags (l : Launch) (G : mw_G) (M : mw_M) (sz : Nat) (h0 w n : Nat) (f : Nat → Int64) (e0 : M h0 = some (.inr (1, [.ref (w), .int (nI (n))]))) (e1 : M w = some (.inl (G.2 2, 47, .inr (.inl (f))))) (hn : n ≤ 3000)  : Met l yX1_isBetweenFlags wsX1_isBetweenFlags RM_X1_isBetweenFlags (mw_pre G M sz [.ref (h0)]) (mw_Qi G M sz (nI (b2n (rdok f n))) M) 0 0 (mw_A M sz) := by
  refine Met.ofW (cc := cX1_isBetweenFlags) (maxL := 1) (ret := (some .boolean)) (by decide) rfl ?_
  intro p e s m args below meth c s₁ B hml hv
  obtain ⟨rfl, rfl, hC, hw⟩ := mw_in hv
  have hx := B.exec
  have hb := B.bytes
  have hr := B.returns
  have hts := atoms_spec (ws := wsX1_isBetweenFlags) B.pre
  have hown : s.vm.findClass RX1 = some m.cls := findClass_of_methodNamed B.named
  have hlocks := B.notSynchronized
  have k_0 := hts (.fieldLink RX1 15 "LinkPair$Frame" "length" "I") (by decide +kernel)
  have hl := lv_entry ([.ref (h0)]) (n := 1) (Nat.le_of_ble_eq_true rfl)
  rw [lg_entry_eq]
  generalize (lg_sl ([.ref (h0)]) ++ List.replicate (1 - (lg_sl ([.ref (h0)])).length) Slot.unset).toArray = ls at hl ⊢
  have hl : lv_has ls 1 [(0, .ref (h0))] := hl
  refine mw_start (fun H locs hw => ?_) hw
  refine lv_aload_n hx hb dX1_isBetweenFlags_0 rfl (lv_at hl 0 rfl) ?_
  refine mw_get (C := RX1) (T := TX1) (N := 2) (v := .int (nI (n))) hx hb hts inX1_isBetweenFlags_X1 hown hC hw e0 rfl 1 (by decide) k_0 rfl dX1_isBetweenFlags_1 ?_
  refine lv_bipush (v := nI 16) hx hb dX1_isBetweenFlags_4 (by decide) ?_
  refine lv_icmp_lt (tgt := 35) hx hb dX1_isBetweenFlags_6 (by decide) (fun c_1 => ?_) (fun c_1 => ?_)
  · skip
    have c_1 : n < 16 := (nI_ltI (a := n) (b := 16) (by omega) (by omega)).mp c_1
    have hd_ : decide (16 ≤ n) = false := decide_eq_false (by omega)
    refine lv_iconst (v := nI 0) hx hb dX1_isBetweenFlags_35 (by decide) ?_
    exact mw_zret hx hb hr hlocks hw (by decide) (by unfold rdok; first | ((have h16 : ¬ 16 ≤ n := by omega); simp [b2n, h16]; done) | simp_all [b2n]) (fun _ _ h9 => h9) dX1_isBetweenFlags_36
  · skip
    have c_1 : n ≥ 16 := Nat.not_lt.mp (fun h => c_1 ((nI_ltI (a := n) (b := 16) (by omega) (by omega)).mpr h))
    have hd_ : decide (16 ≤ n) = true := decide_eq_true (by omega)
    refine lv_aload_n hx hb dX1_isBetweenFlags_9 rfl (lv_at hl 0 rfl) ?_
    refine lv_iconst (v := nI 0) hx hb dX1_isBetweenFlags_10 (by decide) ?_
    refine mw_ci hC hw (va_runV (As := [.int (nI (0))]) (rest := []) ⟨hx, hb, hml, hown, hts⟩ (c_X1_hasFlagAt l G _ H.size h0 w n f 0 e0 e1 (by omega)) (cwV 1 hts gX1_isBetweenFlags_X1_hasFlagAt rfl rfl rfl (by decide +kernel) ⟨Nat.le_of_ble_eq_true rfl, Nat.le_of_ble_eq_true rfl⟩) (mw_preV (ci := 1) hC hw rfl e0) rfl rfl hl.1 rfl (lv_room (Nat.le_of_ble_eq_true rfl)) dX1_isBetweenFlags_11 ⟨Nat.le_of_ble_eq_true rfl, Nat.le_of_ble_eq_true rfl⟩) (fun H locs hz hw => ?_)
    have hb0 := b2n_le (isfl f 0 8)
    refine lv_if_eq (tgt := 35) hx hb dX1_isBetweenFlags_14 (by decide) (fun c_2 => ?_) (fun c_2 => ?_)
    · skip
      have c_2 : b2n (isfl f 0 8) = 0 := (nI_eq (a := b2n (isfl f 0 8)) (b := 0) (by omega) (by omega)).mp c_2
      have hz_ : isfl f 0 8 = false := by cases h : isfl f 0 8 <;> simp_all [b2n]
      refine lv_iconst (v := nI 0) hx hb dX1_isBetweenFlags_35 (by decide) ?_
      exact mw_zret hx hb hr hlocks hw (by decide) (by unfold rdok; first | ((have h16 : ¬ 16 ≤ n := by omega); simp [b2n, h16]; done) | simp_all [b2n]) (fun _ _ h9 => h9) dX1_isBetweenFlags_36
    · skip
      have c_2 : b2n (isfl f 0 8) ≠ 0 := fun h => c_2 ((nI_eq (a := b2n (isfl f 0 8)) (b := 0) (by omega) (by omega)).mpr h)
      have hz_ : isfl f 0 8 = true := by cases h : isfl f 0 8 <;> simp_all [b2n]
      refine lv_aload_n hx hb dX1_isBetweenFlags_17 rfl (lv_at hl 0 rfl) ?_
      refine lv_aload_n hx hb dX1_isBetweenFlags_18 rfl (lv_at hl 0 rfl) ?_
      refine mw_get (C := RX1) (T := TX1) (N := 2) (v := .int (nI (n))) hx hb hts inX1_isBetweenFlags_X1 hown hC hw e0 rfl 1 (by decide) k_0 rfl dX1_isBetweenFlags_19 ?_
      refine lv_bipush (v := nI 8) hx hb dX1_isBetweenFlags_22 (by decide) ?_
      refine lv_isub hx hb dX1_isBetweenFlags_24 ?_
      refine mw_ti (v' := nI (n - 8)) (pk_sub (by omega)) ?_
      refine mw_ci hC hw (va_runV (As := [.int (nI (n - 8))]) (rest := []) ⟨hx, hb, hml, hown, hts⟩ (c_X1_hasFlagAt l G _ H.size h0 w n f (n - 8) e0 e1 (by omega)) (cwV 1 hts gX1_isBetweenFlags_X1_hasFlagAt rfl rfl rfl (by decide +kernel) ⟨Nat.le_of_ble_eq_true rfl, Nat.le_of_ble_eq_true rfl⟩) (mw_preV (ci := 1) hC hw rfl e0) rfl rfl hl.1 rfl (lv_room (Nat.le_of_ble_eq_true rfl)) dX1_isBetweenFlags_25 ⟨Nat.le_of_ble_eq_true rfl, Nat.le_of_ble_eq_true rfl⟩) (fun H locs hz hw => ?_)
      have hb1 := b2n_le (isfl f (n - 8) 8)
      refine lv_if_eq (tgt := 35) hx hb dX1_isBetweenFlags_28 (by decide) (fun c_3 => ?_) (fun c_3 => ?_)
      · skip
        have c_3 : b2n (isfl f (n - 8) 8) = 0 := (nI_eq (a := b2n (isfl f (n - 8) 8)) (b := 0) (by omega) (by omega)).mp c_3
        have hy_ : isfl f (n - 8) 8 = false := by cases h : isfl f (n - 8) 8 <;> simp_all [b2n]
        refine lv_iconst (v := nI 0) hx hb dX1_isBetweenFlags_35 (by decide) ?_
        exact mw_zret hx hb hr hlocks hw (by decide) (by unfold rdok; first | ((have h16 : ¬ 16 ≤ n := by omega); simp [b2n, h16]; done) | simp_all [b2n]) (fun _ _ h9 => h9) dX1_isBetweenFlags_36
      · skip
        have c_3 : b2n (isfl f (n - 8) 8) ≠ 0 := fun h => c_3 ((nI_eq (a := b2n (isfl f (n - 8) 8)) (b := 0) (by omega) (by omega)).mpr h)
        have hy_ : isfl f (n - 8) 8 = true := by cases h : isfl f (n - 8) 8 <;> simp_all [b2n]
        refine lv_iconst (v := nI 1) hx hb dX1_isBetweenFlags_31 (by decide) ?_
        refine lv_goto (tgt := 36) hx hb dX1_isBetweenFlags_32 (by decide) ?_
        exact mw_zret hx hb hr hlocks hw (by decide) (by unfold rdok; first | ((have h16 : ¬ 16 ≤ n := by omega); simp [b2n, h16]; done) | simp_all [b2n]) (fun _ _ h9 => h9) dX1_isBetweenFlags_36
theorem inX1_hasSixOnesBetweenFlags_X1 : ∀ w ∈ wsX10, w ∈ wsX1_hasSixOnesBetweenFlags := by decide +kernel
def RM_X1_hasSixOnesBetweenFlags : Room := { frames := 1, cells := 0, slots := 0, locals := 21 }
set_option maxHeartbeats 4000000 in
set_option maxRecDepth 100000 in
/-- hasSixOnesBetweenFlags() -/
theorem c_X1_hasSixOnesBetweenFlags (l : Launch) (G : mw_G) (M : mw_M) (sz : Nat) (h0 w n : Nat) (f : Nat → Int64) (e0 : M h0 = some (.inr (1, [.ref (w), .int (nI (n))]))) (e1 : M w = some (.inl (G.2 2, 47, .inr (.inl (f))))) (hn : n ≤ 3000) (hn2 : 16 ≤ n)  : Met l yX1_hasSixOnesBetweenFlags wsX1_hasSixOnesBetweenFlags RM_X1_hasSixOnesBetweenFlags (mw_pre G M sz [.ref (h0)]) (mw_Qi G M sz (nI (b2n (sixIn f (n - 16)))) M) 0 0 (mw_A M sz) := by
  refine Met.ofW (cc := cX1_hasSixOnesBetweenFlags) (maxL := 3) (ret := (some .boolean)) (by decide) rfl ?_
  intro p e s m args below meth c s₁ B hml hv
  obtain ⟨rfl, rfl, hC, hw⟩ := mw_in hv
  have hx := B.exec
  have hb := B.bytes
  have hr := B.returns
  have hts := atoms_spec (ws := wsX1_hasSixOnesBetweenFlags) B.pre
  have hown : s.vm.findClass RX1 = some m.cls := findClass_of_methodNamed B.named
  have hlocks := B.notSynchronized
  have k_0 := hts (.fieldLink RX1 15 "LinkPair$Frame" "length" "I") (by decide +kernel)
  have hl := lv_entry ([.ref (h0)]) (n := 3) (Nat.le_of_ble_eq_true rfl)
  rw [lg_entry_eq]
  generalize (lg_sl ([.ref (h0)]) ++ List.replicate (3 - (lg_sl ([.ref (h0)])).length) Slot.unset).toArray = ls at hl ⊢
  have hl : lv_has ls 3 [(0, .ref (h0))] := hl
  refine mw_start (fun H locs hw => ?_) hw
  refine lv_iconst (v := nI 0) hx hb dX1_hasSixOnesBetweenFlags_0 (by decide) ?_
  refine lv_istore_n (lv' := [(1, .int (nI (0))), (0, .ref (h0))]) hx hb dX1_hasSixOnesBetweenFlags_1 rfl hl (by decide) rfl (fun ls hl => ?_)
  refine lv_bipush (v := nI 8) hx hb dX1_hasSixOnesBetweenFlags_2 (by decide) ?_
  refine lv_istore_n (lv' := [(2, .int (nI (8))), (1, .int (nI (0))), (0, .ref (h0))]) hx hb dX1_hasSixOnesBetweenFlags_4 rfl hl (by decide) rfl (fun ls hl => ?_)
  have lp_1 : ∀ (n9 : Nat) (k : Nat), (hk : k ≤ n - 16) → (hs : sixIn f k = false) → n - 16 - k < n9 → ∀ (H : Heap) (locs : List Loc) (ls : Array Slot), mw_St G (mw_A M s.heap.size) s M H locs → lv_has ls 3 [(0, .ref (h0)), (1, .int (nI (onesAt f k))), (2, .int (nI (8 + k)))] → W p l e (headSpec wsX1_hasSixOnesBetweenFlags RM_X1_hasSixOnesBetweenFlags).room s m ([.ref (h0)] : List Value).toArray below meth c H locs 0 0 (MQ below (mw_Qi G M s.heap.size (nI (b2n (sixIn f (n - 16)))) M) ([.ref (h0)] : List Value).toArray s 0 0 (mw_A M s.heap.size)) (F0 m 5 ls []) := by
    intro n9
    induction n9 with
    | zero => intro k hk hs h9; exact absurd h9 (Nat.not_lt_zero _)
    | succ n9 ih =>
      intro k hk hs h9 H locs ls hw hl
      refine lv_iload_n hx hb dX1_hasSixOnesBetweenFlags_5 rfl (lv_at hl 2 rfl) ?_
      refine lv_aload_n hx hb dX1_hasSixOnesBetweenFlags_6 rfl (lv_at hl 0 rfl) ?_
      refine mw_get (C := RX1) (T := TX1) (N := 2) (v := .int (nI (n))) hx hb hts inX1_hasSixOnesBetweenFlags_X1 hown hC hw e0 rfl 1 (by decide) k_0 rfl dX1_hasSixOnesBetweenFlags_7 ?_
      refine lv_bipush (v := nI 8) hx hb dX1_hasSixOnesBetweenFlags_10 (by decide) ?_
      refine lv_isub hx hb dX1_hasSixOnesBetweenFlags_12 ?_
      refine mw_ti (v' := nI (n - 8)) (pk_sub (by omega)) ?_
      refine lv_icmp_ge (tgt := 46) hx hb dX1_hasSixOnesBetweenFlags_13 (by decide) (fun c_2 => ?_) (fun c_2 => ?_)
      · skip
        have c_2 : 8 + k ≥ n - 8 := (nI_leI (a := n - 8) (b := 8 + k) (by omega) (by omega)).mp c_2
        obtain rfl : k = n - 16 := by omega
        refine lv_iconst (v := nI 0) hx hb dX1_hasSixOnesBetweenFlags_46 (by decide) ?_
        exact mw_zret hx hb hr hlocks hw (by decide) (by simp_all [b2n]) (fun _ _ h9 => h9) dX1_hasSixOnesBetweenFlags_47
      · skip
        have c_2 : 8 + k < n - 8 := Nat.not_le.mp (fun h => c_2 ((nI_leI (a := n - 8) (b := 8 + k) (by omega) (by omega)).mpr h))
        refine lv_aload_n hx hb dX1_hasSixOnesBetweenFlags_16 rfl (lv_at hl 0 rfl) ?_
        refine lv_iload_n hx hb dX1_hasSixOnesBetweenFlags_17 rfl (lv_at hl 2 rfl) ?_
        refine mw_ci hC hw (va_runV (As := [.int (nI (8 + k))]) (rest := []) ⟨hx, hb, hml, hown, hts⟩ (c_X1_valueAt l G _ H.size h0 w n f (8 + k) e0 e1 (by omega)) (cwV 1 hts gX1_hasSixOnesBetweenFlags_X1_valueAt rfl rfl rfl (by decide +kernel) ⟨Nat.le_of_ble_eq_true rfl, Nat.le_of_ble_eq_true rfl⟩) (mw_preV (ci := 1) hC hw rfl e0) rfl rfl hl.1 rfl (lv_room (Nat.le_of_ble_eq_true rfl)) dX1_hasSixOnesBetweenFlags_18 ⟨Nat.le_of_ble_eq_true rfl, Nat.le_of_ble_eq_true rfl⟩) (fun H locs hz hw => ?_)
        refine lv_iconst (v := nI 1) hx hb dX1_hasSixOnesBetweenFlags_21 (by decide) ?_
        have hf1 := fb_le f (8 + k)
        have ho := onesAt_le f k
        refine lv_icmp_ne (tgt := 31) hx hb dX1_hasSixOnesBetweenFlags_22 (by decide) (fun c_3 => ?_) (fun c_3 => ?_)
        · skip
          have c_3 : fb f (8 + k) ≠ 1 := fun h => c_3 ((nI_eq (a := fb f (8 + k)) (b := 1) (by omega) (by omega)).mpr h)
          refine lv_iconst (v := nI 0) hx hb dX1_hasSixOnesBetweenFlags_31 (by decide) ?_
          refine lv_istore_n (lv' := [(1, .int (nI (0))), (0, .ref (h0)), (2, .int (nI (8 + k)))]) hx hb dX1_hasSixOnesBetweenFlags_32 rfl hl (by decide) rfl (fun ls hl => ?_)
          refine lv_iload_n hx hb dX1_hasSixOnesBetweenFlags_33 rfl (lv_at hl 0 rfl) ?_
          refine lv_iconst (v := nI 5) hx hb dX1_hasSixOnesBetweenFlags_34 (by decide) ?_
          refine lv_icmp_le (tgt := 40) hx hb dX1_hasSixOnesBetweenFlags_35 (by decide) (fun c_4 => ?_) (fun c_4 => ?_)
          · skip
            refine lv_iinc (v := nI (8 + k + 1)) (lv' := [(2, .int (nI (8 + k + 1))), (1, .int (nI (0))), (0, .ref (h0))]) hx hb dX1_hasSixOnesBetweenFlags_40 hl (k := 2) rfl (by rw [show Int32.ofInt 1 = nI 1 by decide]; exact nI_add _ _) (by decide) rfl (fun ls hl => ?_)
            refine lv_goto (tgt := 5) hx hb dX1_hasSixOnesBetweenFlags_43 (by decide) ?_
            have hv_5 : (.int (nI (0)) : Value) = .int (nI (onesAt f (k + 1))) := by simp_all [onesAt]
            rw [hv_5] at hl
            have hv_6 : (.int (nI (8 + k + 1)) : Value) = .int (nI (8 + (k + 1))) := by first | rfl | simp_all
            rw [hv_6] at hl
            exact ih (k + 1) (by omega) (by simp_all [sixIn, onesAt]) (by omega) _ _ ls hw (lv_sub hl [2, 1, 0] rfl)
          · skip
            exact absurd c_4 (by decide)
        · skip
          have c_3 : fb f (8 + k) = 1 := (nI_eq (a := fb f (8 + k)) (b := 1) (by omega) (by omega)).mp c_3
          refine lv_iload_n hx hb dX1_hasSixOnesBetweenFlags_25 rfl (lv_at hl 1 rfl) ?_
          refine lv_iconst (v := nI 1) hx hb dX1_hasSixOnesBetweenFlags_26 (by decide) ?_
          refine lv_iadd hx hb dX1_hasSixOnesBetweenFlags_27 ?_
          refine mw_ti (v' := nI (onesAt f k + 1)) (nI_add _ _) ?_
          refine lv_goto (tgt := 32) hx hb dX1_hasSixOnesBetweenFlags_28 (by decide) ?_
          refine lv_istore_n (lv' := [(1, .int (nI (onesAt f k + 1))), (0, .ref (h0)), (2, .int (nI (8 + k)))]) hx hb dX1_hasSixOnesBetweenFlags_32 rfl hl (by decide) rfl (fun ls hl => ?_)
          refine lv_iload_n hx hb dX1_hasSixOnesBetweenFlags_33 rfl (lv_at hl 0 rfl) ?_
          refine lv_iconst (v := nI 5) hx hb dX1_hasSixOnesBetweenFlags_34 (by decide) ?_
          refine lv_icmp_le (tgt := 40) hx hb dX1_hasSixOnesBetweenFlags_35 (by decide) (fun c_7 => ?_) (fun c_7 => ?_)
          · skip
            have c_7 : onesAt f k + 1 ≤ 5 := (nI_leI (a := onesAt f k + 1) (b := 5) (by omega) (by omega)).mp c_7
            refine lv_iinc (v := nI (8 + k + 1)) (lv' := [(2, .int (nI (8 + k + 1))), (1, .int (nI (onesAt f k + 1))), (0, .ref (h0))]) hx hb dX1_hasSixOnesBetweenFlags_40 hl (k := 2) rfl (by rw [show Int32.ofInt 1 = nI 1 by decide]; exact nI_add _ _) (by decide) rfl (fun ls hl => ?_)
            refine lv_goto (tgt := 5) hx hb dX1_hasSixOnesBetweenFlags_43 (by decide) ?_
            have hv_8 : (.int (nI (onesAt f k + 1)) : Value) = .int (nI (onesAt f (k + 1))) := by simp_all [onesAt]
            rw [hv_8] at hl
            have hv_9 : (.int (nI (8 + k + 1)) : Value) = .int (nI (8 + (k + 1))) := by first | rfl | simp_all
            rw [hv_9] at hl
            exact ih (k + 1) (by omega) (by simp_all [sixIn, onesAt]) (by omega) _ _ ls hw (lv_sub hl [2, 1, 0] rfl)
          · skip
            have c_7 : onesAt f k + 1 > 5 := Nat.not_le.mp (fun h => c_7 ((nI_leI (a := onesAt f k + 1) (b := 5) (by omega) (by omega)).mpr h))
            refine lv_iconst (v := nI 1) hx hb dX1_hasSixOnesBetweenFlags_38 (by decide) ?_
            exact mw_zret hx hb hr hlocks hw (by decide) (by first | (exfalso; omega) | (rw [sixIn_hit (k := k) (by assumption) (by omega) (by omega)]; rfl)) (fun _ _ h9 => h9) dX1_hasSixOnesBetweenFlags_39
  exact lp_1 (n - 16 - 0 + 1) 0 (by omega) (rfl) (Nat.lt_succ_self _) _ _ ls hw (lv_sub hl [2, 1, 0] rfl)
