/-! ===== LinkPair.Unit, small ones ===== -/
def RM_X6_nextNumber : Room := { frames := 0, cells := 0, slots := 0, locals := 0 }
set_option maxHeartbeats 4000000 in
set_option maxRecDepth 100000 in
theorem c_X6_nextNumber (l : Launch) (G : mw_G) (M : mw_M) (sz : Nat) (x : Nat)  (hx_ : x < 128)  : Met l yX6_nextNumber wsX6_nextNumber RM_X6_nextNumber (mw_pre G M sz [.int (nI (x))]) (mw_Qi G M sz (nI ((x + 1) % 128)) M) 0 0 (mw_A M sz) := by
  refine Met.ofW (cc := cX6_nextNumber) (maxL := 1) (ret := (some .int)) (by decide) rfl ?_
  intro p e s m args below meth c s₁ B hml hv
  obtain ⟨rfl, rfl, hC, hw⟩ := mw_in hv
  have hx := B.exec
  have hb := B.bytes
  have hr := B.returns
  have hts := atoms_spec (ws := wsX6_nextNumber) B.pre
  have hown : s.vm.findClass RX6 = some m.cls := findClass_of_methodNamed B.named
  have hlocks := B.notSynchronized
  have hl := lv_entry ([.int (nI (x))]) (n := 1) (Nat.le_of_ble_eq_true rfl)
  rw [lg_entry_eq]
  generalize (lg_sl ([.int (nI (x))]) ++ List.replicate (1 - (lg_sl ([.int (nI (x))])).length) Slot.unset).toArray = ls at hl ⊢
  have hl : lv_has ls 1 [(0, .int (nI (x)))] := hl
  refine mw_start (fun H locs hw => ?_) hw
  refine lv_iload_n hx hb dX6_nextNumber_0 rfl (lv_at hl 0 rfl) ?_
  refine lv_iconst (v := nI 1) hx hb dX6_nextNumber_1 (by decide) ?_
  refine lv_iadd hx hb dX6_nextNumber_2 ?_
  refine mw_ti (v' := nI (x + 1)) (nI_add _ _) ?_
  refine lv_bipush (v := nI 127) hx hb dX6_nextNumber_3 (by decide) ?_
  refine lv_iand hx hb dX6_nextNumber_5 ?_
  refine mw_ti (v' := nI ((x + 1) % 128)) (pk_andN (by omega) 7 (by decide)) ?_
  exact mw_iret hx hb hr hlocks hw (rfl) (fun _ _ h9 => h9) dX6_nextNumber_6
def RM_X6_restBehind : Room := { frames := 0, cells := 0, slots := 0, locals := 0 }
set_option maxHeartbeats 4000000 in
set_option maxRecDepth 100000 in
theorem c_X6_restBehind (l : Launch) (G : mw_G) (M : mw_M) (sz : Nat) (r v : Nat)  (hr_ : r < 65536) (hv_ : v < 2 ^ 31)  : Met l yX6_restBehind wsX6_restBehind RM_X6_restBehind (mw_pre G M sz [.int (nI (r)), .int (nI (v))]) (mw_Qi G M sz (nI (rst r v 8)) M) 0 0 (mw_A M sz) := by
  refine Met.ofW (cc := cX6_restBehind) (maxL := 5) (ret := (some .int)) (by decide) rfl ?_
  intro p e s m args below meth c s₁ B hml hv
  obtain ⟨rfl, rfl, hC, hw⟩ := mw_in hv
  have hx := B.exec
  have hb := B.bytes
  have hr := B.returns
  have hts := atoms_spec (ws := wsX6_restBehind) B.pre
  have hown : s.vm.findClass RX6 = some m.cls := findClass_of_methodNamed B.named
  have hlocks := B.notSynchronized
  have k_0 := hts (.constant RX6 138 (33800)) (by decide +kernel)
  have hl := lv_entry ([.int (nI (r)), .int (nI (v))]) (n := 5) (Nat.le_of_ble_eq_true rfl)
  rw [lg_entry_eq]
  generalize (lg_sl ([.int (nI (r)), .int (nI (v))]) ++ List.replicate (5 - (lg_sl ([.int (nI (r)), .int (nI (v))])).length) Slot.unset).toArray = ls at hl ⊢
  have hl : lv_has ls 5 [(0, .int (nI (r))), (1, .int (nI (v)))] := hl
  refine mw_start (fun H locs hw => ?_) hw
  refine lv_iload_n hx hb dX6_restBehind_0 rfl (lv_at hl 0 rfl) ?_
  refine lv_istore_n (lv' := [(2, .int (nI (r))), (0, .int (nI (r))), (1, .int (nI (v)))]) hx hb dX6_restBehind_1 rfl hl (by decide) rfl (fun ls hl => ?_)
  refine lv_iconst (v := nI 0) hx hb dX6_restBehind_2 (by decide) ?_
  refine lv_istore_n (lv' := [(3, .int (nI (0))), (2, .int (nI (r))), (0, .int (nI (r))), (1, .int (nI (v)))]) hx hb dX6_restBehind_3 rfl hl (by decide) rfl (fun ls hl => ?_)
  have lp_1 : ∀ (n9 : Nat) (k : Nat), (hk : k ≤ 8) → 8 - k < n9 → ∀ (H : Heap) (locs : List Loc) (ls : Array Slot), mw_St G (mw_A M s.heap.size) s M H locs → lv_has ls 5 [(0, .int (nI (r))), (1, .int (nI (v))), (2, .int (nI (rst r v k))), (3, .int (nI (k)))] → W p l e (headSpec wsX6_restBehind RM_X6_restBehind).room s m ([.int (nI (r)), .int (nI (v))] : List Value).toArray below meth c H locs 0 0 (MQ below (mw_Qi G M s.heap.size (nI (rst r v 8)) M) ([.int (nI (r)), .int (nI (v))] : List Value).toArray s 0 0 (mw_A M s.heap.size)) (F0 m 4 ls []) := by
    intro n9
    induction n9 with
    | zero => intro k hk h9; exact absurd h9 (Nat.not_lt_zero _)
    | succ n9 ih =>
      intro k hk h9 H locs ls hw hl
      have hrb := rst_lt (v := v) hr_ k
      have hvk : v / 2 ^ k ≤ v := Nat.div_le_self _ _
      refine lv_iload_n hx hb dX6_restBehind_4 rfl (lv_at hl 3 rfl) ?_
      refine lv_bipush (v := nI 8) hx hb dX6_restBehind_5 (by decide) ?_
      refine lv_icmp_ge (tgt := 52) hx hb dX6_restBehind_7 (by decide) (fun c_2 => ?_) (fun c_2 => ?_)
      · skip
        have c_2 : k ≥ 8 := (nI_leI (a := 8) (b := k) (by omega) (by omega)).mp c_2
        obtain rfl : k = 8 := by omega
        refine lv_iload_n hx hb dX6_restBehind_52 rfl (lv_at hl 2 rfl) ?_
        exact mw_iret hx hb hr hlocks hw (rfl) (fun _ _ h9 => h9) dX6_restBehind_53
      · skip
        have c_2 : k < 8 := Nat.not_le.mp (fun h => c_2 ((nI_leI (a := 8) (b := k) (by omega) (by omega)).mpr h))
        refine lv_iload_n hx hb dX6_restBehind_10 rfl (lv_at hl 2 rfl) ?_
        refine lv_iconst (v := nI 1) hx hb dX6_restBehind_11 (by decide) ?_
        refine lv_iand hx hb dX6_restBehind_12 ?_
        refine mw_ti (v' := nI ((rst r v k) % 2)) (pk_andN (by omega) 1 (by decide)) ?_
        refine lv_iload_n hx hb dX6_restBehind_13 rfl (lv_at hl 1 rfl) ?_
        refine lv_iload_n hx hb dX6_restBehind_14 rfl (lv_at hl 3 rfl) ?_
        refine lv_ishr hx hb dX6_restBehind_15 ?_
        refine mw_ti (v' := nI (v / 2 ^ k)) (sh_bit (by omega) (by omega)) ?_
        refine lv_iconst (v := nI 1) hx hb dX6_restBehind_16 (by decide) ?_
        refine lv_iand hx hb dX6_restBehind_17 ?_
        refine mw_ti (v' := nI ((v / 2 ^ k) % 2)) (pk_andN (by omega) 1 (by decide)) ?_
        refine lv_icmp_eq (tgt := 25) hx hb dX6_restBehind_18 (by decide) (fun c_3 => ?_) (fun c_3 => ?_)
        · skip
          have c_3 : (rst r v k) % 2 = (v / 2 ^ k) % 2 := (nI_eq (a := (rst r v k) % 2) (b := (v / 2 ^ k) % 2) (by omega) (by omega)).mp c_3
          refine lv_iconst (v := nI 0) hx hb dX6_restBehind_25 (by decide) ?_
          refine lv_istore (lv' := [(4, .int (nI (0))), (0, .int (nI (r))), (1, .int (nI (v))), (2, .int (nI (rst r v k))), (3, .int (nI (k)))]) hx hb dX6_restBehind_26 hl (by decide) rfl (fun ls hl => ?_)
          refine lv_iload hx hb dX6_restBehind_28 (lv_at hl 0 rfl) ?_
          refine lv_if_eq (tgt := 42) hx hb dX6_restBehind_30 (by decide) (fun c_4 => ?_) (fun c_4 => ?_)
          · skip
            refine lv_iload_n hx hb dX6_restBehind_42 rfl (lv_at hl 3 rfl) ?_
            refine lv_iconst (v := nI 1) hx hb dX6_restBehind_43 (by decide) ?_
            refine lv_ishr hx hb dX6_restBehind_44 ?_
            refine mw_ti (v' := nI ((rst r v k) / 2)) (pk_shrN (by omega) _ 1 (by decide)) ?_
            refine lv_istore_n (lv' := [(2, .int (nI ((rst r v k) / 2))), (4, .int (nI (0))), (0, .int (nI (r))), (1, .int (nI (v))), (3, .int (nI (k)))]) hx hb dX6_restBehind_45 rfl hl (by decide) rfl (fun ls hl => ?_)
            refine lv_iinc (v := nI (k + 1)) (lv' := [(3, .int (nI (k + 1))), (2, .int (nI ((rst r v k) / 2))), (4, .int (nI (0))), (0, .int (nI (r))), (1, .int (nI (v)))]) hx hb dX6_restBehind_46 hl (k := 4) rfl (by rw [show Int32.ofInt 1 = nI 1 by decide]; exact nI_add _ _) (by decide) rfl (fun ls hl => ?_)
            refine lv_goto (tgt := 4) hx hb dX6_restBehind_49 (by decide) ?_
            have hv_5 : (.int (nI ((rst r v k) / 2)) : Value) = .int (nI (rst r v (k + 1))) := by first | (rw [rst, rs1, if_neg (by assumption)]; done) | (rw [rst, rs1, if_pos (by assumption)])
            rw [hv_5] at hl
            exact ih (k + 1) (by omega) (by omega) _ _ ls hw (lv_sub hl [3, 4, 1, 0] rfl)
          · skip
            exact absurd c_4 (by decide)
        · skip
          have c_3 : (rst r v k) % 2 ≠ (v / 2 ^ k) % 2 := fun h => c_3 ((nI_eq (a := (rst r v k) % 2) (b := (v / 2 ^ k) % 2) (by omega) (by omega)).mpr h)
          refine lv_iconst (v := nI 1) hx hb dX6_restBehind_21 (by decide) ?_
          refine lv_goto (tgt := 26) hx hb dX6_restBehind_22 (by decide) ?_
          refine lv_istore (lv' := [(4, .int (nI (1))), (0, .int (nI (r))), (1, .int (nI (v))), (2, .int (nI (rst r v k))), (3, .int (nI (k)))]) hx hb dX6_restBehind_26 hl (by decide) rfl (fun ls hl => ?_)
          refine lv_iload hx hb dX6_restBehind_28 (lv_at hl 0 rfl) ?_
          refine lv_if_eq (tgt := 42) hx hb dX6_restBehind_30 (by decide) (fun c_6 => ?_) (fun c_6 => ?_)
          · skip
            exact absurd c_6 (by decide)
          · skip
            refine lv_iload_n hx hb dX6_restBehind_33 rfl (lv_at hl 3 rfl) ?_
            refine lv_iconst (v := nI 1) hx hb dX6_restBehind_34 (by decide) ?_
            refine lv_ishr hx hb dX6_restBehind_35 ?_
            refine mw_ti (v' := nI ((rst r v k) / 2)) (pk_shrN (by omega) _ 1 (by decide)) ?_
            refine lv_ldc hx hb hown k_0 dX6_restBehind_36 ?_
            refine mw_ti (show (33800 : Int32) = nI 33800 by decide) ?_
            refine lv_ixor hx hb dX6_restBehind_38 ?_
            refine mw_ti (v' := nI (rst r v k / 2 ^^^ 33800)) (nx_xor _ _) ?_
            refine lv_goto (tgt := 45) hx hb dX6_restBehind_39 (by decide) ?_
            refine lv_istore_n (lv' := [(2, .int (nI (rst r v k / 2 ^^^ 33800))), (4, .int (nI (1))), (0, .int (nI (r))), (1, .int (nI (v))), (3, .int (nI (k)))]) hx hb dX6_restBehind_45 rfl hl (by decide) rfl (fun ls hl => ?_)
            refine lv_iinc (v := nI (k + 1)) (lv' := [(3, .int (nI (k + 1))), (2, .int (nI (rst r v k / 2 ^^^ 33800))), (4, .int (nI (1))), (0, .int (nI (r))), (1, .int (nI (v)))]) hx hb dX6_restBehind_46 hl (k := 4) rfl (by rw [show Int32.ofInt 1 = nI 1 by decide]; exact nI_add _ _) (by decide) rfl (fun ls hl => ?_)
            refine lv_goto (tgt := 4) hx hb dX6_restBehind_49 (by decide) ?_
            have hv_7 : (.int (nI (rst r v k / 2 ^^^ 33800)) : Value) = .int (nI (rst r v (k + 1))) := by first | (rw [rst, rs1, if_neg (by assumption)]; done) | (rw [rst, rs1, if_pos (by assumption)])
            rw [hv_7] at hl
            exact ih (k + 1) (by omega) (by omega) _ _ ls hw (lv_sub hl [3, 4, 1, 0] rfl)
  exact lp_1 (8 - 0 + 1) 0 (by omega) (Nat.lt_succ_self _) _ _ ls hw (lv_sub hl [2, 3, 1, 0] rfl)
theorem inX5_backwardNumber_X5 : ∀ w ∈ wsX50, w ∈ wsX5_backwardNumber := by decide +kernel
def RM_X5_backwardNumber : Room := { frames := 0, cells := 0, slots := 0, locals := 0 }
set_option maxHeartbeats 4000000 in
set_option maxRecDepth 100000 in
theorem c_X5_backwardNumber (l : Launch) (G : mw_G) (M : mw_M) (sz : Nat) (h0 ub n : Nat) (g : Nat → Nat) (e0 : M h0 = some (.inr (5, [.ref (ub), .int (nI (n))]))) (e1 : M ub = some (.inl (G.2 1, 277, .inl (fun j => nI (g j))))) (hg : g 0 < 256)  : Met l yX5_backwardNumber wsX5_backwardNumber RM_X5_backwardNumber (mw_pre G M sz [.ref (h0)]) (mw_Qi G M sz (nI (g 0 % 128)) M) 0 0 (mw_A M sz) := by
  refine Met.ofW (cc := cX5_backwardNumber) (maxL := 1) (ret := (some .int)) (by decide) rfl ?_
  intro p e s m args below meth c s₁ B hml hv
  obtain ⟨rfl, rfl, hC, hw⟩ := mw_in hv
  have hx := B.exec
  have hb := B.bytes
  have hr := B.returns
  have hts := atoms_spec (ws := wsX5_backwardNumber) B.pre
  have hown : s.vm.findClass RX5 = some m.cls := findClass_of_methodNamed B.named
  have hlocks := B.notSynchronized
  have k_0 := hts (.fieldLink RX5 9 "LinkPair$Unit" "bytes" "[I") (by decide +kernel)
  have hl := lv_entry ([.ref (h0)]) (n := 1) (Nat.le_of_ble_eq_true rfl)
  rw [lg_entry_eq]
  generalize (lg_sl ([.ref (h0)]) ++ List.replicate (1 - (lg_sl ([.ref (h0)])).length) Slot.unset).toArray = ls at hl ⊢
  have hl : lv_has ls 1 [(0, .ref (h0))] := hl
  refine mw_start (fun H locs hw => ?_) hw
  refine lv_aload_n hx hb dX5_backwardNumber_0 rfl (lv_at hl 0 rfl) ?_
  refine mw_get (C := RX5) (T := TX5) (N := 2) (v := .ref (ub)) hx hb hts inX5_backwardNumber_X5 hown hC hw e0 rfl 0 (by decide) k_0 rfl dX5_backwardNumber_1 ?_
  refine lv_iconst (v := nI 0) hx hb dX5_backwardNumber_4 (by decide) ?_
  refine mw_ildM (n := 277) (g := g) (i := 0) hx hb hC hw e1 (by omega) (by decide) dX5_backwardNumber_5 ?_
  refine lv_bipush (v := nI 127) hx hb dX5_backwardNumber_6 (by decide) ?_
  refine lv_iand hx hb dX5_backwardNumber_8 ?_
  refine mw_ti (v' := nI ((g (0)) % 128)) (pk_andN (by omega) 7 (by decide)) ?_
  exact mw_iret hx hb hr hlocks hw (by first | rfl | simp_all | (congr 1; omega)) (fun _ _ h9 => h9) dX5_backwardNumber_9
theorem inX5_backwardIndicator_X5 : ∀ w ∈ wsX50, w ∈ wsX5_backwardIndicator := by decide +kernel
def RM_X5_backwardIndicator : Room := { frames := 0, cells := 0, slots := 0, locals := 0 }
set_option maxHeartbeats 4000000 in
set_option maxRecDepth 100000 in
theorem c_X5_backwardIndicator (l : Launch) (G : mw_G) (M : mw_M) (sz : Nat) (h0 ub n : Nat) (g : Nat → Nat) (e0 : M h0 = some (.inr (5, [.ref (ub), .int (nI (n))]))) (e1 : M ub = some (.inl (G.2 1, 277, .inl (fun j => nI (g j))))) (hg : g 0 < 256)  : Met l yX5_backwardIndicator wsX5_backwardIndicator RM_X5_backwardIndicator (mw_pre G M sz [.ref (h0)]) (mw_Qi G M sz (nI (g 0 / 128)) M) 0 0 (mw_A M sz) := by
  refine Met.ofW (cc := cX5_backwardIndicator) (maxL := 1) (ret := (some .int)) (by decide) rfl ?_
  intro p e s m args below meth c s₁ B hml hv
  obtain ⟨rfl, rfl, hC, hw⟩ := mw_in hv
  have hx := B.exec
  have hb := B.bytes
  have hr := B.returns
  have hts := atoms_spec (ws := wsX5_backwardIndicator) B.pre
  have hown : s.vm.findClass RX5 = some m.cls := findClass_of_methodNamed B.named
  have hlocks := B.notSynchronized
  have k_0 := hts (.fieldLink RX5 9 "LinkPair$Unit" "bytes" "[I") (by decide +kernel)
  have hl := lv_entry ([.ref (h0)]) (n := 1) (Nat.le_of_ble_eq_true rfl)
  rw [lg_entry_eq]
  generalize (lg_sl ([.ref (h0)]) ++ List.replicate (1 - (lg_sl ([.ref (h0)])).length) Slot.unset).toArray = ls at hl ⊢
  have hl : lv_has ls 1 [(0, .ref (h0))] := hl
  refine mw_start (fun H locs hw => ?_) hw
  refine lv_aload_n hx hb dX5_backwardIndicator_0 rfl (lv_at hl 0 rfl) ?_
  refine mw_get (C := RX5) (T := TX5) (N := 2) (v := .ref (ub)) hx hb hts inX5_backwardIndicator_X5 hown hC hw e0 rfl 0 (by decide) k_0 rfl dX5_backwardIndicator_1 ?_
  refine lv_iconst (v := nI 0) hx hb dX5_backwardIndicator_4 (by decide) ?_
  refine mw_ildM (n := 277) (g := g) (i := 0) hx hb hC hw e1 (by omega) (by decide) dX5_backwardIndicator_5 ?_
  refine lv_bipush (v := nI 7) hx hb dX5_backwardIndicator_6 (by decide) ?_
  refine lv_ishr hx hb dX5_backwardIndicator_8 ?_
  refine mw_ti (v' := nI ((g (0)) / 128)) (pk_shrN (by omega) _ 7 (by decide)) ?_
  exact mw_iret hx hb hr hlocks hw (by first | rfl | simp_all | (congr 1; omega)) (fun _ _ h9 => h9) dX5_backwardIndicator_9
theorem inX5_forwardNumber_X5 : ∀ w ∈ wsX50, w ∈ wsX5_forwardNumber := by decide +kernel
def RM_X5_forwardNumber : Room := { frames := 0, cells := 0, slots := 0, locals := 0 }
set_option maxHeartbeats 4000000 in
set_option maxRecDepth 100000 in
theorem c_X5_forwardNumber (l : Launch) (G : mw_G) (M : mw_M) (sz : Nat) (h0 ub n : Nat) (g : Nat → Nat) (e0 : M h0 = some (.inr (5, [.ref (ub), .int (nI (n))]))) (e1 : M ub = some (.inl (G.2 1, 277, .inl (fun j => nI (g j))))) (hg : g 1 < 256)  : Met l yX5_forwardNumber wsX5_forwardNumber RM_X5_forwardNumber (mw_pre G M sz [.ref (h0)]) (mw_Qi G M sz (nI (g 1 % 128)) M) 0 0 (mw_A M sz) := by
  refine Met.ofW (cc := cX5_forwardNumber) (maxL := 1) (ret := (some .int)) (by decide) rfl ?_
  intro p e s m args below meth c s₁ B hml hv
  obtain ⟨rfl, rfl, hC, hw⟩ := mw_in hv
  have hx := B.exec
  have hb := B.bytes
  have hr := B.returns
  have hts := atoms_spec (ws := wsX5_forwardNumber) B.pre
  have hown : s.vm.findClass RX5 = some m.cls := findClass_of_methodNamed B.named
  have hlocks := B.notSynchronized
  have k_0 := hts (.fieldLink RX5 9 "LinkPair$Unit" "bytes" "[I") (by decide +kernel)
  have hl := lv_entry ([.ref (h0)]) (n := 1) (Nat.le_of_ble_eq_true rfl)
  rw [lg_entry_eq]
  generalize (lg_sl ([.ref (h0)]) ++ List.replicate (1 - (lg_sl ([.ref (h0)])).length) Slot.unset).toArray = ls at hl ⊢
  have hl : lv_has ls 1 [(0, .ref (h0))] := hl
  refine mw_start (fun H locs hw => ?_) hw
  refine lv_aload_n hx hb dX5_forwardNumber_0 rfl (lv_at hl 0 rfl) ?_
  refine mw_get (C := RX5) (T := TX5) (N := 2) (v := .ref (ub)) hx hb hts inX5_forwardNumber_X5 hown hC hw e0 rfl 0 (by decide) k_0 rfl dX5_forwardNumber_1 ?_
  refine lv_iconst (v := nI 1) hx hb dX5_forwardNumber_4 (by decide) ?_
  refine mw_ildM (n := 277) (g := g) (i := 1) hx hb hC hw e1 (by omega) (by decide) dX5_forwardNumber_5 ?_
  refine lv_bipush (v := nI 127) hx hb dX5_forwardNumber_6 (by decide) ?_
  refine lv_iand hx hb dX5_forwardNumber_8 ?_
  refine mw_ti (v' := nI ((g (1)) % 128)) (pk_andN (by omega) 7 (by decide)) ?_
  exact mw_iret hx hb hr hlocks hw (by first | rfl | simp_all | (congr 1; omega)) (fun _ _ h9 => h9) dX5_forwardNumber_9
theorem inX5_forwardIndicator_X5 : ∀ w ∈ wsX50, w ∈ wsX5_forwardIndicator := by decide +kernel
def RM_X5_forwardIndicator : Room := { frames := 0, cells := 0, slots := 0, locals := 0 }
set_option maxHeartbeats 4000000 in
set_option maxRecDepth 100000 in
theorem c_X5_forwardIndicator (l : Launch) (G : mw_G) (M : mw_M) (sz : Nat) (h0 ub n : Nat) (g : Nat → Nat) (e0 : M h0 = some (.inr (5, [.ref (ub), .int (nI (n))]))) (e1 : M ub = some (.inl (G.2 1, 277, .inl (fun j => nI (g j))))) (hg : g 1 < 256)  : Met l yX5_forwardIndicator wsX5_forwardIndicator RM_X5_forwardIndicator (mw_pre G M sz [.ref (h0)]) (mw_Qi G M sz (nI (g 1 / 128)) M) 0 0 (mw_A M sz) := by
  refine Met.ofW (cc := cX5_forwardIndicator) (maxL := 1) (ret := (some .int)) (by decide) rfl ?_
  intro p e s m args below meth c s₁ B hml hv
  obtain ⟨rfl, rfl, hC, hw⟩ := mw_in hv
  have hx := B.exec
  have hb := B.bytes
  have hr := B.returns
  have hts := atoms_spec (ws := wsX5_forwardIndicator) B.pre
  have hown : s.vm.findClass RX5 = some m.cls := findClass_of_methodNamed B.named
  have hlocks := B.notSynchronized
  have k_0 := hts (.fieldLink RX5 9 "LinkPair$Unit" "bytes" "[I") (by decide +kernel)
  have hl := lv_entry ([.ref (h0)]) (n := 1) (Nat.le_of_ble_eq_true rfl)
  rw [lg_entry_eq]
  generalize (lg_sl ([.ref (h0)]) ++ List.replicate (1 - (lg_sl ([.ref (h0)])).length) Slot.unset).toArray = ls at hl ⊢
  have hl : lv_has ls 1 [(0, .ref (h0))] := hl
  refine mw_start (fun H locs hw => ?_) hw
  refine lv_aload_n hx hb dX5_forwardIndicator_0 rfl (lv_at hl 0 rfl) ?_
  refine mw_get (C := RX5) (T := TX5) (N := 2) (v := .ref (ub)) hx hb hts inX5_forwardIndicator_X5 hown hC hw e0 rfl 0 (by decide) k_0 rfl dX5_forwardIndicator_1 ?_
  refine lv_iconst (v := nI 1) hx hb dX5_forwardIndicator_4 (by decide) ?_
  refine mw_ildM (n := 277) (g := g) (i := 1) hx hb hC hw e1 (by omega) (by decide) dX5_forwardIndicator_5 ?_
  refine lv_bipush (v := nI 7) hx hb dX5_forwardIndicator_6 (by decide) ?_
  refine lv_ishr hx hb dX5_forwardIndicator_8 ?_
  refine mw_ti (v' := nI ((g (1)) / 128)) (pk_shrN (by omega) _ 7 (by decide)) ?_
  exact mw_iret hx hb hr hlocks hw (by first | rfl | simp_all | (congr 1; omega)) (fun _ _ h9 => h9) dX5_forwardIndicator_9
theorem inX5_bodyLength_X5 : ∀ w ∈ wsX50, w ∈ wsX5_bodyLength := by decide +kernel
def RM_X5_bodyLength : Room := { frames := 0, cells := 0, slots := 0, locals := 0 }
set_option maxHeartbeats 4000000 in
set_option maxRecDepth 100000 in
theorem c_X5_bodyLength (l : Launch) (G : mw_G) (M : mw_M) (sz : Nat) (h0 ub n : Nat) (e0 : M h0 = some (.inr (5, [.ref (ub), .int (nI (n))]))) (hn : 5 ≤ n)  : Met l yX5_bodyLength wsX5_bodyLength RM_X5_bodyLength (mw_pre G M sz [.ref (h0)]) (mw_Qi G M sz (nI (n - 5)) M) 0 0 (mw_A M sz) := by
  refine Met.ofW (cc := cX5_bodyLength) (maxL := 1) (ret := (some .int)) (by decide) rfl ?_
  intro p e s m args below meth c s₁ B hml hv
  obtain ⟨rfl, rfl, hC, hw⟩ := mw_in hv
  have hx := B.exec
  have hb := B.bytes
  have hr := B.returns
  have hts := atoms_spec (ws := wsX5_bodyLength) B.pre
  have hown : s.vm.findClass RX5 = some m.cls := findClass_of_methodNamed B.named
  have hlocks := B.notSynchronized
  have k_0 := hts (.fieldLink RX5 15 "LinkPair$Unit" "count" "I") (by decide +kernel)
  have hl := lv_entry ([.ref (h0)]) (n := 1) (Nat.le_of_ble_eq_true rfl)
  rw [lg_entry_eq]
  generalize (lg_sl ([.ref (h0)]) ++ List.replicate (1 - (lg_sl ([.ref (h0)])).length) Slot.unset).toArray = ls at hl ⊢
  have hl : lv_has ls 1 [(0, .ref (h0))] := hl
  refine mw_start (fun H locs hw => ?_) hw
  refine lv_aload_n hx hb dX5_bodyLength_0 rfl (lv_at hl 0 rfl) ?_
  refine mw_get (C := RX5) (T := TX5) (N := 2) (v := .int (nI (n))) hx hb hts inX5_bodyLength_X5 hown hC hw e0 rfl 1 (by decide) k_0 rfl dX5_bodyLength_1 ?_
  refine lv_iconst (v := nI 5) hx hb dX5_bodyLength_4 (by decide) ?_
  refine lv_isub hx hb dX5_bodyLength_5 ?_
  refine mw_ti (v' := nI (n - 5)) (pk_sub (by omega)) ?_
  exact mw_iret hx hb hr hlocks hw (rfl) (fun _ _ h9 => h9) dX5_bodyLength_6
theorem inX5_bodyByte_X5 : ∀ w ∈ wsX50, w ∈ wsX5_bodyByte := by decide +kernel
def RM_X5_bodyByte : Room := { frames := 0, cells := 0, slots := 0, locals := 0 }
set_option maxHeartbeats 4000000 in
set_option maxRecDepth 100000 in
theorem c_X5_bodyByte (l : Launch) (G : mw_G) (M : mw_M) (sz : Nat) (h0 ub n : Nat) (g : Nat → Nat) (i : Nat) (e0 : M h0 = some (.inr (5, [.ref (ub), .int (nI (n))]))) (e1 : M ub = some (.inl (G.2 1, 277, .inl (fun j => nI (g j))))) (hi : 3 + i < 277)  : Met l yX5_bodyByte wsX5_bodyByte RM_X5_bodyByte (mw_pre G M sz [.ref (h0), .int (nI (i))]) (mw_Qi G M sz (nI (g (3 + i))) M) 0 0 (mw_A M sz) := by
  refine Met.ofW (cc := cX5_bodyByte) (maxL := 2) (ret := (some .int)) (by decide) rfl ?_
  intro p e s m args below meth c s₁ B hml hv
  obtain ⟨rfl, rfl, hC, hw⟩ := mw_in hv
  have hx := B.exec
  have hb := B.bytes
  have hr := B.returns
  have hts := atoms_spec (ws := wsX5_bodyByte) B.pre
  have hown : s.vm.findClass RX5 = some m.cls := findClass_of_methodNamed B.named
  have hlocks := B.notSynchronized
  have k_0 := hts (.fieldLink RX5 9 "LinkPair$Unit" "bytes" "[I") (by decide +kernel)
  have hl := lv_entry ([.ref (h0), .int (nI (i))]) (n := 2) (Nat.le_of_ble_eq_true rfl)
  rw [lg_entry_eq]
  generalize (lg_sl ([.ref (h0), .int (nI (i))]) ++ List.replicate (2 - (lg_sl ([.ref (h0), .int (nI (i))])).length) Slot.unset).toArray = ls at hl ⊢
  have hl : lv_has ls 2 [(0, .ref (h0)), (1, .int (nI (i)))] := hl
  refine mw_start (fun H locs hw => ?_) hw
  refine lv_aload_n hx hb dX5_bodyByte_0 rfl (lv_at hl 0 rfl) ?_
  refine mw_get (C := RX5) (T := TX5) (N := 2) (v := .ref (ub)) hx hb hts inX5_bodyByte_X5 hown hC hw e0 rfl 0 (by decide) k_0 rfl dX5_bodyByte_1 ?_
  refine lv_iconst (v := nI 3) hx hb dX5_bodyByte_4 (by decide) ?_
  refine lv_iload_n hx hb dX5_bodyByte_5 rfl (lv_at hl 1 rfl) ?_
  refine lv_iadd hx hb dX5_bodyByte_6 ?_
  refine mw_ti (v' := nI (3 + i)) (nI_add _ _) ?_
  refine mw_ildM (n := 277) (g := g) (i := 3 + i) hx hb hC hw e1 (by omega) (by decide) dX5_bodyByte_7 ?_
  exact mw_iret hx hb hr hlocks hw (rfl) (fun _ _ h9 => h9) dX5_bodyByte_8
