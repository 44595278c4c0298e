/-! ===== LinkPairModel, small ones ===== -/
def RM_X7_isEnd : Room := { frames := 0, cells := 0, slots := 0, locals := 0 }
set_option maxHeartbeats 4000000 in
set_option maxRecDepth 100000 in
theorem c_X7_isEnd (l : Launch) (G : mw_G) (M : mw_M) (sz : Nat) (ed : Nat)  (hed : ed ≤ 1)  : Met l yX7_isEnd wsX7_isEnd RM_X7_isEnd (mw_pre G M sz [.int (nI (ed))]) (mw_Qi G M sz (nI (1)) M) 0 0 (mw_A M sz) := by
  refine Met.ofW (cc := cX7_isEnd) (maxL := 1) (ret := (some .boolean)) (by decide) rfl ?_
  intro p e s m args below meth c s₁ B hml hv
  obtain ⟨rfl, rfl, hC, hw⟩ := mw_in hv
  have hx := B.exec
  have hb := B.bytes
  have hr := B.returns
  have hts := atoms_spec (ws := wsX7_isEnd) B.pre
  have hown : s.vm.findClass RX7 = some m.cls := findClass_of_methodNamed B.named
  have hlocks := B.notSynchronized
  have hl := lv_entry ([.int (nI (ed))]) (n := 1) (Nat.le_of_ble_eq_true rfl)
  rw [lg_entry_eq]
  generalize (lg_sl ([.int (nI (ed))]) ++ List.replicate (1 - (lg_sl ([.int (nI (ed))])).length) Slot.unset).toArray = ls at hl ⊢
  have hl : lv_has ls 1 [(0, .int (nI (ed)))] := hl
  refine mw_start (fun H locs hw => ?_) hw
  refine lv_iload_n hx hb dX7_isEnd_0 rfl (lv_at hl 0 rfl) ?_
  refine lv_if_eq (tgt := 9) hx hb dX7_isEnd_1 (by decide) (fun c_1 => ?_) (fun c_1 => ?_)
  · skip
    have c_1 : ed = 0 := (nI_eq (a := ed) (b := 0) (by omega) (by omega)).mp c_1
    refine lv_iconst (v := nI 1) hx hb dX7_isEnd_9 (by decide) ?_
    refine lv_goto (tgt := 14) hx hb dX7_isEnd_10 (by decide) ?_
    exact mw_zret hx hb hr hlocks hw (by decide) (rfl) (fun _ _ h9 => h9) dX7_isEnd_14
  · skip
    have c_1 : ed ≠ 0 := fun h => c_1 ((nI_eq (a := ed) (b := 0) (by omega) (by omega)).mpr h)
    refine lv_iload_n hx hb dX7_isEnd_4 rfl (lv_at hl 0 rfl) ?_
    refine lv_iconst (v := nI 1) hx hb dX7_isEnd_5 (by decide) ?_
    refine lv_icmp_ne (tgt := 13) hx hb dX7_isEnd_6 (by decide) (fun c_2 => ?_) (fun c_2 => ?_)
    · skip
      have c_2 : ed ≠ 1 := fun h => c_2 ((nI_eq (a := ed) (b := 1) (by omega) (by omega)).mpr h)
      exfalso; omega
    · skip
      have c_2 : ed = 1 := (nI_eq (a := ed) (b := 1) (by omega) (by omega)).mp c_2
      refine lv_iconst (v := nI 1) hx hb dX7_isEnd_9 (by decide) ?_
      refine lv_goto (tgt := 14) hx hb dX7_isEnd_10 (by decide) ?_
      exact mw_zret hx hb hr hlocks hw (by decide) (rfl) (fun _ _ h9 => h9) dX7_isEnd_14
def RM_X7_isEnd_bad : Room := { frames := 0, cells := 0, slots := 0, locals := 0 }
set_option maxHeartbeats 4000000 in
set_option maxRecDepth 100000 in
theorem c_X7_isEnd_bad (l : Launch) (G : mw_G) (M : mw_M) (sz : Nat) (ed : Int32)  (hb1 : ed < 0 ∨ nI 1 < ed)  : Met l yX7_isEnd wsX7_isEnd RM_X7_isEnd_bad (mw_pre G M sz [.int (ed)]) (mw_Qi G M sz (nI (0)) M) 0 0 (mw_A M sz) := by
  refine Met.ofW (cc := cX7_isEnd) (maxL := 1) (ret := (some .boolean)) (by decide) rfl ?_
  intro p e s m args below meth c s₁ B hml hv
  obtain ⟨rfl, rfl, hC, hw⟩ := mw_in hv
  have hx := B.exec
  have hb := B.bytes
  have hr := B.returns
  have hts := atoms_spec (ws := wsX7_isEnd) B.pre
  have hown : s.vm.findClass RX7 = some m.cls := findClass_of_methodNamed B.named
  have hlocks := B.notSynchronized
  have hl := lv_entry ([.int (ed)]) (n := 1) (Nat.le_of_ble_eq_true rfl)
  rw [lg_entry_eq]
  generalize (lg_sl ([.int (ed)]) ++ List.replicate (1 - (lg_sl ([.int (ed)])).length) Slot.unset).toArray = ls at hl ⊢
  have hl : lv_has ls 1 [(0, .int (ed))] := hl
  refine mw_start (fun H locs hw => ?_) hw
  refine lv_iload_n hx hb dX7_isEnd_0 rfl (lv_at hl 0 rfl) ?_
  refine lv_if_eq (tgt := 9) hx hb dX7_isEnd_1 (by decide) (fun c_1 => ?_) (fun c_1 => ?_)
  · skip
    exact hb1.elim (fun h => absurd (c_1 ▸ h : (0 : Int32) < 0) (by decide)) (fun h => absurd (c_1 ▸ h : nI 1 < (0 : Int32)) (by decide))
  · skip
    refine lv_iload_n hx hb dX7_isEnd_4 rfl (lv_at hl 0 rfl) ?_
    refine lv_iconst (v := nI 1) hx hb dX7_isEnd_5 (by decide) ?_
    refine lv_icmp_ne (tgt := 13) hx hb dX7_isEnd_6 (by decide) (fun c_2 => ?_) (fun c_2 => ?_)
    · skip
      refine lv_iconst (v := nI 0) hx hb dX7_isEnd_13 (by decide) ?_
      exact mw_zret hx hb hr hlocks hw (by decide) (rfl) (fun _ _ h9 => h9) dX7_isEnd_14
    · skip
      exact hb1.elim (fun h => absurd (c_2 ▸ h : nI 1 < (0 : Int32)) (by decide)) (fun h => absurd (c_2 ▸ h : nI 1 < nI 1) (by decide))
def RM_X7_checked : Room := { frames := 0, cells := 0, slots := 0, locals := 0 }
set_option maxHeartbeats 4000000 in
set_option maxRecDepth 100000 in
theorem c_X7_checked (l : Launch) (G : mw_G) (M : mw_M) (sz : Nat) (r v : Nat)  (hr_ : r < 65536) (hv_ : v < 2 ^ 31)  : Met l yX7_checked wsX7_checked RM_X7_checked (mw_pre G M sz [.int (nI (r)), .int (nI (v))]) (mw_Qi G M sz (nI (rst r v 8)) M) 0 0 (mw_A M sz) := by
  refine Met.ofW (cc := cX7_checked) (maxL := 4) (ret := (some .int)) (by decide) rfl ?_
  intro p e s m args below meth c s₁ B hml hv
  obtain ⟨rfl, rfl, hC, hw⟩ := mw_in hv
  have hx := B.exec
  have hb := B.bytes
  have hr := B.returns
  have hts := atoms_spec (ws := wsX7_checked) B.pre
  have hown : s.vm.findClass RX7 = some m.cls := findClass_of_methodNamed B.named
  have hlocks := B.notSynchronized
  have k_0 := hts (.constant RX7 95 (33800)) (by decide +kernel)
  have hl := lv_entry ([.int (nI (r)), .int (nI (v))]) (n := 4) (Nat.le_of_ble_eq_true rfl)
  rw [lg_entry_eq]
  generalize (lg_sl ([.int (nI (r)), .int (nI (v))]) ++ List.replicate (4 - (lg_sl ([.int (nI (r)), .int (nI (v))])).length) Slot.unset).toArray = ls at hl ⊢
  have hl : lv_has ls 4 [(0, .int (nI (r))), (1, .int (nI (v)))] := hl
  refine mw_start (fun H locs hw => ?_) hw
  refine lv_iload_n hx hb dX7_checked_0 rfl (lv_at hl 0 rfl) ?_
  refine lv_istore_n (lv' := [(2, .int (nI (r))), (0, .int (nI (r))), (1, .int (nI (v)))]) hx hb dX7_checked_1 rfl hl (by decide) rfl (fun ls hl => ?_)
  refine lv_iconst (v := nI 0) hx hb dX7_checked_2 (by decide) ?_
  refine lv_istore_n (lv' := [(3, .int (nI (0))), (2, .int (nI (r))), (0, .int (nI (r))), (1, .int (nI (v)))]) hx hb dX7_checked_3 rfl hl (by decide) rfl (fun ls hl => ?_)
  have lp_1 : ∀ (n9 : Nat) (k : Nat), (hk : k ≤ 8) → 8 - k < n9 → ∀ (H : Heap) (locs : List Loc) (ls : Array Slot), mw_St G (mw_A M s.heap.size) s M H locs → lv_has ls 4 [(0, .int (nI (r))), (1, .int (nI (v))), (2, .int (nI (rst r v k))), (3, .int (nI (k)))] → W p l e (headSpec wsX7_checked RM_X7_checked).room s m ([.int (nI (r)), .int (nI (v))] : List Value).toArray below meth c H locs 0 0 (MQ below (mw_Qi G M s.heap.size (nI (rst r v 8)) M) ([.int (nI (r)), .int (nI (v))] : List Value).toArray s 0 0 (mw_A M s.heap.size)) (F0 m 4 ls []) := by
    intro n9
    induction n9 with
    | zero => intro k hk h9; exact absurd h9 (Nat.not_lt_zero _)
    | succ n9 ih =>
      intro k hk h9 H locs ls hw hl
      have hrb := rst_lt (v := v) hr_ k
      have hvk : v / 2 ^ k ≤ v := Nat.div_le_self _ _
      refine lv_iload_n hx hb dX7_checked_4 rfl (lv_at hl 3 rfl) ?_
      refine lv_bipush (v := nI 8) hx hb dX7_checked_5 (by decide) ?_
      refine lv_icmp_ge (tgt := 40) hx hb dX7_checked_7 (by decide) (fun c_2 => ?_) (fun c_2 => ?_)
      · skip
        have c_2 : k ≥ 8 := (nI_leI (a := 8) (b := k) (by omega) (by omega)).mp c_2
        obtain rfl : k = 8 := by omega
        refine lv_iload_n hx hb dX7_checked_40 rfl (lv_at hl 2 rfl) ?_
        exact mw_iret hx hb hr hlocks hw (rfl) (fun _ _ h9 => h9) dX7_checked_41
      · skip
        have c_2 : k < 8 := Nat.not_le.mp (fun h => c_2 ((nI_leI (a := 8) (b := k) (by omega) (by omega)).mpr h))
        refine lv_iload_n hx hb dX7_checked_10 rfl (lv_at hl 2 rfl) ?_
        refine lv_iconst (v := nI 1) hx hb dX7_checked_11 (by decide) ?_
        refine lv_iand hx hb dX7_checked_12 ?_
        refine mw_ti (v' := nI ((rst r v k) % 2)) (pk_andN (by omega) 1 (by decide)) ?_
        refine lv_iload_n hx hb dX7_checked_13 rfl (lv_at hl 1 rfl) ?_
        refine lv_iload_n hx hb dX7_checked_14 rfl (lv_at hl 3 rfl) ?_
        refine lv_ishr hx hb dX7_checked_15 ?_
        refine mw_ti (v' := nI (v / 2 ^ k)) (sh_bit (by omega) (by omega)) ?_
        refine lv_iconst (v := nI 1) hx hb dX7_checked_16 (by decide) ?_
        refine lv_iand hx hb dX7_checked_17 ?_
        refine mw_ti (v' := nI ((v / 2 ^ k) % 2)) (pk_andN (by omega) 1 (by decide)) ?_
        refine lv_icmp_eq (tgt := 30) hx hb dX7_checked_18 (by decide) (fun c_3 => ?_) (fun c_3 => ?_)
        · skip
          have c_3 : (rst r v k) % 2 = (v / 2 ^ k) % 2 := (nI_eq (a := (rst r v k) % 2) (b := (v / 2 ^ k) % 2) (by omega) (by omega)).mp c_3
          refine lv_iload_n hx hb dX7_checked_30 rfl (lv_at hl 2 rfl) ?_
          refine lv_iconst (v := nI 1) hx hb dX7_checked_31 (by decide) ?_
          refine lv_ishr hx hb dX7_checked_32 ?_
          refine mw_ti (v' := nI ((rst r v k) / 2)) (pk_shrN (by omega) _ 1 (by decide)) ?_
          refine lv_istore_n (lv' := [(2, .int (nI ((rst r v k) / 2))), (0, .int (nI (r))), (1, .int (nI (v))), (3, .int (nI (k)))]) hx hb dX7_checked_33 rfl hl (by decide) rfl (fun ls hl => ?_)
          refine lv_iinc (v := nI (k + 1)) (lv' := [(3, .int (nI (k + 1))), (2, .int (nI ((rst r v k) / 2))), (0, .int (nI (r))), (1, .int (nI (v)))]) hx hb dX7_checked_34 hl (k := 3) rfl (by rw [show Int32.ofInt 1 = nI 1 by decide]; exact nI_add _ _) (by decide) rfl (fun ls hl => ?_)
          refine lv_goto (tgt := 4) hx hb dX7_checked_37 (by decide) ?_
          have hv_4 : (.int (nI ((rst r v k) / 2)) : Value) = .int (nI (rst r v (k + 1))) := by first | (rw [rst, rs1, if_neg (by assumption)]; done) | (rw [rst, rs1, if_pos (by assumption)])
          rw [hv_4] at hl
          exact ih (k + 1) (by omega) (by omega) _ _ ls hw (lv_sub hl [2, 3, 1, 0] rfl)
        · skip
          have c_3 : (rst r v k) % 2 ≠ (v / 2 ^ k) % 2 := fun h => c_3 ((nI_eq (a := (rst r v k) % 2) (b := (v / 2 ^ k) % 2) (by omega) (by omega)).mpr h)
          refine lv_iload_n hx hb dX7_checked_21 rfl (lv_at hl 2 rfl) ?_
          refine lv_iconst (v := nI 1) hx hb dX7_checked_22 (by decide) ?_
          refine lv_ishr hx hb dX7_checked_23 ?_
          refine mw_ti (v' := nI ((rst r v k) / 2)) (pk_shrN (by omega) _ 1 (by decide)) ?_
          refine lv_ldc hx hb hown k_0 dX7_checked_24 ?_
          refine mw_ti (show (33800 : Int32) = nI 33800 by decide) ?_
          refine lv_ixor hx hb dX7_checked_26 ?_
          refine mw_ti (v' := nI (rst r v k / 2 ^^^ 33800)) (nx_xor _ _) ?_
          refine lv_goto (tgt := 33) hx hb dX7_checked_27 (by decide) ?_
          refine lv_istore_n (lv' := [(2, .int (nI (rst r v k / 2 ^^^ 33800))), (0, .int (nI (r))), (1, .int (nI (v))), (3, .int (nI (k)))]) hx hb dX7_checked_33 rfl hl (by decide) rfl (fun ls hl => ?_)
          refine lv_iinc (v := nI (k + 1)) (lv' := [(3, .int (nI (k + 1))), (2, .int (nI (rst r v k / 2 ^^^ 33800))), (0, .int (nI (r))), (1, .int (nI (v)))]) hx hb dX7_checked_34 hl (k := 3) rfl (by rw [show Int32.ofInt 1 = nI 1 by decide]; exact nI_add _ _) (by decide) rfl (fun ls hl => ?_)
          refine lv_goto (tgt := 4) hx hb dX7_checked_37 (by decide) ?_
          have hv_5 : (.int (nI (rst r v k / 2 ^^^ 33800)) : Value) = .int (nI (rst r v (k + 1))) := by first | (rw [rst, rs1, if_neg (by assumption)]; done) | (rw [rst, rs1, if_pos (by assumption)])
          rw [hv_5] at hl
          exact ih (k + 1) (by omega) (by omega) _ _ ls hw (lv_sub hl [2, 3, 1, 0] rfl)
  exact lp_1 (8 - 0 + 1) 0 (by omega) (Nat.lt_succ_self _) _ _ ls hw (lv_sub hl [2, 3, 1, 0] rfl)
theorem inX7_thrown_X7 : ∀ w ∈ wsX70, w ∈ wsX7_thrown := by decide +kernel
def RM_X7_thrown : Room := { frames := 0, cells := 0, slots := 0, locals := 0 }
set_option maxHeartbeats 4000000 in
set_option maxRecDepth 100000 in
theorem c_X7_thrown (l : Launch) (G : mw_G) (M : mw_M) (sz : Nat) (h0 : Nat) (a : Nat → Nat) (c u : Nat) (A : md_S)  (hm : md_at G M h0 a c u A)  : Met l yX7_thrown wsX7_thrown RM_X7_thrown (mw_pre G M sz [.ref (h0)]) (md_Qi G M sz h0 a (nI (c)) c u A) 0 0 (mw_A M sz) := by
  refine Met.ofW (cc := cX7_thrown) (maxL := 1) (ret := (some .int)) (by decide) rfl ?_
  intro p e s m args below meth c0 s₁ B hml hv
  obtain ⟨rfl, rfl, hC, hw⟩ := mw_in hv
  have hx := B.exec
  have hb := B.bytes
  have hr := B.returns
  have hts := atoms_spec (ws := wsX7_thrown) B.pre
  have hown : s.vm.findClass RX7 = some m.cls := findClass_of_methodNamed B.named
  have hlocks := B.notSynchronized
  have hf : md_fr h0 a M M := md_fr.rf
  have k_0 := hts (.fieldLink RX7 91 "LinkPairModel" "code" "I") (by decide +kernel)
  have hl := lv_entry ([.ref (h0)]) (n := 1) (Nat.le_of_ble_eq_true rfl)
  rw [lg_entry_eq]
  generalize (lg_sl ([.ref (h0)]) ++ List.replicate (1 - (lg_sl ([.ref (h0)])).length) Slot.unset).toArray = ls at hl ⊢
  have hl : lv_has ls 1 [(0, .ref (h0))] := hl
  refine mw_start (fun H locs hw => ?_) hw
  refine lv_aload_n hx hb dX7_thrown_0 rfl (lv_at hl 0 rfl) ?_
  refine mw_get (C := RX7) (T := TX7) (N := 27) (v := .int (nI (c))) hx hb hts inX7_thrown_X7 hown hC hw hm.1 rfl 0 (by decide) k_0 rfl dX7_thrown_1 ?_
  exact md_iret hx hb hr hlocks hw hm hf (rfl) dX7_thrown_4
theorem inX7_refuses_X7 : ∀ w ∈ wsX70, w ∈ wsX7_refuses := by decide +kernel
def RM_X7_refuses : Room := { frames := 0, cells := 0, slots := 0, locals := 0 }
set_option maxHeartbeats 4000000 in
set_option maxRecDepth 100000 in
theorem c_X7_refuses (l : Launch) (G : mw_G) (M : mw_M) (sz : Nat) (h0 : Nat) (a : Nat → Nat) (c u : Nat) (A : md_S) (z : Nat) (hm : md_at G M h0 a c u A) (hz : z ≤ 2) : Met l yX7_refuses wsX7_refuses RM_X7_refuses (mw_pre G M sz [.ref (h0), .int (nI (z))]) (md_Qi G M sz h0 a (nI (b2n (decide (0 < z)))) z u A) 0 0 (mw_A M sz) := by
  refine Met.ofW (cc := cX7_refuses) (maxL := 2) (ret := (some .boolean)) (by decide) rfl ?_
  intro p e s m args below meth c0 s₁ B hml hv
  obtain ⟨rfl, rfl, hC, hw⟩ := mw_in hv
  have hx := B.exec
  have hb := B.bytes
  have hr := B.returns
  have hts := atoms_spec (ws := wsX7_refuses) B.pre
  have hown : s.vm.findClass RX7 = some m.cls := findClass_of_methodNamed B.named
  have hlocks := B.notSynchronized
  have hf : md_fr h0 a M M := md_fr.rf
  have k_0 := hts (.fieldLink RX7 91 "LinkPairModel" "code" "I") (by decide +kernel)
  have hl := lv_entry ([.ref (h0), .int (nI (z))]) (n := 2) (Nat.le_of_ble_eq_true rfl)
  rw [lg_entry_eq]
  generalize (lg_sl ([.ref (h0), .int (nI (z))]) ++ List.replicate (2 - (lg_sl ([.ref (h0), .int (nI (z))])).length) Slot.unset).toArray = ls at hl ⊢
  have hl : lv_has ls 2 [(0, .ref (h0)), (1, .int (nI (z)))] := hl
  refine mw_start (fun H locs hw => ?_) hw
  refine lv_aload_n hx hb dX7_refuses_0 rfl (lv_at hl 0 rfl) ?_
  refine lv_iload_n hx hb dX7_refuses_1 rfl (lv_at hl 1 rfl) ?_
  refine mw_put (C := RX7) (T := TX7) (N := 27) hx hb hts inX7_refuses_X7 tyX7 tyX7_ok nmX7 hown hC hw hm.1 rfl 0 (by decide) k_0 rfl rfl rfl (Nat.le_of_ble_eq_true rfl) dX7_refuses_2 (fun H locs hw => ?_)
  have hw : mw_St G (mw_A M s.heap.size) s (va_up _ h0 (some (md_obj a z u))) H locs := hw
  have hm := hm.co z u
  have hf := hf.tr (md_fr.co (x := some (md_obj a z u)))
  refine lv_iload_n hx hb dX7_refuses_5 rfl (lv_at hl 1 rfl) ?_
  refine lv_if_le (tgt := 13) hx hb dX7_refuses_6 (by decide) (fun c_1 => ?_) (fun c_1 => ?_)
  · skip
    have c_1 : z ≤ 0 := (nI_leI (a := z) (b := 0) (by omega) (by omega)).mp c_1
    refine lv_iconst (v := nI 0) hx hb dX7_refuses_13 (by decide) ?_
    exact md_zret hx hb hr hlocks hw hm hf (by decide) (by unfold b2n; rw [if_neg (by simp <;> omega)]) dX7_refuses_14
  · skip
    have c_1 : z > 0 := Nat.not_le.mp (fun h => c_1 ((nI_leI (a := z) (b := 0) (by omega) (by omega)).mpr h))
    refine lv_iconst (v := nI 1) hx hb dX7_refuses_9 (by decide) ?_
    refine lv_goto (tgt := 14) hx hb dX7_refuses_10 (by decide) ?_
    exact md_zret hx hb hr hlocks hw hm hf (by decide) (by unfold b2n; rw [if_pos (by simp <;> omega)]) dX7_refuses_14
theorem inX7_begin_X7 : ∀ w ∈ wsX70, w ∈ wsX7_begin := by decide +kernel
def RM_X7_begin : Room := { frames := 0, cells := 0, slots := 0, locals := 0 }
set_option maxHeartbeats 4000000 in
set_option maxRecDepth 100000 in
theorem c_X7_begin (l : Launch) (G : mw_G) (M : mw_M) (sz : Nat) (h0 : Nat) (a : Nat → Nat) (c u : Nat) (A : md_S) (ed : Nat) (hm : md_at G M h0 a c u A) (hed : ed ≤ 1) : Met l yX7_begin wsX7_begin RM_X7_begin (mw_pre G M sz [.ref (h0), .int (nI (ed))]) (md_Qv G M sz h0 a c u (md_u ((md_u ((md_u ((md_u ((md_u ((md_u ((md_u ((md_u ((md_u ((md_u ((md_u ((md_u ((md_u A 1 ed 0)) 4 ed 1)) 5 ed 1)) 6 ed 127)) 7 ed 127)) 8 ed 127)) 9 ed 0)) 12 ed 0)) 16 ed 0)) 17 ed 0)) 18 ed 0)) 19 ed 0)) 20 ed 0)) 0 0 (mw_A M sz) := by
  refine Met.ofW (cc := cX7_begin) (maxL := 2) (ret := none) (by decide) rfl ?_
  intro p e s m args below meth c0 s₁ B hml hv
  obtain ⟨rfl, rfl, hC, hw⟩ := mw_in hv
  have hx := B.exec
  have hb := B.bytes
  have hr := B.returns
  have hts := atoms_spec (ws := wsX7_begin) B.pre
  have hown : s.vm.findClass RX7 = some m.cls := findClass_of_methodNamed B.named
  have hlocks := B.notSynchronized
  have hf : md_fr h0 a M M := md_fr.rf
  have k_0 := hts (.fieldLink RX7 7 "LinkPairModel" "frames" "[I") (by decide +kernel)
  have k_1 := hts (.fieldLink RX7 20 "LinkPairModel" "fib" "[I") (by decide +kernel)
  have k_2 := hts (.fieldLink RX7 23 "LinkPairModel" "bib" "[I") (by decide +kernel)
  have k_3 := hts (.fieldLink RX7 26 "LinkPairModel" "sentLatest" "[I") (by decide +kernel)
  have k_4 := hts (.fieldLink RX7 29 "LinkPairModel" "takenLatest" "[I") (by decide +kernel)
  have k_5 := hts (.fieldLink RX7 32 "LinkPairModel" "toldLatest" "[I") (by decide +kernel)
  have k_6 := hts (.fieldLink RX7 35 "LinkPairModel" "waits" "[I") (by decide +kernel)
  have k_7 := hts (.fieldLink RX7 44 "LinkPairModel" "open" "[I") (by decide +kernel)
  have k_8 := hts (.fieldLink RX7 56 "LinkPairModel" "again" "[I") (by decide +kernel)
  have k_9 := hts (.fieldLink RX7 59 "LinkPairModel" "errors" "[I") (by decide +kernel)
  have k_10 := hts (.fieldLink RX7 62 "LinkPairModel" "units" "[I") (by decide +kernel)
  have k_11 := hts (.fieldLink RX7 65 "LinkPairModel" "abnormal" "[I") (by decide +kernel)
  have k_12 := hts (.fieldLink RX7 68 "LinkPairModel" "failed" "[Z") (by decide +kernel)
  have hl := lv_entry ([.ref (h0), .int (nI (ed))]) (n := 2) (Nat.le_of_ble_eq_true rfl)
  rw [lg_entry_eq]
  generalize (lg_sl ([.ref (h0), .int (nI (ed))]) ++ List.replicate (2 - (lg_sl ([.ref (h0), .int (nI (ed))])).length) Slot.unset).toArray = ls at hl ⊢
  have hl : lv_has ls 2 [(0, .ref (h0)), (1, .int (nI (ed)))] := hl
  refine mw_start (fun H locs hw => ?_) hw
  refine lv_aload_n hx hb dX7_begin_0 rfl (lv_at hl 0 rfl) ?_
  refine mw_get (C := RX7) (T := TX7) (N := 27) (v := .ref (a 1)) hx hb hts inX7_begin_X7 hown hC hw hm.1 rfl 1 (by decide) k_0 rfl dX7_begin_1 ?_
  refine lv_iload_n hx hb dX7_begin_4 rfl (lv_at hl 1 rfl) ?_
  refine lv_iconst (v := nI 0) hx hb dX7_begin_5 (by decide) ?_
  refine md_ast 1 (n := 2) (v := 0) hx hb hC hw hm rfl (by decide) rfl (by omega) (by decide) dX7_begin_6 (fun M1 H locs hm hf1 hw => ?_)
  have hf := hf.tr hf1
  refine lv_aload_n hx hb dX7_begin_7 rfl (lv_at hl 0 rfl) ?_
  refine mw_get (C := RX7) (T := TX7) (N := 27) (v := .ref (a 4)) hx hb hts inX7_begin_X7 hown hC hw hm.1 rfl 4 (by decide) k_1 rfl dX7_begin_8 ?_
  refine lv_iload_n hx hb dX7_begin_11 rfl (lv_at hl 1 rfl) ?_
  refine lv_iconst (v := nI 1) hx hb dX7_begin_12 (by decide) ?_
  refine md_ast 4 (n := 2) (v := 1) hx hb hC hw hm rfl (by decide) rfl (by omega) (by decide) dX7_begin_13 (fun M1 H locs hm hf1 hw => ?_)
  have hf := hf.tr hf1
  refine lv_aload_n hx hb dX7_begin_14 rfl (lv_at hl 0 rfl) ?_
  refine mw_get (C := RX7) (T := TX7) (N := 27) (v := .ref (a 5)) hx hb hts inX7_begin_X7 hown hC hw hm.1 rfl 5 (by decide) k_2 rfl dX7_begin_15 ?_
  refine lv_iload_n hx hb dX7_begin_18 rfl (lv_at hl 1 rfl) ?_
  refine lv_iconst (v := nI 1) hx hb dX7_begin_19 (by decide) ?_
  refine md_ast 5 (n := 2) (v := 1) hx hb hC hw hm rfl (by decide) rfl (by omega) (by decide) dX7_begin_20 (fun M1 H locs hm hf1 hw => ?_)
  have hf := hf.tr hf1
  refine lv_aload_n hx hb dX7_begin_21 rfl (lv_at hl 0 rfl) ?_
  refine mw_get (C := RX7) (T := TX7) (N := 27) (v := .ref (a 6)) hx hb hts inX7_begin_X7 hown hC hw hm.1 rfl 6 (by decide) k_3 rfl dX7_begin_22 ?_
  refine lv_iload_n hx hb dX7_begin_25 rfl (lv_at hl 1 rfl) ?_
  refine lv_bipush (v := nI 127) hx hb dX7_begin_26 (by decide) ?_
  refine md_ast 6 (n := 2) (v := 127) hx hb hC hw hm rfl (by decide) rfl (by omega) (by decide) dX7_begin_28 (fun M1 H locs hm hf1 hw => ?_)
  have hf := hf.tr hf1
  refine lv_aload_n hx hb dX7_begin_29 rfl (lv_at hl 0 rfl) ?_
  refine mw_get (C := RX7) (T := TX7) (N := 27) (v := .ref (a 7)) hx hb hts inX7_begin_X7 hown hC hw hm.1 rfl 7 (by decide) k_4 rfl dX7_begin_30 ?_
  refine lv_iload_n hx hb dX7_begin_33 rfl (lv_at hl 1 rfl) ?_
  refine lv_bipush (v := nI 127) hx hb dX7_begin_34 (by decide) ?_
  refine md_ast 7 (n := 2) (v := 127) hx hb hC hw hm rfl (by decide) rfl (by omega) (by decide) dX7_begin_36 (fun M1 H locs hm hf1 hw => ?_)
  have hf := hf.tr hf1
  refine lv_aload_n hx hb dX7_begin_37 rfl (lv_at hl 0 rfl) ?_
  refine mw_get (C := RX7) (T := TX7) (N := 27) (v := .ref (a 8)) hx hb hts inX7_begin_X7 hown hC hw hm.1 rfl 8 (by decide) k_5 rfl dX7_begin_38 ?_
  refine lv_iload_n hx hb dX7_begin_41 rfl (lv_at hl 1 rfl) ?_
  refine lv_bipush (v := nI 127) hx hb dX7_begin_42 (by decide) ?_
  refine md_ast 8 (n := 2) (v := 127) hx hb hC hw hm rfl (by decide) rfl (by omega) (by decide) dX7_begin_44 (fun M1 H locs hm hf1 hw => ?_)
  have hf := hf.tr hf1
  refine lv_aload_n hx hb dX7_begin_45 rfl (lv_at hl 0 rfl) ?_
  refine mw_get (C := RX7) (T := TX7) (N := 27) (v := .ref (a 9)) hx hb hts inX7_begin_X7 hown hC hw hm.1 rfl 9 (by decide) k_6 rfl dX7_begin_46 ?_
  refine lv_iload_n hx hb dX7_begin_49 rfl (lv_at hl 1 rfl) ?_
  refine lv_iconst (v := nI 0) hx hb dX7_begin_50 (by decide) ?_
  refine md_ast 9 (n := 2) (v := 0) hx hb hC hw hm rfl (by decide) rfl (by omega) (by decide) dX7_begin_51 (fun M1 H locs hm hf1 hw => ?_)
  have hf := hf.tr hf1
  refine lv_aload_n hx hb dX7_begin_52 rfl (lv_at hl 0 rfl) ?_
  refine mw_get (C := RX7) (T := TX7) (N := 27) (v := .ref (a 12)) hx hb hts inX7_begin_X7 hown hC hw hm.1 rfl 12 (by decide) k_7 rfl dX7_begin_53 ?_
  refine lv_iload_n hx hb dX7_begin_56 rfl (lv_at hl 1 rfl) ?_
  refine lv_iconst (v := nI 0) hx hb dX7_begin_57 (by decide) ?_
  refine md_ast 12 (n := 2) (v := 0) hx hb hC hw hm rfl (by decide) rfl (by omega) (by decide) dX7_begin_58 (fun M1 H locs hm hf1 hw => ?_)
  have hf := hf.tr hf1
  refine lv_aload_n hx hb dX7_begin_59 rfl (lv_at hl 0 rfl) ?_
  refine mw_get (C := RX7) (T := TX7) (N := 27) (v := .ref (a 16)) hx hb hts inX7_begin_X7 hown hC hw hm.1 rfl 16 (by decide) k_8 rfl dX7_begin_60 ?_
  refine lv_iload_n hx hb dX7_begin_63 rfl (lv_at hl 1 rfl) ?_
  refine lv_iconst (v := nI 0) hx hb dX7_begin_64 (by decide) ?_
  refine md_ast 16 (n := 2) (v := 0) hx hb hC hw hm rfl (by decide) rfl (by omega) (by decide) dX7_begin_65 (fun M1 H locs hm hf1 hw => ?_)
  have hf := hf.tr hf1
  refine lv_aload_n hx hb dX7_begin_66 rfl (lv_at hl 0 rfl) ?_
  refine mw_get (C := RX7) (T := TX7) (N := 27) (v := .ref (a 17)) hx hb hts inX7_begin_X7 hown hC hw hm.1 rfl 17 (by decide) k_9 rfl dX7_begin_67 ?_
  refine lv_iload_n hx hb dX7_begin_70 rfl (lv_at hl 1 rfl) ?_
  refine lv_iconst (v := nI 0) hx hb dX7_begin_71 (by decide) ?_
  refine md_ast 17 (n := 2) (v := 0) hx hb hC hw hm rfl (by decide) rfl (by omega) (by decide) dX7_begin_72 (fun M1 H locs hm hf1 hw => ?_)
  have hf := hf.tr hf1
  refine lv_aload_n hx hb dX7_begin_73 rfl (lv_at hl 0 rfl) ?_
  refine mw_get (C := RX7) (T := TX7) (N := 27) (v := .ref (a 18)) hx hb hts inX7_begin_X7 hown hC hw hm.1 rfl 18 (by decide) k_10 rfl dX7_begin_74 ?_
  refine lv_iload_n hx hb dX7_begin_77 rfl (lv_at hl 1 rfl) ?_
  refine lv_iconst (v := nI 0) hx hb dX7_begin_78 (by decide) ?_
  refine md_ast 18 (n := 2) (v := 0) hx hb hC hw hm rfl (by decide) rfl (by omega) (by decide) dX7_begin_79 (fun M1 H locs hm hf1 hw => ?_)
  have hf := hf.tr hf1
  refine lv_aload_n hx hb dX7_begin_80 rfl (lv_at hl 0 rfl) ?_
  refine mw_get (C := RX7) (T := TX7) (N := 27) (v := .ref (a 19)) hx hb hts inX7_begin_X7 hown hC hw hm.1 rfl 19 (by decide) k_11 rfl dX7_begin_81 ?_
  refine lv_iload_n hx hb dX7_begin_84 rfl (lv_at hl 1 rfl) ?_
  refine lv_iconst (v := nI 0) hx hb dX7_begin_85 (by decide) ?_
  refine md_ast 19 (n := 2) (v := 0) hx hb hC hw hm rfl (by decide) rfl (by omega) (by decide) dX7_begin_86 (fun M1 H locs hm hf1 hw => ?_)
  have hf := hf.tr hf1
  refine lv_aload_n hx hb dX7_begin_87 rfl (lv_at hl 0 rfl) ?_
  refine mw_get (C := RX7) (T := TX7) (N := 27) (v := .ref (a 20)) hx hb hts inX7_begin_X7 hown hC hw hm.1 rfl 20 (by decide) k_12 rfl dX7_begin_88 ?_
  refine lv_iload_n hx hb dX7_begin_91 rfl (lv_at hl 1 rfl) ?_
  refine lv_iconst (v := nI 0) hx hb dX7_begin_92 (by decide) ?_
  refine md_zst 20 (n := 2) (v := 0) hx hb hC hw hm rfl (by decide) rfl (by omega) (by decide) (by omega) dX7_begin_93 (fun M1 H locs hm hf1 hw => ?_)
  have hf := hf.tr hf1
  exact md_vret hx hb hr hlocks hw hm hf dX7_begin_94
theorem inX7_unitCheck_X7 : ∀ w ∈ wsX70, w ∈ wsX7_unitCheck := by decide +kernel
def RM_X7_unitCheck : Room := { frames := 1, cells := 0, slots := 0, locals := 23 }
set_option maxHeartbeats 4000000 in
set_option maxRecDepth 100000 in
theorem c_X7_unitCheck (l : Launch) (G : mw_G) (M : mw_M) (sz : Nat) (h0 : Nat) (a : Nat → Nat) (c u : Nat) (A : md_S) (n : Nat) (hm : md_at G M h0 a c u A) (hn : n ≤ 280) (hug : ∀ i, i < 280 → A 24 i < 256) : Met l yX7_unitCheck wsX7_unitCheck RM_X7_unitCheck (mw_pre G M sz [.ref (h0), .int (nI (n))]) (md_Qi G M sz h0 a (nI (65535 - cdu (A 24) n)) c u A) 0 0 (mw_A M sz) := by
  refine Met.ofW (cc := cX7_unitCheck) (maxL := 4) (ret := (some .int)) (by decide) rfl ?_
  intro p e s m args below meth c0 s₁ B hml hv
  obtain ⟨rfl, rfl, hC, hw⟩ := mw_in hv
  have hx := B.exec
  have hb := B.bytes
  have hr := B.returns
  have hts := atoms_spec (ws := wsX7_unitCheck) B.pre
  have hown : s.vm.findClass RX7 = some m.cls := findClass_of_methodNamed B.named
  have hlocks := B.notSynchronized
  have hf : md_fr h0 a M M := md_fr.rf
  have k_0 := hts (.constant RX7 96 (65535)) (by decide +kernel)
  have k_1 := hts (.fieldLink RX7 81 "LinkPairModel" "unit" "[I") (by decide +kernel)
  have hl := lv_entry ([.ref (h0), .int (nI (n))]) (n := 4) (Nat.le_of_ble_eq_true rfl)
  rw [lg_entry_eq]
  generalize (lg_sl ([.ref (h0), .int (nI (n))]) ++ List.replicate (4 - (lg_sl ([.ref (h0), .int (nI (n))])).length) Slot.unset).toArray = ls at hl ⊢
  have hl : lv_has ls 4 [(0, .ref (h0)), (1, .int (nI (n)))] := hl
  refine mw_start (fun H locs hw => ?_) hw
  refine lv_ldc hx hb hown k_0 dX7_unitCheck_0 ?_
  refine mw_ti (show (65535 : Int32) = nI 65535 by decide) ?_
  refine lv_istore_n (lv' := [(2, .int (nI (65535))), (0, .ref (h0)), (1, .int (nI (n)))]) hx hb dX7_unitCheck_2 rfl hl (by decide) rfl (fun ls hl => ?_)
  refine lv_iconst (v := nI 0) hx hb dX7_unitCheck_3 (by decide) ?_
  refine lv_istore_n (lv' := [(3, .int (nI (0))), (2, .int (nI (65535))), (0, .ref (h0)), (1, .int (nI (n)))]) hx hb dX7_unitCheck_4 rfl hl (by decide) rfl (fun ls hl => ?_)
  have lp_1 : ∀ (n9 : Nat) (k : Nat), (hk : k ≤ n) → n - k < n9 → ∀ (M1 : mw_M) (H : Heap) (locs : List Loc) (ls : Array Slot), md_at G M1 h0 a c u A → md_fr h0 a M M1 → mw_St G (mw_A M s.heap.size) s M1 H locs → lv_has ls 4 [(0, .ref (h0)), (1, .int (nI (n))), (2, .int (nI (cdu (A 24) k))), (3, .int (nI (k)))] → W p l e (headSpec wsX7_unitCheck RM_X7_unitCheck).room s m ([.ref (h0), .int (nI (n))] : List Value).toArray below meth c0 H locs 0 0 (MQ below (md_Qi G M s.heap.size h0 a (nI (65535 - cdu (A 24) n)) c u A) ([.ref (h0), .int (nI (n))] : List Value).toArray s 0 0 (mw_A M s.heap.size)) (F0 m 5 ls []) := by
    intro n9
    induction n9 with
    | zero => intro k hk h9; exact absurd h9 (Nat.not_lt_zero _)
    | succ n9 ih =>
      intro k hk h9 M1 H locs ls hm hf hw hl
      have hcd := cdu_lt (A 24) k
      refine lv_iload_n hx hb dX7_unitCheck_5 rfl (lv_at hl 3 rfl) ?_
      refine lv_iload_n hx hb dX7_unitCheck_6 rfl (lv_at hl 1 rfl) ?_
      refine lv_icmp_ge (tgt := 27) hx hb dX7_unitCheck_7 (by decide) (fun c_2 => ?_) (fun c_2 => ?_)
      · skip
        have c_2 : k ≥ n := (nI_leI (a := n) (b := k) (by omega) (by omega)).mp c_2
        obtain rfl : n = k := by omega
        refine lv_ldc hx hb hown k_0 dX7_unitCheck_27 ?_
        refine mw_ti (show (65535 : Int32) = nI 65535 by decide) ?_
        refine lv_iload_n hx hb dX7_unitCheck_29 rfl (lv_at hl 2 rfl) ?_
        refine lv_isub hx hb dX7_unitCheck_30 ?_
        refine mw_ti (v' := nI (65535 - (cdu (A 24) n))) (pk_sub (by omega)) ?_
        exact md_iret hx hb hr hlocks hw hm hf (by first | rfl | simp_all | (congr 1; omega)) dX7_unitCheck_31
      · skip
        have c_2 : k < n := Nat.not_le.mp (fun h => c_2 ((nI_leI (a := n) (b := k) (by omega) (by omega)).mpr h))
        refine lv_iload_n hx hb dX7_unitCheck_10 rfl (lv_at hl 2 rfl) ?_
        refine lv_aload_n hx hb dX7_unitCheck_11 rfl (lv_at hl 0 rfl) ?_
        refine mw_get (C := RX7) (T := TX7) (N := 27) (v := .ref (a 24)) hx hb hts inX7_unitCheck_X7 hown hC hw hm.1 rfl 24 (by decide) k_1 rfl dX7_unitCheck_12 ?_
        refine lv_iload_n hx hb dX7_unitCheck_15 rfl (lv_at hl 3 rfl) ?_
        refine md_ald 24 (n := 280) hx hb hC hw hm rfl (by decide) rfl (by omega) (by decide) dX7_unitCheck_16 ?_
        have hgk := hug k (by omega)
        refine mw_ci hC hw (va_runS (As := [.int (nI (cdu (A 24) k)), .int (nI (A 24 k))]) (rest := []) ⟨hx, hb, hml, hown, hts⟩ (c_X7_checked l G _ H.size (cdu (A 24) k) (A 24 k)  (by omega) (by omega)) (cwS 2 hts gX7_unitCheck_X7_checked rfl rfl rfl (by decide +kernel) ⟨Nat.le_of_ble_eq_true rfl, Nat.le_of_ble_eq_true rfl⟩) (mw_preS hC hw) rfl rfl hl.1 rfl (lv_room (Nat.le_of_ble_eq_true rfl)) dX7_unitCheck_17 ⟨Nat.le_of_ble_eq_true rfl, Nat.le_of_ble_eq_true rfl⟩) (fun H locs hz hw => ?_)
        refine lv_istore_n (lv' := [(2, .int (nI (rst (cdu (A 24) k) (A 24 k) 8))), (0, .ref (h0)), (1, .int (nI (n))), (3, .int (nI (k)))]) hx hb dX7_unitCheck_20 rfl hl (by decide) rfl (fun ls hl => ?_)
        refine lv_iinc (v := nI (k + 1)) (lv' := [(3, .int (nI (k + 1))), (2, .int (nI (rst (cdu (A 24) k) (A 24 k) 8))), (0, .ref (h0)), (1, .int (nI (n)))]) hx hb dX7_unitCheck_21 hl (k := 3) rfl (by rw [show Int32.ofInt 1 = nI 1 by decide]; exact nI_add _ _) (by decide) rfl (fun ls hl => ?_)
        refine lv_goto (tgt := 5) hx hb dX7_unitCheck_24 (by decide) ?_
        have hv_3 : (.int (nI (rst (cdu (A 24) k) (A 24 k) 8)) : Value) = .int (nI (cdu (A 24) (k + 1))) := by first | rfl | simp_all
        rw [hv_3] at hl
        exact ih  (k + 1) (by omega) (by omega) _ _ _ ls hm hf hw (lv_sub hl [2, 3, 1, 0] rfl)
  have hv_4 : (.int (nI (65535)) : Value) = .int (nI (cdu (A 24) 0)) := by first | rfl | simp_all
  rw [hv_4] at hl
  exact lp_1 (n - 0 + 1) 0 (by omega) (Nat.lt_succ_self _) _ _ _ ls hm hf hw (lv_sub hl [2, 3, 1, 0] rfl)
theorem inX7_bit_X7 : ∀ w ∈ wsX70, w ∈ wsX7_bit := by decide +kernel
def RM_X7_bit : Room := { frames := 0, cells := 0, slots := 0, locals := 0 }
set_option maxHeartbeats 4000000 in
set_option maxRecDepth 100000 in
theorem c_X7_bit (l : Launch) (G : mw_G) (M : mw_M) (sz : Nat) (h0 : Nat) (a : Nat → Nat) (c u : Nat) (A : md_S) (ed v : Nat) (hm : md_at G M h0 a c u A) (hed : ed ≤ 1) (hf1 : 1 ≤ A 1 ed) (hf2 : A 1 ed ≤ 40) (hl_ : A 2 (40 * ed + A 1 ed - 1) < 3000) : Met l yX7_bit wsX7_bit RM_X7_bit (mw_pre G M sz [.ref (h0), .int (nI (ed)), .int (nI (v))]) (md_Qv G M sz h0 a c u (mbit A ed v)) 0 0 (mw_A M sz) := by
  refine Met.ofW (cc := cX7_bit) (maxL := 4) (ret := none) (by decide) rfl ?_
  intro p e s m args below meth c0 s₁ B hml hv
  obtain ⟨rfl, rfl, hC, hw⟩ := mw_in hv
  have hx := B.exec
  have hb := B.bytes
  have hr := B.returns
  have hts := atoms_spec (ws := wsX7_bit) B.pre
  have hown : s.vm.findClass RX7 = some m.cls := findClass_of_methodNamed B.named
  have hlocks := B.notSynchronized
  have hf : md_fr h0 a M M := md_fr.rf
  have k_0 := hts (.fieldLink RX7 7 "LinkPairModel" "frames" "[I") (by decide +kernel)
  have k_1 := hts (.fieldLink RX7 17 "LinkPairModel" "bits" "[I") (by decide +kernel)
  have k_2 := hts (.fieldLink RX7 13 "LinkPairModel" "lengths" "[I") (by decide +kernel)
  have hl := lv_entry ([.ref (h0), .int (nI (ed)), .int (nI (v))]) (n := 4) (Nat.le_of_ble_eq_true rfl)
  rw [lg_entry_eq]
  generalize (lg_sl ([.ref (h0), .int (nI (ed)), .int (nI (v))]) ++ List.replicate (4 - (lg_sl ([.ref (h0), .int (nI (ed)), .int (nI (v))])).length) Slot.unset).toArray = ls at hl ⊢
  have hl : lv_has ls 4 [(0, .ref (h0)), (1, .int (nI (ed))), (2, .int (nI (v)))] := hl
  refine mw_start (fun H locs hw => ?_) hw
  refine lv_bipush (v := nI 40) hx hb dX7_bit_0 (by decide) ?_
  refine lv_iload_n hx hb dX7_bit_2 rfl (lv_at hl 1 rfl) ?_
  refine lv_imul hx hb dX7_bit_3 ?_
  refine mw_ti (v' := nI (40 * ed)) (pk_mul _ _) ?_
  refine lv_aload_n hx hb dX7_bit_4 rfl (lv_at hl 0 rfl) ?_
  refine mw_get (C := RX7) (T := TX7) (N := 27) (v := .ref (a 1)) hx hb hts inX7_bit_X7 hown hC hw hm.1 rfl 1 (by decide) k_0 rfl dX7_bit_5 ?_
  refine lv_iload_n hx hb dX7_bit_8 rfl (lv_at hl 1 rfl) ?_
  refine md_ald 1 (n := 2) hx hb hC hw hm rfl (by decide) rfl (by omega) (by decide) dX7_bit_9 ?_
  refine lv_iadd hx hb dX7_bit_10 ?_
  refine mw_ti (v' := nI (40 * ed + A 1 ed)) (nI_add _ _) ?_
  refine lv_iconst (v := nI 1) hx hb dX7_bit_11 (by decide) ?_
  refine lv_isub hx hb dX7_bit_12 ?_
  refine mw_ti (v' := nI (40 * ed + A 1 ed - 1)) (pk_sub (by omega)) ?_
  refine lv_istore_n (lv' := [(3, .int (nI (40 * ed + A 1 ed - 1))), (0, .ref (h0)), (1, .int (nI (ed))), (2, .int (nI (v)))]) hx hb dX7_bit_13 rfl hl (by decide) rfl (fun ls hl => ?_)
  refine lv_aload_n hx hb dX7_bit_14 rfl (lv_at hl 1 rfl) ?_
  refine mw_get (C := RX7) (T := TX7) (N := 27) (v := .ref (a 3)) hx hb hts inX7_bit_X7 hown hC hw hm.1 rfl 3 (by decide) k_1 rfl dX7_bit_15 ?_
  refine lv_sipush (v := nI 3000) hx hb dX7_bit_18 (by decide) ?_
  refine lv_iload_n hx hb dX7_bit_21 rfl (lv_at hl 0 rfl) ?_
  refine lv_imul hx hb dX7_bit_22 ?_
  refine mw_ti (v' := nI (3000 * (40 * ed + A 1 ed - 1))) (pk_mul _ _) ?_
  refine lv_aload_n hx hb dX7_bit_23 rfl (lv_at hl 1 rfl) ?_
  refine mw_get (C := RX7) (T := TX7) (N := 27) (v := .ref (a 2)) hx hb hts inX7_bit_X7 hown hC hw hm.1 rfl 2 (by decide) k_2 rfl dX7_bit_24 ?_
  refine lv_iload_n hx hb dX7_bit_27 rfl (lv_at hl 0 rfl) ?_
  refine md_ald 2 (n := 80) hx hb hC hw hm rfl (by decide) rfl (by omega) (by decide) dX7_bit_28 ?_
  refine lv_iadd hx hb dX7_bit_29 ?_
  refine mw_ti (v' := nI (3000 * (40 * ed + A 1 ed - 1) + (A 2 (40 * ed + A 1 ed - 1)))) (nI_add _ _) ?_
  refine lv_iload_n hx hb dX7_bit_30 rfl (lv_at hl 3 rfl) ?_
  refine md_ast 3 (n := 240000) (v := v) hx hb hC hw hm rfl (by decide) rfl (by omega) (by decide) dX7_bit_31 (fun M1 H locs hm hf1 hw => ?_)
  have hf := hf.tr hf1
  refine lv_aload_n hx hb dX7_bit_32 rfl (lv_at hl 1 rfl) ?_
  refine mw_get (C := RX7) (T := TX7) (N := 27) (v := .ref (a 2)) hx hb hts inX7_bit_X7 hown hC hw hm.1 rfl 2 (by decide) k_2 rfl dX7_bit_33 ?_
  refine lv_iload_n hx hb dX7_bit_36 rfl (lv_at hl 0 rfl) ?_
  refine lv_dup2_11 hx hb dX7_bit_37 rfl rfl ?_
  refine md_ald 2 (n := 80) hx hb hC hw hm rfl (by decide) rfl (by omega) (by decide) dX7_bit_38 ?_
  refine mw_ti (v' := nI (A 2 (40 * ed + A 1 ed - 1))) (congrArg nI (md_u_k (by decide))) ?_
  refine lv_iconst (v := nI 1) hx hb dX7_bit_39 (by decide) ?_
  refine lv_iadd hx hb dX7_bit_40 ?_
  refine mw_ti (v' := nI (A 2 (40 * ed + A 1 ed - 1) + 1)) (nI_add _ _) ?_
  refine md_ast 2 (n := 80) (v := A 2 (40 * ed + A 1 ed - 1) + 1) hx hb hC hw hm rfl (by decide) rfl (by omega) (by decide) dX7_bit_41 (fun M1 H locs hm hf1 hw => ?_)
  have hf := hf.tr hf1
  have hA_1 : md_u ((md_u A 3 (3000 * (40 * ed + A 1 ed - 1) + (A 2 (40 * ed + A 1 ed - 1))) v)) 2 (40 * ed + A 1 ed - 1) (A 2 (40 * ed + A 1 ed - 1) + 1) = mbit A ed v := by first | rfl | simp_all
  rw [hA_1] at hm
  exact md_vret hx hb hr hlocks hw hm hf dX7_bit_42
def RM_X7_flag : Room := { frames := 1, cells := 0, slots := 0, locals := 23 }
set_option maxHeartbeats 4000000 in
set_option maxRecDepth 100000 in
theorem c_X7_flag (l : Launch) (G : mw_G) (M : mw_M) (sz : Nat) (h0 : Nat) (a : Nat → Nat) (c u : Nat) (A : md_S) (ed : Nat) (hm : md_at G M h0 a c u A) (hed : ed ≤ 1) (hf1 : 1 ≤ A 1 ed) (hf2 : A 1 ed ≤ 40) (hl_ : A 2 (40 * ed + A 1 ed - 1) + 8 ≤ 3000) : Met l yX7_flag wsX7_flag RM_X7_flag (mw_pre G M sz [.ref (h0), .int (nI (ed))]) (md_Qv G M sz h0 a c u (mfl A ed 8)) 0 0 (mw_A M sz) := by
  refine Met.ofW (cc := cX7_flag) (maxL := 3) (ret := none) (by decide) rfl ?_
  intro p e s m args below meth c0 s₁ B hml hv
  obtain ⟨rfl, rfl, hC, hw⟩ := mw_in hv
  have hx := B.exec
  have hb := B.bytes
  have hr := B.returns
  have hts := atoms_spec (ws := wsX7_flag) B.pre
  have hown : s.vm.findClass RX7 = some m.cls := findClass_of_methodNamed B.named
  have hlocks := B.notSynchronized
  have hf : md_fr h0 a M M := md_fr.rf
  have hl := lv_entry ([.ref (h0), .int (nI (ed))]) (n := 3) (Nat.le_of_ble_eq_true rfl)
  rw [lg_entry_eq]
  generalize (lg_sl ([.ref (h0), .int (nI (ed))]) ++ List.replicate (3 - (lg_sl ([.ref (h0), .int (nI (ed))])).length) Slot.unset).toArray = ls at hl ⊢
  have hl : lv_has ls 3 [(0, .ref (h0)), (1, .int (nI (ed)))] := hl
  refine mw_start (fun H locs hw => ?_) hw
  refine lv_iconst (v := nI 0) hx hb dX7_flag_0 (by decide) ?_
  refine lv_istore_n (lv' := [(2, .int (nI (0))), (0, .ref (h0)), (1, .int (nI (ed)))]) hx hb dX7_flag_1 rfl hl (by decide) rfl (fun ls hl => ?_)
  have lp_1 : ∀ (n9 : Nat) (k : Nat), (hk : k ≤ 8) → 8 - k < n9 → ∀ (M1 : mw_M) (H : Heap) (locs : List Loc) (ls : Array Slot), md_at G M1 h0 a c u (mfl A ed k) → md_fr h0 a M M1 → mw_St G (mw_A M s.heap.size) s M1 H locs → lv_has ls 3 [(0, .ref (h0)), (1, .int (nI (ed))), (2, .int (nI (k)))] → W p l e (headSpec wsX7_flag RM_X7_flag).room s m ([.ref (h0), .int (nI (ed))] : List Value).toArray below meth c0 H locs 0 0 (MQ below (md_Qv G M s.heap.size h0 a c u (mfl A ed 8)) ([.ref (h0), .int (nI (ed))] : List Value).toArray s 0 0 (mw_A M s.heap.size)) (F0 m 2 ls []) := by
    intro n9
    induction n9 with
    | zero => intro k hk h9; exact absurd h9 (Nat.not_lt_zero _)
    | succ n9 ih =>
      intro k hk h9 M1 H locs ls hm hf hw hl
      have h1 := mfl_o A ed k (j := 1) (by decide) (by decide)
      have h2 := mfl_2 A ed k
      refine lv_iload_n hx hb dX7_flag_2 rfl (lv_at hl 2 rfl) ?_
      refine lv_bipush (v := nI 8) hx hb dX7_flag_3 (by decide) ?_
      refine lv_icmp_ge (tgt := 34) hx hb dX7_flag_5 (by decide) (fun c_2 => ?_) (fun c_2 => ?_)
      · skip
        have c_2 : k ≥ 8 := (nI_leI (a := 8) (b := k) (by omega) (by omega)).mp c_2
        obtain rfl : k = 8 := by omega
        exact md_vret hx hb hr hlocks hw hm hf dX7_flag_34
      · skip
        have c_2 : k < 8 := Nat.not_le.mp (fun h => c_2 ((nI_leI (a := 8) (b := k) (by omega) (by omega)).mpr h))
        refine lv_aload_n hx hb dX7_flag_8 rfl (lv_at hl 0 rfl) ?_
        refine lv_iload_n hx hb dX7_flag_9 rfl (lv_at hl 1 rfl) ?_
        refine lv_iload_n hx hb dX7_flag_10 rfl (lv_at hl 2 rfl) ?_
        refine lv_if_eq (tgt := 20) hx hb dX7_flag_11 (by decide) (fun c_3 => ?_) (fun c_3 => ?_)
        · skip
          have c_3 : k = 0 := (nI_eq (a := k) (b := 0) (by omega) (by omega)).mp c_3
          have hfg : flg k = 0 := by rcases (show k = 0 ∨ k = 7 by omega) with rfl | rfl <;> rfl
          refine lv_iconst (v := nI 0) hx hb dX7_flag_20 (by decide) ?_
          refine lv_goto (tgt := 25) hx hb dX7_flag_21 (by decide) ?_
          refine md_cv hC hw (va_runV (As := [.int (nI (ed)), .int (nI (0))]) (rest := []) ⟨hx, hb, hml, hown, hts⟩ (c_X7_bit l G _ H.size h0 a c u (mfl A ed k) ed 0 hm (by omega) (by rw [h1]; exact hf1) (by rw [h1]; exact hf2) (by rw [h1, h2]; omega)) (cwV 2 hts gX7_flag_X7_bit rfl rfl rfl (by decide +kernel) ⟨Nat.le_of_ble_eq_true rfl, Nat.le_of_ble_eq_true rfl⟩) (mw_preV (ci := 7) hC hw rfl hm.1) rfl rfl hl.1 rfl (lv_room (Nat.le_of_ble_eq_true rfl)) dX7_flag_25 ⟨Nat.le_of_ble_eq_true rfl, Nat.le_of_ble_eq_true rfl⟩) (fun M1 H locs hm hf1 hw => ?_)
          have hf := hf.tr hf1
          refine lv_iinc (v := nI (k + 1)) (lv' := [(2, .int (nI (k + 1))), (0, .ref (h0)), (1, .int (nI (ed)))]) hx hb dX7_flag_28 hl (k := 2) rfl (by rw [show Int32.ofInt 1 = nI 1 by decide]; exact nI_add _ _) (by decide) rfl (fun ls hl => ?_)
          refine lv_goto (tgt := 2) hx hb dX7_flag_31 (by decide) ?_
          have hA_4 : mbit (mfl A ed k) ed 0 = mfl A ed (k + 1) := by rw [mfl, hfg]
          rw [hA_4] at hm
          exact ih  (k + 1) (by omega) (by omega) _ _ _ ls hm hf hw (lv_sub hl [1, 2, 0] rfl)
        · skip
          have c_3 : k ≠ 0 := fun h => c_3 ((nI_eq (a := k) (b := 0) (by omega) (by omega)).mpr h)
          refine lv_iload_n hx hb dX7_flag_14 rfl (lv_at hl 2 rfl) ?_
          refine lv_bipush (v := nI 7) hx hb dX7_flag_15 (by decide) ?_
          refine lv_icmp_ne (tgt := 24) hx hb dX7_flag_17 (by decide) (fun c_5 => ?_) (fun c_5 => ?_)
          · skip
            have c_5 : k ≠ 7 := fun h => c_5 ((nI_eq (a := k) (b := 7) (by omega) (by omega)).mpr h)
            have hfg : flg k = 1 := by rcases (show k = 1 ∨ k = 2 ∨ k = 3 ∨ k = 4 ∨ k = 5 ∨ k = 6 by omega) with rfl | rfl | rfl | rfl | rfl | rfl <;> rfl
            refine lv_iconst (v := nI 1) hx hb dX7_flag_24 (by decide) ?_
            refine md_cv hC hw (va_runV (As := [.int (nI (ed)), .int (nI (1))]) (rest := []) ⟨hx, hb, hml, hown, hts⟩ (c_X7_bit l G _ H.size h0 a c u (mfl A ed k) ed 1 hm (by omega) (by rw [h1]; exact hf1) (by rw [h1]; exact hf2) (by rw [h1, h2]; omega)) (cwV 2 hts gX7_flag_X7_bit rfl rfl rfl (by decide +kernel) ⟨Nat.le_of_ble_eq_true rfl, Nat.le_of_ble_eq_true rfl⟩) (mw_preV (ci := 7) hC hw rfl hm.1) rfl rfl hl.1 rfl (lv_room (Nat.le_of_ble_eq_true rfl)) dX7_flag_25 ⟨Nat.le_of_ble_eq_true rfl, Nat.le_of_ble_eq_true rfl⟩) (fun M1 H locs hm hf1 hw => ?_)
            have hf := hf.tr hf1
            refine lv_iinc (v := nI (k + 1)) (lv' := [(2, .int (nI (k + 1))), (0, .ref (h0)), (1, .int (nI (ed)))]) hx hb dX7_flag_28 hl (k := 2) rfl (by rw [show Int32.ofInt 1 = nI 1 by decide]; exact nI_add _ _) (by decide) rfl (fun ls hl => ?_)
            refine lv_goto (tgt := 2) hx hb dX7_flag_31 (by decide) ?_
            have hA_6 : mbit (mfl A ed k) ed 1 = mfl A ed (k + 1) := by rw [mfl, hfg]
            rw [hA_6] at hm
            exact ih  (k + 1) (by omega) (by omega) _ _ _ ls hm hf hw (lv_sub hl [1, 2, 0] rfl)
          · skip
            have c_5 : k = 7 := (nI_eq (a := k) (b := 7) (by omega) (by omega)).mp c_5
            have hfg : flg k = 0 := by rcases (show k = 0 ∨ k = 7 by omega) with rfl | rfl <;> rfl
            refine lv_iconst (v := nI 0) hx hb dX7_flag_20 (by decide) ?_
            refine lv_goto (tgt := 25) hx hb dX7_flag_21 (by decide) ?_
            refine md_cv hC hw (va_runV (As := [.int (nI (ed)), .int (nI (0))]) (rest := []) ⟨hx, hb, hml, hown, hts⟩ (c_X7_bit l G _ H.size h0 a c u (mfl A ed k) ed 0 hm (by omega) (by rw [h1]; exact hf1) (by rw [h1]; exact hf2) (by rw [h1, h2]; omega)) (cwV 2 hts gX7_flag_X7_bit rfl rfl rfl (by decide +kernel) ⟨Nat.le_of_ble_eq_true rfl, Nat.le_of_ble_eq_true rfl⟩) (mw_preV (ci := 7) hC hw rfl hm.1) rfl rfl hl.1 rfl (lv_room (Nat.le_of_ble_eq_true rfl)) dX7_flag_25 ⟨Nat.le_of_ble_eq_true rfl, Nat.le_of_ble_eq_true rfl⟩) (fun M1 H locs hm hf1 hw => ?_)
            have hf := hf.tr hf1
            refine lv_iinc (v := nI (k + 1)) (lv' := [(2, .int (nI (k + 1))), (0, .ref (h0)), (1, .int (nI (ed)))]) hx hb dX7_flag_28 hl (k := 2) rfl (by rw [show Int32.ofInt 1 = nI 1 by decide]; exact nI_add _ _) (by decide) rfl (fun ls hl => ?_)
            refine lv_goto (tgt := 2) hx hb dX7_flag_31 (by decide) ?_
            have hA_7 : mbit (mfl A ed k) ed 0 = mfl A ed (k + 1) := by rw [mfl, hfg]
            rw [hA_7] at hm
            exact ih  (k + 1) (by omega) (by omega) _ _ _ ls hm hf hw (lv_sub hl [1, 2, 0] rfl)
  have hA_8 : A = mfl A ed 0 := by first | rfl | simp_all
  rw [hA_8] at hm
  exact lp_1 (8 - 0 + 1) 0 (by omega) (Nat.lt_succ_self _) _ _ _ ls hm hf hw (lv_sub hl [1, 2, 0] rfl)
theorem inX7_isFlag_X7 : ∀ w ∈ wsX70, w ∈ wsX7_isFlag := by decide +kernel
def RM_X7_isFlag : Room := { frames := 0, cells := 0, slots := 0, locals := 0 }
set_option maxHeartbeats 4000000 in
set_option maxRecDepth 100000 in
theorem c_X7_isFlag (l : Launch) (G : mw_G) (M : mw_M) (sz : Nat) (h0 : Nat) (a : Nat → Nat) (c u : Nat) (A : md_S) (fm : Nat) (hm : md_at G M h0 a c u A) (hfm : fm + 8 ≤ 240000) (hb_ : ∀ i, i < 8 → A 3 (fm + i) ≤ 1) : Met l yX7_isFlag wsX7_isFlag RM_X7_isFlag (mw_pre G M sz [.ref (h0), .int (nI (fm))]) (md_Qi G M sz h0 a (nI (ifl A fm 8)) c u A) 0 0 (mw_A M sz) := by
  refine Met.ofW (cc := cX7_isFlag) (maxL := 4) (ret := (some .int)) (by decide) rfl ?_
  intro p e s m args below meth c0 s₁ B hml hv
  obtain ⟨rfl, rfl, hC, hw⟩ := mw_in hv
  have hx := B.exec
  have hb := B.bytes
  have hr := B.returns
  have hts := atoms_spec (ws := wsX7_isFlag) B.pre
  have hown : s.vm.findClass RX7 = some m.cls := findClass_of_methodNamed B.named
  have hlocks := B.notSynchronized
  have hf : md_fr h0 a M M := md_fr.rf
  have k_0 := hts (.fieldLink RX7 17 "LinkPairModel" "bits" "[I") (by decide +kernel)
  have hl := lv_entry ([.ref (h0), .int (nI (fm))]) (n := 4) (Nat.le_of_ble_eq_true rfl)
  rw [lg_entry_eq]
  generalize (lg_sl ([.ref (h0), .int (nI (fm))]) ++ List.replicate (4 - (lg_sl ([.ref (h0), .int (nI (fm))])).length) Slot.unset).toArray = ls at hl ⊢
  have hl : lv_has ls 4 [(0, .ref (h0)), (1, .int (nI (fm)))] := hl
  refine mw_start (fun H locs hw => ?_) hw
  refine lv_iconst (v := nI 0) hx hb dX7_isFlag_0 (by decide) ?_
  refine lv_istore_n (lv' := [(2, .int (nI (0))), (0, .ref (h0)), (1, .int (nI (fm)))]) hx hb dX7_isFlag_1 rfl hl (by decide) rfl (fun ls hl => ?_)
  refine lv_iconst (v := nI 0) hx hb dX7_isFlag_2 (by decide) ?_
  refine lv_istore_n (lv' := [(3, .int (nI (0))), (2, .int (nI (0))), (0, .ref (h0)), (1, .int (nI (fm)))]) hx hb dX7_isFlag_3 rfl hl (by decide) rfl (fun ls hl => ?_)
  have lp_1 : ∀ (n9 : Nat) (k : Nat), (hk : k ≤ 8) → 8 - k < n9 → ∀ (M1 : mw_M) (H : Heap) (locs : List Loc) (ls : Array Slot), md_at G M1 h0 a c u A → md_fr h0 a M M1 → mw_St G (mw_A M s.heap.size) s M1 H locs → lv_has ls 4 [(0, .ref (h0)), (1, .int (nI (fm))), (2, .int (nI (ifl A fm k))), (3, .int (nI (k)))] → W p l e (headSpec wsX7_isFlag RM_X7_isFlag).room s m ([.ref (h0), .int (nI (fm))] : List Value).toArray below meth c0 H locs 0 0 (MQ below (md_Qi G M s.heap.size h0 a (nI (ifl A fm 8)) c u A) ([.ref (h0), .int (nI (fm))] : List Value).toArray s 0 0 (mw_A M s.heap.size)) (F0 m 4 ls []) := by
    intro n9
    induction n9 with
    | zero => intro k hk h9; exact absurd h9 (Nat.not_lt_zero _)
    | succ n9 ih =>
      intro k hk h9 M1 H locs ls hm hf hw hl
      have hi := ifl_lt A fm k (fun i hi => hb_ i (by omega))
      have hp2 : 2 ^ k ≤ 2 ^ 8 := Nat.pow_le_pow_right (by decide) hk
      refine lv_iload_n hx hb dX7_isFlag_4 rfl (lv_at hl 3 rfl) ?_
      refine lv_bipush (v := nI 8) hx hb dX7_isFlag_5 (by decide) ?_
      refine lv_icmp_ge (tgt := 29) hx hb dX7_isFlag_7 (by decide) (fun c_2 => ?_) (fun c_2 => ?_)
      · skip
        have c_2 : k ≥ 8 := (nI_leI (a := 8) (b := k) (by omega) (by omega)).mp c_2
        obtain rfl : k = 8 := by omega
        refine lv_iload_n hx hb dX7_isFlag_29 rfl (lv_at hl 2 rfl) ?_
        exact md_iret hx hb hr hlocks hw hm hf (rfl) dX7_isFlag_30
      · skip
        have c_2 : k < 8 := Nat.not_le.mp (fun h => c_2 ((nI_leI (a := 8) (b := k) (by omega) (by omega)).mpr h))
        refine lv_iconst (v := nI 2) hx hb dX7_isFlag_10 (by decide) ?_
        refine lv_iload_n hx hb dX7_isFlag_11 rfl (lv_at hl 2 rfl) ?_
        refine lv_imul hx hb dX7_isFlag_12 ?_
        refine mw_ti (v' := nI (2 * (ifl A fm k))) (pk_mul _ _) ?_
        refine lv_aload_n hx hb dX7_isFlag_13 rfl (lv_at hl 0 rfl) ?_
        refine mw_get (C := RX7) (T := TX7) (N := 27) (v := .ref (a 3)) hx hb hts inX7_isFlag_X7 hown hC hw hm.1 rfl 3 (by decide) k_0 rfl dX7_isFlag_14 ?_
        refine lv_iload_n hx hb dX7_isFlag_17 rfl (lv_at hl 1 rfl) ?_
        refine lv_iload_n hx hb dX7_isFlag_18 rfl (lv_at hl 3 rfl) ?_
        refine lv_iadd hx hb dX7_isFlag_19 ?_
        refine mw_ti (v' := nI (fm + k)) (nI_add _ _) ?_
        refine md_ald 3 (n := 240000) hx hb hC hw hm rfl (by decide) rfl (by omega) (by decide) dX7_isFlag_20 ?_
        refine lv_iadd hx hb dX7_isFlag_21 ?_
        refine mw_ti (v' := nI (2 * (ifl A fm k) + A 3 (fm + k))) (nI_add _ _) ?_
        refine lv_istore_n (lv' := [(2, .int (nI (2 * (ifl A fm k) + A 3 (fm + k)))), (0, .ref (h0)), (1, .int (nI (fm))), (3, .int (nI (k)))]) hx hb dX7_isFlag_22 rfl hl (by decide) rfl (fun ls hl => ?_)
        refine lv_iinc (v := nI (k + 1)) (lv' := [(3, .int (nI (k + 1))), (2, .int (nI (2 * (ifl A fm k) + A 3 (fm + k)))), (0, .ref (h0)), (1, .int (nI (fm)))]) hx hb dX7_isFlag_23 hl (k := 3) rfl (by rw [show Int32.ofInt 1 = nI 1 by decide]; exact nI_add _ _) (by decide) rfl (fun ls hl => ?_)
        refine lv_goto (tgt := 4) hx hb dX7_isFlag_26 (by decide) ?_
        have hv_3 : (.int (nI (2 * (ifl A fm k) + A 3 (fm + k))) : Value) = .int (nI (ifl A fm (k + 1))) := by first | rfl | simp_all
        rw [hv_3] at hl
        exact ih  (k + 1) (by omega) (by omega) _ _ _ ls hm hf hw (lv_sub hl [2, 3, 1, 0] rfl)
  have hv_4 : (.int (nI (0)) : Value) = .int (nI (ifl A fm 0)) := by first | rfl | simp_all
  have hl : lv_has ls 4 [(3, .int (nI (0))), (2, .int (nI (ifl A fm 0))), (0, .ref (h0)), (1, .int (nI (fm)))] := by rw [← hv_4]; exact hl
  exact lp_1 (8 - 0 + 1) 0 (by omega) (Nat.lt_succ_self _) _ _ _ ls hm hf hw (lv_sub hl [2, 3, 1, 0] rfl)
