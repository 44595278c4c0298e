/-! ===== LinkPair.Unit, reading ===== -/
theorem inX5_writeBit_X5 : ∀ w ∈ wsX50, w ∈ wsX5_writeBit := by decide +kernel
def RM_X5_writeBit : Room := { frames := 0, cells := 0, slots := 0, locals := 0 }
set_option maxHeartbeats 4000000 in
set_option maxRecDepth 100000 in
theorem c_X5_writeBit (l : Launch) (G : mw_G) (M : mw_M) (sz : Nat) (h0 ub n : Nat) (g : Nat → Nat) (i v : Nat) (e0 : M h0 = some (.inr (5, [.ref (ub), .int (nI (n))]))) (e1 : M ub = some (.inl (G.2 1, 277, .inl (fun j => nI (g j))))) (hi : i < 2216) (hv1 : v ≤ 1)  : Met l yX5_writeBit wsX5_writeBit RM_X5_writeBit (mw_pre G M sz [.ref (h0), .int (nI (i)), .int (nI (v))]) (mw_Qv G M sz (va_up M ub (some (.inl (G.2 1, 277, .inl (fun j => nI ((va_up g (i / 8) (wbv g i v)) j))))))) 0 0 (mw_A M sz) := by
  refine Met.ofW (cc := cX5_writeBit) (maxL := 4) (ret := none) (by decide) rfl ?_
  intro p e s m args below meth c s₁ B hml hv
  obtain ⟨rfl, rfl, hC, hw⟩ := mw_in hv
  have hx := B.exec
  have hb := B.bytes
  have hr := B.returns
  have hts := atoms_spec (ws := wsX5_writeBit) B.pre
  have hown : s.vm.findClass RX5 = some m.cls := findClass_of_methodNamed B.named
  have hlocks := B.notSynchronized
  have k_0 := hts (.fieldLink RX5 9 "LinkPair$Unit" "bytes" "[I") (by decide +kernel)
  have hl := lv_entry ([.ref (h0), .int (nI (i)), .int (nI (v))]) (n := 4) (Nat.le_of_ble_eq_true rfl)
  rw [lg_entry_eq]
  generalize (lg_sl ([.ref (h0), .int (nI (i)), .int (nI (v))]) ++ List.replicate (4 - (lg_sl ([.ref (h0), .int (nI (i)), .int (nI (v))])).length) Slot.unset).toArray = ls at hl ⊢
  have hl : lv_has ls 4 [(0, .ref (h0)), (1, .int (nI (i))), (2, .int (nI (v)))] := hl
  refine mw_start (fun H locs hw => ?_) hw
  refine lv_iload_n hx hb dX5_writeBit_0 rfl (lv_at hl 1 rfl) ?_
  refine lv_bipush (v := nI 8) hx hb dX5_writeBit_1 (by decide) ?_
  refine lv_irem hx hb dX5_writeBit_3 (by decide) ?_
  refine mw_ti (v' := nI (i % 8)) (pk_rem (by omega) (by omega) (by omega)) ?_
  refine lv_if_ne (tgt := 11) hx hb dX5_writeBit_4 (by decide) (fun c_1 => ?_) (fun c_1 => ?_)
  · skip
    have c_1 : i % 8 ≠ 0 := fun h => c_1 ((nI_eq (a := i % 8) (b := 0) (by omega) (by omega)).mpr h)
    refine lv_aload_n hx hb dX5_writeBit_11 rfl (lv_at hl 0 rfl) ?_
    refine mw_get (C := RX5) (T := TX5) (N := 2) (v := .ref (ub)) hx hb hts inX5_writeBit_X5 hown hC hw e0 rfl 0 (by decide) k_0 rfl dX5_writeBit_12 ?_
    refine lv_iload_n hx hb dX5_writeBit_15 rfl (lv_at hl 1 rfl) ?_
    refine lv_bipush (v := nI 8) hx hb dX5_writeBit_16 (by decide) ?_
    refine lv_idiv hx hb dX5_writeBit_18 (by decide) ?_
    refine mw_ti (v' := nI (i / 8)) (pk_div (by omega) (by omega) (by omega)) ?_
    refine mw_ildM (n := 277) (g := g) (i := i / 8) hx hb hC hw e1 (by omega) (by decide) dX5_writeBit_19 ?_
    refine lv_istore_n (lv' := [(3, .int (nI (g (i / 8)))), (0, .ref (h0)), (1, .int (nI (i))), (2, .int (nI (v)))]) hx hb dX5_writeBit_20 rfl hl (by decide) rfl (fun ls hl => ?_)
    refine lv_aload_n hx hb dX5_writeBit_21 rfl (lv_at hl 1 rfl) ?_
    refine mw_get (C := RX5) (T := TX5) (N := 2) (v := .ref (ub)) hx hb hts inX5_writeBit_X5 hown hC hw e0 rfl 0 (by decide) k_0 rfl dX5_writeBit_22 ?_
    refine lv_iload_n hx hb dX5_writeBit_25 rfl (lv_at hl 2 rfl) ?_
    refine lv_bipush (v := nI 8) hx hb dX5_writeBit_26 (by decide) ?_
    refine lv_idiv hx hb dX5_writeBit_28 (by decide) ?_
    refine mw_ti (v' := nI (i / 8)) (pk_div (by omega) (by omega) (by omega)) ?_
    refine lv_iload_n hx hb dX5_writeBit_29 rfl (lv_at hl 0 rfl) ?_
    refine lv_iload_n hx hb dX5_writeBit_30 rfl (lv_at hl 3 rfl) ?_
    refine lv_iload_n hx hb dX5_writeBit_31 rfl (lv_at hl 2 rfl) ?_
    refine lv_bipush (v := nI 8) hx hb dX5_writeBit_32 (by decide) ?_
    refine lv_irem hx hb dX5_writeBit_34 (by decide) ?_
    refine mw_ti (v' := nI (i % 8)) (pk_rem (by omega) (by omega) (by omega)) ?_
    refine lv_ishl hx hb dX5_writeBit_35 ?_
    refine mw_ti (v' := nI (v * 2 ^ (i % 8))) (sh_shl (by omega) (by omega)) ?_
    refine lv_ior hx hb dX5_writeBit_36 ?_
    refine mw_ti (v' := nI ((g (i / 8)) ||| (v * 2 ^ (i % 8)))) (nx_or _ _) ?_
    refine mw_istM (n := 277) (g := g) (i := i / 8) hx hb hC hw e1 (by omega) (by decide) dX5_writeBit_37 (fun H locs hw => ?_)
    have hc_3 : (.inl (G.2 1, 277, .inl (fun j => nI ((va_up g (i / 8) ((g (i / 8)) ||| (v * 2 ^ (i % 8)))) j))) : va_E) = .inl (G.2 1, 277, .inl (fun j => nI ((va_up g (i / 8) (wbv g i v)) j))) := by first | (rw [wbv, if_pos (by assumption)]; done) | (rw [wbv, if_neg (by assumption)])
    have hw : mw_St G (mw_A M s.heap.size) s (va_up M ub (some (.inl (G.2 1, 277, .inl (fun j => nI ((va_up g (i / 8) (wbv g i v)) j)))))) H locs := hw.to (fun q8 x8 h8 => by
      by_cases b_4 : q8 = ub
      · rw [b_4] at h8 ⊢; exact mw_u0.trans ((congrArg some hc_3).trans (mw_u0.symm.trans h8))
      simp only [va_up_ne _ _ b_4] at h8 ⊢; exact h8)
    exact mw_vret hx hb hr hlocks hw (fun _ _ h9 => h9) dX5_writeBit_38
  · skip
    have c_1 : i % 8 = 0 := (nI_eq (a := i % 8) (b := 0) (by omega) (by omega)).mp c_1
    refine lv_iconst (v := nI 0) hx hb dX5_writeBit_7 (by decide) ?_
    refine lv_goto (tgt := 20) hx hb dX5_writeBit_8 (by decide) ?_
    refine lv_istore_n (lv' := [(3, .int (nI (0))), (0, .ref (h0)), (1, .int (nI (i))), (2, .int (nI (v)))]) hx hb dX5_writeBit_20 rfl hl (by decide) rfl (fun ls hl => ?_)
    refine lv_aload_n hx hb dX5_writeBit_21 rfl (lv_at hl 1 rfl) ?_
    refine mw_get (C := RX5) (T := TX5) (N := 2) (v := .ref (ub)) hx hb hts inX5_writeBit_X5 hown hC hw e0 rfl 0 (by decide) k_0 rfl dX5_writeBit_22 ?_
    refine lv_iload_n hx hb dX5_writeBit_25 rfl (lv_at hl 2 rfl) ?_
    refine lv_bipush (v := nI 8) hx hb dX5_writeBit_26 (by decide) ?_
    refine lv_idiv hx hb dX5_writeBit_28 (by decide) ?_
    refine mw_ti (v' := nI (i / 8)) (pk_div (by omega) (by omega) (by omega)) ?_
    refine lv_iload_n hx hb dX5_writeBit_29 rfl (lv_at hl 0 rfl) ?_
    refine lv_iload_n hx hb dX5_writeBit_30 rfl (lv_at hl 3 rfl) ?_
    refine lv_iload_n hx hb dX5_writeBit_31 rfl (lv_at hl 2 rfl) ?_
    refine lv_bipush (v := nI 8) hx hb dX5_writeBit_32 (by decide) ?_
    refine lv_irem hx hb dX5_writeBit_34 (by decide) ?_
    refine mw_ti (v' := nI (i % 8)) (pk_rem (by omega) (by omega) (by omega)) ?_
    refine lv_ishl hx hb dX5_writeBit_35 ?_
    refine mw_ti (v' := nI (v * 2 ^ (i % 8))) (sh_shl (by omega) (by omega)) ?_
    refine lv_ior hx hb dX5_writeBit_36 ?_
    refine mw_ti (v' := nI (0 ||| (v * 2 ^ (i % 8)))) (nx_or _ _) ?_
    refine mw_istM (n := 277) (g := g) (i := i / 8) hx hb hC hw e1 (by omega) (by decide) dX5_writeBit_37 (fun H locs hw => ?_)
    have hc_6 : (.inl (G.2 1, 277, .inl (fun j => nI ((va_up g (i / 8) (0 ||| (v * 2 ^ (i % 8)))) j))) : va_E) = .inl (G.2 1, 277, .inl (fun j => nI ((va_up g (i / 8) (wbv g i v)) j))) := by first | (rw [wbv, if_pos (by assumption)]; done) | (rw [wbv, if_neg (by assumption)])
    have hw : mw_St G (mw_A M s.heap.size) s (va_up M ub (some (.inl (G.2 1, 277, .inl (fun j => nI ((va_up g (i / 8) (wbv g i v)) j)))))) H locs := hw.to (fun q8 x8 h8 => by
      by_cases b_7 : q8 = ub
      · rw [b_7] at h8 ⊢; exact mw_u0.trans ((congrArg some hc_6).trans (mw_u0.symm.trans h8))
      simp only [va_up_ne _ _ b_7] at h8 ⊢; exact h8)
    exact mw_vret hx hb hr hlocks hw (fun _ _ h9 => h9) dX5_writeBit_38
theorem inX5_readBits_X1 : ∀ w ∈ wsX10, w ∈ wsX5_readBits := by decide +kernel
def RM_X5_readBits : Room := { frames := 1, cells := 0, slots := 0, locals := 23 }
set_option maxHeartbeats 4000000 in
set_option maxRecDepth 100000 in
theorem c_X5_readBits (l : Launch) (G : mw_G) (M : mw_M) (sz : Nat) (h0 ub n : Nat) (g : Nat → Nat) (y w q : Nat) (f : Nat → Int64) (e0 : M h0 = some (.inr (5, [.ref (ub), .int (nI (n))]))) (e1 : M ub = some (.inl (G.2 1, 277, .inl (fun j => nI (g j))))) (e2 : M y = some (.inr (1, [.ref (w), .int (nI (q))]))) (e3 : M w = some (.inl (G.2 2, 47, .inr (.inl (f))))) (hq : 16 ≤ q) (hq2 : q ≤ 3000)  : Met l yX5_readBits wsX5_readBits RM_X5_readBits (mw_pre G M sz [.ref (h0), .ref (y)]) (mw_Qi G M sz (nI ((rdB f g q).1)) (va_up M ub (some (.inl (G.2 1, 277, .inl (fun j => nI (((rdB f g q).2.2) j))))))) 0 0 (mw_A M sz) := by
  refine Met.ofW (cc := cX5_readBits) (maxL := 6) (ret := (some .int)) (by decide) rfl ?_
  intro p e s m args below meth c s₁ B hml hv
  obtain ⟨rfl, rfl, hC, hw⟩ := mw_in hv
  have hx := B.exec
  have hb := B.bytes
  have hr := B.returns
  have hts := atoms_spec (ws := wsX5_readBits) B.pre
  have hown : s.vm.findClass RX5 = some m.cls := findClass_of_methodNamed B.named
  have hlocks := B.notSynchronized
  have m0_1 : h0 ≠ ub := mw_ne e0 e1 (by intro h9; cases h9)
  have m1_2 : ub ≠ y := mw_ne e1 e2 (by intro h9; cases h9)
  have m1_3 : ub ≠ w := mw_ne e1 e3 (by simp)
  have hl := lv_entry ([.ref (h0), .ref (y)]) (n := 6) (Nat.le_of_ble_eq_true rfl)
  rw [lg_entry_eq]
  generalize (lg_sl ([.ref (h0), .ref (y)]) ++ List.replicate (6 - (lg_sl ([.ref (h0), .ref (y)])).length) Slot.unset).toArray = ls at hl ⊢
  have hl : lv_has ls 6 [(0, .ref (h0)), (1, .ref (y))] := hl
  refine mw_start (fun H locs hw => ?_) hw
  refine lv_iconst (v := nI 0) hx hb dX5_readBits_0 (by decide) ?_
  refine lv_istore_n (lv' := [(2, .int (nI (0))), (0, .ref (h0)), (1, .ref (y))]) hx hb dX5_readBits_1 rfl hl (by decide) rfl (fun ls hl => ?_)
  refine lv_iconst (v := nI 0) hx hb dX5_readBits_2 (by decide) ?_
  refine lv_istore_n (lv' := [(3, .int (nI (0))), (2, .int (nI (0))), (0, .ref (h0)), (1, .ref (y))]) hx hb dX5_readBits_3 rfl hl (by decide) rfl (fun ls hl => ?_)
  refine lv_bipush (v := nI 8) hx hb dX5_readBits_4 (by decide) ?_
  refine lv_istore (lv' := [(4, .int (nI (8))), (3, .int (nI (0))), (2, .int (nI (0))), (0, .ref (h0)), (1, .ref (y))]) hx hb dX5_readBits_6 hl (by decide) rfl (fun ls hl => ?_)
  have lp_1 : ∀ (n9 : Nat) (k : Nat), (hk : k ≤ q - 16) → q - 16 - k < n9 → ∀ (H : Heap) (locs : List Loc) (ls : Array Slot), mw_St G (mw_A M s.heap.size) s (va_up M ub (some (.inl (G.2 1, 277, .inl (fun j => nI (((rbs f g k).2.2) j)))))) H locs → lv_has ls 6 [(0, .ref (h0)), (1, .ref (y)), (2, .int (nI ((rbs f g k).1))), (3, .int (nI ((rbs f g k).2.1))), (4, .int (nI (8 + k)))] → W p l e (headSpec wsX5_readBits RM_X5_readBits).room s m ([.ref (h0), .ref (y)] : List Value).toArray below meth c H locs 0 0 (MQ below (mw_Qi G M s.heap.size (nI ((rdB f g q).1)) (va_up M ub (some (.inl (G.2 1, 277, .inl (fun j => nI (((rdB f g q).2.2) j))))))) ([.ref (h0), .ref (y)] : List Value).toArray s 0 0 (mw_A M s.heap.size)) (F0 m 8 ls []) := by
    intro n9
    induction n9 with
    | zero => intro k hk h9; exact absurd h9 (Nat.not_lt_zero _)
    | succ n9 ih =>
      intro k hk h9 H locs ls hw hl
      have hrb := rbs_le f g k
      have hf1 := fb_le f (8 + k)
      refine lv_iload hx hb dX5_readBits_8 (lv_at hl 4 rfl) ?_
      refine lv_aload_n hx hb dX5_readBits_10 rfl (lv_at hl 1 rfl) ?_
      refine mw_getN (C := RX1) (T := TX1) (N := 2) (v := .int (nI (q))) hx hb hts inX5_readBits_X1 hown hC hw (mw_u1 (Ne.symm m1_2) e2) rfl 1 (by decide) (show Cond.fieldLinkNest RX5 56 (TX1 1).1 (TX1 1).2.1 (TX1 1).2.2.1 "LinkPair" ∈ mw_nestF by decide +kernel) rfl dX5_readBits_11 ?_
      refine lv_bipush (v := nI 8) hx hb dX5_readBits_14 (by decide) ?_
      refine lv_isub hx hb dX5_readBits_16 ?_
      refine mw_ti (v' := nI (q - 8)) (pk_sub (by omega)) ?_
      refine lv_icmp_ge (tgt := 75) hx hb dX5_readBits_17 (by decide) (fun c_2 => ?_) (fun c_2 => ?_)
      · skip
        have c_2 : 8 + k ≥ q - 8 := (nI_leI (a := q - 8) (b := 8 + k) (by omega) (by omega)).mp c_2
        obtain rfl : k = q - 16 := by omega
        refine lv_iload_n hx hb dX5_readBits_75 rfl (lv_at hl 2 rfl) ?_
        have hc_4 : (.inl (G.2 1, 277, .inl (fun j => nI (((rbs f g (q - 16)).2.2) j))) : va_E) = .inl (G.2 1, 277, .inl (fun j => nI (((rdB f g q).2.2) j))) := by first | rfl | (congr 2; omega) | simp_all
        have hw : mw_St G (mw_A M s.heap.size) s (va_up M ub (some (.inl (G.2 1, 277, .inl (fun j => nI (((rdB f g q).2.2) j)))))) H locs := hw.to (fun q8 x8 h8 => by
          by_cases b_5 : q8 = ub
          · rw [b_5] at h8 ⊢; exact mw_u0.trans ((congrArg some hc_4).trans (mw_u0.symm.trans h8))
          simp only [va_up_ne _ _ b_5] at h8 ⊢; exact h8)
        exact mw_iret hx hb hr hlocks hw (by first | rfl | simp_all | (congr 1; omega)) (fun _ _ h9 => h9) dX5_readBits_76
      · skip
        have c_2 : 8 + k < q - 8 := Nat.not_le.mp (fun h => c_2 ((nI_leI (a := q - 8) (b := 8 + k) (by omega) (by omega)).mpr h))
        refine lv_iload_n hx hb dX5_readBits_20 rfl (lv_at hl 3 rfl) ?_
        refine lv_iconst (v := nI 5) hx hb dX5_readBits_21 (by decide) ?_
        refine lv_icmp_ne (tgt := 30) hx hb dX5_readBits_22 (by decide) (fun c_6 => ?_) (fun c_6 => ?_)
        · skip
          have c_6 : (rbs f g k).2.1 ≠ 5 := fun h => c_6 ((nI_eq (a := (rbs f g k).2.1) (b := 5) (by omega) (by omega)).mpr h)
          refine lv_aload_n hx hb dX5_readBits_30 rfl (lv_at hl 1 rfl) ?_
          refine lv_iload hx hb dX5_readBits_31 (lv_at hl 4 rfl) ?_
          refine mw_ci hC hw (va_runV (As := [.int (nI (8 + k))]) (rest := []) ⟨hx, hb, hml, hown, hts⟩ (c_X1_valueAt l G _ H.size y w q f (8 + k) (mw_u1 (Ne.symm m1_2) e2) (mw_u1 (Ne.symm m1_3) e3) (by omega)) (cwV 1 hts gX5_readBits_X1_valueAt rfl rfl rfl (by decide +kernel) ⟨Nat.le_of_ble_eq_true rfl, Nat.le_of_ble_eq_true rfl⟩) (mw_preV (ci := 1) hC hw rfl (mw_u1 (Ne.symm m1_2) e2)) rfl rfl hl.1 rfl (lv_room (Nat.le_of_ble_eq_true rfl)) dX5_readBits_33 ⟨Nat.le_of_ble_eq_true rfl, Nat.le_of_ble_eq_true rfl⟩) (fun H locs hz hw => ?_)
          refine lv_istore (lv' := [(5, .int (nI (fb f (8 + k)))), (0, .ref (h0)), (1, .ref (y)), (2, .int (nI ((rbs f g k).1))), (3, .int (nI ((rbs f g k).2.1))), (4, .int (nI (8 + k)))]) hx hb dX5_readBits_36 hl (by decide) rfl (fun ls hl => ?_)
          refine lv_iload hx hb dX5_readBits_38 (lv_at hl 0 rfl) ?_
          refine lv_iconst (v := nI 1) hx hb dX5_readBits_40 (by decide) ?_
          refine lv_icmp_ne (tgt := 50) hx hb dX5_readBits_41 (by decide) (fun c_7 => ?_) (fun c_7 => ?_)
          · skip
            have c_7 : fb f (8 + k) ≠ 1 := fun h => c_7 ((nI_eq (a := fb f (8 + k)) (b := 1) (by omega) (by omega)).mpr h)
            refine lv_iconst (v := nI 0) hx hb dX5_readBits_50 (by decide) ?_
            refine lv_istore_n (lv' := [(3, .int (nI (0))), (5, .int (nI (fb f (8 + k)))), (0, .ref (h0)), (1, .ref (y)), (2, .int (nI ((rbs f g k).1))), (4, .int (nI (8 + k)))]) hx hb dX5_readBits_51 rfl hl (by decide) rfl (fun ls hl => ?_)
            refine lv_iload_n hx hb dX5_readBits_52 rfl (lv_at hl 4 rfl) ?_
            refine lv_sipush (v := nI 2216) hx hb dX5_readBits_53 (by decide) ?_
            refine lv_icmp_ge (tgt := 66) hx hb dX5_readBits_56 (by decide) (fun c_8 => ?_) (fun c_8 => ?_)
            · skip
              have c_8 : (rbs f g k).1 ≥ 2216 := (nI_leI (a := 2216) (b := (rbs f g k).1) (by omega) (by omega)).mp c_8
              have hsz : ¬ (rbs f g k).1 < 2216 := by omega
              refine lv_iinc (v := nI ((rbs f g k).1 + 1)) (lv' := [(2, .int (nI ((rbs f g k).1 + 1))), (3, .int (nI (0))), (5, .int (nI (fb f (8 + k)))), (0, .ref (h0)), (1, .ref (y)), (4, .int (nI (8 + k)))]) hx hb dX5_readBits_66 hl (k := 4) rfl (by rw [show Int32.ofInt 1 = nI 1 by decide]; exact nI_add _ _) (by decide) rfl (fun ls hl => ?_)
              refine lv_iinc (v := nI (8 + k + 1)) (lv' := [(4, .int (nI (8 + k + 1))), (2, .int (nI ((rbs f g k).1 + 1))), (3, .int (nI (0))), (5, .int (nI (fb f (8 + k)))), (0, .ref (h0)), (1, .ref (y))]) hx hb dX5_readBits_69 hl (k := 5) rfl (by rw [show Int32.ofInt 1 = nI 1 by decide]; exact nI_add _ _) (by decide) rfl (fun ls hl => ?_)
              refine lv_goto (tgt := 8) hx hb dX5_readBits_72 (by decide) ?_
              have hc_10 : (.inl (G.2 1, 277, .inl (fun j => nI (((rbs f g k).2.2) j))) : va_E) = .inl (G.2 1, 277, .inl (fun j => nI (((rbs f g (k + 1)).2.2) j))) := by simp only [rbs, rb1, *]; first | rfl | simp_all
              have hw : mw_St G (mw_A M s.heap.size) s (va_up M ub (some (.inl (G.2 1, 277, .inl (fun j => nI (((rbs f g (k + 1)).2.2) j)))))) H locs := hw.to (fun q8 x8 h8 => by
                by_cases b_11 : q8 = ub
                · rw [b_11] at h8 ⊢; exact mw_u0.trans ((congrArg some hc_10).trans (mw_u0.symm.trans h8))
                simp only [va_up_ne _ _ b_11] at h8 ⊢; exact h8)
              have hv_12 : (.int (nI ((rbs f g k).1 + 1)) : Value) = .int (nI ((rbs f g (k + 1)).1)) := by simp only [rbs, rb1, *]; first | rfl | simp_all
              rw [hv_12] at hl
              have hv_13 : (.int (nI (0)) : Value) = .int (nI ((rbs f g (k + 1)).2.1)) := by simp only [rbs, rb1, *]; first | rfl | simp_all
              rw [hv_13] at hl
              have hv_14 : (.int (nI (8 + k + 1)) : Value) = .int (nI (8 + (k + 1))) := by first | rfl | simp_all
              rw [hv_14] at hl
              exact ih (k + 1) (by omega) (by omega) _ _ ls hw (lv_sub hl [4, 5, 1, 2, 0] rfl)
            · skip
              have c_8 : (rbs f g k).1 < 2216 := Nat.not_le.mp (fun h => c_8 ((nI_leI (a := 2216) (b := (rbs f g k).1) (by omega) (by omega)).mpr h))
              have hsz : (rbs f g k).1 < 2216 := by omega
              refine lv_aload_n hx hb dX5_readBits_59 rfl (lv_at hl 2 rfl) ?_
              refine lv_iload_n hx hb dX5_readBits_60 rfl (lv_at hl 4 rfl) ?_
              refine lv_iload hx hb dX5_readBits_61 (lv_at hl 1 rfl) ?_
              refine mw_cv hC hw (va_runV (As := [.int (nI ((rbs f g k).1)), .int (nI (fb f (8 + k)))]) (rest := []) ⟨hx, hb, hml, hown, hts⟩ (c_X5_writeBit l G _ H.size h0 ub n ((rbs f g k).2.2) ((rbs f g k).1) (fb f (8 + k)) (mw_u1 m0_1 e0) mw_u0 (by omega) (fb_le f (8 + k))) (cwV 2 hts gX5_readBits_X5_writeBit rfl rfl rfl (by decide +kernel) ⟨Nat.le_of_ble_eq_true rfl, Nat.le_of_ble_eq_true rfl⟩) (mw_preV (ci := 5) hC hw rfl (mw_u1 m0_1 e0)) rfl rfl hl.1 rfl (lv_room (Nat.le_of_ble_eq_true rfl)) dX5_readBits_63 ⟨Nat.le_of_ble_eq_true rfl, Nat.le_of_ble_eq_true rfl⟩) (fun H locs hz hw => ?_)
              refine lv_iinc (v := nI ((rbs f g k).1 + 1)) (lv' := [(2, .int (nI ((rbs f g k).1 + 1))), (3, .int (nI (0))), (5, .int (nI (fb f (8 + k)))), (0, .ref (h0)), (1, .ref (y)), (4, .int (nI (8 + k)))]) hx hb dX5_readBits_66 hl (k := 4) rfl (by rw [show Int32.ofInt 1 = nI 1 by decide]; exact nI_add _ _) (by decide) rfl (fun ls hl => ?_)
              refine lv_iinc (v := nI (8 + k + 1)) (lv' := [(4, .int (nI (8 + k + 1))), (2, .int (nI ((rbs f g k).1 + 1))), (3, .int (nI (0))), (5, .int (nI (fb f (8 + k)))), (0, .ref (h0)), (1, .ref (y))]) hx hb dX5_readBits_69 hl (k := 5) rfl (by rw [show Int32.ofInt 1 = nI 1 by decide]; exact nI_add _ _) (by decide) rfl (fun ls hl => ?_)
              refine lv_goto (tgt := 8) hx hb dX5_readBits_72 (by decide) ?_
              have hc_16 : (.inl (G.2 1, 277, .inl (fun j => nI ((va_up ((rbs f g k).2.2) (((rbs f g k).1) / 8) (wbv ((rbs f g k).2.2) ((rbs f g k).1) (fb f (8 + k)))) j))) : va_E) = .inl (G.2 1, 277, .inl (fun j => nI (((rbs f g (k + 1)).2.2) j))) := by simp only [rbs, rb1, *]; first | rfl | simp_all
              have hw : mw_St G (mw_A M s.heap.size) s (va_up M ub (some (.inl (G.2 1, 277, .inl (fun j => nI (((rbs f g (k + 1)).2.2) j)))))) H locs := hw.to (fun q8 x8 h8 => by
                by_cases b_17 : q8 = ub
                · rw [b_17] at h8 ⊢; exact mw_u0.trans ((congrArg some hc_16).trans (mw_u0.symm.trans h8))
                simp only [va_up_ne _ _ b_17] at h8 ⊢; exact h8)
              have hv_18 : (.int (nI ((rbs f g k).1 + 1)) : Value) = .int (nI ((rbs f g (k + 1)).1)) := by simp only [rbs, rb1, *]; first | rfl | simp_all
              rw [hv_18] at hl
              have hv_19 : (.int (nI (0)) : Value) = .int (nI ((rbs f g (k + 1)).2.1)) := by simp only [rbs, rb1, *]; first | rfl | simp_all
              rw [hv_19] at hl
              have hv_20 : (.int (nI (8 + k + 1)) : Value) = .int (nI (8 + (k + 1))) := by first | rfl | simp_all
              rw [hv_20] at hl
              exact ih (k + 1) (by omega) (by omega) _ _ ls hw (lv_sub hl [4, 5, 1, 2, 0] rfl)
          · skip
            have c_7 : fb f (8 + k) = 1 := (nI_eq (a := fb f (8 + k)) (b := 1) (by omega) (by omega)).mp c_7
            refine lv_iload_n hx hb dX5_readBits_44 rfl (lv_at hl 4 rfl) ?_
            refine lv_iconst (v := nI 1) hx hb dX5_readBits_45 (by decide) ?_
            refine lv_iadd hx hb dX5_readBits_46 ?_
            refine mw_ti (v' := nI ((rbs f g k).2.1 + 1)) (nI_add _ _) ?_
            refine lv_goto (tgt := 51) hx hb dX5_readBits_47 (by decide) ?_
            refine lv_istore_n (lv' := [(3, .int (nI ((rbs f g k).2.1 + 1))), (5, .int (nI (fb f (8 + k)))), (0, .ref (h0)), (1, .ref (y)), (2, .int (nI ((rbs f g k).1))), (4, .int (nI (8 + k)))]) hx hb dX5_readBits_51 rfl hl (by decide) rfl (fun ls hl => ?_)
            refine lv_iload_n hx hb dX5_readBits_52 rfl (lv_at hl 4 rfl) ?_
            refine lv_sipush (v := nI 2216) hx hb dX5_readBits_53 (by decide) ?_
            refine lv_icmp_ge (tgt := 66) hx hb dX5_readBits_56 (by decide) (fun c_21 => ?_) (fun c_21 => ?_)
            · skip
              have c_21 : (rbs f g k).1 ≥ 2216 := (nI_leI (a := 2216) (b := (rbs f g k).1) (by omega) (by omega)).mp c_21
              have hsz : ¬ (rbs f g k).1 < 2216 := by omega
              refine lv_iinc (v := nI ((rbs f g k).1 + 1)) (lv' := [(2, .int (nI ((rbs f g k).1 + 1))), (3, .int (nI ((rbs f g k).2.1 + 1))), (5, .int (nI (fb f (8 + k)))), (0, .ref (h0)), (1, .ref (y)), (4, .int (nI (8 + k)))]) hx hb dX5_readBits_66 hl (k := 4) rfl (by rw [show Int32.ofInt 1 = nI 1 by decide]; exact nI_add _ _) (by decide) rfl (fun ls hl => ?_)
              refine lv_iinc (v := nI (8 + k + 1)) (lv' := [(4, .int (nI (8 + k + 1))), (2, .int (nI ((rbs f g k).1 + 1))), (3, .int (nI ((rbs f g k).2.1 + 1))), (5, .int (nI (fb f (8 + k)))), (0, .ref (h0)), (1, .ref (y))]) hx hb dX5_readBits_69 hl (k := 5) rfl (by rw [show Int32.ofInt 1 = nI 1 by decide]; exact nI_add _ _) (by decide) rfl (fun ls hl => ?_)
              refine lv_goto (tgt := 8) hx hb dX5_readBits_72 (by decide) ?_
              have hc_23 : (.inl (G.2 1, 277, .inl (fun j => nI (((rbs f g k).2.2) j))) : va_E) = .inl (G.2 1, 277, .inl (fun j => nI (((rbs f g (k + 1)).2.2) j))) := by simp only [rbs, rb1, *]; first | rfl | simp_all
              have hw : mw_St G (mw_A M s.heap.size) s (va_up M ub (some (.inl (G.2 1, 277, .inl (fun j => nI (((rbs f g (k + 1)).2.2) j)))))) H locs := hw.to (fun q8 x8 h8 => by
                by_cases b_24 : q8 = ub
                · rw [b_24] at h8 ⊢; exact mw_u0.trans ((congrArg some hc_23).trans (mw_u0.symm.trans h8))
                simp only [va_up_ne _ _ b_24] at h8 ⊢; exact h8)
              have hv_25 : (.int (nI ((rbs f g k).1 + 1)) : Value) = .int (nI ((rbs f g (k + 1)).1)) := by simp only [rbs, rb1, *]; first | rfl | simp_all
              rw [hv_25] at hl
              have hv_26 : (.int (nI ((rbs f g k).2.1 + 1)) : Value) = .int (nI ((rbs f g (k + 1)).2.1)) := by simp only [rbs, rb1, *]; first | rfl | simp_all
              rw [hv_26] at hl
              have hv_27 : (.int (nI (8 + k + 1)) : Value) = .int (nI (8 + (k + 1))) := by first | rfl | simp_all
              rw [hv_27] at hl
              exact ih (k + 1) (by omega) (by omega) _ _ ls hw (lv_sub hl [4, 5, 1, 2, 0] rfl)
            · skip
              have c_21 : (rbs f g k).1 < 2216 := Nat.not_le.mp (fun h => c_21 ((nI_leI (a := 2216) (b := (rbs f g k).1) (by omega) (by omega)).mpr h))
              have hsz : (rbs f g k).1 < 2216 := by omega
              refine lv_aload_n hx hb dX5_readBits_59 rfl (lv_at hl 2 rfl) ?_
              refine lv_iload_n hx hb dX5_readBits_60 rfl (lv_at hl 4 rfl) ?_
              refine lv_iload hx hb dX5_readBits_61 (lv_at hl 1 rfl) ?_
              refine mw_cv hC hw (va_runV (As := [.int (nI ((rbs f g k).1)), .int (nI (fb f (8 + k)))]) (rest := []) ⟨hx, hb, hml, hown, hts⟩ (c_X5_writeBit l G _ H.size h0 ub n ((rbs f g k).2.2) ((rbs f g k).1) (fb f (8 + k)) (mw_u1 m0_1 e0) mw_u0 (by omega) (fb_le f (8 + k))) (cwV 2 hts gX5_readBits_X5_writeBit rfl rfl rfl (by decide +kernel) ⟨Nat.le_of_ble_eq_true rfl, Nat.le_of_ble_eq_true rfl⟩) (mw_preV (ci := 5) hC hw rfl (mw_u1 m0_1 e0)) rfl rfl hl.1 rfl (lv_room (Nat.le_of_ble_eq_true rfl)) dX5_readBits_63 ⟨Nat.le_of_ble_eq_true rfl, Nat.le_of_ble_eq_true rfl⟩) (fun H locs hz hw => ?_)
              refine lv_iinc (v := nI ((rbs f g k).1 + 1)) (lv' := [(2, .int (nI ((rbs f g k).1 + 1))), (3, .int (nI ((rbs f g k).2.1 + 1))), (5, .int (nI (fb f (8 + k)))), (0, .ref (h0)), (1, .ref (y)), (4, .int (nI (8 + k)))]) hx hb dX5_readBits_66 hl (k := 4) rfl (by rw [show Int32.ofInt 1 = nI 1 by decide]; exact nI_add _ _) (by decide) rfl (fun ls hl => ?_)
              refine lv_iinc (v := nI (8 + k + 1)) (lv' := [(4, .int (nI (8 + k + 1))), (2, .int (nI ((rbs f g k).1 + 1))), (3, .int (nI ((rbs f g k).2.1 + 1))), (5, .int (nI (fb f (8 + k)))), (0, .ref (h0)), (1, .ref (y))]) hx hb dX5_readBits_69 hl (k := 5) rfl (by rw [show Int32.ofInt 1 = nI 1 by decide]; exact nI_add _ _) (by decide) rfl (fun ls hl => ?_)
              refine lv_goto (tgt := 8) hx hb dX5_readBits_72 (by decide) ?_
              have hc_29 : (.inl (G.2 1, 277, .inl (fun j => nI ((va_up ((rbs f g k).2.2) (((rbs f g k).1) / 8) (wbv ((rbs f g k).2.2) ((rbs f g k).1) (fb f (8 + k)))) j))) : va_E) = .inl (G.2 1, 277, .inl (fun j => nI (((rbs f g (k + 1)).2.2) j))) := by simp only [rbs, rb1, *]; first | rfl | simp_all
              have hw : mw_St G (mw_A M s.heap.size) s (va_up M ub (some (.inl (G.2 1, 277, .inl (fun j => nI (((rbs f g (k + 1)).2.2) j)))))) H locs := hw.to (fun q8 x8 h8 => by
                by_cases b_30 : q8 = ub
                · rw [b_30] at h8 ⊢; exact mw_u0.trans ((congrArg some hc_29).trans (mw_u0.symm.trans h8))
                simp only [va_up_ne _ _ b_30] at h8 ⊢; exact h8)
              have hv_31 : (.int (nI ((rbs f g k).1 + 1)) : Value) = .int (nI ((rbs f g (k + 1)).1)) := by simp only [rbs, rb1, *]; first | rfl | simp_all
              rw [hv_31] at hl
              have hv_32 : (.int (nI ((rbs f g k).2.1 + 1)) : Value) = .int (nI ((rbs f g (k + 1)).2.1)) := by simp only [rbs, rb1, *]; first | rfl | simp_all
              rw [hv_32] at hl
              have hv_33 : (.int (nI (8 + k + 1)) : Value) = .int (nI (8 + (k + 1))) := by first | rfl | simp_all
              rw [hv_33] at hl
              exact ih (k + 1) (by omega) (by omega) _ _ ls hw (lv_sub hl [4, 5, 1, 2, 0] rfl)
        · skip
          have c_6 : (rbs f g k).2.1 = 5 := (nI_eq (a := (rbs f g k).2.1) (b := 5) (by omega) (by omega)).mp c_6
          refine lv_iconst (v := nI 0) hx hb dX5_readBits_25 (by decide) ?_
          refine lv_istore_n (lv' := [(3, .int (nI (0))), (0, .ref (h0)), (1, .ref (y)), (2, .int (nI ((rbs f g k).1))), (4, .int (nI (8 + k)))]) hx hb dX5_readBits_26 rfl hl (by decide) rfl (fun ls hl => ?_)
          refine lv_goto (tgt := 69) hx hb dX5_readBits_27 (by decide) ?_
          refine lv_iinc (v := nI (8 + k + 1)) (lv' := [(4, .int (nI (8 + k + 1))), (3, .int (nI (0))), (0, .ref (h0)), (1, .ref (y)), (2, .int (nI ((rbs f g k).1)))]) hx hb dX5_readBits_69 hl (k := 4) rfl (by rw [show Int32.ofInt 1 = nI 1 by decide]; exact nI_add _ _) (by decide) rfl (fun ls hl => ?_)
          refine lv_goto (tgt := 8) hx hb dX5_readBits_72 (by decide) ?_
          have hc_35 : (.inl (G.2 1, 277, .inl (fun j => nI (((rbs f g k).2.2) j))) : va_E) = .inl (G.2 1, 277, .inl (fun j => nI (((rbs f g (k + 1)).2.2) j))) := by simp only [rbs, rb1, *]; first | rfl | simp_all
          have hw : mw_St G (mw_A M s.heap.size) s (va_up M ub (some (.inl (G.2 1, 277, .inl (fun j => nI (((rbs f g (k + 1)).2.2) j)))))) H locs := hw.to (fun q8 x8 h8 => by
            by_cases b_36 : q8 = ub
            · rw [b_36] at h8 ⊢; exact mw_u0.trans ((congrArg some hc_35).trans (mw_u0.symm.trans h8))
            simp only [va_up_ne _ _ b_36] at h8 ⊢; exact h8)
          have hv_37 : (.int (nI ((rbs f g k).1)) : Value) = .int (nI ((rbs f g (k + 1)).1)) := by simp only [rbs, rb1, *]; first | rfl | simp_all
          rw [hv_37] at hl
          have hv_38 : (.int (nI (0)) : Value) = .int (nI ((rbs f g (k + 1)).2.1)) := by simp only [rbs, rb1, *]; first | rfl | simp_all
          rw [hv_38] at hl
          have hv_39 : (.int (nI (8 + k + 1)) : Value) = .int (nI (8 + (k + 1))) := by first | rfl | simp_all
          rw [hv_39] at hl
          exact ih (k + 1) (by omega) (by omega) _ _ ls hw (lv_sub hl [2, 3, 4, 1, 0] rfl)
  have hc_41 : (.inl (G.2 1, 277, .inl (fun j => nI (g j))) : va_E) = .inl (G.2 1, 277, .inl (fun j => nI (((rbs f g 0).2.2) j))) := by first | rfl | (congr 2; omega) | simp_all
  have hw : mw_St G (mw_A M s.heap.size) s (va_up M ub (some (.inl (G.2 1, 277, .inl (fun j => nI (((rbs f g 0).2.2) j)))))) H locs := hw.to (fun q8 x8 h8 => by
    by_cases b_42 : q8 = ub
    · rw [b_42] at h8 ⊢; exact e1.trans ((congrArg some hc_41).trans (mw_u0.symm.trans h8))
    simp only [va_up_ne _ _ b_42] at h8 ⊢; exact h8)
  exact lp_1 (q - 16 - 0 + 1) 0 (by omega) (Nat.lt_succ_self _) _ _ ls hw (lv_sub hl [3, 4, 2, 1, 0] rfl)
theorem inX5_readFrom_X5 : ∀ w ∈ wsX50, w ∈ wsX5_readFrom := by decide +kernel
def RM_X5_readFrom : Room := { frames := 3, cells := 0, slots := 0, locals := 64 }
set_option maxHeartbeats 4000000 in
set_option maxRecDepth 100000 in
theorem c_X5_readFrom (l : Launch) (G : mw_G) (M : mw_M) (sz : Nat) (h0 ub n : Nat) (g : Nat → Nat) (y w q : Nat) (f : Nat → Int64) (e0 : M h0 = some (.inr (5, [.ref (ub), .int (nI (n))]))) (e1 : M ub = some (.inl (G.2 1, 277, .inl (fun j => nI (g j))))) (e2 : M y = some (.inr (1, [.ref (w), .int (nI (q))]))) (e3 : M w = some (.inl (G.2 2, 47, .inr (.inl (f))))) (hq2 : q ≤ 3000) (hg : ∀ i, i < 277 → g i < 256)  : Met l yX5_readFrom wsX5_readFrom RM_X5_readFrom (mw_pre G M sz [.ref (h0), .ref (y)]) (mw_Qi G M sz (nI ((rdT f q g n).1)) (va_up (va_up M h0 (some (.inr (5, [.ref (ub), .int (nI ((rdT f q g n).2.1))])))) ub (some (.inl (G.2 1, 277, .inl (fun j => nI (((rdT f q g n).2.2) j))))))) 0 0 (mw_A M sz) := by
  refine Met.ofW (cc := cX5_readFrom) (maxL := 3) (ret := (some .int)) (by decide) rfl ?_
  intro p e s m args below meth c s₁ B hml hv
  obtain ⟨rfl, rfl, hC, hw⟩ := mw_in hv
  have hx := B.exec
  have hb := B.bytes
  have hr := B.returns
  have hts := atoms_spec (ws := wsX5_readFrom) B.pre
  have hown : s.vm.findClass RX5 = some m.cls := findClass_of_methodNamed B.named
  have hlocks := B.notSynchronized
  have k_0 := hts (.fieldLink RX5 15 "LinkPair$Unit" "count" "I") (by decide +kernel)
  have k_1 := hts (.fieldLink RX5 9 "LinkPair$Unit" "bytes" "[I") (by decide +kernel)
  have k_2 := hts (.methodLink RX5 19 Lib.Math.min.name) (by decide +kernel)
  have k_3 := hts (.static Lib.Math.min.name) (by decide +kernel)
  have k_4 := hts (.initialized "java/lang/Math") (by decide +kernel)
  have k_5 := hts (.code Lib.Math.min.name Lib.Math.min.code 2 (some .int)) (by decide +kernel)
  have m0_1 : h0 ≠ ub := mw_ne e0 e1 (by intro h9; cases h9)
  have hl := lv_entry ([.ref (h0), .ref (y)]) (n := 3) (Nat.le_of_ble_eq_true rfl)
  rw [lg_entry_eq]
  generalize (lg_sl ([.ref (h0), .ref (y)]) ++ List.replicate (3 - (lg_sl ([.ref (h0), .ref (y)])).length) Slot.unset).toArray = ls at hl ⊢
  have hl : lv_has ls 3 [(0, .ref (h0)), (1, .ref (y))] := hl
  refine mw_start (fun H locs hw => ?_) hw
  have hrb : (rdB f g q).1 ≤ q - 16 ∧ (rdB f g q).2.1 ≤ 5 := rbs_le f g (q - 16)
  have hcd := cdu_lt (rdB f g q).2.2 ((rdB f g q).1 / 8 - 2)
  have hgb : ∀ i, i < 277 → (rdB f g q).2.2 i < 256 := rbs_lt f g hg (q - 16)
  refine lv_aload_n hx hb dX5_readFrom_0 rfl (lv_at hl 1 rfl) ?_
  refine mw_ci hC hw (va_runV (As := []) (rest := []) ⟨hx, hb, hml, hown, hts⟩ (c_X1_isBetweenFlags l G _ H.size y w q f e2 e3 (by omega)) (cwV 0 hts gX5_readFrom_X1_isBetweenFlags rfl rfl rfl (by decide +kernel) ⟨Nat.le_of_ble_eq_true rfl, Nat.le_of_ble_eq_true rfl⟩) (mw_preV (ci := 1) hC hw rfl e2) rfl rfl hl.1 rfl (lv_room (Nat.le_of_ble_eq_true rfl)) dX5_readFrom_1 ⟨Nat.le_of_ble_eq_true rfl, Nat.le_of_ble_eq_true rfl⟩) (fun H locs hz hw => ?_)
  have hb0 := b2n_le (rdok f q)
  refine lv_if_ne (tgt := 9) hx hb dX5_readFrom_4 (by decide) (fun c_1 => ?_) (fun c_1 => ?_)
  · skip
    have c_1 : b2n (rdok f q) ≠ 0 := fun h => c_1 ((nI_eq (a := b2n (rdok f q)) (b := 0) (by omega) (by omega)).mpr h)
    have hok : rdok f q = true := by cases h : rdok f q <;> simp_all [b2n]
    refine lv_aload_n hx hb dX5_readFrom_9 rfl (lv_at hl 1 rfl) ?_
    have h16 : 16 ≤ q := by simp [rdok] at hok; omega
    refine mw_ci hC hw (va_runV (As := []) (rest := []) ⟨hx, hb, hml, hown, hts⟩ (c_X1_hasSixOnesBetweenFlags l G _ H.size y w q f e2 e3 (by omega) (by omega)) (cwV 0 hts gX5_readFrom_X1_hasSixOnesBetweenFlags rfl rfl rfl (by decide +kernel) ⟨Nat.le_of_ble_eq_true rfl, Nat.le_of_ble_eq_true rfl⟩) (mw_preV (ci := 1) hC hw rfl e2) rfl rfl hl.1 rfl (lv_room (Nat.le_of_ble_eq_true rfl)) dX5_readFrom_10 ⟨Nat.le_of_ble_eq_true rfl, Nat.le_of_ble_eq_true rfl⟩) (fun H locs hz hw => ?_)
    have hb1 := b2n_le (sixIn f (q - 16))
    refine lv_if_eq (tgt := 18) hx hb dX5_readFrom_13 (by decide) (fun c_2 => ?_) (fun c_2 => ?_)
    · skip
      have c_2 : b2n (sixIn f (q - 16)) = 0 := (nI_eq (a := b2n (sixIn f (q - 16))) (b := 0) (by omega) (by omega)).mp c_2
      have hsx : sixIn f (q - 16) = false := by cases h : sixIn f (q - 16) <;> simp_all [b2n]
      refine lv_aload_n hx hb dX5_readFrom_18 rfl (lv_at hl 0 rfl) ?_
      refine lv_aload_n hx hb dX5_readFrom_19 rfl (lv_at hl 1 rfl) ?_
      refine mw_ci hC hw (va_runV (As := [.ref (y)]) (rest := []) ⟨hx, hb, hml, hown, hts⟩ (c_X5_readBits l G _ H.size h0 ub n g y w q f e0 e1 e2 e3 (by omega) (by omega)) (cwV 1 hts gX5_readFrom_X5_readBits rfl rfl rfl (by decide +kernel) ⟨Nat.le_of_ble_eq_true rfl, Nat.le_of_ble_eq_true rfl⟩) (mw_preV (ci := 5) hC hw rfl e0) rfl rfl hl.1 rfl (lv_room (Nat.le_of_ble_eq_true rfl)) dX5_readFrom_20 ⟨Nat.le_of_ble_eq_true rfl, Nat.le_of_ble_eq_true rfl⟩) (fun H locs hz hw => ?_)
      refine lv_istore_n (lv' := [(2, .int (nI ((rdB f g q).1))), (0, .ref (h0)), (1, .ref (y))]) hx hb dX5_readFrom_23 rfl hl (by decide) rfl (fun ls hl => ?_)
      refine lv_iload_n hx hb dX5_readFrom_24 rfl (lv_at hl 0 rfl) ?_
      refine lv_bipush (v := nI 8) hx hb dX5_readFrom_25 (by decide) ?_
      refine lv_irem hx hb dX5_readFrom_27 (by decide) ?_
      refine mw_ti (v' := nI (((rdB f g q).1) % 8)) (pk_rem (by omega) (by omega) (by omega)) ?_
      refine lv_if_ne (tgt := 44) hx hb dX5_readFrom_28 (by decide) (fun c_3 => ?_) (fun c_3 => ?_)
      · skip
        have c_3 : ((rdB f g q).1) % 8 ≠ 0 := fun h => c_3 ((nI_eq (a := ((rdB f g q).1) % 8) (b := 0) (by omega) (by omega)).mpr h)
        have hsz : (rdB f g q).1 % 8 ≠ 0 ∨ (rdB f g q).1 < 40 ∨ 2216 < (rdB f g q).1 := by omega
        refine lv_iconst (v := nI 3) hx hb dX5_readFrom_44 (by decide) ?_
        have hR : rdT f q g n = (3, n, (rdB f g q).2.2) := by unfold rdT; rw [if_neg (by rw [hok]; decide), if_neg (by rw [hsx]; decide), if_pos hsz]
        have hc_5 : (.inr (5, [.ref (ub), .int (nI (n))]) : va_E) = .inr (5, [.ref (ub), .int (nI ((rdT f q g n).2.1))]) := by rw [hR]
        have hc_6 : (.inl (G.2 1, 277, .inl (fun j => nI (((rdB f g q).2.2) j))) : va_E) = .inl (G.2 1, 277, .inl (fun j => nI (((rdT f q g n).2.2) j))) := by rw [hR]
        have hw : mw_St G (mw_A M s.heap.size) s (va_up (va_up M h0 (some (.inr (5, [.ref (ub), .int (nI ((rdT f q g n).2.1))])))) ub (some (.inl (G.2 1, 277, .inl (fun j => nI (((rdT f q g n).2.2) j)))))) H locs := hw.to (fun q8 x8 h8 => by
          by_cases b_7 : q8 = h0
          · rw [b_7] at h8 ⊢; exact (mw_u1 m0_1 e0).trans ((congrArg some hc_5).trans ((mw_u1 m0_1 mw_u0).symm.trans h8))
          by_cases b_8 : q8 = ub
          · rw [b_8] at h8 ⊢; exact mw_u0.trans ((congrArg some hc_6).trans (mw_u0.symm.trans h8))
          simp only [va_up_ne _ _ b_7, va_up_ne _ _ b_8] at h8 ⊢; exact h8)
        exact mw_iret hx hb hr hlocks hw (by rw [hR]) (fun _ _ h9 => h9) dX5_readFrom_45
      · skip
        have c_3 : ((rdB f g q).1) % 8 = 0 := (nI_eq (a := ((rdB f g q).1) % 8) (b := 0) (by omega) (by omega)).mp c_3
        refine lv_iload_n hx hb dX5_readFrom_31 rfl (lv_at hl 0 rfl) ?_
        refine lv_bipush (v := nI 40) hx hb dX5_readFrom_32 (by decide) ?_
        refine lv_icmp_lt (tgt := 44) hx hb dX5_readFrom_34 (by decide) (fun c_9 => ?_) (fun c_9 => ?_)
        · skip
          have c_9 : (rdB f g q).1 < 40 := (nI_ltI (a := (rdB f g q).1) (b := 40) (by omega) (by omega)).mp c_9
          have hsz : (rdB f g q).1 % 8 ≠ 0 ∨ (rdB f g q).1 < 40 ∨ 2216 < (rdB f g q).1 := by omega
          refine lv_iconst (v := nI 3) hx hb dX5_readFrom_44 (by decide) ?_
          have hR : rdT f q g n = (3, n, (rdB f g q).2.2) := by unfold rdT; rw [if_neg (by rw [hok]; decide), if_neg (by rw [hsx]; decide), if_pos hsz]
          have hc_11 : (.inr (5, [.ref (ub), .int (nI (n))]) : va_E) = .inr (5, [.ref (ub), .int (nI ((rdT f q g n).2.1))]) := by rw [hR]
          have hc_12 : (.inl (G.2 1, 277, .inl (fun j => nI (((rdB f g q).2.2) j))) : va_E) = .inl (G.2 1, 277, .inl (fun j => nI (((rdT f q g n).2.2) j))) := by rw [hR]
          have hw : mw_St G (mw_A M s.heap.size) s (va_up (va_up M h0 (some (.inr (5, [.ref (ub), .int (nI ((rdT f q g n).2.1))])))) ub (some (.inl (G.2 1, 277, .inl (fun j => nI (((rdT f q g n).2.2) j)))))) H locs := hw.to (fun q8 x8 h8 => by
            by_cases b_13 : q8 = h0
            · rw [b_13] at h8 ⊢; exact (mw_u1 m0_1 e0).trans ((congrArg some hc_11).trans ((mw_u1 m0_1 mw_u0).symm.trans h8))
            by_cases b_14 : q8 = ub
            · rw [b_14] at h8 ⊢; exact mw_u0.trans ((congrArg some hc_12).trans (mw_u0.symm.trans h8))
            simp only [va_up_ne _ _ b_13, va_up_ne _ _ b_14] at h8 ⊢; exact h8)
          exact mw_iret hx hb hr hlocks hw (by rw [hR]) (fun _ _ h9 => h9) dX5_readFrom_45
        · skip
          have c_9 : (rdB f g q).1 ≥ 40 := Nat.not_lt.mp (fun h => c_9 ((nI_ltI (a := (rdB f g q).1) (b := 40) (by omega) (by omega)).mpr h))
          refine lv_iload_n hx hb dX5_readFrom_37 rfl (lv_at hl 0 rfl) ?_
          refine lv_sipush (v := nI 2216) hx hb dX5_readFrom_38 (by decide) ?_
          refine lv_icmp_le (tgt := 46) hx hb dX5_readFrom_41 (by decide) (fun c_15 => ?_) (fun c_15 => ?_)
          · skip
            have c_15 : (rdB f g q).1 ≤ 2216 := (nI_leI (a := (rdB f g q).1) (b := 2216) (by omega) (by omega)).mp c_15
            have hsz : ¬ ((rdB f g q).1 % 8 ≠ 0 ∨ (rdB f g q).1 < 40 ∨ 2216 < (rdB f g q).1) := by omega
            refine lv_aload_n hx hb dX5_readFrom_46 rfl (lv_at hl 1 rfl) ?_
            refine lv_iload_n hx hb dX5_readFrom_47 rfl (lv_at hl 0 rfl) ?_
            refine lv_bipush (v := nI 8) hx hb dX5_readFrom_48 (by decide) ?_
            refine lv_idiv hx hb dX5_readFrom_50 (by decide) ?_
            refine mw_ti (v' := nI (((rdB f g q).1) / 8)) (pk_div (by omega) (by omega) (by omega)) ?_
            refine mw_put (C := RX5) (T := TX5) (N := 2) hx hb hts inX5_readFrom_X5 tyX5 tyX5_ok nmX5 hown hC hw (mw_u1 m0_1 e0) rfl 1 (by decide) k_0 rfl rfl rfl (Nat.le_of_ble_eq_true rfl) dX5_readFrom_51 (fun H locs hw => ?_)
            have hw : mw_St G _ s (va_up _ h0 (some (.inr (5, [.ref (ub), .int (nI (((rdB f g q).1) / 8))])))) H locs := hw
            have hz1 := hgb ((rdB f g q).1 / 8 - 2) (by omega)
            have hz2 := hgb ((rdB f g q).1 / 8 - 1) (by omega)
            have hz3 := hgb 2 (by omega)
            refine lv_aload_n hx hb dX5_readFrom_54 rfl (lv_at hl 1 rfl) ?_
            refine mw_get (C := RX5) (T := TX5) (N := 2) (v := .ref (ub)) hx hb hts inX5_readFrom_X5 hown hC hw mw_u0 rfl 0 (by decide) k_1 rfl dX5_readFrom_55 ?_
            refine lv_aload_n hx hb dX5_readFrom_58 rfl (lv_at hl 1 rfl) ?_
            refine mw_get (C := RX5) (T := TX5) (N := 2) (v := .int (nI (((rdB f g q).1) / 8))) hx hb hts inX5_readFrom_X5 hown hC hw mw_u0 rfl 1 (by decide) k_0 rfl dX5_readFrom_59 ?_
            refine lv_iconst (v := nI 2) hx hb dX5_readFrom_62 (by decide) ?_
            refine lv_isub hx hb dX5_readFrom_63 ?_
            refine mw_ti (v' := nI (((rdB f g q).1) / 8 - 2)) (pk_sub (by omega)) ?_
            refine mw_ildM (n := 277) (g := (rdB f g q).2.2) (i := ((rdB f g q).1) / 8 - 2) hx hb hC hw (mw_u1 (Ne.symm m0_1) mw_u0) (by omega) (by decide) dX5_readFrom_64 ?_
            refine lv_sipush (v := nI 256) hx hb dX5_readFrom_65 (by decide) ?_
            refine lv_aload_n hx hb dX5_readFrom_68 rfl (lv_at hl 1 rfl) ?_
            refine mw_get (C := RX5) (T := TX5) (N := 2) (v := .ref (ub)) hx hb hts inX5_readFrom_X5 hown hC hw mw_u0 rfl 0 (by decide) k_1 rfl dX5_readFrom_69 ?_
            refine lv_aload_n hx hb dX5_readFrom_72 rfl (lv_at hl 1 rfl) ?_
            refine mw_get (C := RX5) (T := TX5) (N := 2) (v := .int (nI (((rdB f g q).1) / 8))) hx hb hts inX5_readFrom_X5 hown hC hw mw_u0 rfl 1 (by decide) k_0 rfl dX5_readFrom_73 ?_
            refine lv_iconst (v := nI 1) hx hb dX5_readFrom_76 (by decide) ?_
            refine lv_isub hx hb dX5_readFrom_77 ?_
            refine mw_ti (v' := nI (((rdB f g q).1) / 8 - 1)) (pk_sub (by omega)) ?_
            refine mw_ildM (n := 277) (g := (rdB f g q).2.2) (i := ((rdB f g q).1) / 8 - 1) hx hb hC hw (mw_u1 (Ne.symm m0_1) mw_u0) (by omega) (by decide) dX5_readFrom_78 ?_
            refine lv_imul hx hb dX5_readFrom_79 ?_
            refine mw_ti (v' := nI (256 * (((rdB f g q).2.2) (((rdB f g q).1) / 8 - 1)))) (pk_mul _ _) ?_
            refine lv_iadd hx hb dX5_readFrom_80 ?_
            refine mw_ti (v' := nI (((rdB f g q).2.2) (((rdB f g q).1) / 8 - 2) + (256 * (((rdB f g q).2.2) (((rdB f g q).1) / 8 - 1))))) (nI_add _ _) ?_
            refine lv_aload_n hx hb dX5_readFrom_81 rfl (lv_at hl 1 rfl) ?_
            refine mw_ci hC hw (va_runV (As := []) (rest := [.int (nI (((rdB f g q).2.2) (((rdB f g q).1) / 8 - 2) + (256 * (((rdB f g q).2.2) (((rdB f g q).1) / 8 - 1)))))]) ⟨hx, hb, hml, hown, hts⟩ (c_X5_checkDue l G _ H.size h0 ub (((rdB f g q).1) / 8) ((rdB f g q).2.2) mw_u0 (mw_u1 (Ne.symm m0_1) mw_u0) (by omega) (by omega) (hgb)) (cwV 0 hts gX5_readFrom_X5_checkDue rfl rfl rfl (by decide +kernel) ⟨Nat.le_of_ble_eq_true rfl, Nat.le_of_ble_eq_true rfl⟩) (mw_preV (ci := 5) hC hw rfl mw_u0) rfl rfl hl.1 rfl (lv_room (Nat.le_of_ble_eq_true rfl)) dX5_readFrom_82 ⟨Nat.le_of_ble_eq_true rfl, Nat.le_of_ble_eq_true rfl⟩) (fun H locs hz hw => ?_)
            refine lv_icmp_eq (tgt := 90) hx hb dX5_readFrom_85 (by decide) (fun c_16 => ?_) (fun c_16 => ?_)
            · skip
              have c_16 : ((rdB f g q).2.2) (((rdB f g q).1) / 8 - 2) + (256 * (((rdB f g q).2.2) (((rdB f g q).1) / 8 - 1))) = 65535 - cdu ((rdB f g q).2.2) ((((rdB f g q).1) / 8) - 2) := (nI_eq (a := ((rdB f g q).2.2) (((rdB f g q).1) / 8 - 2) + (256 * (((rdB f g q).2.2) (((rdB f g q).1) / 8 - 1)))) (b := 65535 - cdu ((rdB f g q).2.2) ((((rdB f g q).1) / 8) - 2)) (by omega) (by omega)).mp c_16
              refine lv_aload_n hx hb dX5_readFrom_90 rfl (lv_at hl 1 rfl) ?_
              refine mw_get (C := RX5) (T := TX5) (N := 2) (v := .ref (ub)) hx hb hts inX5_readFrom_X5 hown hC hw mw_u0 rfl 0 (by decide) k_1 rfl dX5_readFrom_91 ?_
              refine lv_iconst (v := nI 2) hx hb dX5_readFrom_94 (by decide) ?_
              refine mw_ildM (n := 277) (g := (rdB f g q).2.2) (i := 2) hx hb hC hw (mw_u1 (Ne.symm m0_1) mw_u0) (by omega) (by decide) dX5_readFrom_95 ?_
              refine lv_aload_n hx hb dX5_readFrom_96 rfl (lv_at hl 1 rfl) ?_
              refine mw_ci hC hw (va_runV (As := []) (rest := [.int (nI (((rdB f g q).2.2) (2)))]) ⟨hx, hb, hml, hown, hts⟩ (c_X5_bodyLength l G _ H.size h0 ub (((rdB f g q).1) / 8) mw_u0 (by omega)) (cwV 0 hts gX5_readFrom_X5_bodyLength rfl rfl rfl (by decide +kernel) ⟨Nat.le_of_ble_eq_true rfl, Nat.le_of_ble_eq_true rfl⟩) (mw_preV (ci := 5) hC hw rfl mw_u0) rfl rfl hl.1 rfl (lv_room (Nat.le_of_ble_eq_true rfl)) dX5_readFrom_97 ⟨Nat.le_of_ble_eq_true rfl, Nat.le_of_ble_eq_true rfl⟩) (fun H locs hz hw => ?_)
              refine lv_bipush (v := nI 63) hx hb dX5_readFrom_100 (by decide) ?_
              refine va_mmin hx hb (hml.trans hl.1.symm) hown k_2 k_3 k_4 k_5 (Nat.le_of_ble_eq_true rfl) (Nat.le_of_ble_eq_true rfl) (Nat.zero_le _) (Nat.zero_le _) dX5_readFrom_102 ?_
              refine mw_ti (v' := nI (min ((((rdB f g q).1) / 8) - 5) 63)) (mw_min (by omega) (by omega)) ?_
              refine lv_icmp_ne (tgt := 112) hx hb dX5_readFrom_105 (by decide) (fun c_17 => ?_) (fun c_17 => ?_)
              · skip
                have c_17 : ((rdB f g q).2.2) (2) ≠ min ((((rdB f g q).1) / 8) - 5) 63 := fun h => c_17 ((nI_eq (a := ((rdB f g q).2.2) (2)) (b := min ((((rdB f g q).1) / 8) - 5) 63) (by omega) (by omega)).mpr h)
                refine lv_iconst (v := nI 5) hx hb dX5_readFrom_112 (by decide) ?_
                have hR : rdT f q g n = (5, (rdB f g q).1 / 8, (rdB f g q).2.2) := by unfold rdT; rw [if_neg (by rw [hok]; decide), if_neg (by rw [hsx]; decide), if_neg hsz, if_neg (fun h => h (by assumption)), if_neg (by assumption)]
                have hc_19 : (.inr (5, [.ref (ub), .int (nI (((rdB f g q).1) / 8))]) : va_E) = .inr (5, [.ref (ub), .int (nI ((rdT f q g n).2.1))]) := by rw [hR]
                have hc_20 : (.inl (G.2 1, 277, .inl (fun j => nI (((rdB f g q).2.2) j))) : va_E) = .inl (G.2 1, 277, .inl (fun j => nI (((rdT f q g n).2.2) j))) := by rw [hR]
                have hw : mw_St G (mw_A M s.heap.size) s (va_up (va_up M h0 (some (.inr (5, [.ref (ub), .int (nI ((rdT f q g n).2.1))])))) ub (some (.inl (G.2 1, 277, .inl (fun j => nI (((rdT f q g n).2.2) j)))))) H locs := hw.to (fun q8 x8 h8 => by
                  by_cases b_21 : q8 = h0
                  · rw [b_21] at h8 ⊢; exact mw_u0.trans ((congrArg some hc_19).trans ((mw_u1 m0_1 mw_u0).symm.trans h8))
                  by_cases b_22 : q8 = ub
                  · rw [b_22] at h8 ⊢; exact (mw_u1 (Ne.symm m0_1) mw_u0).trans ((congrArg some hc_20).trans (mw_u0.symm.trans h8))
                  simp only [va_up_ne _ _ b_21, va_up_ne _ _ b_22] at h8 ⊢; exact h8)
                exact mw_iret hx hb hr hlocks hw (by rw [hR]) (fun _ _ h9 => h9) dX5_readFrom_113
              · skip
                have c_17 : ((rdB f g q).2.2) (2) = min ((((rdB f g q).1) / 8) - 5) 63 := (nI_eq (a := ((rdB f g q).2.2) (2)) (b := min ((((rdB f g q).1) / 8) - 5) 63) (by omega) (by omega)).mp c_17
                refine lv_iconst (v := nI 0) hx hb dX5_readFrom_108 (by decide) ?_
                refine lv_goto (tgt := 113) hx hb dX5_readFrom_109 (by decide) ?_
                have hR : rdT f q g n = (0, (rdB f g q).1 / 8, (rdB f g q).2.2) := by unfold rdT; rw [if_neg (by rw [hok]; decide), if_neg (by rw [hsx]; decide), if_neg hsz, if_neg (fun h => h (by assumption)), if_pos (by assumption)]
                have hc_24 : (.inr (5, [.ref (ub), .int (nI (((rdB f g q).1) / 8))]) : va_E) = .inr (5, [.ref (ub), .int (nI ((rdT f q g n).2.1))]) := by rw [hR]
                have hc_25 : (.inl (G.2 1, 277, .inl (fun j => nI (((rdB f g q).2.2) j))) : va_E) = .inl (G.2 1, 277, .inl (fun j => nI (((rdT f q g n).2.2) j))) := by rw [hR]
                have hw : mw_St G (mw_A M s.heap.size) s (va_up (va_up M h0 (some (.inr (5, [.ref (ub), .int (nI ((rdT f q g n).2.1))])))) ub (some (.inl (G.2 1, 277, .inl (fun j => nI (((rdT f q g n).2.2) j)))))) H locs := hw.to (fun q8 x8 h8 => by
                  by_cases b_26 : q8 = h0
                  · rw [b_26] at h8 ⊢; exact mw_u0.trans ((congrArg some hc_24).trans ((mw_u1 m0_1 mw_u0).symm.trans h8))
                  by_cases b_27 : q8 = ub
                  · rw [b_27] at h8 ⊢; exact (mw_u1 (Ne.symm m0_1) mw_u0).trans ((congrArg some hc_25).trans (mw_u0.symm.trans h8))
                  simp only [va_up_ne _ _ b_26, va_up_ne _ _ b_27] at h8 ⊢; exact h8)
                exact mw_iret hx hb hr hlocks hw (by rw [hR]) (fun _ _ h9 => h9) dX5_readFrom_113
            · skip
              have c_16 : ((rdB f g q).2.2) (((rdB f g q).1) / 8 - 2) + (256 * (((rdB f g q).2.2) (((rdB f g q).1) / 8 - 1))) ≠ 65535 - cdu ((rdB f g q).2.2) ((((rdB f g q).1) / 8) - 2) := fun h => c_16 ((nI_eq (a := ((rdB f g q).2.2) (((rdB f g q).1) / 8 - 2) + (256 * (((rdB f g q).2.2) (((rdB f g q).1) / 8 - 1)))) (b := 65535 - cdu ((rdB f g q).2.2) ((((rdB f g q).1) / 8) - 2)) (by omega) (by omega)).mpr h)
              refine lv_iconst (v := nI 4) hx hb dX5_readFrom_88 (by decide) ?_
              have hR : rdT f q g n = (4, (rdB f g q).1 / 8, (rdB f g q).2.2) := by unfold rdT; rw [if_neg (by rw [hok]; decide), if_neg (by rw [hsx]; decide), if_neg hsz, if_pos (by assumption)]
              have hc_29 : (.inr (5, [.ref (ub), .int (nI (((rdB f g q).1) / 8))]) : va_E) = .inr (5, [.ref (ub), .int (nI ((rdT f q g n).2.1))]) := by rw [hR]
              have hc_30 : (.inl (G.2 1, 277, .inl (fun j => nI (((rdB f g q).2.2) j))) : va_E) = .inl (G.2 1, 277, .inl (fun j => nI (((rdT f q g n).2.2) j))) := by rw [hR]
              have hw : mw_St G (mw_A M s.heap.size) s (va_up (va_up M h0 (some (.inr (5, [.ref (ub), .int (nI ((rdT f q g n).2.1))])))) ub (some (.inl (G.2 1, 277, .inl (fun j => nI (((rdT f q g n).2.2) j)))))) H locs := hw.to (fun q8 x8 h8 => by
                by_cases b_31 : q8 = h0
                · rw [b_31] at h8 ⊢; exact mw_u0.trans ((congrArg some hc_29).trans ((mw_u1 m0_1 mw_u0).symm.trans h8))
                by_cases b_32 : q8 = ub
                · rw [b_32] at h8 ⊢; exact (mw_u1 (Ne.symm m0_1) mw_u0).trans ((congrArg some hc_30).trans (mw_u0.symm.trans h8))
                simp only [va_up_ne _ _ b_31, va_up_ne _ _ b_32] at h8 ⊢; exact h8)
              exact mw_iret hx hb hr hlocks hw (by rw [hR]) (fun _ _ h9 => h9) dX5_readFrom_89
          · skip
            have c_15 : (rdB f g q).1 > 2216 := Nat.not_le.mp (fun h => c_15 ((nI_leI (a := (rdB f g q).1) (b := 2216) (by omega) (by omega)).mpr h))
            have hsz : (rdB f g q).1 % 8 ≠ 0 ∨ (rdB f g q).1 < 40 ∨ 2216 < (rdB f g q).1 := by omega
            refine lv_iconst (v := nI 3) hx hb dX5_readFrom_44 (by decide) ?_
            have hR : rdT f q g n = (3, n, (rdB f g q).2.2) := by unfold rdT; rw [if_neg (by rw [hok]; decide), if_neg (by rw [hsx]; decide), if_pos hsz]
            have hc_34 : (.inr (5, [.ref (ub), .int (nI (n))]) : va_E) = .inr (5, [.ref (ub), .int (nI ((rdT f q g n).2.1))]) := by rw [hR]
            have hc_35 : (.inl (G.2 1, 277, .inl (fun j => nI (((rdB f g q).2.2) j))) : va_E) = .inl (G.2 1, 277, .inl (fun j => nI (((rdT f q g n).2.2) j))) := by rw [hR]
            have hw : mw_St G (mw_A M s.heap.size) s (va_up (va_up M h0 (some (.inr (5, [.ref (ub), .int (nI ((rdT f q g n).2.1))])))) ub (some (.inl (G.2 1, 277, .inl (fun j => nI (((rdT f q g n).2.2) j)))))) H locs := hw.to (fun q8 x8 h8 => by
              by_cases b_36 : q8 = h0
              · rw [b_36] at h8 ⊢; exact (mw_u1 m0_1 e0).trans ((congrArg some hc_34).trans ((mw_u1 m0_1 mw_u0).symm.trans h8))
              by_cases b_37 : q8 = ub
              · rw [b_37] at h8 ⊢; exact mw_u0.trans ((congrArg some hc_35).trans (mw_u0.symm.trans h8))
              simp only [va_up_ne _ _ b_36, va_up_ne _ _ b_37] at h8 ⊢; exact h8)
            exact mw_iret hx hb hr hlocks hw (by rw [hR]) (fun _ _ h9 => h9) dX5_readFrom_45
    · skip
      have c_2 : b2n (sixIn f (q - 16)) ≠ 0 := fun h => c_2 ((nI_eq (a := b2n (sixIn f (q - 16))) (b := 0) (by omega) (by omega)).mpr h)
      have hsx : sixIn f (q - 16) = true := by cases h : sixIn f (q - 16) <;> simp_all [b2n]
      refine lv_iconst (v := nI 2) hx hb dX5_readFrom_16 (by decide) ?_
      have hR : rdT f q g n = (2, n, g) := by unfold rdT; rw [if_neg (by rw [hok]; decide), if_pos hsx]
      have hc_39 : (.inr (5, [.ref (ub), .int (nI (n))]) : va_E) = .inr (5, [.ref (ub), .int (nI ((rdT f q g n).2.1))]) := by rw [hR]
      have hc_40 : (.inl (G.2 1, 277, .inl (fun j => nI (g j))) : va_E) = .inl (G.2 1, 277, .inl (fun j => nI (((rdT f q g n).2.2) j))) := by rw [hR]
      have hw : mw_St G (mw_A M s.heap.size) s (va_up (va_up M h0 (some (.inr (5, [.ref (ub), .int (nI ((rdT f q g n).2.1))])))) ub (some (.inl (G.2 1, 277, .inl (fun j => nI (((rdT f q g n).2.2) j)))))) H locs := hw.to (fun q8 x8 h8 => by
        by_cases b_41 : q8 = h0
        · rw [b_41] at h8 ⊢; exact e0.trans ((congrArg some hc_39).trans ((mw_u1 m0_1 mw_u0).symm.trans h8))
        by_cases b_42 : q8 = ub
        · rw [b_42] at h8 ⊢; exact e1.trans ((congrArg some hc_40).trans (mw_u0.symm.trans h8))
        simp only [va_up_ne _ _ b_41, va_up_ne _ _ b_42] at h8 ⊢; exact h8)
      exact mw_iret hx hb hr hlocks hw (by rw [hR]) (fun _ _ h9 => h9) dX5_readFrom_17
  · skip
    have c_1 : b2n (rdok f q) = 0 := (nI_eq (a := b2n (rdok f q)) (b := 0) (by omega) (by omega)).mp c_1
    have hok : rdok f q = false := by cases h : rdok f q <;> simp_all [b2n]
    refine lv_iconst (v := nI 1) hx hb dX5_readFrom_7 (by decide) ?_
    have hR : rdT f q g n = (1, n, g) := by unfold rdT; rw [if_pos hok]
    have hc_44 : (.inr (5, [.ref (ub), .int (nI (n))]) : va_E) = .inr (5, [.ref (ub), .int (nI ((rdT f q g n).2.1))]) := by rw [hR]
    have hc_45 : (.inl (G.2 1, 277, .inl (fun j => nI (g j))) : va_E) = .inl (G.2 1, 277, .inl (fun j => nI (((rdT f q g n).2.2) j))) := by rw [hR]
    have hw : mw_St G (mw_A M s.heap.size) s (va_up (va_up M h0 (some (.inr (5, [.ref (ub), .int (nI ((rdT f q g n).2.1))])))) ub (some (.inl (G.2 1, 277, .inl (fun j => nI (((rdT f q g n).2.2) j)))))) H locs := hw.to (fun q8 x8 h8 => by
      by_cases b_46 : q8 = h0
      · rw [b_46] at h8 ⊢; exact e0.trans ((congrArg some hc_44).trans ((mw_u1 m0_1 mw_u0).symm.trans h8))
      by_cases b_47 : q8 = ub
      · rw [b_47] at h8 ⊢; exact e1.trans ((congrArg some hc_45).trans (mw_u0.symm.trans h8))
      simp only [va_up_ne _ _ b_46, va_up_ne _ _ b_47] at h8 ⊢; exact h8)
    exact mw_iret hx hb hr hlocks hw (by rw [hR]) (fun _ _ h9 => h9) dX5_readFrom_8
