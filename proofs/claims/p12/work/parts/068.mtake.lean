/-! ===== LinkPairModel: forwards in one, take ===== -/
def RM_X7_forwards : Room := { frames := 0, cells := 0, slots := 0, locals := 0 }
set_option maxHeartbeats 4000000 in
set_option maxRecDepth 100000 in
theorem c_X7_forwards (l : Launch) (G : mw_G) (M : mw_M) (sz : Nat) (h0 : Nat) (a : Nat → Nat) (c u : Nat) (A : md_S) (ed : Nat) (hm : md_at G M h0 a c u A) (hed : ed ≤ 1) (hug : ∀ i, i < 280 → A 24 i < 256) (hu : u ≤ 277) (h5 : A 5 ed ≤ 1) (h7 : A 7 ed < 128) (ht : A 21 ed < 100000) : Met l yX7_forwards wsX7_forwards RM_X7_forwards (mw_pre G M sz [.ref (h0), .int (nI (ed))]) (md_Qi G M sz h0 a (nI (fwr A ed u)) c u (fwA A ed u)) 0 0 (mw_A M sz) := by
  refine Met.ofW (cc := cX7_forwards) (maxL := 6) (ret := (some .int)) (by decide) rfl ?_
  intro p e s m args below meth c0 s₁ B hml hv
  obtain ⟨rfl, rfl, hC, hw⟩ := mw_in hv
  have hx := B.exec
  have hb := B.bytes
  have hr := B.returns
  have hts := atoms_spec (ws := wsX7_forwards) B.pre
  have hown : s.vm.findClass RX7 = some m.cls := findClass_of_methodNamed B.named
  have hlocks := B.notSynchronized
  have hf : md_fr h0 a M M := md_fr.rf
  have k_0 := hts (.fieldLink RX7 81 "LinkPairModel" "unit" "[I") (by decide +kernel)
  have k_1 := hts (.fieldLink RX7 128 "LinkPairModel" "unitLength" "I") (by decide +kernel)
  have k_2 := hts (.fieldLink RX7 23 "LinkPairModel" "bib" "[I") (by decide +kernel)
  have k_3 := hts (.fieldLink RX7 29 "LinkPairModel" "takenLatest" "[I") (by decide +kernel)
  have k_4 := hts (.fieldLink RX7 72 "LinkPairModel" "takenCount" "[I") (by decide +kernel)
  have k_5 := hts (.fieldLink RX7 75 "LinkPairModel" "takenLength" "[I") (by decide +kernel)
  have k_6 := hts (.fieldLink RX7 78 "LinkPairModel" "takenBytes" "[I") (by decide +kernel)
  have hl := lv_entry ([.ref (h0), .int (nI (ed))]) (n := 6) (Nat.le_of_ble_eq_true rfl)
  rw [lg_entry_eq]
  generalize (lg_sl ([.ref (h0), .int (nI (ed))]) ++ List.replicate (6 - (lg_sl ([.ref (h0), .int (nI (ed))])).length) Slot.unset).toArray = ls at hl ⊢
  have hl : lv_has ls 6 [(0, .ref (h0)), (1, .int (nI (ed)))] := hl
  refine mw_start (fun H locs hw => ?_) hw
  have hg1 := hug 1 (by decide)
  refine lv_aload_n hx hb dX7_forwards_0 rfl (lv_at hl 0 rfl) ?_
  refine mw_get (C := RX7) (T := TX7) (N := 27) (v := .ref (a 24)) hx hb hts inX7_forwards_X7 hown hC hw hm.1 rfl 24 (by decide) k_0 rfl dX7_forwards_1 ?_
  refine lv_iconst (v := nI 1) hx hb dX7_forwards_4 (by decide) ?_
  refine md_ald 24 (n := 280) hx hb hC hw hm rfl (by decide) rfl (by omega) (by decide) dX7_forwards_5 ?_
  refine lv_bipush (v := nI 127) hx hb dX7_forwards_6 (by decide) ?_
  refine lv_iand hx hb dX7_forwards_8 ?_
  refine mw_ti (v' := nI ((A 24 1) % 128)) (pk_andN (by omega) 7 (by decide)) ?_
  refine lv_istore_n (lv' := [(2, .int (nI ((A 24 1) % 128))), (0, .ref (h0)), (1, .int (nI (ed)))]) hx hb dX7_forwards_9 rfl hl (by decide) rfl (fun ls hl => ?_)
  refine lv_aload_n hx hb dX7_forwards_10 rfl (lv_at hl 1 rfl) ?_
  refine mw_get (C := RX7) (T := TX7) (N := 27) (v := .int (nI (u))) hx hb hts inX7_forwards_X7 hown hC hw hm.1 rfl 25 (by decide) k_1 rfl dX7_forwards_11 ?_
  refine lv_iconst (v := nI 5) hx hb dX7_forwards_14 (by decide) ?_
  refine lv_icmp_le (tgt := 22) hx hb dX7_forwards_15 (by decide) (fun c_1 => ?_) (fun c_1 => ?_)
  · skip
    have c_1 : u ≤ 5 := (nI_leI (a := u) (b := 5) (by omega) (by omega)).mp c_1
    refine lv_iconst (v := nI 0) hx hb dX7_forwards_22 (by decide) ?_
    refine lv_istore_n (lv' := [(3, .int (nI (0))), (2, .int (nI ((A 24 1) % 128))), (0, .ref (h0)), (1, .int (nI (ed)))]) hx hb dX7_forwards_23 rfl hl (by decide) rfl (fun ls hl => ?_)
    refine lv_aload_n hx hb dX7_forwards_24 rfl (lv_at hl 2 rfl) ?_
    refine mw_get (C := RX7) (T := TX7) (N := 27) (v := .ref (a 24)) hx hb hts inX7_forwards_X7 hown hC hw hm.1 rfl 24 (by decide) k_0 rfl dX7_forwards_25 ?_
    refine lv_iconst (v := nI 1) hx hb dX7_forwards_28 (by decide) ?_
    refine md_ald 24 (n := 280) hx hb hC hw hm rfl (by decide) rfl (by omega) (by decide) dX7_forwards_29 ?_
    refine lv_bipush (v := nI 7) hx hb dX7_forwards_30 (by decide) ?_
    refine lv_ishr hx hb dX7_forwards_32 ?_
    refine mw_ti (v' := nI ((A 24 1) / 128)) (pk_shrN (by omega) _ 7 (by decide)) ?_
    refine lv_aload_n hx hb dX7_forwards_33 rfl (lv_at hl 2 rfl) ?_
    refine mw_get (C := RX7) (T := TX7) (N := 27) (v := .ref (a 5)) hx hb hts inX7_forwards_X7 hown hC hw hm.1 rfl 5 (by decide) k_2 rfl dX7_forwards_34 ?_
    refine lv_iload_n hx hb dX7_forwards_37 rfl (lv_at hl 3 rfl) ?_
    refine md_ald 5 (n := 2) hx hb hC hw hm rfl (by decide) rfl (by omega) (by decide) dX7_forwards_38 ?_
    refine lv_icmp_ne (tgt := 52) hx hb dX7_forwards_39 (by decide) (fun c_2 => ?_) (fun c_2 => ?_)
    · skip
      have c_2 : (A 24 1) / 128 ≠ A 5 ed := fun h => c_2 ((nI_eq (a := (A 24 1) / 128) (b := A 5 ed) (by omega) (by omega)).mpr h)
      refine lv_iconst (v := nI 0) hx hb dX7_forwards_52 (by decide) ?_
      have hA_3 : A = fwA A ed u := by unfold fwA; rw [if_pos (by omega)]
      rw [hA_3] at hm
      exact md_iret hx hb hr hlocks hw hm hf (by unfold fwr; rw [if_pos (by omega)]) dX7_forwards_53
    · skip
      have c_2 : (A 24 1) / 128 = A 5 ed := (nI_eq (a := (A 24 1) / 128) (b := A 5 ed) (by omega) (by omega)).mp c_2
      refine lv_iload_n hx hb dX7_forwards_42 rfl (lv_at hl 1 rfl) ?_
      refine lv_aload_n hx hb dX7_forwards_43 rfl (lv_at hl 2 rfl) ?_
      refine mw_get (C := RX7) (T := TX7) (N := 27) (v := .ref (a 7)) hx hb hts inX7_forwards_X7 hown hC hw hm.1 rfl 7 (by decide) k_3 rfl dX7_forwards_44 ?_
      refine lv_iload_n hx hb dX7_forwards_47 rfl (lv_at hl 3 rfl) ?_
      refine md_ald 7 (n := 2) hx hb hC hw hm rfl (by decide) rfl (by omega) (by decide) dX7_forwards_48 ?_
      refine lv_icmp_ne (tgt := 54) hx hb dX7_forwards_49 (by decide) (fun c_4 => ?_) (fun c_4 => ?_)
      · skip
        have c_4 : (A 24 1) % 128 ≠ A 7 ed := fun h => c_4 ((nI_eq (a := (A 24 1) % 128) (b := A 7 ed) (by omega) (by omega)).mpr h)
        refine lv_iload_n hx hb dX7_forwards_54 rfl (lv_at hl 0 rfl) ?_
        refine lv_if_eq (tgt := 73) hx hb dX7_forwards_55 (by decide) (fun c_5 => ?_) (fun c_5 => ?_)
        · skip
          refine lv_aload_n hx hb dX7_forwards_73 rfl (lv_at hl 2 rfl) ?_
          refine mw_get (C := RX7) (T := TX7) (N := 27) (v := .ref (a 5)) hx hb hts inX7_forwards_X7 hown hC hw hm.1 rfl 5 (by decide) k_2 rfl dX7_forwards_74 ?_
          refine lv_iload_n hx hb dX7_forwards_77 rfl (lv_at hl 3 rfl) ?_
          refine lv_iconst (v := nI 1) hx hb dX7_forwards_78 (by decide) ?_
          refine lv_aload_n hx hb dX7_forwards_79 rfl (lv_at hl 2 rfl) ?_
          refine mw_get (C := RX7) (T := TX7) (N := 27) (v := .ref (a 5)) hx hb hts inX7_forwards_X7 hown hC hw hm.1 rfl 5 (by decide) k_2 rfl dX7_forwards_80 ?_
          refine lv_iload_n hx hb dX7_forwards_83 rfl (lv_at hl 3 rfl) ?_
          refine md_ald 5 (n := 2) hx hb hC hw hm rfl (by decide) rfl (by omega) (by decide) dX7_forwards_84 ?_
          refine lv_isub hx hb dX7_forwards_85 ?_
          refine mw_ti (v' := nI (1 - (A 5 ed))) (pk_sub (by omega)) ?_
          refine md_ast 5 (n := 2) (v := 1 - (A 5 ed)) hx hb hC hw hm rfl (by decide) rfl (by omega) (by decide) dX7_forwards_86 (fun M1 H locs hm hf1 hw => ?_)
          have hf := hf.tr hf1
          refine lv_iconst (v := nI 2) hx hb dX7_forwards_87 (by decide) ?_
          have hA_6 : md_u A 5 ed (1 - (A 5 ed)) = fwA A ed u := by unfold fwA; rw [if_neg (by omega), if_neg (by omega)]
          rw [hA_6] at hm
          exact md_iret hx hb hr hlocks hw hm hf (by unfold fwr; rw [if_neg (by omega), if_neg (by omega)]) dX7_forwards_88
        · skip
          exact absurd c_5 (by decide)
      · skip
        have c_4 : (A 24 1) % 128 = A 7 ed := (nI_eq (a := (A 24 1) % 128) (b := A 7 ed) (by omega) (by omega)).mp c_4
        refine lv_iconst (v := nI 0) hx hb dX7_forwards_52 (by decide) ?_
        have hA_7 : A = fwA A ed u := by unfold fwA; rw [if_pos (by omega)]
        rw [hA_7] at hm
        exact md_iret hx hb hr hlocks hw hm hf (by unfold fwr; rw [if_pos (by omega)]) dX7_forwards_53
  · skip
    have c_1 : u > 5 := Nat.not_le.mp (fun h => c_1 ((nI_leI (a := u) (b := 5) (by omega) (by omega)).mpr h))
    refine lv_iconst (v := nI 1) hx hb dX7_forwards_18 (by decide) ?_
    refine lv_goto (tgt := 23) hx hb dX7_forwards_19 (by decide) ?_
    refine lv_istore_n (lv' := [(3, .int (nI (1))), (2, .int (nI ((A 24 1) % 128))), (0, .ref (h0)), (1, .int (nI (ed)))]) hx hb dX7_forwards_23 rfl hl (by decide) rfl (fun ls hl => ?_)
    refine lv_aload_n hx hb dX7_forwards_24 rfl (lv_at hl 2 rfl) ?_
    refine mw_get (C := RX7) (T := TX7) (N := 27) (v := .ref (a 24)) hx hb hts inX7_forwards_X7 hown hC hw hm.1 rfl 24 (by decide) k_0 rfl dX7_forwards_25 ?_
    refine lv_iconst (v := nI 1) hx hb dX7_forwards_28 (by decide) ?_
    refine md_ald 24 (n := 280) hx hb hC hw hm rfl (by decide) rfl (by omega) (by decide) dX7_forwards_29 ?_
    refine lv_bipush (v := nI 7) hx hb dX7_forwards_30 (by decide) ?_
    refine lv_ishr hx hb dX7_forwards_32 ?_
    refine mw_ti (v' := nI ((A 24 1) / 128)) (pk_shrN (by omega) _ 7 (by decide)) ?_
    refine lv_aload_n hx hb dX7_forwards_33 rfl (lv_at hl 2 rfl) ?_
    refine mw_get (C := RX7) (T := TX7) (N := 27) (v := .ref (a 5)) hx hb hts inX7_forwards_X7 hown hC hw hm.1 rfl 5 (by decide) k_2 rfl dX7_forwards_34 ?_
    refine lv_iload_n hx hb dX7_forwards_37 rfl (lv_at hl 3 rfl) ?_
    refine md_ald 5 (n := 2) hx hb hC hw hm rfl (by decide) rfl (by omega) (by decide) dX7_forwards_38 ?_
    refine lv_icmp_ne (tgt := 52) hx hb dX7_forwards_39 (by decide) (fun c_8 => ?_) (fun c_8 => ?_)
    · skip
      have c_8 : (A 24 1) / 128 ≠ A 5 ed := fun h => c_8 ((nI_eq (a := (A 24 1) / 128) (b := A 5 ed) (by omega) (by omega)).mpr h)
      refine lv_iconst (v := nI 0) hx hb dX7_forwards_52 (by decide) ?_
      have hA_9 : A = fwA A ed u := by unfold fwA; rw [if_pos (by omega)]
      rw [hA_9] at hm
      exact md_iret hx hb hr hlocks hw hm hf (by unfold fwr; rw [if_pos (by omega)]) dX7_forwards_53
    · skip
      have c_8 : (A 24 1) / 128 = A 5 ed := (nI_eq (a := (A 24 1) / 128) (b := A 5 ed) (by omega) (by omega)).mp c_8
      refine lv_iload_n hx hb dX7_forwards_42 rfl (lv_at hl 1 rfl) ?_
      refine lv_aload_n hx hb dX7_forwards_43 rfl (lv_at hl 2 rfl) ?_
      refine mw_get (C := RX7) (T := TX7) (N := 27) (v := .ref (a 7)) hx hb hts inX7_forwards_X7 hown hC hw hm.1 rfl 7 (by decide) k_3 rfl dX7_forwards_44 ?_
      refine lv_iload_n hx hb dX7_forwards_47 rfl (lv_at hl 3 rfl) ?_
      refine md_ald 7 (n := 2) hx hb hC hw hm rfl (by decide) rfl (by omega) (by decide) dX7_forwards_48 ?_
      refine lv_icmp_ne (tgt := 54) hx hb dX7_forwards_49 (by decide) (fun c_10 => ?_) (fun c_10 => ?_)
      · skip
        have c_10 : (A 24 1) % 128 ≠ A 7 ed := fun h => c_10 ((nI_eq (a := (A 24 1) % 128) (b := A 7 ed) (by omega) (by omega)).mpr h)
        refine lv_iload_n hx hb dX7_forwards_54 rfl (lv_at hl 0 rfl) ?_
        refine lv_if_eq (tgt := 73) hx hb dX7_forwards_55 (by decide) (fun c_11 => ?_) (fun c_11 => ?_)
        · skip
          exact absurd c_11 (by decide)
        · skip
          refine lv_iload_n hx hb dX7_forwards_58 rfl (lv_at hl 1 rfl) ?_
          refine lv_aload_n hx hb dX7_forwards_59 rfl (lv_at hl 2 rfl) ?_
          refine mw_get (C := RX7) (T := TX7) (N := 27) (v := .ref (a 7)) hx hb hts inX7_forwards_X7 hown hC hw hm.1 rfl 7 (by decide) k_3 rfl dX7_forwards_60 ?_
          refine lv_iload_n hx hb dX7_forwards_63 rfl (lv_at hl 3 rfl) ?_
          refine md_ald 7 (n := 2) hx hb hC hw hm rfl (by decide) rfl (by omega) (by decide) dX7_forwards_64 ?_
          refine lv_iconst (v := nI 1) hx hb dX7_forwards_65 (by decide) ?_
          refine lv_iadd hx hb dX7_forwards_66 ?_
          refine mw_ti (v' := nI (A 7 ed + 1)) (nI_add _ _) ?_
          refine lv_bipush (v := nI 127) hx hb dX7_forwards_67 (by decide) ?_
          refine lv_iand hx hb dX7_forwards_69 ?_
          refine mw_ti (v' := nI ((A 7 ed + 1) % 128)) (pk_andN (by omega) 7 (by decide)) ?_
          refine lv_icmp_eq (tgt := 89) hx hb dX7_forwards_70 (by decide) (fun c_12 => ?_) (fun c_12 => ?_)
          · skip
            have c_12 : (A 24 1) % 128 = (A 7 ed + 1) % 128 := (nI_eq (a := (A 24 1) % 128) (b := (A 7 ed + 1) % 128) (by omega) (by omega)).mp c_12
            refine lv_aload_n hx hb dX7_forwards_89 rfl (lv_at hl 2 rfl) ?_
            refine mw_get (C := RX7) (T := TX7) (N := 27) (v := .ref (a 7)) hx hb hts inX7_forwards_X7 hown hC hw hm.1 rfl 7 (by decide) k_3 rfl dX7_forwards_90 ?_
            refine lv_iload_n hx hb dX7_forwards_93 rfl (lv_at hl 3 rfl) ?_
            refine lv_iload_n hx hb dX7_forwards_94 rfl (lv_at hl 1 rfl) ?_
            refine md_ast 7 (n := 2) (v := (A 24 1) % 128) hx hb hC hw hm rfl (by decide) rfl (by omega) (by decide) dX7_forwards_95 (fun M1 H locs hm hf1 hw => ?_)
            have hf := hf.tr hf1
            refine lv_bipush (v := nI 50) hx hb dX7_forwards_96 (by decide) ?_
            refine lv_iload_n hx hb dX7_forwards_98 rfl (lv_at hl 3 rfl) ?_
            refine lv_imul hx hb dX7_forwards_99 ?_
            refine mw_ti (v' := nI (50 * ed)) (pk_mul _ _) ?_
            refine lv_aload_n hx hb dX7_forwards_100 rfl (lv_at hl 2 rfl) ?_
            refine mw_get (C := RX7) (T := TX7) (N := 27) (v := .ref (a 21)) hx hb hts inX7_forwards_X7 hown hC hw hm.1 rfl 21 (by decide) k_4 rfl dX7_forwards_101 ?_
            refine lv_iload_n hx hb dX7_forwards_104 rfl (lv_at hl 3 rfl) ?_
            refine md_ald 21 (n := 2) hx hb hC hw hm rfl (by decide) rfl (by omega) (by decide) dX7_forwards_105 ?_
            refine mw_ti (v' := nI (A 21 ed)) (congrArg nI (md_u_k (by decide))) ?_
            refine lv_bipush (v := nI 50) hx hb dX7_forwards_106 (by decide) ?_
            refine lv_irem hx hb dX7_forwards_108 (by decide) ?_
            refine mw_ti (v' := nI ((A 21 ed) % 50)) (pk_rem (by omega) (by omega) (by omega)) ?_
            refine lv_iadd hx hb dX7_forwards_109 ?_
            refine mw_ti (v' := nI (50 * ed + (A 21 ed) % 50)) (nI_add _ _) ?_
            refine lv_istore (lv' := [(4, .int (nI (50 * ed + (A 21 ed) % 50))), (3, .int (nI (1))), (2, .int (nI ((A 24 1) % 128))), (0, .ref (h0)), (1, .int (nI (ed)))]) hx hb dX7_forwards_110 hl (by decide) rfl (fun ls hl => ?_)
            refine lv_aload_n hx hb dX7_forwards_112 rfl (lv_at hl 3 rfl) ?_
            refine mw_get (C := RX7) (T := TX7) (N := 27) (v := .ref (a 22)) hx hb hts inX7_forwards_X7 hown hC hw hm.1 rfl 22 (by decide) k_5 rfl dX7_forwards_113 ?_
            refine lv_iload hx hb dX7_forwards_116 (lv_at hl 0 rfl) ?_
            refine lv_aload_n hx hb dX7_forwards_118 rfl (lv_at hl 3 rfl) ?_
            refine mw_get (C := RX7) (T := TX7) (N := 27) (v := .int (nI (u))) hx hb hts inX7_forwards_X7 hown hC hw hm.1 rfl 25 (by decide) k_1 rfl dX7_forwards_119 ?_
            refine lv_iconst (v := nI 5) hx hb dX7_forwards_122 (by decide) ?_
            refine lv_isub hx hb dX7_forwards_123 ?_
            refine mw_ti (v' := nI (u - 5)) (pk_sub (by omega)) ?_
            refine md_ast 22 (n := 100) (v := u - 5) hx hb hC hw hm rfl (by decide) rfl (by omega) (by decide) dX7_forwards_124 (fun M1 H locs hm hf1 hw => ?_)
            have hf := hf.tr hf1
            refine lv_iconst (v := nI 0) hx hb dX7_forwards_125 (by decide) ?_
            refine lv_istore (lv' := [(5, .int (nI (0))), (4, .int (nI (50 * ed + (A 21 ed) % 50))), (3, .int (nI (1))), (2, .int (nI ((A 24 1) % 128))), (0, .ref (h0)), (1, .int (nI (ed)))]) hx hb dX7_forwards_126 hl (by decide) rfl (fun ls hl => ?_)
            have lp_13 : ∀ (n9 : Nat) (k : Nat), (hk : k ≤ u - 5) → u - 5 - k < n9 → ∀ (M1 : mw_M) (H : Heap) (locs : List Loc) (ls : Array Slot), md_at G M1 h0 a c u (va_up ((md_u ((md_u A 7 ed (A 24 1 % 128))) 22 (50 * ed + A 21 ed % 50) (u - 5))) 23 (mke (A 23) (A 24) (272 * (50 * ed + A 21 ed % 50)) k)) → md_fr h0 a M M1 → mw_St G (mw_A M s.heap.size) s M1 H locs → lv_has ls 6 [(0, .ref (h0)), (1, .int (nI (ed))), (4, .int (nI (50 * ed + A 21 ed % 50))), (5, .int (nI (k)))] → W p l e (headSpec wsX7_forwards RM_X7_forwards).room s m ([.ref (h0), .int (nI (ed))] : List Value).toArray below meth c0 H locs 0 0 (MQ below (md_Qi G M s.heap.size h0 a (nI (fwr A ed u)) c u (fwA A ed u)) ([.ref (h0), .int (nI (ed))] : List Value).toArray s 0 0 (mw_A M s.heap.size)) (F0 m 128 ls []) := by
              intro n9
              induction n9 with
              | zero => intro k hk h9; exact absurd h9 (Nat.not_lt_zero _)
              | succ n9 ih =>
                intro k hk h9 M1 H locs ls hm hf hw hl
                refine lv_iload hx hb dX7_forwards_128 (lv_at hl 3 rfl) ?_
                refine lv_aload_n hx hb dX7_forwards_130 rfl (lv_at hl 0 rfl) ?_
                refine mw_get (C := RX7) (T := TX7) (N := 27) (v := .int (nI (u))) hx hb hts inX7_forwards_X7 hown hC hw hm.1 rfl 25 (by decide) k_1 rfl dX7_forwards_131 ?_
                refine lv_iconst (v := nI 5) hx hb dX7_forwards_134 (by decide) ?_
                refine lv_isub hx hb dX7_forwards_135 ?_
                refine mw_ti (v' := nI (u - 5)) (pk_sub (by omega)) ?_
                refine lv_icmp_ge (tgt := 168) hx hb dX7_forwards_136 (by decide) (fun c_14 => ?_) (fun c_14 => ?_)
                · skip
                  have c_14 : k ≥ u - 5 := (nI_leI (a := u - 5) (b := k) (by omega) (by omega)).mp c_14
                  obtain rfl : k = u - 5 := by omega
                  refine lv_aload_n hx hb dX7_forwards_168 rfl (lv_at hl 0 rfl) ?_
                  refine mw_get (C := RX7) (T := TX7) (N := 27) (v := .ref (a 21)) hx hb hts inX7_forwards_X7 hown hC hw hm.1 rfl 21 (by decide) k_4 rfl dX7_forwards_169 ?_
                  refine lv_iload_n hx hb dX7_forwards_172 rfl (lv_at hl 1 rfl) ?_
                  refine lv_dup2_11 hx hb dX7_forwards_173 rfl rfl ?_
                  refine md_ald 21 (n := 2) hx hb hC hw hm rfl (by decide) rfl (by omega) (by decide) dX7_forwards_174 ?_
                  refine mw_ti (v' := nI (A 21 ed)) (congrArg nI ((md_w_k (by decide)).trans ((md_u_k (by decide)).trans (md_u_k (by decide))))) ?_
                  refine lv_iconst (v := nI 1) hx hb dX7_forwards_175 (by decide) ?_
                  refine lv_iadd hx hb dX7_forwards_176 ?_
                  refine mw_ti (v' := nI (A 21 ed + 1)) (nI_add _ _) ?_
                  refine md_ast 21 (n := 2) (v := A 21 ed + 1) hx hb hC hw hm rfl (by decide) rfl (by omega) (by decide) dX7_forwards_177 (fun M1 H locs hm hf1 hw => ?_)
                  have hf := hf.tr hf1
                  refine lv_iconst (v := nI 1) hx hb dX7_forwards_178 (by decide) ?_
                  have hA_15 : md_u ((va_up ((md_u ((md_u A 7 ed (A 24 1 % 128))) 22 (50 * ed + A 21 ed % 50) (u - 5))) 23 (mke (A 23) (A 24) (272 * (50 * ed + A 21 ed % 50)) (u - 5)))) 21 ed (A 21 ed + 1) = fwA A ed u := by unfold fwA; rw [if_neg (by omega), if_pos (by omega)]
                  rw [hA_15] at hm
                  exact md_iret hx hb hr hlocks hw hm hf (by unfold fwr; rw [if_neg (by omega), if_pos (by omega)]) dX7_forwards_179
                · skip
                  have c_14 : k < u - 5 := Nat.not_le.mp (fun h => c_14 ((nI_leI (a := u - 5) (b := k) (by omega) (by omega)).mpr h))
                  refine lv_aload_n hx hb dX7_forwards_139 rfl (lv_at hl 0 rfl) ?_
                  refine mw_get (C := RX7) (T := TX7) (N := 27) (v := .ref (a 23)) hx hb hts inX7_forwards_X7 hown hC hw hm.1 rfl 23 (by decide) k_6 rfl dX7_forwards_140 ?_
                  refine lv_sipush (v := nI 272) hx hb dX7_forwards_143 (by decide) ?_
                  refine lv_iload hx hb dX7_forwards_146 (lv_at hl 2 rfl) ?_
                  refine lv_imul hx hb dX7_forwards_148 ?_
                  refine mw_ti (v' := nI (272 * (50 * ed + A 21 ed % 50))) (pk_mul _ _) ?_
                  refine lv_iload hx hb dX7_forwards_149 (lv_at hl 3 rfl) ?_
                  refine lv_iadd hx hb dX7_forwards_151 ?_
                  refine mw_ti (v' := nI (272 * (50 * ed + A 21 ed % 50) + k)) (nI_add _ _) ?_
                  refine lv_aload_n hx hb dX7_forwards_152 rfl (lv_at hl 0 rfl) ?_
                  refine mw_get (C := RX7) (T := TX7) (N := 27) (v := .ref (a 24)) hx hb hts inX7_forwards_X7 hown hC hw hm.1 rfl 24 (by decide) k_0 rfl dX7_forwards_153 ?_
                  refine lv_iconst (v := nI 3) hx hb dX7_forwards_156 (by decide) ?_
                  refine lv_iload hx hb dX7_forwards_157 (lv_at hl 3 rfl) ?_
                  refine lv_iadd hx hb dX7_forwards_159 ?_
                  refine mw_ti (v' := nI (3 + k)) (nI_add _ _) ?_
                  refine md_ald 24 (n := 280) hx hb hC hw hm rfl (by decide) rfl (by omega) (by decide) dX7_forwards_160 ?_
                  refine mw_ti (v' := nI (A 24 (3 + k))) (congrArg nI ((md_w_k (by decide)).trans ((md_u_k (by decide)).trans (md_u_k (by decide))))) ?_
                  refine md_ast 23 (n := 27200) (v := A 24 (3 + k)) hx hb hC hw hm rfl (by decide) rfl (by omega) (by decide) dX7_forwards_161 (fun M1 H locs hm hf1 hw => ?_)
                  have hf := hf.tr hf1
                  refine lv_iinc (v := nI (k + 1)) (lv' := [(5, .int (nI (k + 1))), (0, .ref (h0)), (1, .int (nI (ed))), (4, .int (nI (50 * ed + A 21 ed % 50)))]) hx hb dX7_forwards_162 hl (k := 3) rfl (by rw [show Int32.ofInt 1 = nI 1 by decide]; exact nI_add _ _) (by decide) rfl (fun ls hl => ?_)
                  refine lv_goto (tgt := 128) hx hb dX7_forwards_165 (by decide) ?_
                  have hA_16 : md_u ((va_up ((md_u ((md_u A 7 ed (A 24 1 % 128))) 22 (50 * ed + A 21 ed % 50) (u - 5))) 23 (mke (A 23) (A 24) (272 * (50 * ed + A 21 ed % 50)) k))) 23 (272 * (50 * ed + A 21 ed % 50) + k) (A 24 (3 + k)) = va_up ((md_u ((md_u A 7 ed (A 24 1 % 128))) 22 (50 * ed + A 21 ed % 50) (u - 5))) 23 (mke (A 23) (A 24) (272 * (50 * ed + A 21 ed % 50)) (k + 1)) := by rw [md_uw]; rfl
                  rw [hA_16] at hm
                  exact ih  (k + 1) (by omega) (by omega) _ _ _ ls hm hf hw (lv_sub hl [1, 2, 3, 0] rfl)
            have hA_17 : md_u ((md_u A 7 ed ((A 24 1) % 128))) 22 (50 * ed + (A 21 ed) % 50) (u - 5) = va_up ((md_u ((md_u A 7 ed (A 24 1 % 128))) 22 (50 * ed + A 21 ed % 50) (u - 5))) 23 (mke (A 23) (A 24) (272 * (50 * ed + A 21 ed % 50)) 0) := by exact va_upi rfl
            rw [hA_17] at hm
            have hv_18 : (.int (nI (50 * ed + (A 21 ed) % 50)) : Value) = .int (nI (50 * ed + A 21 ed % 50)) := by first | rfl | simp_all
            rw [hv_18] at hl
            exact lp_13 (u - 5 - 0 + 1) 0 (by omega) (Nat.lt_succ_self _) _ _ _ ls hm hf hw (lv_sub hl [4, 5, 1, 0] rfl)
          · skip
            have c_12 : (A 24 1) % 128 ≠ (A 7 ed + 1) % 128 := fun h => c_12 ((nI_eq (a := (A 24 1) % 128) (b := (A 7 ed + 1) % 128) (by omega) (by omega)).mpr h)
            refine lv_aload_n hx hb dX7_forwards_73 rfl (lv_at hl 2 rfl) ?_
            refine mw_get (C := RX7) (T := TX7) (N := 27) (v := .ref (a 5)) hx hb hts inX7_forwards_X7 hown hC hw hm.1 rfl 5 (by decide) k_2 rfl dX7_forwards_74 ?_
            refine lv_iload_n hx hb dX7_forwards_77 rfl (lv_at hl 3 rfl) ?_
            refine lv_iconst (v := nI 1) hx hb dX7_forwards_78 (by decide) ?_
            refine lv_aload_n hx hb dX7_forwards_79 rfl (lv_at hl 2 rfl) ?_
            refine mw_get (C := RX7) (T := TX7) (N := 27) (v := .ref (a 5)) hx hb hts inX7_forwards_X7 hown hC hw hm.1 rfl 5 (by decide) k_2 rfl dX7_forwards_80 ?_
            refine lv_iload_n hx hb dX7_forwards_83 rfl (lv_at hl 3 rfl) ?_
            refine md_ald 5 (n := 2) hx hb hC hw hm rfl (by decide) rfl (by omega) (by decide) dX7_forwards_84 ?_
            refine lv_isub hx hb dX7_forwards_85 ?_
            refine mw_ti (v' := nI (1 - (A 5 ed))) (pk_sub (by omega)) ?_
            refine md_ast 5 (n := 2) (v := 1 - (A 5 ed)) hx hb hC hw hm rfl (by decide) rfl (by omega) (by decide) dX7_forwards_86 (fun M1 H locs hm hf1 hw => ?_)
            have hf := hf.tr hf1
            refine lv_iconst (v := nI 2) hx hb dX7_forwards_87 (by decide) ?_
            have hA_19 : md_u A 5 ed (1 - (A 5 ed)) = fwA A ed u := by unfold fwA; rw [if_neg (by omega), if_neg (by omega)]
            rw [hA_19] at hm
            exact md_iret hx hb hr hlocks hw hm hf (by unfold fwr; rw [if_neg (by omega), if_neg (by omega)]) dX7_forwards_88
      · skip
        have c_10 : (A 24 1) % 128 = A 7 ed := (nI_eq (a := (A 24 1) % 128) (b := A 7 ed) (by omega) (by omega)).mp c_10
        refine lv_iconst (v := nI 0) hx hb dX7_forwards_52 (by decide) ?_
        have hA_20 : A = fwA A ed u := by unfold fwA; rw [if_pos (by omega)]
        rw [hA_20] at hm
        exact md_iret hx hb hr hlocks hw hm hf (by unfold fwr; rw [if_pos (by omega)]) dX7_forwards_53
def RM_X7_take_bade : Room := { frames := 1, cells := 0, slots := 0, locals := 21 }
set_option maxHeartbeats 4000000 in
set_option maxRecDepth 100000 in
theorem c_X7_take_bade (l : Launch) (G : mw_G) (M : mw_M) (sz : Nat) (h0 : Nat) (a : Nat → Nat) (c u : Nat) (A : md_S) (ed : Int32) (hm : md_at G M h0 a c u A) (hb1 : ed < 0 ∨ nI 1 < ed) : Met l yX7_take wsX7_take RM_X7_take_bade (mw_pre G M sz [.ref (h0), .int (ed)]) (md_Qi G M sz h0 a (nI (0)) 1 u A) 0 0 (mw_A M sz) := by
  refine Met.ofW (cc := cX7_take) (maxL := 6) (ret := (some .int)) (by decide) rfl ?_
  intro p e s m args below meth c0 s₁ B hml hv
  obtain ⟨rfl, rfl, hC, hw⟩ := mw_in hv
  have hx := B.exec
  have hb := B.bytes
  have hr := B.returns
  have hts := atoms_spec (ws := wsX7_take) B.pre
  have hown : s.vm.findClass RX7 = some m.cls := findClass_of_methodNamed B.named
  have hlocks := B.notSynchronized
  have hf : md_fr h0 a M M := md_fr.rf
  have hl := lv_entry ([.ref (h0), .int (ed)]) (n := 6) (Nat.le_of_ble_eq_true rfl)
  rw [lg_entry_eq]
  generalize (lg_sl ([.ref (h0), .int (ed)]) ++ List.replicate (6 - (lg_sl ([.ref (h0), .int (ed)])).length) Slot.unset).toArray = ls at hl ⊢
  have hl : lv_has ls 6 [(0, .ref (h0)), (1, .int (ed))] := hl
  refine mw_start (fun H locs hw => ?_) hw
  refine lv_aload_n hx hb dX7_take_0 rfl (lv_at hl 0 rfl) ?_
  refine lv_iload_n hx hb dX7_take_1 rfl (lv_at hl 1 rfl) ?_
  refine mw_ci hC hw (va_runS (As := [.int (ed)]) (rest := [.ref (h0)]) ⟨hx, hb, hml, hown, hts⟩ (c_X7_isEnd_bad l G _ H.size ed  (hb1)) (cwS 1 hts gX7_take_X7_isEnd rfl rfl rfl (by decide +kernel) ⟨Nat.le_of_ble_eq_true rfl, Nat.le_of_ble_eq_true rfl⟩) (mw_preS hC hw) rfl rfl hl.1 rfl (lv_room (Nat.le_of_ble_eq_true rfl)) dX7_take_2 ⟨Nat.le_of_ble_eq_true rfl, Nat.le_of_ble_eq_true rfl⟩) (fun H locs hz hw => ?_)
  refine lv_if_ne (tgt := 12) hx hb dX7_take_5 (by decide) (fun c_1 => ?_) (fun c_1 => ?_)
  · skip
    exact absurd c_1 (by decide)
  · skip
    refine lv_iconst (v := nI 1) hx hb dX7_take_8 (by decide) ?_
    refine lv_goto (tgt := 37) hx hb dX7_take_9 (by decide) ?_
    refine md_ci hC hw (va_runV (As := [.int (nI (1))]) (rest := []) ⟨hx, hb, hml, hown, hts⟩ (c_X7_refuses l G _ H.size h0 a c u A 1 hm (by omega)) (cwV 1 hts gX7_take_X7_refuses rfl rfl rfl (by decide +kernel) ⟨Nat.le_of_ble_eq_true rfl, Nat.le_of_ble_eq_true rfl⟩) (mw_preV (ci := 7) hC hw rfl hm.1) rfl rfl hl.1 rfl (lv_room (Nat.le_of_ble_eq_true rfl)) dX7_take_37 ⟨Nat.le_of_ble_eq_true rfl, Nat.le_of_ble_eq_true rfl⟩) (fun M1 H locs hm hf1 hw => ?_)
    have hf := hf.tr hf1
    refine mw_ti (v' := nI (1)) rfl ?_
    refine lv_if_eq (tgt := 45) hx hb dX7_take_40 (by decide) (fun c_2 => ?_) (fun c_2 => ?_)
    · skip
      exact absurd c_2 (by decide)
    · skip
      refine lv_iconst (v := nI 0) hx hb dX7_take_43 (by decide) ?_
      exact md_iret hx hb hr hlocks hw hm hf (rfl) dX7_take_44
theorem inX7_take_X7 : ∀ w ∈ wsX70, w ∈ wsX7_take := by decide +kernel
def RM_X7_take_bads : Room := { frames := 1, cells := 0, slots := 0, locals := 21 }
set_option maxHeartbeats 4000000 in
set_option maxRecDepth 100000 in
theorem c_X7_take_bads (l : Launch) (G : mw_G) (M : mw_M) (sz : Nat) (h0 : Nat) (a : Nat → Nat) (c u : Nat) (A : md_S) (ed : Nat) (hm : md_at G M h0 a c u A) (hed : ed ≤ 1) (h1_ : A 1 (1 - ed) ≤ 40) (h20 : A 20 ed ≤ 1) (hb1 : A 1 (1 - ed) = 0 ∨ A 20 ed = 1) : Met l yX7_take wsX7_take RM_X7_take_bads (mw_pre G M sz [.ref (h0), .int (nI (ed))]) (md_Qi G M sz h0 a (nI (0)) 2 u A) 0 0 (mw_A M sz) := by
  refine Met.ofW (cc := cX7_take) (maxL := 6) (ret := (some .int)) (by decide) rfl ?_
  intro p e s m args below meth c0 s₁ B hml hv
  obtain ⟨rfl, rfl, hC, hw⟩ := mw_in hv
  have hx := B.exec
  have hb := B.bytes
  have hr := B.returns
  have hts := atoms_spec (ws := wsX7_take) B.pre
  have hown : s.vm.findClass RX7 = some m.cls := findClass_of_methodNamed B.named
  have hlocks := B.notSynchronized
  have hf : md_fr h0 a M M := md_fr.rf
  have k_0 := hts (.fieldLink RX7 7 "LinkPairModel" "frames" "[I") (by decide +kernel)
  have k_1 := hts (.fieldLink RX7 68 "LinkPairModel" "failed" "[Z") (by decide +kernel)
  have hl := lv_entry ([.ref (h0), .int (nI (ed))]) (n := 6) (Nat.le_of_ble_eq_true rfl)
  rw [lg_entry_eq]
  generalize (lg_sl ([.ref (h0), .int (nI (ed))]) ++ List.replicate (6 - (lg_sl ([.ref (h0), .int (nI (ed))])).length) Slot.unset).toArray = ls at hl ⊢
  have hl : lv_has ls 6 [(0, .ref (h0)), (1, .int (nI (ed)))] := hl
  refine mw_start (fun H locs hw => ?_) hw
  refine lv_aload_n hx hb dX7_take_0 rfl (lv_at hl 0 rfl) ?_
  refine lv_iload_n hx hb dX7_take_1 rfl (lv_at hl 1 rfl) ?_
  refine mw_ci hC hw (va_runS (As := [.int (nI (ed))]) (rest := [.ref (h0)]) ⟨hx, hb, hml, hown, hts⟩ (c_X7_isEnd l G _ H.size ed  (by omega)) (cwS 1 hts gX7_take_X7_isEnd rfl rfl rfl (by decide +kernel) ⟨Nat.le_of_ble_eq_true rfl, Nat.le_of_ble_eq_true rfl⟩) (mw_preS hC hw) rfl rfl hl.1 rfl (lv_room (Nat.le_of_ble_eq_true rfl)) dX7_take_2 ⟨Nat.le_of_ble_eq_true rfl, Nat.le_of_ble_eq_true rfl⟩) (fun H locs hz hw => ?_)
  refine lv_if_ne (tgt := 12) hx hb dX7_take_5 (by decide) (fun c_1 => ?_) (fun c_1 => ?_)
  · skip
    refine lv_aload_n hx hb dX7_take_12 rfl (lv_at hl 0 rfl) ?_
    refine mw_get (C := RX7) (T := TX7) (N := 27) (v := .ref (a 1)) hx hb hts inX7_take_X7 hown hC hw hm.1 rfl 1 (by decide) k_0 rfl dX7_take_13 ?_
    refine lv_iconst (v := nI 1) hx hb dX7_take_16 (by decide) ?_
    refine lv_iload_n hx hb dX7_take_17 rfl (lv_at hl 1 rfl) ?_
    refine lv_isub hx hb dX7_take_18 ?_
    refine mw_ti (v' := nI (1 - ed)) (pk_sub (by omega)) ?_
    refine md_ald 1 (n := 2) hx hb hC hw hm rfl (by decide) rfl (by omega) (by decide) dX7_take_19 ?_
    refine lv_if_eq (tgt := 32) hx hb dX7_take_20 (by decide) (fun c_2 => ?_) (fun c_2 => ?_)
    · skip
      have c_2 : A 1 (1 - ed) = 0 := (nI_eq (a := A 1 (1 - ed)) (b := 0) (by omega) (by omega)).mp c_2
      refine lv_iconst (v := nI 2) hx hb dX7_take_32 (by decide) ?_
      refine lv_goto (tgt := 37) hx hb dX7_take_33 (by decide) ?_
      refine md_ci hC hw (va_runV (As := [.int (nI (2))]) (rest := []) ⟨hx, hb, hml, hown, hts⟩ (c_X7_refuses l G _ H.size h0 a c u A 2 hm (by omega)) (cwV 1 hts gX7_take_X7_refuses rfl rfl rfl (by decide +kernel) ⟨Nat.le_of_ble_eq_true rfl, Nat.le_of_ble_eq_true rfl⟩) (mw_preV (ci := 7) hC hw rfl hm.1) rfl rfl hl.1 rfl (lv_room (Nat.le_of_ble_eq_true rfl)) dX7_take_37 ⟨Nat.le_of_ble_eq_true rfl, Nat.le_of_ble_eq_true rfl⟩) (fun M1 H locs hm hf1 hw => ?_)
      have hf := hf.tr hf1
      refine mw_ti (v' := nI (1)) rfl ?_
      refine lv_if_eq (tgt := 45) hx hb dX7_take_40 (by decide) (fun c_3 => ?_) (fun c_3 => ?_)
      · skip
        exact absurd c_3 (by decide)
      · skip
        refine lv_iconst (v := nI 0) hx hb dX7_take_43 (by decide) ?_
        exact md_iret hx hb hr hlocks hw hm hf (rfl) dX7_take_44
    · skip
      have c_2 : A 1 (1 - ed) ≠ 0 := fun h => c_2 ((nI_eq (a := A 1 (1 - ed)) (b := 0) (by omega) (by omega)).mpr h)
      refine lv_aload_n hx hb dX7_take_23 rfl (lv_at hl 0 rfl) ?_
      refine mw_get (C := RX7) (T := TX7) (N := 27) (v := .ref (a 20)) hx hb hts inX7_take_X7 hown hC hw hm.1 rfl 20 (by decide) k_1 rfl dX7_take_24 ?_
      refine lv_iload_n hx hb dX7_take_27 rfl (lv_at hl 1 rfl) ?_
      refine md_zld 20 (n := 2) hx hb hC hw hm rfl (by decide) rfl (by omega) (by decide) dX7_take_28 ?_
      refine lv_if_eq (tgt := 36) hx hb dX7_take_29 (by decide) (fun c_4 => ?_) (fun c_4 => ?_)
      · skip
        have c_4 : A 20 ed = 0 := (nI_eq (a := A 20 ed) (b := 0) (by omega) (by omega)).mp c_4
        exfalso; omega
      · skip
        have c_4 : A 20 ed ≠ 0 := fun h => c_4 ((nI_eq (a := A 20 ed) (b := 0) (by omega) (by omega)).mpr h)
        refine lv_iconst (v := nI 2) hx hb dX7_take_32 (by decide) ?_
        refine lv_goto (tgt := 37) hx hb dX7_take_33 (by decide) ?_
        refine md_ci hC hw (va_runV (As := [.int (nI (2))]) (rest := []) ⟨hx, hb, hml, hown, hts⟩ (c_X7_refuses l G _ H.size h0 a c u A 2 hm (by omega)) (cwV 1 hts gX7_take_X7_refuses rfl rfl rfl (by decide +kernel) ⟨Nat.le_of_ble_eq_true rfl, Nat.le_of_ble_eq_true rfl⟩) (mw_preV (ci := 7) hC hw rfl hm.1) rfl rfl hl.1 rfl (lv_room (Nat.le_of_ble_eq_true rfl)) dX7_take_37 ⟨Nat.le_of_ble_eq_true rfl, Nat.le_of_ble_eq_true rfl⟩) (fun M1 H locs hm hf1 hw => ?_)
        have hf := hf.tr hf1
        refine mw_ti (v' := nI (1)) rfl ?_
        refine lv_if_eq (tgt := 45) hx hb dX7_take_40 (by decide) (fun c_5 => ?_) (fun c_5 => ?_)
        · skip
          exact absurd c_5 (by decide)
        · skip
          refine lv_iconst (v := nI 0) hx hb dX7_take_43 (by decide) ?_
          exact md_iret hx hb hr hlocks hw hm hf (rfl) dX7_take_44
  · skip
    exact absurd c_1 (by decide)
def RM_X7_take_fault : Room := { frames := 3, cells := 0, slots := 0, locals := 74 }
set_option maxHeartbeats 4000000 in
set_option maxRecDepth 100000 in
theorem c_X7_take_fault (l : Launch) (G : mw_G) (M : mw_M) (sz : Nat) (h0 : Nat) (a : Nat → Nat) (c u : Nat) (A : md_S) (ed : Nat) (hm : md_at G M h0 a c u A) (hed : ed ≤ 1) (h1_ : 0 < A 1 (1 - ed)) (h1b : A 1 (1 - ed) ≤ 40) (h20 : A 20 ed = 0) (hq : ∀ j, j < 80 → A 2 j ≤ 3000) (hbits : ∀ i, i < A 2 (40 * (1 - ed)) → A 3 (3000 * (40 * (1 - ed)) + i) ≤ 1) (hug : ∀ i, i < 280 → A 24 i < 256) (h17 : A 17 ed ≤ 64) (h18 : A 18 ed < 100000) (hft : 0 < mft A (40 * (1 - ed))) : Met l yX7_take wsX7_take RM_X7_take_fault (mw_pre G M sz [.ref (h0), .int (nI (ed))]) (md_Qi G M sz h0 a (if 64 ≤ lk (A 17 ed) (A 18 ed) + 1 then -(nI (mft A (40 * (1 - ed)))) - nI 10 else -(nI (mft A (40 * (1 - ed))))) 0 (mfu A (40 * (1 - ed)) u) (md_u ((md_u ((md_u (mtk A ed) 18 ed (A 18 ed + 1))) 17 ed (lk (A 17 ed) (A 18 ed) + 1))) 20 ed (b2n (decide (64 ≤ lk (A 17 ed) (A 18 ed) + 1))))) 0 0 (mw_A M sz) := by
  refine Met.ofW (cc := cX7_take) (maxL := 6) (ret := (some .int)) (by decide) rfl ?_
  intro p e s m args below meth c0 s₁ B hml hv
  obtain ⟨rfl, rfl, hC, hw⟩ := mw_in hv
  have hx := B.exec
  have hb := B.bytes
  have hr := B.returns
  have hts := atoms_spec (ws := wsX7_take) B.pre
  have hown : s.vm.findClass RX7 = some m.cls := findClass_of_methodNamed B.named
  have hlocks := B.notSynchronized
  have hf : md_fr h0 a M M := md_fr.rf
  have k_0 := hts (.fieldLink RX7 7 "LinkPairModel" "frames" "[I") (by decide +kernel)
  have k_1 := hts (.fieldLink RX7 68 "LinkPairModel" "failed" "[Z") (by decide +kernel)
  have k_2 := hts (.fieldLink RX7 59 "LinkPairModel" "errors" "[I") (by decide +kernel)
  have k_3 := hts (.fieldLink RX7 62 "LinkPairModel" "units" "[I") (by decide +kernel)
  have hl := lv_entry ([.ref (h0), .int (nI (ed))]) (n := 6) (Nat.le_of_ble_eq_true rfl)
  rw [lg_entry_eq]
  generalize (lg_sl ([.ref (h0), .int (nI (ed))]) ++ List.replicate (6 - (lg_sl ([.ref (h0), .int (nI (ed))])).length) Slot.unset).toArray = ls at hl ⊢
  have hl : lv_has ls 6 [(0, .ref (h0)), (1, .int (nI (ed)))] := hl
  refine mw_start (fun H locs hw => ?_) hw
  have hml_ : mft A (40 * (1 - ed)) ≤ 5 := by unfold mft mrt; split <;> (try split) <;> (try split) <;> (try split) <;> (try split) <;> omega
  refine lv_aload_n hx hb dX7_take_0 rfl (lv_at hl 0 rfl) ?_
  refine lv_iload_n hx hb dX7_take_1 rfl (lv_at hl 1 rfl) ?_
  refine mw_ci hC hw (va_runS (As := [.int (nI (ed))]) (rest := [.ref (h0)]) ⟨hx, hb, hml, hown, hts⟩ (c_X7_isEnd l G _ H.size ed  (by omega)) (cwS 1 hts gX7_take_X7_isEnd rfl rfl rfl (by decide +kernel) ⟨Nat.le_of_ble_eq_true rfl, Nat.le_of_ble_eq_true rfl⟩) (mw_preS hC hw) rfl rfl hl.1 rfl (lv_room (Nat.le_of_ble_eq_true rfl)) dX7_take_2 ⟨Nat.le_of_ble_eq_true rfl, Nat.le_of_ble_eq_true rfl⟩) (fun H locs hz hw => ?_)
  refine lv_if_ne (tgt := 12) hx hb dX7_take_5 (by decide) (fun c_1 => ?_) (fun c_1 => ?_)
  · skip
    refine lv_aload_n hx hb dX7_take_12 rfl (lv_at hl 0 rfl) ?_
    refine mw_get (C := RX7) (T := TX7) (N := 27) (v := .ref (a 1)) hx hb hts inX7_take_X7 hown hC hw hm.1 rfl 1 (by decide) k_0 rfl dX7_take_13 ?_
    refine lv_iconst (v := nI 1) hx hb dX7_take_16 (by decide) ?_
    refine lv_iload_n hx hb dX7_take_17 rfl (lv_at hl 1 rfl) ?_
    refine lv_isub hx hb dX7_take_18 ?_
    refine mw_ti (v' := nI (1 - ed)) (pk_sub (by omega)) ?_
    refine md_ald 1 (n := 2) hx hb hC hw hm rfl (by decide) rfl (by omega) (by decide) dX7_take_19 ?_
    refine lv_if_eq (tgt := 32) hx hb dX7_take_20 (by decide) (fun c_2 => ?_) (fun c_2 => ?_)
    · skip
      have c_2 : A 1 (1 - ed) = 0 := (nI_eq (a := A 1 (1 - ed)) (b := 0) (by omega) (by omega)).mp c_2
      exfalso; omega
    · skip
      have c_2 : A 1 (1 - ed) ≠ 0 := fun h => c_2 ((nI_eq (a := A 1 (1 - ed)) (b := 0) (by omega) (by omega)).mpr h)
      refine lv_aload_n hx hb dX7_take_23 rfl (lv_at hl 0 rfl) ?_
      refine mw_get (C := RX7) (T := TX7) (N := 27) (v := .ref (a 20)) hx hb hts inX7_take_X7 hown hC hw hm.1 rfl 20 (by decide) k_1 rfl dX7_take_24 ?_
      refine lv_iload_n hx hb dX7_take_27 rfl (lv_at hl 1 rfl) ?_
      refine md_zld 20 (n := 2) hx hb hC hw hm rfl (by decide) rfl (by omega) (by decide) dX7_take_28 ?_
      refine lv_if_eq (tgt := 36) hx hb dX7_take_29 (by decide) (fun c_3 => ?_) (fun c_3 => ?_)
      · skip
        have c_3 : A 20 ed = 0 := (nI_eq (a := A 20 ed) (b := 0) (by omega) (by omega)).mp c_3
        refine lv_iconst (v := nI 0) hx hb dX7_take_36 (by decide) ?_
        refine md_ci hC hw (va_runV (As := [.int (nI (0))]) (rest := []) ⟨hx, hb, hml, hown, hts⟩ (c_X7_refuses l G _ H.size h0 a c u A 0 hm (by omega)) (cwV 1 hts gX7_take_X7_refuses rfl rfl rfl (by decide +kernel) ⟨Nat.le_of_ble_eq_true rfl, Nat.le_of_ble_eq_true rfl⟩) (mw_preV (ci := 7) hC hw rfl hm.1) rfl rfl hl.1 rfl (lv_room (Nat.le_of_ble_eq_true rfl)) dX7_take_37 ⟨Nat.le_of_ble_eq_true rfl, Nat.le_of_ble_eq_true rfl⟩) (fun M1 H locs hm hf1 hw => ?_)
        have hf := hf.tr hf1
        refine mw_ti (v' := nI (0)) rfl ?_
        refine lv_if_eq (tgt := 45) hx hb dX7_take_40 (by decide) (fun c_4 => ?_) (fun c_4 => ?_)
        · skip
          refine lv_aload_n hx hb dX7_take_45 rfl (lv_at hl 0 rfl) ?_
          refine lv_bipush (v := nI 40) hx hb dX7_take_46 (by decide) ?_
          refine lv_iconst (v := nI 1) hx hb dX7_take_48 (by decide) ?_
          refine lv_iload_n hx hb dX7_take_49 rfl (lv_at hl 1 rfl) ?_
          refine lv_isub hx hb dX7_take_50 ?_
          refine mw_ti (v' := nI (1 - ed)) (pk_sub (by omega)) ?_
          refine lv_imul hx hb dX7_take_51 ?_
          refine mw_ti (v' := nI (40 * (1 - ed))) (pk_mul _ _) ?_
          refine md_ci hC hw (va_runV (As := [.int (nI (40 * (1 - ed)))]) (rest := []) ⟨hx, hb, hml, hown, hts⟩ (c_X7_fault l G _ H.size h0 a 0 u A (40 * (1 - ed)) hm (by omega) (hq _ (by omega)) (hbits) (hug)) (cwV 1 hts gX7_take_X7_fault rfl rfl rfl (by decide +kernel) ⟨Nat.le_of_ble_eq_true rfl, Nat.le_of_ble_eq_true rfl⟩) (mw_preV (ci := 7) hC hw rfl hm.1) rfl rfl hl.1 rfl (lv_room (Nat.le_of_ble_eq_true rfl)) dX7_take_52 ⟨Nat.le_of_ble_eq_true rfl, Nat.le_of_ble_eq_true rfl⟩) (fun M1 H locs hm hf1 hw => ?_)
          have hf := hf.tr hf1
          refine lv_istore_n (lv' := [(2, .int (nI (mft A (40 * (1 - ed))))), (0, .ref (h0)), (1, .int (nI (ed)))]) hx hb dX7_take_55 rfl hl (by decide) rfl (fun ls hl => ?_)
          refine lv_aload_n hx hb dX7_take_56 rfl (lv_at hl 1 rfl) ?_
          refine lv_iconst (v := nI 1) hx hb dX7_take_57 (by decide) ?_
          refine lv_iload_n hx hb dX7_take_58 rfl (lv_at hl 2 rfl) ?_
          refine lv_isub hx hb dX7_take_59 ?_
          refine mw_ti (v' := nI (1 - ed)) (pk_sub (by omega)) ?_
          refine lv_iconst (v := nI 0) hx hb dX7_take_60 (by decide) ?_
          refine md_cv hC hw (va_runV (As := [.int (nI (1 - ed)), .int (nI (0))]) (rest := []) ⟨hx, hb, hml, hown, hts⟩ (c_X7_goes l G _ H.size h0 a 0 (mfu A (40 * (1 - ed)) u) (mfA A (40 * (1 - ed))) (1 - ed) 0 hm (by omega) (by rw [mfA_o _ _ (j := 1) (by decide) (by decide)]; omega) (by rw [mfA_o _ _ (j := 1) (by decide) (by decide)]; omega) (by rw [mfA_o _ _ (j := 2) (by decide) (by decide)]; exact hq)) (cwV 2 hts gX7_take_X7_goes rfl rfl rfl (by decide +kernel) ⟨Nat.le_of_ble_eq_true rfl, Nat.le_of_ble_eq_true rfl⟩) (mw_preV (ci := 7) hC hw rfl hm.1) rfl rfl hl.1 rfl (lv_room (Nat.le_of_ble_eq_true rfl)) dX7_take_61 ⟨Nat.le_of_ble_eq_true rfl, Nat.le_of_ble_eq_true rfl⟩) (fun M1 H locs hm hf1 hw => ?_)
          have hf := hf.tr hf1
          have jn_5 : ∀ (M1 : mw_M) (H : Heap) (locs : List Loc) (ls : Array Slot), md_at G M1 h0 a 0 (mfu A (40 * (1 - ed)) u) (md_u ((md_u (mtk A ed) 18 ed (A 18 ed + 1))) 17 ed (lk (A 17 ed) (A 18 ed))) → md_fr h0 a M M1 → mw_St G (mw_A M s.heap.size) s M1 H locs → lv_has ls 6 [(0, .ref (h0)), (1, .int (nI (ed))), (2, .int (nI (mft A (40 * (1 - ed)))))] → W p l e (headSpec wsX7_take RM_X7_take_fault).room s m ([.ref (h0), .int (nI (ed))] : List Value).toArray below meth c0 H locs 0 0 (MQ below (md_Qi G M s.heap.size h0 a (if 64 ≤ lk (A 17 ed) (A 18 ed) + 1 then -(nI (mft A (40 * (1 - ed)))) - nI 10 else -(nI (mft A (40 * (1 - ed))))) 0 (mfu A (40 * (1 - ed)) u) (md_u ((md_u ((md_u (mtk A ed) 18 ed (A 18 ed + 1))) 17 ed (lk (A 17 ed) (A 18 ed) + 1))) 20 ed (b2n (decide (64 ≤ lk (A 17 ed) (A 18 ed) + 1))))) ([.ref (h0), .int (nI (ed))] : List Value).toArray s 0 0 (mw_A M s.heap.size)) (F0 m 106 ls []) := by
            intro  M1 H locs ls hm hf hw hl
            have hlk : lk (A 17 ed) (A 18 ed) ≤ 64 := by unfold lk; split <;> omega
            refine lv_iload_n hx hb dX7_take_106 rfl (lv_at hl 2 rfl) ?_
            refine lv_if_le (tgt := 161) hx hb dX7_take_107 (by decide) (fun c_6 => ?_) (fun c_6 => ?_)
            · skip
              have c_6 : mft A (40 * (1 - ed)) ≤ 0 := (nI_leI (a := mft A (40 * (1 - ed))) (b := 0) (by omega) (by omega)).mp c_6
              exfalso; omega
            · skip
              have c_6 : mft A (40 * (1 - ed)) > 0 := Nat.not_le.mp (fun h => c_6 ((nI_leI (a := mft A (40 * (1 - ed))) (b := 0) (by omega) (by omega)).mpr h))
              refine lv_aload_n hx hb dX7_take_110 rfl (lv_at hl 0 rfl) ?_
              refine mw_get (C := RX7) (T := TX7) (N := 27) (v := .ref (a 17)) hx hb hts inX7_take_X7 hown hC hw hm.1 rfl 17 (by decide) k_2 rfl dX7_take_111 ?_
              refine lv_iload_n hx hb dX7_take_114 rfl (lv_at hl 1 rfl) ?_
              refine lv_dup2_11 hx hb dX7_take_115 rfl rfl ?_
              refine md_ald 17 (n := 2) hx hb hC hw hm rfl (by decide) rfl (by omega) (by decide) dX7_take_116 ?_
              refine mw_ti (v' := nI (lk (A 17 ed) (A 18 ed))) (congrArg nI md_u_s) ?_
              refine lv_iconst (v := nI 1) hx hb dX7_take_117 (by decide) ?_
              refine lv_iadd hx hb dX7_take_118 ?_
              refine mw_ti (v' := nI (lk (A 17 ed) (A 18 ed) + 1)) (nI_add _ _) ?_
              refine md_ast 17 (n := 2) (v := lk (A 17 ed) (A 18 ed) + 1) hx hb hC hw hm rfl (by decide) rfl (by omega) (by decide) dX7_take_119 (fun M1 H locs hm hf1 hw => ?_)
              have hf := hf.tr hf1
              refine lv_aload_n hx hb dX7_take_120 rfl (lv_at hl 0 rfl) ?_
              refine mw_get (C := RX7) (T := TX7) (N := 27) (v := .ref (a 20)) hx hb hts inX7_take_X7 hown hC hw hm.1 rfl 20 (by decide) k_1 rfl dX7_take_121 ?_
              refine lv_iload_n hx hb dX7_take_124 rfl (lv_at hl 1 rfl) ?_
              refine lv_aload_n hx hb dX7_take_125 rfl (lv_at hl 0 rfl) ?_
              refine mw_get (C := RX7) (T := TX7) (N := 27) (v := .ref (a 17)) hx hb hts inX7_take_X7 hown hC hw hm.1 rfl 17 (by decide) k_2 rfl dX7_take_126 ?_
              refine lv_iload_n hx hb dX7_take_129 rfl (lv_at hl 1 rfl) ?_
              refine md_ald 17 (n := 2) hx hb hC hw hm rfl (by decide) rfl (by omega) (by decide) dX7_take_130 ?_
              refine mw_ti (v' := nI (lk (A 17 ed) (A 18 ed) + 1)) (congrArg nI md_u_s) ?_
              refine lv_bipush (v := nI 64) hx hb dX7_take_131 (by decide) ?_
              refine lv_icmp_lt (tgt := 140) hx hb dX7_take_133 (by decide) (fun c_7 => ?_) (fun c_7 => ?_)
              · skip
                have c_7 : lk (A 17 ed) (A 18 ed) + 1 < 64 := (nI_ltI (a := lk (A 17 ed) (A 18 ed) + 1) (b := 64) (by omega) (by omega)).mp c_7
                refine lv_iconst (v := nI 0) hx hb dX7_take_140 (by decide) ?_
                refine md_zst 20 (n := 2) (v := 0) hx hb hC hw hm rfl (by decide) rfl (by omega) (by decide) (by omega) dX7_take_141 (fun M1 H locs hm hf1 hw => ?_)
                have hf := hf.tr hf1
                refine lv_iload_n hx hb dX7_take_142 rfl (lv_at hl 2 rfl) ?_
                refine lv_ineg hx hb dX7_take_143 ?_
                refine lv_aload_n hx hb dX7_take_144 rfl (lv_at hl 0 rfl) ?_
                refine mw_get (C := RX7) (T := TX7) (N := 27) (v := .ref (a 20)) hx hb hts inX7_take_X7 hown hC hw hm.1 rfl 20 (by decide) k_1 rfl dX7_take_145 ?_
                refine lv_iload_n hx hb dX7_take_148 rfl (lv_at hl 1 rfl) ?_
                refine md_zld 20 (n := 2) hx hb hC hw hm rfl (by decide) rfl (by omega) (by decide) dX7_take_149 ?_
                refine mw_ti (v' := nI (0)) (congrArg nI md_u_s) ?_
                refine lv_if_eq (tgt := 158) hx hb dX7_take_150 (by decide) (fun c_8 => ?_) (fun c_8 => ?_)
                · skip
                  refine lv_iconst (v := nI 0) hx hb dX7_take_158 (by decide) ?_
                  refine lv_isub hx hb dX7_take_159 ?_
                  have hA_9 : md_u ((md_u ((md_u ((md_u (mtk A ed) 18 ed (A 18 ed + 1))) 17 ed (lk (A 17 ed) (A 18 ed)))) 17 ed (lk (A 17 ed) (A 18 ed) + 1))) 20 ed 0 = md_u ((md_u ((md_u (mtk A ed) 18 ed (A 18 ed + 1))) 17 ed (lk (A 17 ed) (A 18 ed) + 1))) 20 ed (b2n (decide (64 ≤ lk (A 17 ed) (A 18 ed) + 1))) := by rw [md_uu]; first | (rw [decide_eq_true (show 64 ≤ lk (A 17 ed) (A 18 ed) + 1 by omega)]; rfl) | (rw [decide_eq_false (show ¬ 64 ≤ lk (A 17 ed) (A 18 ed) + 1 by omega)]; rfl)
                  rw [hA_9] at hm
                  exact md_iret hx hb hr hlocks hw hm hf (by first | (rw [if_pos (by omega)]; done) | (rw [if_neg (by omega), show nI 0 = 0 from rfl, Int32.sub_zero])) dX7_take_160
                · skip
                  exact absurd c_8 (by decide)
              · skip
                have c_7 : lk (A 17 ed) (A 18 ed) + 1 ≥ 64 := Nat.not_lt.mp (fun h => c_7 ((nI_ltI (a := lk (A 17 ed) (A 18 ed) + 1) (b := 64) (by omega) (by omega)).mpr h))
                refine lv_iconst (v := nI 1) hx hb dX7_take_136 (by decide) ?_
                refine lv_goto (tgt := 141) hx hb dX7_take_137 (by decide) ?_
                refine md_zst 20 (n := 2) (v := 1) hx hb hC hw hm rfl (by decide) rfl (by omega) (by decide) (by omega) dX7_take_141 (fun M1 H locs hm hf1 hw => ?_)
                have hf := hf.tr hf1
                refine lv_iload_n hx hb dX7_take_142 rfl (lv_at hl 2 rfl) ?_
                refine lv_ineg hx hb dX7_take_143 ?_
                refine lv_aload_n hx hb dX7_take_144 rfl (lv_at hl 0 rfl) ?_
                refine mw_get (C := RX7) (T := TX7) (N := 27) (v := .ref (a 20)) hx hb hts inX7_take_X7 hown hC hw hm.1 rfl 20 (by decide) k_1 rfl dX7_take_145 ?_
                refine lv_iload_n hx hb dX7_take_148 rfl (lv_at hl 1 rfl) ?_
                refine md_zld 20 (n := 2) hx hb hC hw hm rfl (by decide) rfl (by omega) (by decide) dX7_take_149 ?_
                refine mw_ti (v' := nI (1)) (congrArg nI md_u_s) ?_
                refine lv_if_eq (tgt := 158) hx hb dX7_take_150 (by decide) (fun c_10 => ?_) (fun c_10 => ?_)
                · skip
                  exact absurd c_10 (by decide)
                · skip
                  refine lv_bipush (v := nI 10) hx hb dX7_take_153 (by decide) ?_
                  refine lv_goto (tgt := 159) hx hb dX7_take_155 (by decide) ?_
                  refine lv_isub hx hb dX7_take_159 ?_
                  have hA_11 : md_u ((md_u ((md_u ((md_u (mtk A ed) 18 ed (A 18 ed + 1))) 17 ed (lk (A 17 ed) (A 18 ed)))) 17 ed (lk (A 17 ed) (A 18 ed) + 1))) 20 ed 1 = md_u ((md_u ((md_u (mtk A ed) 18 ed (A 18 ed + 1))) 17 ed (lk (A 17 ed) (A 18 ed) + 1))) 20 ed (b2n (decide (64 ≤ lk (A 17 ed) (A 18 ed) + 1))) := by rw [md_uu]; first | (rw [decide_eq_true (show 64 ≤ lk (A 17 ed) (A 18 ed) + 1 by omega)]; rfl) | (rw [decide_eq_false (show ¬ 64 ≤ lk (A 17 ed) (A 18 ed) + 1 by omega)]; rfl)
                  rw [hA_11] at hm
                  exact md_iret hx hb hr hlocks hw hm hf (by first | (rw [if_pos (by omega)]; done) | (rw [if_neg (by omega), show nI 0 = 0 from rfl, Int32.sub_zero])) dX7_take_160
          have hA_12 : md_u ((va_up ((va_up (mfA A (40 * (1 - ed))) 2 (shf ((mfA A (40 * (1 - ed))) 2) (40 * (1 - ed) + 0) ((mfA A (40 * (1 - ed))) 1 (1 - ed) - 1 - 0)))) 3 (mgo ((mfA A (40 * (1 - ed))) 2) ((mfA A (40 * (1 - ed))) 3) (40 * (1 - ed) + 0) ((mfA A (40 * (1 - ed))) 1 (1 - ed) - 1 - 0)))) 1 ((1 - ed)) ((mfA A (40 * (1 - ed))) 1 (1 - ed) - 1) = mtk A ed := by unfold mtk; rw [mfA_o _ _ (j := 1) (by decide) (by decide), mfA_o _ _ (j := 2) (by decide) (by decide), mfA_o _ _ (j := 3) (by decide) (by decide)]; rfl
          rw [hA_12] at hm
          refine lv_aload_n hx hb dX7_take_64 rfl (lv_at hl 1 rfl) ?_
          refine mw_get (C := RX7) (T := TX7) (N := 27) (v := .ref (a 18)) hx hb hts inX7_take_X7 hown hC hw hm.1 rfl 18 (by decide) k_3 rfl dX7_take_65 ?_
          refine lv_iload_n hx hb dX7_take_68 rfl (lv_at hl 2 rfl) ?_
          refine lv_dup2_11 hx hb dX7_take_69 rfl rfl ?_
          refine md_ald 18 (n := 2) hx hb hC hw hm rfl (by decide) rfl (by omega) (by decide) dX7_take_70 ?_
          refine mw_ti (v' := nI (A 18 ed)) (congrArg nI (congrFun (mtk_o A ed (by decide)) _)) ?_
          refine lv_iconst (v := nI 1) hx hb dX7_take_71 (by decide) ?_
          refine lv_iadd hx hb dX7_take_72 ?_
          refine mw_ti (v' := nI (A 18 ed + 1)) (nI_add _ _) ?_
          refine md_ast 18 (n := 2) (v := A 18 ed + 1) hx hb hC hw hm rfl (by decide) rfl (by omega) (by decide) dX7_take_73 (fun M1 H locs hm hf1 hw => ?_)
          have hf := hf.tr hf1
          refine lv_aload_n hx hb dX7_take_74 rfl (lv_at hl 1 rfl) ?_
          refine mw_get (C := RX7) (T := TX7) (N := 27) (v := .ref (a 18)) hx hb hts inX7_take_X7 hown hC hw hm.1 rfl 18 (by decide) k_3 rfl dX7_take_75 ?_
          refine lv_iload_n hx hb dX7_take_78 rfl (lv_at hl 2 rfl) ?_
          refine md_ald 18 (n := 2) hx hb hC hw hm rfl (by decide) rfl (by omega) (by decide) dX7_take_79 ?_
          refine mw_ti (v' := nI (A 18 ed + 1)) (congrArg nI md_u_s) ?_
          refine lv_sipush (v := nI 256) hx hb dX7_take_80 (by decide) ?_
          refine lv_irem hx hb dX7_take_83 (by decide) ?_
          refine mw_ti (v' := nI ((A 18 ed + 1) % 256)) (pk_rem (by omega) (by omega) (by omega)) ?_
          refine lv_if_ne (tgt := 106) hx hb dX7_take_84 (by decide) (fun c_13 => ?_) (fun c_13 => ?_)
          · skip
            have c_13 : (A 18 ed + 1) % 256 ≠ 0 := fun h => c_13 ((nI_eq (a := (A 18 ed + 1) % 256) (b := 0) (by omega) (by omega)).mpr h)
            have hA_14 : md_u (mtk A ed) 18 ed (A 18 ed + 1) = md_u ((md_u (mtk A ed) 18 ed (A 18 ed + 1))) 17 ed (lk (A 17 ed) (A 18 ed)) := by rw [show lk (A 17 ed) (A 18 ed) = A 17 ed by unfold lk; rw [if_neg (by omega)]]; exact md_ui ((md_u_k (by decide)).trans (congrFun (mtk_o A ed (by decide)) _))
            rw [hA_14] at hm
            exact jn_5     _ _ _ ls hm hf hw (lv_sub hl [1, 2, 0] rfl)
          · skip
            have c_13 : (A 18 ed + 1) % 256 = 0 := (nI_eq (a := (A 18 ed + 1) % 256) (b := 0) (by omega) (by omega)).mp c_13
            refine lv_aload_n hx hb dX7_take_87 rfl (lv_at hl 1 rfl) ?_
            refine mw_get (C := RX7) (T := TX7) (N := 27) (v := .ref (a 17)) hx hb hts inX7_take_X7 hown hC hw hm.1 rfl 17 (by decide) k_2 rfl dX7_take_88 ?_
            refine lv_iload_n hx hb dX7_take_91 rfl (lv_at hl 2 rfl) ?_
            refine md_ald 17 (n := 2) hx hb hC hw hm rfl (by decide) rfl (by omega) (by decide) dX7_take_92 ?_
            refine mw_ti (v' := nI (A 17 ed)) (congrArg nI ((md_u_k (by decide)).trans (congrFun (mtk_o A ed (by decide)) _))) ?_
            refine lv_if_le (tgt := 106) hx hb dX7_take_93 (by decide) (fun c_15 => ?_) (fun c_15 => ?_)
            · skip
              have c_15 : A 17 ed ≤ 0 := (nI_leI (a := A 17 ed) (b := 0) (by omega) (by omega)).mp c_15
              have hA_16 : md_u (mtk A ed) 18 ed (A 18 ed + 1) = md_u ((md_u (mtk A ed) 18 ed (A 18 ed + 1))) 17 ed (lk (A 17 ed) (A 18 ed)) := by rw [show lk (A 17 ed) (A 18 ed) = A 17 ed by unfold lk; rw [if_neg (by omega)]]; exact md_ui ((md_u_k (by decide)).trans (congrFun (mtk_o A ed (by decide)) _))
              rw [hA_16] at hm
              exact jn_5     _ _ _ ls hm hf hw (lv_sub hl [1, 2, 0] rfl)
            · skip
              have c_15 : A 17 ed > 0 := Nat.not_le.mp (fun h => c_15 ((nI_leI (a := A 17 ed) (b := 0) (by omega) (by omega)).mpr h))
              refine lv_aload_n hx hb dX7_take_96 rfl (lv_at hl 1 rfl) ?_
              refine mw_get (C := RX7) (T := TX7) (N := 27) (v := .ref (a 17)) hx hb hts inX7_take_X7 hown hC hw hm.1 rfl 17 (by decide) k_2 rfl dX7_take_97 ?_
              refine lv_iload_n hx hb dX7_take_100 rfl (lv_at hl 2 rfl) ?_
              refine lv_dup2_11 hx hb dX7_take_101 rfl rfl ?_
              refine md_ald 17 (n := 2) hx hb hC hw hm rfl (by decide) rfl (by omega) (by decide) dX7_take_102 ?_
              refine mw_ti (v' := nI (A 17 ed)) (congrArg nI ((md_u_k (by decide)).trans (congrFun (mtk_o A ed (by decide)) _))) ?_
              refine lv_iconst (v := nI 1) hx hb dX7_take_103 (by decide) ?_
              refine lv_isub hx hb dX7_take_104 ?_
              refine mw_ti (v' := nI (A 17 ed - 1)) (pk_sub (by omega)) ?_
              refine md_ast 17 (n := 2) (v := A 17 ed - 1) hx hb hC hw hm rfl (by decide) rfl (by omega) (by decide) dX7_take_105 (fun M1 H locs hm hf1 hw => ?_)
              have hf := hf.tr hf1
              have hA_17 : md_u ((md_u (mtk A ed) 18 ed (A 18 ed + 1))) 17 ed (A 17 ed - 1) = md_u ((md_u (mtk A ed) 18 ed (A 18 ed + 1))) 17 ed (lk (A 17 ed) (A 18 ed)) := by rw [show lk (A 17 ed) (A 18 ed) = A 17 ed - 1 by unfold lk; rw [if_pos (by omega)]]
              rw [hA_17] at hm
              exact jn_5     _ _ _ ls hm hf hw (lv_sub hl [1, 2, 0] rfl)
        · skip
          exact absurd c_4 (by decide)
      · skip
        have c_3 : A 20 ed ≠ 0 := fun h => c_3 ((nI_eq (a := A 20 ed) (b := 0) (by omega) (by omega)).mpr h)
        exfalso; omega
  · skip
    exact absurd c_1 (by decide)
def RM_X7_take_abn : Room := { frames := 3, cells := 0, slots := 0, locals := 74 }
set_option maxHeartbeats 4000000 in
set_option maxRecDepth 100000 in
theorem c_X7_take_abn (l : Launch) (G : mw_G) (M : mw_M) (sz : Nat) (h0 : Nat) (a : Nat → Nat) (c u : Nat) (A : md_S) (ed : Nat) (hm : md_at G M h0 a c u A) (hed : ed ≤ 1) (h1_ : 0 < A 1 (1 - ed)) (h1b : A 1 (1 - ed) ≤ 40) (h20 : A 20 ed = 0) (hq : ∀ j, j < 80 → A 2 j ≤ 3000) (hbits : ∀ i, i < A 2 (40 * (1 - ed)) → A 3 (3000 * (40 * (1 - ed)) + i) ≤ 1) (hug : ∀ i, i < 280 → A 24 i < 256) (h17 : A 17 ed ≤ 64) (h18 : A 18 ed < 100000) (hft : mft A (40 * (1 - ed)) = 0) (h12 : A 12 ed ≤ 127) (h13 : ∀ i, i < 254 → A 13 i < 128) (h8 : A 8 ed < 128) (h19 : A 19 ed < 8) (hab : tl A ed ((mtk A ed) 24 0 % 128) (A 12 ed) = 0) : Met l yX7_take wsX7_take RM_X7_take_abn (mw_pre G M sz [.ref (h0), .int (nI (ed))]) (md_Qi G M sz h0 a (if A 19 ed * 2 % 8 + 1 = 1 then nI 3 else -7) 0 (mfu A (40 * (1 - ed)) u) (md_u ((md_u ((md_u ((md_u (mtk A ed) 18 ed (A 18 ed + 1))) 17 ed (lk (A 17 ed) (A 18 ed)))) 19 ed (A 19 ed * 2 % 8 + 1))) 20 ed (b2n (decide (A 19 ed * 2 % 8 + 1 ≠ 1))))) 0 0 (mw_A M sz) := by
  refine Met.ofW (cc := cX7_take) (maxL := 6) (ret := (some .int)) (by decide) rfl ?_
  intro p e s m args below meth c0 s₁ B hml hv
  obtain ⟨rfl, rfl, hC, hw⟩ := mw_in hv
  have hx := B.exec
  have hb := B.bytes
  have hr := B.returns
  have hts := atoms_spec (ws := wsX7_take) B.pre
  have hown : s.vm.findClass RX7 = some m.cls := findClass_of_methodNamed B.named
  have hlocks := B.notSynchronized
  have hf : md_fr h0 a M M := md_fr.rf
  have k_0 := hts (.fieldLink RX7 7 "LinkPairModel" "frames" "[I") (by decide +kernel)
  have k_1 := hts (.fieldLink RX7 68 "LinkPairModel" "failed" "[Z") (by decide +kernel)
  have k_2 := hts (.fieldLink RX7 44 "LinkPairModel" "open" "[I") (by decide +kernel)
  have k_3 := hts (.fieldLink RX7 65 "LinkPairModel" "abnormal" "[I") (by decide +kernel)
  have k_4 := hts (.fieldLink RX7 47 "LinkPairModel" "openNumber" "[I") (by decide +kernel)
  have k_5 := hts (.fieldLink RX7 81 "LinkPairModel" "unit" "[I") (by decide +kernel)
  have k_6 := hts (.fieldLink RX7 32 "LinkPairModel" "toldLatest" "[I") (by decide +kernel)
  have k_7 := hts (.fieldLink RX7 62 "LinkPairModel" "units" "[I") (by decide +kernel)
  have k_8 := hts (.fieldLink RX7 59 "LinkPairModel" "errors" "[I") (by decide +kernel)
  have hl := lv_entry ([.ref (h0), .int (nI (ed))]) (n := 6) (Nat.le_of_ble_eq_true rfl)
  rw [lg_entry_eq]
  generalize (lg_sl ([.ref (h0), .int (nI (ed))]) ++ List.replicate (6 - (lg_sl ([.ref (h0), .int (nI (ed))])).length) Slot.unset).toArray = ls at hl ⊢
  have hl : lv_has ls 6 [(0, .ref (h0)), (1, .int (nI (ed)))] := hl
  refine mw_start (fun H locs hw => ?_) hw
  have hu0 : (mtk A ed) 24 0 < 256 := by rw [mtk_24]; exact mfA_24 hug hbits 0 (by decide)
  refine lv_aload_n hx hb dX7_take_0 rfl (lv_at hl 0 rfl) ?_
  refine lv_iload_n hx hb dX7_take_1 rfl (lv_at hl 1 rfl) ?_
  refine mw_ci hC hw (va_runS (As := [.int (nI (ed))]) (rest := [.ref (h0)]) ⟨hx, hb, hml, hown, hts⟩ (c_X7_isEnd l G _ H.size ed  (by omega)) (cwS 1 hts gX7_take_X7_isEnd rfl rfl rfl (by decide +kernel) ⟨Nat.le_of_ble_eq_true rfl, Nat.le_of_ble_eq_true rfl⟩) (mw_preS hC hw) rfl rfl hl.1 rfl (lv_room (Nat.le_of_ble_eq_true rfl)) dX7_take_2 ⟨Nat.le_of_ble_eq_true rfl, Nat.le_of_ble_eq_true rfl⟩) (fun H locs hz hw => ?_)
  refine lv_if_ne (tgt := 12) hx hb dX7_take_5 (by decide) (fun c_1 => ?_) (fun c_1 => ?_)
  · skip
    refine lv_aload_n hx hb dX7_take_12 rfl (lv_at hl 0 rfl) ?_
    refine mw_get (C := RX7) (T := TX7) (N := 27) (v := .ref (a 1)) hx hb hts inX7_take_X7 hown hC hw hm.1 rfl 1 (by decide) k_0 rfl dX7_take_13 ?_
    refine lv_iconst (v := nI 1) hx hb dX7_take_16 (by decide) ?_
    refine lv_iload_n hx hb dX7_take_17 rfl (lv_at hl 1 rfl) ?_
    refine lv_isub hx hb dX7_take_18 ?_
    refine mw_ti (v' := nI (1 - ed)) (pk_sub (by omega)) ?_
    refine md_ald 1 (n := 2) hx hb hC hw hm rfl (by decide) rfl (by omega) (by decide) dX7_take_19 ?_
    refine lv_if_eq (tgt := 32) hx hb dX7_take_20 (by decide) (fun c_2 => ?_) (fun c_2 => ?_)
    · skip
      have c_2 : A 1 (1 - ed) = 0 := (nI_eq (a := A 1 (1 - ed)) (b := 0) (by omega) (by omega)).mp c_2
      exfalso; omega
    · skip
      have c_2 : A 1 (1 - ed) ≠ 0 := fun h => c_2 ((nI_eq (a := A 1 (1 - ed)) (b := 0) (by omega) (by omega)).mpr h)
      refine lv_aload_n hx hb dX7_take_23 rfl (lv_at hl 0 rfl) ?_
      refine mw_get (C := RX7) (T := TX7) (N := 27) (v := .ref (a 20)) hx hb hts inX7_take_X7 hown hC hw hm.1 rfl 20 (by decide) k_1 rfl dX7_take_24 ?_
      refine lv_iload_n hx hb dX7_take_27 rfl (lv_at hl 1 rfl) ?_
      refine md_zld 20 (n := 2) hx hb hC hw hm rfl (by decide) rfl (by omega) (by decide) dX7_take_28 ?_
      refine lv_if_eq (tgt := 36) hx hb dX7_take_29 (by decide) (fun c_3 => ?_) (fun c_3 => ?_)
      · skip
        have c_3 : A 20 ed = 0 := (nI_eq (a := A 20 ed) (b := 0) (by omega) (by omega)).mp c_3
        refine lv_iconst (v := nI 0) hx hb dX7_take_36 (by decide) ?_
        refine md_ci hC hw (va_runV (As := [.int (nI (0))]) (rest := []) ⟨hx, hb, hml, hown, hts⟩ (c_X7_refuses l G _ H.size h0 a c u A 0 hm (by omega)) (cwV 1 hts gX7_take_X7_refuses rfl rfl rfl (by decide +kernel) ⟨Nat.le_of_ble_eq_true rfl, Nat.le_of_ble_eq_true rfl⟩) (mw_preV (ci := 7) hC hw rfl hm.1) rfl rfl hl.1 rfl (lv_room (Nat.le_of_ble_eq_true rfl)) dX7_take_37 ⟨Nat.le_of_ble_eq_true rfl, Nat.le_of_ble_eq_true rfl⟩) (fun M1 H locs hm hf1 hw => ?_)
        have hf := hf.tr hf1
        refine mw_ti (v' := nI (0)) rfl ?_
        refine lv_if_eq (tgt := 45) hx hb dX7_take_40 (by decide) (fun c_4 => ?_) (fun c_4 => ?_)
        · skip
          refine lv_aload_n hx hb dX7_take_45 rfl (lv_at hl 0 rfl) ?_
          refine lv_bipush (v := nI 40) hx hb dX7_take_46 (by decide) ?_
          refine lv_iconst (v := nI 1) hx hb dX7_take_48 (by decide) ?_
          refine lv_iload_n hx hb dX7_take_49 rfl (lv_at hl 1 rfl) ?_
          refine lv_isub hx hb dX7_take_50 ?_
          refine mw_ti (v' := nI (1 - ed)) (pk_sub (by omega)) ?_
          refine lv_imul hx hb dX7_take_51 ?_
          refine mw_ti (v' := nI (40 * (1 - ed))) (pk_mul _ _) ?_
          refine md_ci hC hw (va_runV (As := [.int (nI (40 * (1 - ed)))]) (rest := []) ⟨hx, hb, hml, hown, hts⟩ (c_X7_fault l G _ H.size h0 a 0 u A (40 * (1 - ed)) hm (by omega) (hq _ (by omega)) (hbits) (hug)) (cwV 1 hts gX7_take_X7_fault rfl rfl rfl (by decide +kernel) ⟨Nat.le_of_ble_eq_true rfl, Nat.le_of_ble_eq_true rfl⟩) (mw_preV (ci := 7) hC hw rfl hm.1) rfl rfl hl.1 rfl (lv_room (Nat.le_of_ble_eq_true rfl)) dX7_take_52 ⟨Nat.le_of_ble_eq_true rfl, Nat.le_of_ble_eq_true rfl⟩) (fun M1 H locs hm hf1 hw => ?_)
          have hf := hf.tr hf1
          refine lv_istore_n (lv' := [(2, .int (nI (mft A (40 * (1 - ed))))), (0, .ref (h0)), (1, .int (nI (ed)))]) hx hb dX7_take_55 rfl hl (by decide) rfl (fun ls hl => ?_)
          refine lv_aload_n hx hb dX7_take_56 rfl (lv_at hl 1 rfl) ?_
          refine lv_iconst (v := nI 1) hx hb dX7_take_57 (by decide) ?_
          refine lv_iload_n hx hb dX7_take_58 rfl (lv_at hl 2 rfl) ?_
          refine lv_isub hx hb dX7_take_59 ?_
          refine mw_ti (v' := nI (1 - ed)) (pk_sub (by omega)) ?_
          refine lv_iconst (v := nI 0) hx hb dX7_take_60 (by decide) ?_
          refine md_cv hC hw (va_runV (As := [.int (nI (1 - ed)), .int (nI (0))]) (rest := []) ⟨hx, hb, hml, hown, hts⟩ (c_X7_goes l G _ H.size h0 a 0 (mfu A (40 * (1 - ed)) u) (mfA A (40 * (1 - ed))) (1 - ed) 0 hm (by omega) (by rw [mfA_o _ _ (j := 1) (by decide) (by decide)]; omega) (by rw [mfA_o _ _ (j := 1) (by decide) (by decide)]; omega) (by rw [mfA_o _ _ (j := 2) (by decide) (by decide)]; exact hq)) (cwV 2 hts gX7_take_X7_goes rfl rfl rfl (by decide +kernel) ⟨Nat.le_of_ble_eq_true rfl, Nat.le_of_ble_eq_true rfl⟩) (mw_preV (ci := 7) hC hw rfl hm.1) rfl rfl hl.1 rfl (lv_room (Nat.le_of_ble_eq_true rfl)) dX7_take_61 ⟨Nat.le_of_ble_eq_true rfl, Nat.le_of_ble_eq_true rfl⟩) (fun M1 H locs hm hf1 hw => ?_)
          have hf := hf.tr hf1
          have jn_5 : ∀ (M1 : mw_M) (H : Heap) (locs : List Loc) (ls : Array Slot), md_at G M1 h0 a 0 (mfu A (40 * (1 - ed)) u) (md_u ((md_u (mtk A ed) 18 ed (A 18 ed + 1))) 17 ed (lk (A 17 ed) (A 18 ed))) → md_fr h0 a M M1 → mw_St G (mw_A M s.heap.size) s M1 H locs → lv_has ls 6 [(0, .ref (h0)), (1, .int (nI (ed))), (2, .int (nI (mft A (40 * (1 - ed)))))] → W p l e (headSpec wsX7_take RM_X7_take_abn).room s m ([.ref (h0), .int (nI (ed))] : List Value).toArray below meth c0 H locs 0 0 (MQ below (md_Qi G M s.heap.size h0 a (if A 19 ed * 2 % 8 + 1 = 1 then nI 3 else -7) 0 (mfu A (40 * (1 - ed)) u) (md_u ((md_u ((md_u ((md_u (mtk A ed) 18 ed (A 18 ed + 1))) 17 ed (lk (A 17 ed) (A 18 ed)))) 19 ed (A 19 ed * 2 % 8 + 1))) 20 ed (b2n (decide (A 19 ed * 2 % 8 + 1 ≠ 1))))) ([.ref (h0), .int (nI (ed))] : List Value).toArray s 0 0 (mw_A M s.heap.size)) (F0 m 106 ls []) := by
            intro  M1 H locs ls hm hf hw hl
            have hlk : lk (A 17 ed) (A 18 ed) ≤ 64 := by unfold lk; split <;> omega
            refine lv_iload_n hx hb dX7_take_106 rfl (lv_at hl 2 rfl) ?_
            refine lv_if_le (tgt := 161) hx hb dX7_take_107 (by decide) (fun c_6 => ?_) (fun c_6 => ?_)
            · skip
              have c_6 : mft A (40 * (1 - ed)) ≤ 0 := (nI_leI (a := mft A (40 * (1 - ed))) (b := 0) (by omega) (by omega)).mp c_6
              have jn_7 : ∀ (M1 : mw_M) (H : Heap) (locs : List Loc) (ls : Array Slot), md_at G M1 h0 a 0 (mfu A (40 * (1 - ed)) u) (md_u ((md_u (mtk A ed) 18 ed (A 18 ed + 1))) 17 ed (lk (A 17 ed) (A 18 ed))) → md_fr h0 a M M1 → mw_St G (mw_A M s.heap.size) s M1 H locs → lv_has ls 6 [(0, .ref (h0)), (1, .int (nI (ed))), (3, .int (nI ((mtk A ed) 24 0 % 128))), (4, .int (tlv (tl A ed ((mtk A ed) 24 0 % 128) 0)))] → W p l e (headSpec wsX7_take RM_X7_take_abn).room s m ([.ref (h0), .int (nI (ed))] : List Value).toArray below meth c0 H locs 0 0 (MQ below (md_Qi G M s.heap.size h0 a (if A 19 ed * 2 % 8 + 1 = 1 then nI 3 else -7) 0 (mfu A (40 * (1 - ed)) u) (md_u ((md_u ((md_u ((md_u (mtk A ed) 18 ed (A 18 ed + 1))) 17 ed (lk (A 17 ed) (A 18 ed)))) 19 ed (A 19 ed * 2 % 8 + 1))) 20 ed (b2n (decide (A 19 ed * 2 % 8 + 1 ≠ 1))))) ([.ref (h0), .int (nI (ed))] : List Value).toArray s 0 0 (mw_A M s.heap.size)) (F0 m 188 ls []) := by
                intro  M1 H locs ls hm hf hw hl
                refine lv_iconst (v := nI 0) hx hb dX7_take_188 (by decide) ?_
                refine lv_istore (lv' := [(5, .int (nI (0))), (0, .ref (h0)), (1, .int (nI (ed))), (3, .int (nI ((mtk A ed) 24 0 % 128))), (4, .int (tlv (tl A ed ((mtk A ed) 24 0 % 128) 0)))]) hx hb dX7_take_189 hl (by decide) rfl (fun ls hl => ?_)
                have lp_8 : ∀ (n9 : Nat) (k : Nat), (hk : k ≤ A 12 ed) → A 12 ed - k < n9 → ∀ (M1 : mw_M) (H : Heap) (locs : List Loc) (ls : Array Slot), md_at G M1 h0 a 0 (mfu A (40 * (1 - ed)) u) (md_u ((md_u (mtk A ed) 18 ed (A 18 ed + 1))) 17 ed (lk (A 17 ed) (A 18 ed))) → md_fr h0 a M M1 → mw_St G (mw_A M s.heap.size) s M1 H locs → lv_has ls 6 [(0, .ref (h0)), (1, .int (nI (ed))), (3, .int (nI ((mtk A ed) 24 0 % 128))), (4, .int (tlv (tl A ed ((mtk A ed) 24 0 % 128) k))), (5, .int (nI (k)))] → W p l e (headSpec wsX7_take RM_X7_take_abn).room s m ([.ref (h0), .int (nI (ed))] : List Value).toArray below meth c0 H locs 0 0 (MQ below (md_Qi G M s.heap.size h0 a (if A 19 ed * 2 % 8 + 1 = 1 then nI 3 else -7) 0 (mfu A (40 * (1 - ed)) u) (md_u ((md_u ((md_u ((md_u (mtk A ed) 18 ed (A 18 ed + 1))) 17 ed (lk (A 17 ed) (A 18 ed)))) 19 ed (A 19 ed * 2 % 8 + 1))) 20 ed (b2n (decide (A 19 ed * 2 % 8 + 1 ≠ 1))))) ([.ref (h0), .int (nI (ed))] : List Value).toArray s 0 0 (mw_A M s.heap.size)) (F0 m 191 ls []) := by
                  intro n9
                  induction n9 with
                  | zero => intro k hk h9; exact absurd h9 (Nat.not_lt_zero _)
                  | succ n9 ih =>
                    intro k hk h9 M1 H locs ls hm hf hw hl
                    refine lv_iload hx hb dX7_take_191 (lv_at hl 4 rfl) ?_
                    refine lv_aload_n hx hb dX7_take_193 rfl (lv_at hl 0 rfl) ?_
                    refine mw_get (C := RX7) (T := TX7) (N := 27) (v := .ref (a 12)) hx hb hts inX7_take_X7 hown hC hw hm.1 rfl 12 (by decide) k_2 rfl dX7_take_194 ?_
                    refine lv_iload_n hx hb dX7_take_197 rfl (lv_at hl 1 rfl) ?_
                    refine md_ald 12 (n := 2) hx hb hC hw hm rfl (by decide) rfl (by omega) (by decide) dX7_take_198 ?_
                    refine mw_ti (v' := nI (A 12 ed)) (congrArg nI ((md_u_k (by decide)).trans ((md_u_k (by decide)).trans (congrFun (mtk_o A ed (by decide)) _)))) ?_
                    refine lv_icmp_ge (tgt := 235) hx hb dX7_take_199 (by decide) (fun c_9 => ?_) (fun c_9 => ?_)
                    · skip
                      have c_9 : k ≥ A 12 ed := (nI_leI (a := A 12 ed) (b := k) (by omega) (by omega)).mp c_9
                      obtain rfl : k = A 12 ed := by omega
                      have htl := tl_le A ed ((mtk A ed) 24 0 % 128) (A 12 ed)
                      refine lv_aload_n hx hb dX7_take_235 rfl (lv_at hl 0 rfl) ?_
                      refine mw_get (C := RX7) (T := TX7) (N := 27) (v := .ref (a 19)) hx hb hts inX7_take_X7 hown hC hw hm.1 rfl 19 (by decide) k_3 rfl dX7_take_236 ?_
                      refine lv_iload_n hx hb dX7_take_239 rfl (lv_at hl 1 rfl) ?_
                      refine lv_aload_n hx hb dX7_take_240 rfl (lv_at hl 0 rfl) ?_
                      refine mw_get (C := RX7) (T := TX7) (N := 27) (v := .ref (a 19)) hx hb hts inX7_take_X7 hown hC hw hm.1 rfl 19 (by decide) k_3 rfl dX7_take_241 ?_
                      refine lv_iload_n hx hb dX7_take_244 rfl (lv_at hl 1 rfl) ?_
                      refine md_ald 19 (n := 2) hx hb hC hw hm rfl (by decide) rfl (by omega) (by decide) dX7_take_245 ?_
                      refine mw_ti (v' := nI (A 19 ed)) (congrArg nI ((md_u_k (by decide)).trans ((md_u_k (by decide)).trans (congrFun (mtk_o A ed (by decide)) _)))) ?_
                      refine lv_iconst (v := nI 1) hx hb dX7_take_246 (by decide) ?_
                      refine lv_ishl hx hb dX7_take_247 ?_
                      refine mw_ti (v' := nI (A 19 ed * 2)) (ab_shl _ h19) ?_
                      refine lv_bipush (v := nI 7) hx hb dX7_take_248 (by decide) ?_
                      refine lv_iand hx hb dX7_take_250 ?_
                      refine mw_ti (v' := nI ((A 19 ed * 2) % 8)) (pk_andN (by omega) 3 (by decide)) ?_
                      refine lv_iload hx hb dX7_take_251 (lv_at hl 3 rfl) ?_
                      refine lv_iconst (v := -1) hx hb dX7_take_253 (by decide) ?_
                      refine lv_icmp_ne (tgt := 261) hx hb dX7_take_254 (by decide) (fun c_10 => ?_) (fun c_10 => ?_)
                      · skip
                        exact absurd ((tlv_m (by omega)).mpr hab) c_10
                      · skip
                        refine lv_iconst (v := nI 1) hx hb dX7_take_257 (by decide) ?_
                        refine lv_goto (tgt := 262) hx hb dX7_take_258 (by decide) ?_
                        refine lv_ior hx hb dX7_take_262 ?_
                        refine mw_ti (v' := nI (A 19 ed * 2 % 8 + 1)) (ab_or1 _ h19) ?_
                        refine md_ast 19 (n := 2) (v := A 19 ed * 2 % 8 + 1) hx hb hC hw hm rfl (by decide) rfl (by omega) (by decide) dX7_take_263 (fun M1 H locs hm hf1 hw => ?_)
                        have hf := hf.tr hf1
                        refine lv_iload hx hb dX7_take_264 (lv_at hl 3 rfl) ?_
                        refine lv_iconst (v := -1) hx hb dX7_take_266 (by decide) ?_
                        refine lv_icmp_ne (tgt := 311) hx hb dX7_take_267 (by decide) (fun c_11 => ?_) (fun c_11 => ?_)
                        · skip
                          exact absurd ((tlv_m (by omega)).mpr hab) c_11
                        · skip
                          refine lv_aload_n hx hb dX7_take_270 rfl (lv_at hl 0 rfl) ?_
                          refine mw_get (C := RX7) (T := TX7) (N := 27) (v := .ref (a 19)) hx hb hts inX7_take_X7 hown hC hw hm.1 rfl 19 (by decide) k_3 rfl dX7_take_271 ?_
                          refine lv_iload_n hx hb dX7_take_274 rfl (lv_at hl 1 rfl) ?_
                          refine md_ald 19 (n := 2) hx hb hC hw hm rfl (by decide) rfl (by omega) (by decide) dX7_take_275 ?_
                          refine mw_ti (v' := nI (A 19 ed * 2 % 8 + 1)) (congrArg nI md_u_s) ?_
                          refine lv_istore (lv' := [(5, .int (nI (A 19 ed * 2 % 8 + 1))), (0, .ref (h0)), (1, .int (nI (ed))), (3, .int (nI ((mtk A ed) 24 0 % 128))), (4, .int (tlv (tl A ed ((mtk A ed) 24 0 % 128) (A 12 ed))))]) hx hb dX7_take_276 hl (by decide) rfl (fun ls hl => ?_)
                          refine lv_aload_n hx hb dX7_take_278 rfl (lv_at hl 1 rfl) ?_
                          refine mw_get (C := RX7) (T := TX7) (N := 27) (v := .ref (a 20)) hx hb hts inX7_take_X7 hown hC hw hm.1 rfl 20 (by decide) k_1 rfl dX7_take_279 ?_
                          refine lv_iload_n hx hb dX7_take_282 rfl (lv_at hl 2 rfl) ?_
                          refine lv_iload hx hb dX7_take_283 (lv_at hl 0 rfl) ?_
                          refine lv_iconst (v := nI 1) hx hb dX7_take_285 (by decide) ?_
                          refine lv_icmp_eq (tgt := 293) hx hb dX7_take_286 (by decide) (fun c_12 => ?_) (fun c_12 => ?_)
                          · skip
                            have c_12 : A 19 ed * 2 % 8 + 1 = 1 := (nI_eq (a := A 19 ed * 2 % 8 + 1) (b := 1) (by omega) (by omega)).mp c_12
                            refine lv_iconst (v := nI 0) hx hb dX7_take_293 (by decide) ?_
                            refine md_zst 20 (n := 2) (v := 0) hx hb hC hw hm rfl (by decide) rfl (by omega) (by decide) (by omega) dX7_take_294 (fun M1 H locs hm hf1 hw => ?_)
                            have hf := hf.tr hf1
                            refine lv_aload_n hx hb dX7_take_295 rfl (lv_at hl 1 rfl) ?_
                            refine mw_get (C := RX7) (T := TX7) (N := 27) (v := .ref (a 20)) hx hb hts inX7_take_X7 hown hC hw hm.1 rfl 20 (by decide) k_1 rfl dX7_take_296 ?_
                            refine lv_iload_n hx hb dX7_take_299 rfl (lv_at hl 2 rfl) ?_
                            refine md_zld 20 (n := 2) hx hb hC hw hm rfl (by decide) rfl (by omega) (by decide) dX7_take_300 ?_
                            refine mw_ti (v' := nI (0)) (congrArg nI md_u_s) ?_
                            refine lv_if_eq (tgt := 309) hx hb dX7_take_301 (by decide) (fun c_13 => ?_) (fun c_13 => ?_)
                            · skip
                              refine lv_iconst (v := nI 3) hx hb dX7_take_309 (by decide) ?_
                              have hA_14 : md_u ((md_u ((md_u ((md_u (mtk A ed) 18 ed (A 18 ed + 1))) 17 ed (lk (A 17 ed) (A 18 ed)))) 19 ed (A 19 ed * 2 % 8 + 1))) 20 ed 0 = md_u ((md_u ((md_u ((md_u (mtk A ed) 18 ed (A 18 ed + 1))) 17 ed (lk (A 17 ed) (A 18 ed)))) 19 ed (A 19 ed * 2 % 8 + 1))) 20 ed (b2n (decide (A 19 ed * 2 % 8 + 1 ≠ 1))) := by first | (rw [decide_eq_true (show A 19 ed * 2 % 8 + 1 ≠ 1 by assumption)]; rfl) | (rw [decide_eq_false (show ¬ A 19 ed * 2 % 8 + 1 ≠ 1 from fun h => h (by assumption))]; rfl)
                              rw [hA_14] at hm
                              exact md_iret hx hb hr hlocks hw hm hf (by first | (rw [if_pos (by assumption)]; done) | (rw [if_neg (by assumption)])) dX7_take_310
                            · skip
                              exact absurd c_13 (by decide)
                          · skip
                            have c_12 : A 19 ed * 2 % 8 + 1 ≠ 1 := fun h => c_12 ((nI_eq (a := A 19 ed * 2 % 8 + 1) (b := 1) (by omega) (by omega)).mpr h)
                            refine lv_iconst (v := nI 1) hx hb dX7_take_289 (by decide) ?_
                            refine lv_goto (tgt := 294) hx hb dX7_take_290 (by decide) ?_
                            refine md_zst 20 (n := 2) (v := 1) hx hb hC hw hm rfl (by decide) rfl (by omega) (by decide) (by omega) dX7_take_294 (fun M1 H locs hm hf1 hw => ?_)
                            have hf := hf.tr hf1
                            refine lv_aload_n hx hb dX7_take_295 rfl (lv_at hl 1 rfl) ?_
                            refine mw_get (C := RX7) (T := TX7) (N := 27) (v := .ref (a 20)) hx hb hts inX7_take_X7 hown hC hw hm.1 rfl 20 (by decide) k_1 rfl dX7_take_296 ?_
                            refine lv_iload_n hx hb dX7_take_299 rfl (lv_at hl 2 rfl) ?_
                            refine md_zld 20 (n := 2) hx hb hC hw hm rfl (by decide) rfl (by omega) (by decide) dX7_take_300 ?_
                            refine mw_ti (v' := nI (1)) (congrArg nI md_u_s) ?_
                            refine lv_if_eq (tgt := 309) hx hb dX7_take_301 (by decide) (fun c_15 => ?_) (fun c_15 => ?_)
                            · skip
                              exact absurd c_15 (by decide)
                            · skip
                              refine lv_bipush (v := -7) hx hb dX7_take_304 (by decide) ?_
                              refine lv_goto (tgt := 310) hx hb dX7_take_306 (by decide) ?_
                              have hA_16 : md_u ((md_u ((md_u ((md_u (mtk A ed) 18 ed (A 18 ed + 1))) 17 ed (lk (A 17 ed) (A 18 ed)))) 19 ed (A 19 ed * 2 % 8 + 1))) 20 ed 1 = md_u ((md_u ((md_u ((md_u (mtk A ed) 18 ed (A 18 ed + 1))) 17 ed (lk (A 17 ed) (A 18 ed)))) 19 ed (A 19 ed * 2 % 8 + 1))) 20 ed (b2n (decide (A 19 ed * 2 % 8 + 1 ≠ 1))) := by first | (rw [decide_eq_true (show A 19 ed * 2 % 8 + 1 ≠ 1 by assumption)]; rfl) | (rw [decide_eq_false (show ¬ A 19 ed * 2 % 8 + 1 ≠ 1 from fun h => h (by assumption))]; rfl)
                              rw [hA_16] at hm
                              exact md_iret hx hb hr hlocks hw hm hf (by first | (rw [if_pos (by assumption)]; done) | (rw [if_neg (by assumption)])) dX7_take_310
                    · skip
                      have c_9 : k < A 12 ed := Nat.not_le.mp (fun h => c_9 ((nI_leI (a := A 12 ed) (b := k) (by omega) (by omega)).mpr h))
                      refine lv_aload_n hx hb dX7_take_202 rfl (lv_at hl 0 rfl) ?_
                      refine mw_get (C := RX7) (T := TX7) (N := 27) (v := .ref (a 13)) hx hb hts inX7_take_X7 hown hC hw hm.1 rfl 13 (by decide) k_4 rfl dX7_take_203 ?_
                      refine lv_bipush (v := nI 127) hx hb dX7_take_206 (by decide) ?_
                      refine lv_iload_n hx hb dX7_take_208 rfl (lv_at hl 1 rfl) ?_
                      refine lv_imul hx hb dX7_take_209 ?_
                      refine mw_ti (v' := nI (127 * ed)) (pk_mul _ _) ?_
                      refine lv_iload hx hb dX7_take_210 (lv_at hl 4 rfl) ?_
                      refine lv_iadd hx hb dX7_take_212 ?_
                      refine mw_ti (v' := nI (127 * ed + k)) (nI_add _ _) ?_
                      have h13k := h13 (127 * ed + k) (by omega)
                      refine md_ald 13 (n := 254) hx hb hC hw hm rfl (by decide) rfl (by omega) (by decide) dX7_take_213 ?_
                      refine mw_ti (v' := nI (A 13 (127 * ed + k))) (congrArg nI ((md_u_k (by decide)).trans ((md_u_k (by decide)).trans (congrFun (mtk_o A ed (by decide)) _)))) ?_
                      refine lv_iload_n hx hb dX7_take_214 rfl (lv_at hl 2 rfl) ?_
                      refine lv_icmp_ne (tgt := 225) hx hb dX7_take_215 (by decide) (fun c_17 => ?_) (fun c_17 => ?_)
                      · skip
                        have c_17 : A 13 (127 * ed + k) ≠ (mtk A ed) 24 0 % 128 := fun h => c_17 ((nI_eq (a := A 13 (127 * ed + k)) (b := (mtk A ed) 24 0 % 128) (by omega) (by omega)).mpr h)
                        refine lv_iload hx hb dX7_take_225 (lv_at hl 3 rfl) ?_
                        refine lv_istore (lv' := [(4, .int (tlv (tl A ed ((mtk A ed) 24 0 % 128) k))), (0, .ref (h0)), (1, .int (nI (ed))), (3, .int (nI ((mtk A ed) 24 0 % 128))), (5, .int (nI (k)))]) hx hb dX7_take_227 hl (by decide) rfl (fun ls hl => ?_)
                        refine lv_iinc (v := nI (k + 1)) (lv' := [(5, .int (nI (k + 1))), (4, .int (tlv (tl A ed ((mtk A ed) 24 0 % 128) k))), (0, .ref (h0)), (1, .int (nI (ed))), (3, .int (nI ((mtk A ed) 24 0 % 128)))]) hx hb dX7_take_229 hl (k := 4) rfl (by rw [show Int32.ofInt 1 = nI 1 by decide]; exact nI_add _ _) (by decide) rfl (fun ls hl => ?_)
                        refine lv_goto (tgt := 191) hx hb dX7_take_232 (by decide) ?_
                        have hv_18 : (.int (tlv (tl A ed ((mtk A ed) 24 0 % 128) k)) : Value) = .int (tlv (tl A ed ((mtk A ed) 24 0 % 128) (k + 1))) := by first | (rw [tl, if_pos (by assumption)]; exact congrArg Value.int (tlv_n (x := k + 2) (by omega)).symm) | (rw [tl, if_neg (by assumption)])
                        rw [hv_18] at hl
                        exact ih  (k + 1) (by omega) (by omega) _ _ _ ls hm hf hw (lv_sub hl [2, 3, 4, 1, 0] rfl)
                      · skip
                        have c_17 : A 13 (127 * ed + k) = (mtk A ed) 24 0 % 128 := (nI_eq (a := A 13 (127 * ed + k)) (b := (mtk A ed) 24 0 % 128) (by omega) (by omega)).mp c_17
                        refine lv_iload hx hb dX7_take_218 (lv_at hl 4 rfl) ?_
                        refine lv_iconst (v := nI 1) hx hb dX7_take_220 (by decide) ?_
                        refine lv_iadd hx hb dX7_take_221 ?_
                        refine mw_ti (v' := nI (k + 1)) (nI_add _ _) ?_
                        refine lv_goto (tgt := 227) hx hb dX7_take_222 (by decide) ?_
                        refine lv_istore (lv' := [(4, .int (nI (k + 1))), (0, .ref (h0)), (1, .int (nI (ed))), (3, .int (nI ((mtk A ed) 24 0 % 128))), (5, .int (nI (k)))]) hx hb dX7_take_227 hl (by decide) rfl (fun ls hl => ?_)
                        refine lv_iinc (v := nI (k + 1)) (lv' := [(5, .int (nI (k + 1))), (4, .int (nI (k + 1))), (0, .ref (h0)), (1, .int (nI (ed))), (3, .int (nI ((mtk A ed) 24 0 % 128)))]) hx hb dX7_take_229 hl (k := 4) rfl (by rw [show Int32.ofInt 1 = nI 1 by decide]; exact nI_add _ _) (by decide) rfl (fun ls hl => ?_)
                        refine lv_goto (tgt := 191) hx hb dX7_take_232 (by decide) ?_
                        have hv_19 : (.int (nI (k + 1)) : Value) = .int (tlv (tl A ed ((mtk A ed) 24 0 % 128) (k + 1))) := by first | (rw [tl, if_pos (by assumption)]; exact congrArg Value.int (tlv_n (x := k + 2) (by omega)).symm) | (rw [tl, if_neg (by assumption)])
                        have hl : lv_has ls 6 [(5, .int (nI (k + 1))), (4, .int (tlv (tl A ed ((mtk A ed) 24 0 % 128) (k + 1)))), (0, .ref (h0)), (1, .int (nI (ed))), (3, .int (nI ((mtk A ed) 24 0 % 128)))] := by rw [← hv_19]; exact hl
                        exact ih  (k + 1) (by omega) (by omega) _ _ _ ls hm hf hw (lv_sub hl [2, 3, 4, 1, 0] rfl)
                exact lp_8 (A 12 ed - 0 + 1) 0 (by omega) (Nat.lt_succ_self _) _ _ _ ls hm hf hw (lv_sub hl [1, 2, 3, 4, 0] rfl)
              refine lv_aload_n hx hb dX7_take_161 rfl (lv_at hl 0 rfl) ?_
              refine mw_get (C := RX7) (T := TX7) (N := 27) (v := .ref (a 24)) hx hb hts inX7_take_X7 hown hC hw hm.1 rfl 24 (by decide) k_5 rfl dX7_take_162 ?_
              refine lv_iconst (v := nI 0) hx hb dX7_take_165 (by decide) ?_
              refine md_ald 24 (n := 280) hx hb hC hw hm rfl (by decide) rfl (by omega) (by decide) dX7_take_166 ?_
              refine mw_ti (v' := nI ((mtk A ed) 24 0)) (congrArg nI ((md_u_k (by decide)).trans (md_u_k (by decide)))) ?_
              refine lv_bipush (v := nI 127) hx hb dX7_take_167 (by decide) ?_
              refine lv_iand hx hb dX7_take_169 ?_
              refine mw_ti (v' := nI (((mtk A ed) 24 0) % 128)) (pk_andN (by omega) 7 (by decide)) ?_
              refine lv_istore_n (lv' := [(3, .int (nI (((mtk A ed) 24 0) % 128))), (0, .ref (h0)), (1, .int (nI (ed))), (2, .int (nI (mft A (40 * (1 - ed)))))]) hx hb dX7_take_170 rfl hl (by decide) rfl (fun ls hl => ?_)
              refine lv_iload_n hx hb dX7_take_171 rfl (lv_at hl 0 rfl) ?_
              refine lv_aload_n hx hb dX7_take_172 rfl (lv_at hl 1 rfl) ?_
              refine mw_get (C := RX7) (T := TX7) (N := 27) (v := .ref (a 8)) hx hb hts inX7_take_X7 hown hC hw hm.1 rfl 8 (by decide) k_6 rfl dX7_take_173 ?_
              refine lv_iload_n hx hb dX7_take_176 rfl (lv_at hl 2 rfl) ?_
              refine md_ald 8 (n := 2) hx hb hC hw hm rfl (by decide) rfl (by omega) (by decide) dX7_take_177 ?_
              refine mw_ti (v' := nI (A 8 ed)) (congrArg nI ((md_u_k (by decide)).trans ((md_u_k (by decide)).trans (congrFun (mtk_o A ed (by decide)) _)))) ?_
              refine lv_icmp_ne (tgt := 185) hx hb dX7_take_178 (by decide) (fun c_20 => ?_) (fun c_20 => ?_)
              · skip
                have c_20 : ((mtk A ed) 24 0) % 128 ≠ A 8 ed := fun h => c_20 ((nI_eq (a := ((mtk A ed) 24 0) % 128) (b := A 8 ed) (by omega) (by omega)).mpr h)
                refine lv_iconst (v := -1) hx hb dX7_take_185 (by decide) ?_
                refine lv_istore (lv' := [(4, .int (-1)), (3, .int (nI (((mtk A ed) 24 0) % 128))), (0, .ref (h0)), (1, .int (nI (ed))), (2, .int (nI (mft A (40 * (1 - ed)))))]) hx hb dX7_take_186 hl (by decide) rfl (fun ls hl => ?_)
                have hv_21 : (.int (nI (((mtk A ed) 24 0) % 128)) : Value) = .int (nI ((mtk A ed) 24 0 % 128)) := by first | rfl | simp_all
                rw [hv_21] at hl
                have hv_22 : (.int (-1) : Value) = .int (tlv (tl A ed ((mtk A ed) 24 0 % 128) 0)) := by first | (rw [tl, if_pos (by assumption)]; rfl) | (rw [tl, if_neg (by assumption)]; rfl)
                rw [hv_22] at hl
                exact jn_7     _ _ _ ls hm hf hw (lv_sub hl [2, 3, 1, 0] rfl)
              · skip
                have c_20 : ((mtk A ed) 24 0) % 128 = A 8 ed := (nI_eq (a := ((mtk A ed) 24 0) % 128) (b := A 8 ed) (by omega) (by omega)).mp c_20
                refine lv_iconst (v := nI 0) hx hb dX7_take_181 (by decide) ?_
                refine lv_goto (tgt := 186) hx hb dX7_take_182 (by decide) ?_
                refine lv_istore (lv' := [(4, .int (nI (0))), (3, .int (nI (((mtk A ed) 24 0) % 128))), (0, .ref (h0)), (1, .int (nI (ed))), (2, .int (nI (mft A (40 * (1 - ed)))))]) hx hb dX7_take_186 hl (by decide) rfl (fun ls hl => ?_)
                have hv_23 : (.int (nI (((mtk A ed) 24 0) % 128)) : Value) = .int (nI ((mtk A ed) 24 0 % 128)) := by first | rfl | simp_all
                rw [hv_23] at hl
                have hv_24 : (.int (nI (0)) : Value) = .int (tlv (tl A ed ((mtk A ed) 24 0 % 128) 0)) := by first | (rw [tl, if_pos (by assumption)]; rfl) | (rw [tl, if_neg (by assumption)]; rfl)
                rw [hv_24] at hl
                exact jn_7     _ _ _ ls hm hf hw (lv_sub hl [2, 3, 1, 0] rfl)
            · skip
              have c_6 : mft A (40 * (1 - ed)) > 0 := Nat.not_le.mp (fun h => c_6 ((nI_leI (a := mft A (40 * (1 - ed))) (b := 0) (by omega) (by omega)).mpr h))
              exfalso; omega
          have hA_25 : md_u ((va_up ((va_up (mfA A (40 * (1 - ed))) 2 (shf ((mfA A (40 * (1 - ed))) 2) (40 * (1 - ed) + 0) ((mfA A (40 * (1 - ed))) 1 (1 - ed) - 1 - 0)))) 3 (mgo ((mfA A (40 * (1 - ed))) 2) ((mfA A (40 * (1 - ed))) 3) (40 * (1 - ed) + 0) ((mfA A (40 * (1 - ed))) 1 (1 - ed) - 1 - 0)))) 1 ((1 - ed)) ((mfA A (40 * (1 - ed))) 1 (1 - ed) - 1) = mtk A ed := by unfold mtk; rw [mfA_o _ _ (j := 1) (by decide) (by decide), mfA_o _ _ (j := 2) (by decide) (by decide), mfA_o _ _ (j := 3) (by decide) (by decide)]; rfl
          rw [hA_25] at hm
          refine lv_aload_n hx hb dX7_take_64 rfl (lv_at hl 1 rfl) ?_
          refine mw_get (C := RX7) (T := TX7) (N := 27) (v := .ref (a 18)) hx hb hts inX7_take_X7 hown hC hw hm.1 rfl 18 (by decide) k_7 rfl dX7_take_65 ?_
          refine lv_iload_n hx hb dX7_take_68 rfl (lv_at hl 2 rfl) ?_
          refine lv_dup2_11 hx hb dX7_take_69 rfl rfl ?_
          refine md_ald 18 (n := 2) hx hb hC hw hm rfl (by decide) rfl (by omega) (by decide) dX7_take_70 ?_
          refine mw_ti (v' := nI (A 18 ed)) (congrArg nI (congrFun (mtk_o A ed (by decide)) _)) ?_
          refine lv_iconst (v := nI 1) hx hb dX7_take_71 (by decide) ?_
          refine lv_iadd hx hb dX7_take_72 ?_
          refine mw_ti (v' := nI (A 18 ed + 1)) (nI_add _ _) ?_
          refine md_ast 18 (n := 2) (v := A 18 ed + 1) hx hb hC hw hm rfl (by decide) rfl (by omega) (by decide) dX7_take_73 (fun M1 H locs hm hf1 hw => ?_)
          have hf := hf.tr hf1
          refine lv_aload_n hx hb dX7_take_74 rfl (lv_at hl 1 rfl) ?_
          refine mw_get (C := RX7) (T := TX7) (N := 27) (v := .ref (a 18)) hx hb hts inX7_take_X7 hown hC hw hm.1 rfl 18 (by decide) k_7 rfl dX7_take_75 ?_
          refine lv_iload_n hx hb dX7_take_78 rfl (lv_at hl 2 rfl) ?_
          refine md_ald 18 (n := 2) hx hb hC hw hm rfl (by decide) rfl (by omega) (by decide) dX7_take_79 ?_
          refine mw_ti (v' := nI (A 18 ed + 1)) (congrArg nI md_u_s) ?_
          refine lv_sipush (v := nI 256) hx hb dX7_take_80 (by decide) ?_
          refine lv_irem hx hb dX7_take_83 (by decide) ?_
          refine mw_ti (v' := nI ((A 18 ed + 1) % 256)) (pk_rem (by omega) (by omega) (by omega)) ?_
          refine lv_if_ne (tgt := 106) hx hb dX7_take_84 (by decide) (fun c_26 => ?_) (fun c_26 => ?_)
          · skip
            have c_26 : (A 18 ed + 1) % 256 ≠ 0 := fun h => c_26 ((nI_eq (a := (A 18 ed + 1) % 256) (b := 0) (by omega) (by omega)).mpr h)
            have hA_27 : md_u (mtk A ed) 18 ed (A 18 ed + 1) = md_u ((md_u (mtk A ed) 18 ed (A 18 ed + 1))) 17 ed (lk (A 17 ed) (A 18 ed)) := by rw [show lk (A 17 ed) (A 18 ed) = A 17 ed by unfold lk; rw [if_neg (by omega)]]; exact md_ui ((md_u_k (by decide)).trans (congrFun (mtk_o A ed (by decide)) _))
            rw [hA_27] at hm
            exact jn_5     _ _ _ ls hm hf hw (lv_sub hl [1, 2, 0] rfl)
          · skip
            have c_26 : (A 18 ed + 1) % 256 = 0 := (nI_eq (a := (A 18 ed + 1) % 256) (b := 0) (by omega) (by omega)).mp c_26
            refine lv_aload_n hx hb dX7_take_87 rfl (lv_at hl 1 rfl) ?_
            refine mw_get (C := RX7) (T := TX7) (N := 27) (v := .ref (a 17)) hx hb hts inX7_take_X7 hown hC hw hm.1 rfl 17 (by decide) k_8 rfl dX7_take_88 ?_
            refine lv_iload_n hx hb dX7_take_91 rfl (lv_at hl 2 rfl) ?_
            refine md_ald 17 (n := 2) hx hb hC hw hm rfl (by decide) rfl (by omega) (by decide) dX7_take_92 ?_
            refine mw_ti (v' := nI (A 17 ed)) (congrArg nI ((md_u_k (by decide)).trans (congrFun (mtk_o A ed (by decide)) _))) ?_
            refine lv_if_le (tgt := 106) hx hb dX7_take_93 (by decide) (fun c_28 => ?_) (fun c_28 => ?_)
            · skip
              have c_28 : A 17 ed ≤ 0 := (nI_leI (a := A 17 ed) (b := 0) (by omega) (by omega)).mp c_28
              have hA_29 : md_u (mtk A ed) 18 ed (A 18 ed + 1) = md_u ((md_u (mtk A ed) 18 ed (A 18 ed + 1))) 17 ed (lk (A 17 ed) (A 18 ed)) := by rw [show lk (A 17 ed) (A 18 ed) = A 17 ed by unfold lk; rw [if_neg (by omega)]]; exact md_ui ((md_u_k (by decide)).trans (congrFun (mtk_o A ed (by decide)) _))
              rw [hA_29] at hm
              exact jn_5     _ _ _ ls hm hf hw (lv_sub hl [1, 2, 0] rfl)
            · skip
              have c_28 : A 17 ed > 0 := Nat.not_le.mp (fun h => c_28 ((nI_leI (a := A 17 ed) (b := 0) (by omega) (by omega)).mpr h))
              refine lv_aload_n hx hb dX7_take_96 rfl (lv_at hl 1 rfl) ?_
              refine mw_get (C := RX7) (T := TX7) (N := 27) (v := .ref (a 17)) hx hb hts inX7_take_X7 hown hC hw hm.1 rfl 17 (by decide) k_8 rfl dX7_take_97 ?_
              refine lv_iload_n hx hb dX7_take_100 rfl (lv_at hl 2 rfl) ?_
              refine lv_dup2_11 hx hb dX7_take_101 rfl rfl ?_
              refine md_ald 17 (n := 2) hx hb hC hw hm rfl (by decide) rfl (by omega) (by decide) dX7_take_102 ?_
              refine mw_ti (v' := nI (A 17 ed)) (congrArg nI ((md_u_k (by decide)).trans (congrFun (mtk_o A ed (by decide)) _))) ?_
              refine lv_iconst (v := nI 1) hx hb dX7_take_103 (by decide) ?_
              refine lv_isub hx hb dX7_take_104 ?_
              refine mw_ti (v' := nI (A 17 ed - 1)) (pk_sub (by omega)) ?_
              refine md_ast 17 (n := 2) (v := A 17 ed - 1) hx hb hC hw hm rfl (by decide) rfl (by omega) (by decide) dX7_take_105 (fun M1 H locs hm hf1 hw => ?_)
              have hf := hf.tr hf1
              have hA_30 : md_u ((md_u (mtk A ed) 18 ed (A 18 ed + 1))) 17 ed (A 17 ed - 1) = md_u ((md_u (mtk A ed) 18 ed (A 18 ed + 1))) 17 ed (lk (A 17 ed) (A 18 ed)) := by rw [show lk (A 17 ed) (A 18 ed) = A 17 ed - 1 by unfold lk; rw [if_pos (by omega)]]
              rw [hA_30] at hm
              exact jn_5     _ _ _ ls hm hf hw (lv_sub hl [1, 2, 0] rfl)
        · skip
          exact absurd c_4 (by decide)
      · skip
        have c_3 : A 20 ed ≠ 0 := fun h => c_3 ((nI_eq (a := A 20 ed) (b := 0) (by omega) (by omega)).mpr h)
        exfalso; omega
  · skip
    exact absurd c_1 (by decide)
def RM_X7_take_ok : Room := { frames := 3, cells := 0, slots := 0, locals := 74 }
set_option maxHeartbeats 4000000 in
set_option maxRecDepth 100000 in
theorem c_X7_take_ok (l : Launch) (G : mw_G) (M : mw_M) (sz : Nat) (h0 : Nat) (a : Nat → Nat) (c u : Nat) (A : md_S) (ed : Nat) (hm : md_at G M h0 a c u A) (hed : ed ≤ 1) (h1_ : 0 < A 1 (1 - ed)) (h1b : A 1 (1 - ed) ≤ 40) (h20 : A 20 ed = 0) (hq : ∀ j, j < 80 → A 2 j ≤ 3000) (hbits : ∀ i, i < A 2 (40 * (1 - ed)) → A 3 (3000 * (40 * (1 - ed)) + i) ≤ 1) (hug : ∀ i, i < 280 → A 24 i < 256) (h17 : A 17 ed ≤ 64) (h18 : A 18 ed < 100000) (hft : mft A (40 * (1 - ed)) = 0) (h12 : A 12 ed ≤ 127) (h13 : ∀ i, i < 254 → A 13 i < 128) (h8 : A 8 ed < 128) (h19 : A 19 ed < 8) (hab : 0 < tl A ed ((mtk A ed) 24 0 % 128) (A 12 ed)) (h16 : A 16 ed ≤ A 12 ed) (h4 : A 4 ed ≤ 1) (h5 : A 5 ed ≤ 1) (h7 : A 7 ed < 128) (ht : A 21 ed < 100000) (hu : u ≤ 277) : Met l yX7_take wsX7_take RM_X7_take_ok (mw_pre G M sz [.ref (h0), .int (nI (ed))]) (md_Qi G M sz h0 a (nI (fwr (mto A ed (tl A ed ((mtk A ed) 24 0 % 128) (A 12 ed) - 1)) ed (mfu A (40 * (1 - ed)) u))) 0 (mfu A (40 * (1 - ed)) u) (fwA (mto A ed (tl A ed ((mtk A ed) 24 0 % 128) (A 12 ed) - 1)) ed (mfu A (40 * (1 - ed)) u))) 0 0 (mw_A M sz) := by
  refine Met.ofW (cc := cX7_take) (maxL := 6) (ret := (some .int)) (by decide) rfl ?_
  intro p e s m args below meth c0 s₁ B hml hv
  obtain ⟨rfl, rfl, hC, hw⟩ := mw_in hv
  have hx := B.exec
  have hb := B.bytes
  have hr := B.returns
  have hts := atoms_spec (ws := wsX7_take) B.pre
  have hown : s.vm.findClass RX7 = some m.cls := findClass_of_methodNamed B.named
  have hlocks := B.notSynchronized
  have hf : md_fr h0 a M M := md_fr.rf
  have k_0 := hts (.fieldLink RX7 7 "LinkPairModel" "frames" "[I") (by decide +kernel)
  have k_1 := hts (.fieldLink RX7 68 "LinkPairModel" "failed" "[Z") (by decide +kernel)
  have k_2 := hts (.fieldLink RX7 44 "LinkPairModel" "open" "[I") (by decide +kernel)
  have k_3 := hts (.fieldLink RX7 65 "LinkPairModel" "abnormal" "[I") (by decide +kernel)
  have k_4 := hts (.fieldLink RX7 56 "LinkPairModel" "again" "[I") (by decide +kernel)
  have k_5 := hts (.fieldLink RX7 32 "LinkPairModel" "toldLatest" "[I") (by decide +kernel)
  have k_6 := hts (.fieldLink RX7 81 "LinkPairModel" "unit" "[I") (by decide +kernel)
  have k_7 := hts (.fieldLink RX7 20 "LinkPairModel" "fib" "[I") (by decide +kernel)
  have k_8 := hts (.fieldLink RX7 47 "LinkPairModel" "openNumber" "[I") (by decide +kernel)
  have k_9 := hts (.fieldLink RX7 50 "LinkPairModel" "openLength" "[I") (by decide +kernel)
  have k_10 := hts (.fieldLink RX7 53 "LinkPairModel" "openSeed" "[I") (by decide +kernel)
  have k_11 := hts (.fieldLink RX7 62 "LinkPairModel" "units" "[I") (by decide +kernel)
  have k_12 := hts (.fieldLink RX7 59 "LinkPairModel" "errors" "[I") (by decide +kernel)
  have hl := lv_entry ([.ref (h0), .int (nI (ed))]) (n := 6) (Nat.le_of_ble_eq_true rfl)
  rw [lg_entry_eq]
  generalize (lg_sl ([.ref (h0), .int (nI (ed))]) ++ List.replicate (6 - (lg_sl ([.ref (h0), .int (nI (ed))])).length) Slot.unset).toArray = ls at hl ⊢
  have hl : lv_has ls 6 [(0, .ref (h0)), (1, .int (nI (ed)))] := hl
  refine mw_start (fun H locs hw => ?_) hw
  have hu0 : (mtk A ed) 24 0 < 256 := by rw [mtk_24]; exact mfA_24 hug hbits 0 (by decide)
  have htl_ := tl_le A ed ((mtk A ed) 24 0 % 128) (A 12 ed)
  have hul : mfu A (40 * (1 - ed)) u ≤ 277 := mfu_le hu
  refine lv_aload_n hx hb dX7_take_0 rfl (lv_at hl 0 rfl) ?_
  refine lv_iload_n hx hb dX7_take_1 rfl (lv_at hl 1 rfl) ?_
  refine mw_ci hC hw (va_runS (As := [.int (nI (ed))]) (rest := [.ref (h0)]) ⟨hx, hb, hml, hown, hts⟩ (c_X7_isEnd l G _ H.size ed  (by omega)) (cwS 1 hts gX7_take_X7_isEnd rfl rfl rfl (by decide +kernel) ⟨Nat.le_of_ble_eq_true rfl, Nat.le_of_ble_eq_true rfl⟩) (mw_preS hC hw) rfl rfl hl.1 rfl (lv_room (Nat.le_of_ble_eq_true rfl)) dX7_take_2 ⟨Nat.le_of_ble_eq_true rfl, Nat.le_of_ble_eq_true rfl⟩) (fun H locs hz hw => ?_)
  refine lv_if_ne (tgt := 12) hx hb dX7_take_5 (by decide) (fun c_1 => ?_) (fun c_1 => ?_)
  · skip
    refine lv_aload_n hx hb dX7_take_12 rfl (lv_at hl 0 rfl) ?_
    refine mw_get (C := RX7) (T := TX7) (N := 27) (v := .ref (a 1)) hx hb hts inX7_take_X7 hown hC hw hm.1 rfl 1 (by decide) k_0 rfl dX7_take_13 ?_
    refine lv_iconst (v := nI 1) hx hb dX7_take_16 (by decide) ?_
    refine lv_iload_n hx hb dX7_take_17 rfl (lv_at hl 1 rfl) ?_
    refine lv_isub hx hb dX7_take_18 ?_
    refine mw_ti (v' := nI (1 - ed)) (pk_sub (by omega)) ?_
    refine md_ald 1 (n := 2) hx hb hC hw hm rfl (by decide) rfl (by omega) (by decide) dX7_take_19 ?_
    refine lv_if_eq (tgt := 32) hx hb dX7_take_20 (by decide) (fun c_2 => ?_) (fun c_2 => ?_)
    · skip
      have c_2 : A 1 (1 - ed) = 0 := (nI_eq (a := A 1 (1 - ed)) (b := 0) (by omega) (by omega)).mp c_2
      exfalso; omega
    · skip
      have c_2 : A 1 (1 - ed) ≠ 0 := fun h => c_2 ((nI_eq (a := A 1 (1 - ed)) (b := 0) (by omega) (by omega)).mpr h)
      refine lv_aload_n hx hb dX7_take_23 rfl (lv_at hl 0 rfl) ?_
      refine mw_get (C := RX7) (T := TX7) (N := 27) (v := .ref (a 20)) hx hb hts inX7_take_X7 hown hC hw hm.1 rfl 20 (by decide) k_1 rfl dX7_take_24 ?_
      refine lv_iload_n hx hb dX7_take_27 rfl (lv_at hl 1 rfl) ?_
      refine md_zld 20 (n := 2) hx hb hC hw hm rfl (by decide) rfl (by omega) (by decide) dX7_take_28 ?_
      refine lv_if_eq (tgt := 36) hx hb dX7_take_29 (by decide) (fun c_3 => ?_) (fun c_3 => ?_)
      · skip
        have c_3 : A 20 ed = 0 := (nI_eq (a := A 20 ed) (b := 0) (by omega) (by omega)).mp c_3
        refine lv_iconst (v := nI 0) hx hb dX7_take_36 (by decide) ?_
        refine md_ci hC hw (va_runV (As := [.int (nI (0))]) (rest := []) ⟨hx, hb, hml, hown, hts⟩ (c_X7_refuses l G _ H.size h0 a c u A 0 hm (by omega)) (cwV 1 hts gX7_take_X7_refuses rfl rfl rfl (by decide +kernel) ⟨Nat.le_of_ble_eq_true rfl, Nat.le_of_ble_eq_true rfl⟩) (mw_preV (ci := 7) hC hw rfl hm.1) rfl rfl hl.1 rfl (lv_room (Nat.le_of_ble_eq_true rfl)) dX7_take_37 ⟨Nat.le_of_ble_eq_true rfl, Nat.le_of_ble_eq_true rfl⟩) (fun M1 H locs hm hf1 hw => ?_)
        have hf := hf.tr hf1
        refine mw_ti (v' := nI (0)) rfl ?_
        refine lv_if_eq (tgt := 45) hx hb dX7_take_40 (by decide) (fun c_4 => ?_) (fun c_4 => ?_)
        · skip
          refine lv_aload_n hx hb dX7_take_45 rfl (lv_at hl 0 rfl) ?_
          refine lv_bipush (v := nI 40) hx hb dX7_take_46 (by decide) ?_
          refine lv_iconst (v := nI 1) hx hb dX7_take_48 (by decide) ?_
          refine lv_iload_n hx hb dX7_take_49 rfl (lv_at hl 1 rfl) ?_
          refine lv_isub hx hb dX7_take_50 ?_
          refine mw_ti (v' := nI (1 - ed)) (pk_sub (by omega)) ?_
          refine lv_imul hx hb dX7_take_51 ?_
          refine mw_ti (v' := nI (40 * (1 - ed))) (pk_mul _ _) ?_
          refine md_ci hC hw (va_runV (As := [.int (nI (40 * (1 - ed)))]) (rest := []) ⟨hx, hb, hml, hown, hts⟩ (c_X7_fault l G _ H.size h0 a 0 u A (40 * (1 - ed)) hm (by omega) (hq _ (by omega)) (hbits) (hug)) (cwV 1 hts gX7_take_X7_fault rfl rfl rfl (by decide +kernel) ⟨Nat.le_of_ble_eq_true rfl, Nat.le_of_ble_eq_true rfl⟩) (mw_preV (ci := 7) hC hw rfl hm.1) rfl rfl hl.1 rfl (lv_room (Nat.le_of_ble_eq_true rfl)) dX7_take_52 ⟨Nat.le_of_ble_eq_true rfl, Nat.le_of_ble_eq_true rfl⟩) (fun M1 H locs hm hf1 hw => ?_)
          have hf := hf.tr hf1
          refine lv_istore_n (lv' := [(2, .int (nI (mft A (40 * (1 - ed))))), (0, .ref (h0)), (1, .int (nI (ed)))]) hx hb dX7_take_55 rfl hl (by decide) rfl (fun ls hl => ?_)
          refine lv_aload_n hx hb dX7_take_56 rfl (lv_at hl 1 rfl) ?_
          refine lv_iconst (v := nI 1) hx hb dX7_take_57 (by decide) ?_
          refine lv_iload_n hx hb dX7_take_58 rfl (lv_at hl 2 rfl) ?_
          refine lv_isub hx hb dX7_take_59 ?_
          refine mw_ti (v' := nI (1 - ed)) (pk_sub (by omega)) ?_
          refine lv_iconst (v := nI 0) hx hb dX7_take_60 (by decide) ?_
          refine md_cv hC hw (va_runV (As := [.int (nI (1 - ed)), .int (nI (0))]) (rest := []) ⟨hx, hb, hml, hown, hts⟩ (c_X7_goes l G _ H.size h0 a 0 (mfu A (40 * (1 - ed)) u) (mfA A (40 * (1 - ed))) (1 - ed) 0 hm (by omega) (by rw [mfA_o _ _ (j := 1) (by decide) (by decide)]; omega) (by rw [mfA_o _ _ (j := 1) (by decide) (by decide)]; omega) (by rw [mfA_o _ _ (j := 2) (by decide) (by decide)]; exact hq)) (cwV 2 hts gX7_take_X7_goes rfl rfl rfl (by decide +kernel) ⟨Nat.le_of_ble_eq_true rfl, Nat.le_of_ble_eq_true rfl⟩) (mw_preV (ci := 7) hC hw rfl hm.1) rfl rfl hl.1 rfl (lv_room (Nat.le_of_ble_eq_true rfl)) dX7_take_61 ⟨Nat.le_of_ble_eq_true rfl, Nat.le_of_ble_eq_true rfl⟩) (fun M1 H locs hm hf1 hw => ?_)
          have hf := hf.tr hf1
          have jn_5 : ∀ (M1 : mw_M) (H : Heap) (locs : List Loc) (ls : Array Slot), md_at G M1 h0 a 0 (mfu A (40 * (1 - ed)) u) (md_u ((md_u (mtk A ed) 18 ed (A 18 ed + 1))) 17 ed (lk (A 17 ed) (A 18 ed))) → md_fr h0 a M M1 → mw_St G (mw_A M s.heap.size) s M1 H locs → lv_has ls 6 [(0, .ref (h0)), (1, .int (nI (ed))), (2, .int (nI (mft A (40 * (1 - ed)))))] → W p l e (headSpec wsX7_take RM_X7_take_ok).room s m ([.ref (h0), .int (nI (ed))] : List Value).toArray below meth c0 H locs 0 0 (MQ below (md_Qi G M s.heap.size h0 a (nI (fwr (mto A ed (tl A ed ((mtk A ed) 24 0 % 128) (A 12 ed) - 1)) ed (mfu A (40 * (1 - ed)) u))) 0 (mfu A (40 * (1 - ed)) u) (fwA (mto A ed (tl A ed ((mtk A ed) 24 0 % 128) (A 12 ed) - 1)) ed (mfu A (40 * (1 - ed)) u))) ([.ref (h0), .int (nI (ed))] : List Value).toArray s 0 0 (mw_A M s.heap.size)) (F0 m 106 ls []) := by
            intro  M1 H locs ls hm hf hw hl
            have hlk : lk (A 17 ed) (A 18 ed) ≤ 64 := by unfold lk; split <;> omega
            refine lv_iload_n hx hb dX7_take_106 rfl (lv_at hl 2 rfl) ?_
            refine lv_if_le (tgt := 161) hx hb dX7_take_107 (by decide) (fun c_6 => ?_) (fun c_6 => ?_)
            · skip
              have c_6 : mft A (40 * (1 - ed)) ≤ 0 := (nI_leI (a := mft A (40 * (1 - ed))) (b := 0) (by omega) (by omega)).mp c_6
              have jn_7 : ∀ (M1 : mw_M) (H : Heap) (locs : List Loc) (ls : Array Slot), md_at G M1 h0 a 0 (mfu A (40 * (1 - ed)) u) (md_u ((md_u (mtk A ed) 18 ed (A 18 ed + 1))) 17 ed (lk (A 17 ed) (A 18 ed))) → md_fr h0 a M M1 → mw_St G (mw_A M s.heap.size) s M1 H locs → lv_has ls 6 [(0, .ref (h0)), (1, .int (nI (ed))), (3, .int (nI ((mtk A ed) 24 0 % 128))), (4, .int (tlv (tl A ed ((mtk A ed) 24 0 % 128) 0)))] → W p l e (headSpec wsX7_take RM_X7_take_ok).room s m ([.ref (h0), .int (nI (ed))] : List Value).toArray below meth c0 H locs 0 0 (MQ below (md_Qi G M s.heap.size h0 a (nI (fwr (mto A ed (tl A ed ((mtk A ed) 24 0 % 128) (A 12 ed) - 1)) ed (mfu A (40 * (1 - ed)) u))) 0 (mfu A (40 * (1 - ed)) u) (fwA (mto A ed (tl A ed ((mtk A ed) 24 0 % 128) (A 12 ed) - 1)) ed (mfu A (40 * (1 - ed)) u))) ([.ref (h0), .int (nI (ed))] : List Value).toArray s 0 0 (mw_A M s.heap.size)) (F0 m 188 ls []) := by
                intro  M1 H locs ls hm hf hw hl
                refine lv_iconst (v := nI 0) hx hb dX7_take_188 (by decide) ?_
                refine lv_istore (lv' := [(5, .int (nI (0))), (0, .ref (h0)), (1, .int (nI (ed))), (3, .int (nI ((mtk A ed) 24 0 % 128))), (4, .int (tlv (tl A ed ((mtk A ed) 24 0 % 128) 0)))]) hx hb dX7_take_189 hl (by decide) rfl (fun ls hl => ?_)
                have lp_8 : ∀ (n9 : Nat) (k : Nat), (hk : k ≤ A 12 ed) → A 12 ed - k < n9 → ∀ (M1 : mw_M) (H : Heap) (locs : List Loc) (ls : Array Slot), md_at G M1 h0 a 0 (mfu A (40 * (1 - ed)) u) (md_u ((md_u (mtk A ed) 18 ed (A 18 ed + 1))) 17 ed (lk (A 17 ed) (A 18 ed))) → md_fr h0 a M M1 → mw_St G (mw_A M s.heap.size) s M1 H locs → lv_has ls 6 [(0, .ref (h0)), (1, .int (nI (ed))), (3, .int (nI ((mtk A ed) 24 0 % 128))), (4, .int (tlv (tl A ed ((mtk A ed) 24 0 % 128) k))), (5, .int (nI (k)))] → W p l e (headSpec wsX7_take RM_X7_take_ok).room s m ([.ref (h0), .int (nI (ed))] : List Value).toArray below meth c0 H locs 0 0 (MQ below (md_Qi G M s.heap.size h0 a (nI (fwr (mto A ed (tl A ed ((mtk A ed) 24 0 % 128) (A 12 ed) - 1)) ed (mfu A (40 * (1 - ed)) u))) 0 (mfu A (40 * (1 - ed)) u) (fwA (mto A ed (tl A ed ((mtk A ed) 24 0 % 128) (A 12 ed) - 1)) ed (mfu A (40 * (1 - ed)) u))) ([.ref (h0), .int (nI (ed))] : List Value).toArray s 0 0 (mw_A M s.heap.size)) (F0 m 191 ls []) := by
                  intro n9
                  induction n9 with
                  | zero => intro k hk h9; exact absurd h9 (Nat.not_lt_zero _)
                  | succ n9 ih =>
                    intro k hk h9 M1 H locs ls hm hf hw hl
                    refine lv_iload hx hb dX7_take_191 (lv_at hl 4 rfl) ?_
                    refine lv_aload_n hx hb dX7_take_193 rfl (lv_at hl 0 rfl) ?_
                    refine mw_get (C := RX7) (T := TX7) (N := 27) (v := .ref (a 12)) hx hb hts inX7_take_X7 hown hC hw hm.1 rfl 12 (by decide) k_2 rfl dX7_take_194 ?_
                    refine lv_iload_n hx hb dX7_take_197 rfl (lv_at hl 1 rfl) ?_
                    refine md_ald 12 (n := 2) hx hb hC hw hm rfl (by decide) rfl (by omega) (by decide) dX7_take_198 ?_
                    refine mw_ti (v' := nI (A 12 ed)) (congrArg nI ((md_u_k (by decide)).trans ((md_u_k (by decide)).trans (congrFun (mtk_o A ed (by decide)) _)))) ?_
                    refine lv_icmp_ge (tgt := 235) hx hb dX7_take_199 (by decide) (fun c_9 => ?_) (fun c_9 => ?_)
                    · skip
                      have c_9 : k ≥ A 12 ed := (nI_leI (a := A 12 ed) (b := k) (by omega) (by omega)).mp c_9
                      obtain rfl : k = A 12 ed := by omega
                      have htl := tl_le A ed ((mtk A ed) 24 0 % 128) (A 12 ed)
                      refine lv_aload_n hx hb dX7_take_235 rfl (lv_at hl 0 rfl) ?_
                      refine mw_get (C := RX7) (T := TX7) (N := 27) (v := .ref (a 19)) hx hb hts inX7_take_X7 hown hC hw hm.1 rfl 19 (by decide) k_3 rfl dX7_take_236 ?_
                      refine lv_iload_n hx hb dX7_take_239 rfl (lv_at hl 1 rfl) ?_
                      refine lv_aload_n hx hb dX7_take_240 rfl (lv_at hl 0 rfl) ?_
                      refine mw_get (C := RX7) (T := TX7) (N := 27) (v := .ref (a 19)) hx hb hts inX7_take_X7 hown hC hw hm.1 rfl 19 (by decide) k_3 rfl dX7_take_241 ?_
                      refine lv_iload_n hx hb dX7_take_244 rfl (lv_at hl 1 rfl) ?_
                      refine md_ald 19 (n := 2) hx hb hC hw hm rfl (by decide) rfl (by omega) (by decide) dX7_take_245 ?_
                      refine mw_ti (v' := nI (A 19 ed)) (congrArg nI ((md_u_k (by decide)).trans ((md_u_k (by decide)).trans (congrFun (mtk_o A ed (by decide)) _)))) ?_
                      refine lv_iconst (v := nI 1) hx hb dX7_take_246 (by decide) ?_
                      refine lv_ishl hx hb dX7_take_247 ?_
                      refine mw_ti (v' := nI (A 19 ed * 2)) (ab_shl _ h19) ?_
                      refine lv_bipush (v := nI 7) hx hb dX7_take_248 (by decide) ?_
                      refine lv_iand hx hb dX7_take_250 ?_
                      refine mw_ti (v' := nI ((A 19 ed * 2) % 8)) (pk_andN (by omega) 3 (by decide)) ?_
                      refine lv_iload hx hb dX7_take_251 (lv_at hl 3 rfl) ?_
                      refine lv_iconst (v := -1) hx hb dX7_take_253 (by decide) ?_
                      refine lv_icmp_ne (tgt := 261) hx hb dX7_take_254 (by decide) (fun c_10 => ?_) (fun c_10 => ?_)
                      · skip
                        refine lv_iconst (v := nI 0) hx hb dX7_take_261 (by decide) ?_
                        refine lv_ior hx hb dX7_take_262 ?_
                        refine mw_ti (v' := nI (A 19 ed * 2 % 8)) (ab_or0 _ h19) ?_
                        refine md_ast 19 (n := 2) (v := A 19 ed * 2 % 8) hx hb hC hw hm rfl (by decide) rfl (by omega) (by decide) dX7_take_263 (fun M1 H locs hm hf1 hw => ?_)
                        have hf := hf.tr hf1
                        refine lv_iload hx hb dX7_take_264 (lv_at hl 3 rfl) ?_
                        refine lv_iconst (v := -1) hx hb dX7_take_266 (by decide) ?_
                        refine lv_icmp_ne (tgt := 311) hx hb dX7_take_267 (by decide) (fun c_11 => ?_) (fun c_11 => ?_)
                        · skip
                          refine lv_iconst (v := nI 0) hx hb dX7_take_311 (by decide) ?_
                          refine lv_istore (lv' := [(5, .int (nI (0))), (0, .ref (h0)), (1, .int (nI (ed))), (3, .int (nI ((mtk A ed) 24 0 % 128))), (4, .int (tlv (tl A ed ((mtk A ed) 24 0 % 128) (A 12 ed))))]) hx hb dX7_take_312 hl (by decide) rfl (fun ls hl => ?_)
                          have lp_12 : ∀ (n9 : Nat) (k : Nat), (hk : k ≤ A 12 ed - (tl A ed ((mtk A ed) 24 0 % 128) (A 12 ed) - 1)) → A 12 ed - k < n9 → ∀ (M1 : mw_M) (H : Heap) (locs : List Loc) (ls : Array Slot), md_at G M1 h0 a 0 (mfu A (40 * (1 - ed)) u) (va_up ((va_up ((va_up ((md_u ((md_u ((md_u (mtk A ed) 18 ed (A 18 ed + 1))) 17 ed (lk (A 17 ed) (A 18 ed)))) 19 ed (A 19 ed * 2 % 8))) 13 (sht (A 13) (127 * ed) (tl A ed ((mtk A ed) 24 0 % 128) (A 12 ed) - 1) k))) 14 (sht (A 14) (127 * ed) (tl A ed ((mtk A ed) 24 0 % 128) (A 12 ed) - 1) k))) 15 (sht (A 15) (127 * ed) (tl A ed ((mtk A ed) 24 0 % 128) (A 12 ed) - 1) k)) → md_fr h0 a M M1 → mw_St G (mw_A M s.heap.size) s M1 H locs → lv_has ls 6 [(0, .ref (h0)), (1, .int (nI (ed))), (3, .int (nI ((mtk A ed) 24 0 % 128))), (4, .int (nI (tl A ed ((mtk A ed) 24 0 % 128) (A 12 ed) - 1))), (5, .int (nI (k)))] → W p l e (headSpec wsX7_take RM_X7_take_ok).room s m ([.ref (h0), .int (nI (ed))] : List Value).toArray below meth c0 H locs 0 0 (MQ below (md_Qi G M s.heap.size h0 a (nI (fwr (mto A ed (tl A ed ((mtk A ed) 24 0 % 128) (A 12 ed) - 1)) ed (mfu A (40 * (1 - ed)) u))) 0 (mfu A (40 * (1 - ed)) u) (fwA (mto A ed (tl A ed ((mtk A ed) 24 0 % 128) (A 12 ed) - 1)) ed (mfu A (40 * (1 - ed)) u))) ([.ref (h0), .int (nI (ed))] : List Value).toArray s 0 0 (mw_A M s.heap.size)) (F0 m 314 ls []) := by
                            intro n9
                            induction n9 with
                            | zero => intro k hk h9; exact absurd h9 (Nat.not_lt_zero _)
                            | succ n9 ih314 =>
                              intro k hk h9 M1 H locs ls hm hf hw hl
                              refine lv_iload hx hb dX7_take_314 (lv_at hl 4 rfl) ?_
                              refine lv_iload hx hb dX7_take_316 (lv_at hl 3 rfl) ?_
                              refine lv_iadd hx hb dX7_take_318 ?_
                              refine mw_ti (v' := nI (k + (tl A ed ((mtk A ed) 24 0 % 128) (A 12 ed) - 1))) (nI_add _ _) ?_
                              refine lv_aload_n hx hb dX7_take_319 rfl (lv_at hl 0 rfl) ?_
                              refine mw_get (C := RX7) (T := TX7) (N := 27) (v := .ref (a 12)) hx hb hts inX7_take_X7 hown hC hw hm.1 rfl 12 (by decide) k_2 rfl dX7_take_320 ?_
                              refine lv_iload_n hx hb dX7_take_323 rfl (lv_at hl 1 rfl) ?_
                              refine md_ald 12 (n := 2) hx hb hC hw hm rfl (by decide) rfl (by omega) (by decide) dX7_take_324 ?_
                              refine mw_ti (v' := nI (A 12 ed)) (congrArg nI ((md_w_k (by decide)).trans ((md_w_k (by decide)).trans ((md_w_k (by decide)).trans ((md_u_k (by decide)).trans ((md_u_k (by decide)).trans ((md_u_k (by decide)).trans (congrFun (mtk_o A ed (by decide)) _)))))))) ?_
                              refine lv_icmp_ge (tgt := 415) hx hb dX7_take_325 (by decide) (fun c_13 => ?_) (fun c_13 => ?_)
                              · skip
                                have c_13 : k + (tl A ed ((mtk A ed) 24 0 % 128) (A 12 ed) - 1) ≥ A 12 ed := (nI_leI (a := A 12 ed) (b := k + (tl A ed ((mtk A ed) 24 0 % 128) (A 12 ed) - 1)) (by omega) (by omega)).mp c_13
                                obtain rfl : k = A 12 ed - (tl A ed ((mtk A ed) 24 0 % 128) (A 12 ed) - 1) := by omega
                                refine lv_aload_n hx hb dX7_take_415 rfl (lv_at hl 0 rfl) ?_
                                refine mw_get (C := RX7) (T := TX7) (N := 27) (v := .ref (a 12)) hx hb hts inX7_take_X7 hown hC hw hm.1 rfl 12 (by decide) k_2 rfl dX7_take_416 ?_
                                refine lv_iload_n hx hb dX7_take_419 rfl (lv_at hl 1 rfl) ?_
                                refine lv_dup2_11 hx hb dX7_take_420 rfl rfl ?_
                                refine md_ald 12 (n := 2) hx hb hC hw hm rfl (by decide) rfl (by omega) (by decide) dX7_take_421 ?_
                                refine mw_ti (v' := nI (A 12 ed)) (congrArg nI ((md_w_k (by decide)).trans ((md_w_k (by decide)).trans ((md_w_k (by decide)).trans ((md_u_k (by decide)).trans ((md_u_k (by decide)).trans ((md_u_k (by decide)).trans (congrFun (mtk_o A ed (by decide)) _)))))))) ?_
                                refine lv_iload hx hb dX7_take_422 (lv_at hl 3 rfl) ?_
                                refine lv_isub hx hb dX7_take_424 ?_
                                refine mw_ti (v' := nI (A 12 ed - (tl A ed ((mtk A ed) 24 0 % 128) (A 12 ed) - 1))) (pk_sub (by omega)) ?_
                                refine md_ast 12 (n := 2) (v := A 12 ed - (tl A ed ((mtk A ed) 24 0 % 128) (A 12 ed) - 1)) hx hb hC hw hm rfl (by decide) rfl (by omega) (by decide) dX7_take_425 (fun M1 H locs hm hf1 hw => ?_)
                                have hf := hf.tr hf1
                                refine lv_aload_n hx hb dX7_take_426 rfl (lv_at hl 0 rfl) ?_
                                refine mw_get (C := RX7) (T := TX7) (N := 27) (v := .ref (a 16)) hx hb hts inX7_take_X7 hown hC hw hm.1 rfl 16 (by decide) k_4 rfl dX7_take_427 ?_
                                refine lv_iload_n hx hb dX7_take_430 rfl (lv_at hl 1 rfl) ?_
                                refine lv_aload_n hx hb dX7_take_431 rfl (lv_at hl 0 rfl) ?_
                                refine mw_get (C := RX7) (T := TX7) (N := 27) (v := .ref (a 16)) hx hb hts inX7_take_X7 hown hC hw hm.1 rfl 16 (by decide) k_4 rfl dX7_take_432 ?_
                                refine lv_iload_n hx hb dX7_take_435 rfl (lv_at hl 1 rfl) ?_
                                refine md_ald 16 (n := 2) hx hb hC hw hm rfl (by decide) rfl (by omega) (by decide) dX7_take_436 ?_
                                refine mw_ti (v' := nI (A 16 ed)) (congrArg nI ((md_u_k (by decide)).trans ((md_w_k (by decide)).trans ((md_w_k (by decide)).trans ((md_w_k (by decide)).trans ((md_u_k (by decide)).trans ((md_u_k (by decide)).trans ((md_u_k (by decide)).trans (congrFun (mtk_o A ed (by decide)) _))))))))) ?_
                                refine lv_iload hx hb dX7_take_437 (lv_at hl 3 rfl) ?_
                                refine lv_icmp_le (tgt := 454) hx hb dX7_take_439 (by decide) (fun c_14 => ?_) (fun c_14 => ?_)
                                · skip
                                  have c_14 : A 16 ed ≤ tl A ed ((mtk A ed) 24 0 % 128) (A 12 ed) - 1 := (nI_leI (a := A 16 ed) (b := tl A ed ((mtk A ed) 24 0 % 128) (A 12 ed) - 1) (by omega) (by omega)).mp c_14
                                  refine lv_iconst (v := nI 0) hx hb dX7_take_454 (by decide) ?_
                                  refine mw_ti (v' := nI (A 16 ed - (tl A ed ((mtk A ed) 24 0 % 128) (A 12 ed) - 1))) (congrArg nI (by omega)) ?_
                                  refine md_ast 16 (n := 2) (v := A 16 ed - (tl A ed ((mtk A ed) 24 0 % 128) (A 12 ed) - 1)) hx hb hC hw hm rfl (by decide) rfl (by omega) (by decide) dX7_take_455 (fun M1 H locs hm hf1 hw => ?_)
                                  have hf := hf.tr hf1
                                  refine lv_aload_n hx hb dX7_take_456 rfl (lv_at hl 0 rfl) ?_
                                  refine mw_get (C := RX7) (T := TX7) (N := 27) (v := .ref (a 8)) hx hb hts inX7_take_X7 hown hC hw hm.1 rfl 8 (by decide) k_5 rfl dX7_take_457 ?_
                                  refine lv_iload_n hx hb dX7_take_460 rfl (lv_at hl 1 rfl) ?_
                                  refine lv_iload_n hx hb dX7_take_461 rfl (lv_at hl 2 rfl) ?_
                                  refine md_ast 8 (n := 2) (v := (mtk A ed) 24 0 % 128) hx hb hC hw hm rfl (by decide) rfl (by omega) (by decide) dX7_take_462 (fun M1 H locs hm hf1 hw => ?_)
                                  have hf := hf.tr hf1
                                  refine lv_aload_n hx hb dX7_take_463 rfl (lv_at hl 0 rfl) ?_
                                  refine mw_get (C := RX7) (T := TX7) (N := 27) (v := .ref (a 24)) hx hb hts inX7_take_X7 hown hC hw hm.1 rfl 24 (by decide) k_6 rfl dX7_take_464 ?_
                                  refine lv_iconst (v := nI 0) hx hb dX7_take_467 (by decide) ?_
                                  refine md_ald 24 (n := 280) hx hb hC hw hm rfl (by decide) rfl (by omega) (by decide) dX7_take_468 ?_
                                  refine mw_ti (v' := nI ((mtk A ed) 24 0)) (congrArg nI ((md_u_k (by decide)).trans ((md_u_k (by decide)).trans ((md_u_k (by decide)).trans ((md_w_k (by decide)).trans ((md_w_k (by decide)).trans ((md_w_k (by decide)).trans ((md_u_k (by decide)).trans ((md_u_k (by decide)).trans (md_u_k (by decide))))))))))) ?_
                                  refine lv_bipush (v := nI 7) hx hb dX7_take_469 (by decide) ?_
                                  refine lv_ishr hx hb dX7_take_471 ?_
                                  refine mw_ti (v' := nI (((mtk A ed) 24 0) / 128)) (pk_shrN (by omega) _ 7 (by decide)) ?_
                                  refine lv_aload_n hx hb dX7_take_472 rfl (lv_at hl 0 rfl) ?_
                                  refine mw_get (C := RX7) (T := TX7) (N := 27) (v := .ref (a 4)) hx hb hts inX7_take_X7 hown hC hw hm.1 rfl 4 (by decide) k_7 rfl dX7_take_473 ?_
                                  refine lv_iload_n hx hb dX7_take_476 rfl (lv_at hl 1 rfl) ?_
                                  refine md_ald 4 (n := 2) hx hb hC hw hm rfl (by decide) rfl (by omega) (by decide) dX7_take_477 ?_
                                  refine mw_ti (v' := nI (A 4 ed)) (congrArg nI ((md_u_k (by decide)).trans ((md_u_k (by decide)).trans ((md_u_k (by decide)).trans ((md_w_k (by decide)).trans ((md_w_k (by decide)).trans ((md_w_k (by decide)).trans ((md_u_k (by decide)).trans ((md_u_k (by decide)).trans ((md_u_k (by decide)).trans (congrFun (mtk_o A ed (by decide)) _))))))))))) ?_
                                  refine lv_icmp_eq (tgt := 502) hx hb dX7_take_478 (by decide) (fun c_15 => ?_) (fun c_15 => ?_)
                                  · skip
                                    have c_15 : ((mtk A ed) 24 0) / 128 = A 4 ed := (nI_eq (a := ((mtk A ed) 24 0) / 128) (b := A 4 ed) (by omega) (by omega)).mp c_15
                                    refine lv_aload_n hx hb dX7_take_502 rfl (lv_at hl 0 rfl) ?_
                                    refine lv_iload_n hx hb dX7_take_503 rfl (lv_at hl 1 rfl) ?_
                                    have hA_16 : md_u ((md_u ((md_u ((va_up ((va_up ((va_up ((md_u ((md_u ((md_u (mtk A ed) 18 ed (A 18 ed + 1))) 17 ed (lk (A 17 ed) (A 18 ed)))) 19 ed (A 19 ed * 2 % 8))) 13 (sht (A 13) (127 * ed) (tl A ed ((mtk A ed) 24 0 % 128) (A 12 ed) - 1) (A 12 ed - (tl A ed ((mtk A ed) 24 0 % 128) (A 12 ed) - 1))))) 14 (sht (A 14) (127 * ed) (tl A ed ((mtk A ed) 24 0 % 128) (A 12 ed) - 1) (A 12 ed - (tl A ed ((mtk A ed) 24 0 % 128) (A 12 ed) - 1))))) 15 (sht (A 15) (127 * ed) (tl A ed ((mtk A ed) 24 0 % 128) (A 12 ed) - 1) (A 12 ed - (tl A ed ((mtk A ed) 24 0 % 128) (A 12 ed) - 1))))) 12 ed (A 12 ed - (tl A ed ((mtk A ed) 24 0 % 128) (A 12 ed) - 1)))) 16 ed (A 16 ed - (tl A ed ((mtk A ed) 24 0 % 128) (A 12 ed) - 1)))) 8 ed ((mtk A ed) 24 0 % 128) = mto A ed (tl A ed ((mtk A ed) 24 0 % 128) (A 12 ed) - 1) := by unfold mto mt2; first | (rw [if_pos (by assumption)]; done) | rw [if_neg (by assumption)]
                                    rw [hA_16] at hm
                                    refine md_ci hC hw (va_runV (As := [.int (nI (ed))]) (rest := []) ⟨hx, hb, hml, hown, hts⟩ (c_X7_forwards l G _ H.size h0 a 0 (mfu A (40 * (1 - ed)) u) (mto A ed (tl A ed ((mtk A ed) 24 0 % 128) (A 12 ed) - 1)) ed hm (by omega) (by rw [mto_o A ed _ (by decide) (by decide), mt2_24, mtk_24]; exact mfA_24 hug hbits) (by omega) (by rw [mto_o A ed _ (by decide) (by decide), mt2_5, mtk_o A ed (by decide)]; exact h5) (by rw [mto_o A ed _ (by decide) (by decide), mt2_7, mtk_o A ed (by decide)]; exact h7) (by rw [mto_o A ed _ (by decide) (by decide), mt2_21, mtk_o A ed (by decide)]; exact ht)) (cwV 1 hts gX7_take_X7_forwards rfl rfl rfl (by decide +kernel) ⟨Nat.le_of_ble_eq_true rfl, Nat.le_of_ble_eq_true rfl⟩) (mw_preV (ci := 7) hC hw rfl hm.1) rfl rfl hl.1 rfl (lv_room (Nat.le_of_ble_eq_true rfl)) dX7_take_504 ⟨Nat.le_of_ble_eq_true rfl, Nat.le_of_ble_eq_true rfl⟩) (fun M1 H locs hm hf1 hw => ?_)
                                    have hf := hf.tr hf1
                                    exact md_iret hx hb hr hlocks hw hm hf (rfl) dX7_take_507
                                  · skip
                                    have c_15 : ((mtk A ed) 24 0) / 128 ≠ A 4 ed := fun h => c_15 ((nI_eq (a := ((mtk A ed) 24 0) / 128) (b := A 4 ed) (by omega) (by omega)).mpr h)
                                    refine lv_aload_n hx hb dX7_take_481 rfl (lv_at hl 0 rfl) ?_
                                    refine mw_get (C := RX7) (T := TX7) (N := 27) (v := .ref (a 4)) hx hb hts inX7_take_X7 hown hC hw hm.1 rfl 4 (by decide) k_7 rfl dX7_take_482 ?_
                                    refine lv_iload_n hx hb dX7_take_485 rfl (lv_at hl 1 rfl) ?_
                                    refine lv_iconst (v := nI 1) hx hb dX7_take_486 (by decide) ?_
                                    refine lv_aload_n hx hb dX7_take_487 rfl (lv_at hl 0 rfl) ?_
                                    refine mw_get (C := RX7) (T := TX7) (N := 27) (v := .ref (a 4)) hx hb hts inX7_take_X7 hown hC hw hm.1 rfl 4 (by decide) k_7 rfl dX7_take_488 ?_
                                    refine lv_iload_n hx hb dX7_take_491 rfl (lv_at hl 1 rfl) ?_
                                    refine md_ald 4 (n := 2) hx hb hC hw hm rfl (by decide) rfl (by omega) (by decide) dX7_take_492 ?_
                                    refine mw_ti (v' := nI (A 4 ed)) (congrArg nI ((md_u_k (by decide)).trans ((md_u_k (by decide)).trans ((md_u_k (by decide)).trans ((md_w_k (by decide)).trans ((md_w_k (by decide)).trans ((md_w_k (by decide)).trans ((md_u_k (by decide)).trans ((md_u_k (by decide)).trans ((md_u_k (by decide)).trans (congrFun (mtk_o A ed (by decide)) _))))))))))) ?_
                                    refine lv_isub hx hb dX7_take_493 ?_
                                    refine mw_ti (v' := nI (1 - (A 4 ed))) (pk_sub (by omega)) ?_
                                    refine md_ast 4 (n := 2) (v := 1 - (A 4 ed)) hx hb hC hw hm rfl (by decide) rfl (by omega) (by decide) dX7_take_494 (fun M1 H locs hm hf1 hw => ?_)
                                    have hf := hf.tr hf1
                                    refine lv_aload_n hx hb dX7_take_495 rfl (lv_at hl 0 rfl) ?_
                                    refine mw_get (C := RX7) (T := TX7) (N := 27) (v := .ref (a 16)) hx hb hts inX7_take_X7 hown hC hw hm.1 rfl 16 (by decide) k_4 rfl dX7_take_496 ?_
                                    refine lv_iload_n hx hb dX7_take_499 rfl (lv_at hl 1 rfl) ?_
                                    refine lv_iconst (v := nI 0) hx hb dX7_take_500 (by decide) ?_
                                    refine md_ast 16 (n := 2) (v := 0) hx hb hC hw hm rfl (by decide) rfl (by omega) (by decide) dX7_take_501 (fun M1 H locs hm hf1 hw => ?_)
                                    have hf := hf.tr hf1
                                    refine lv_aload_n hx hb dX7_take_502 rfl (lv_at hl 0 rfl) ?_
                                    refine lv_iload_n hx hb dX7_take_503 rfl (lv_at hl 1 rfl) ?_
                                    have hA_17 : md_u ((md_u ((md_u ((md_u ((md_u ((va_up ((va_up ((va_up ((md_u ((md_u ((md_u (mtk A ed) 18 ed (A 18 ed + 1))) 17 ed (lk (A 17 ed) (A 18 ed)))) 19 ed (A 19 ed * 2 % 8))) 13 (sht (A 13) (127 * ed) (tl A ed ((mtk A ed) 24 0 % 128) (A 12 ed) - 1) (A 12 ed - (tl A ed ((mtk A ed) 24 0 % 128) (A 12 ed) - 1))))) 14 (sht (A 14) (127 * ed) (tl A ed ((mtk A ed) 24 0 % 128) (A 12 ed) - 1) (A 12 ed - (tl A ed ((mtk A ed) 24 0 % 128) (A 12 ed) - 1))))) 15 (sht (A 15) (127 * ed) (tl A ed ((mtk A ed) 24 0 % 128) (A 12 ed) - 1) (A 12 ed - (tl A ed ((mtk A ed) 24 0 % 128) (A 12 ed) - 1))))) 12 ed (A 12 ed - (tl A ed ((mtk A ed) 24 0 % 128) (A 12 ed) - 1)))) 16 ed (A 16 ed - (tl A ed ((mtk A ed) 24 0 % 128) (A 12 ed) - 1)))) 8 ed ((mtk A ed) 24 0 % 128))) 4 ed (1 - (A 4 ed)))) 16 ed 0 = mto A ed (tl A ed ((mtk A ed) 24 0 % 128) (A 12 ed) - 1) := by unfold mto mt2; first | (rw [if_pos (by assumption)]; done) | rw [if_neg (by assumption)]
                                    rw [hA_17] at hm
                                    refine md_ci hC hw (va_runV (As := [.int (nI (ed))]) (rest := []) ⟨hx, hb, hml, hown, hts⟩ (c_X7_forwards l G _ H.size h0 a 0 (mfu A (40 * (1 - ed)) u) (mto A ed (tl A ed ((mtk A ed) 24 0 % 128) (A 12 ed) - 1)) ed hm (by omega) (by rw [mto_o A ed _ (by decide) (by decide), mt2_24, mtk_24]; exact mfA_24 hug hbits) (by omega) (by rw [mto_o A ed _ (by decide) (by decide), mt2_5, mtk_o A ed (by decide)]; exact h5) (by rw [mto_o A ed _ (by decide) (by decide), mt2_7, mtk_o A ed (by decide)]; exact h7) (by rw [mto_o A ed _ (by decide) (by decide), mt2_21, mtk_o A ed (by decide)]; exact ht)) (cwV 1 hts gX7_take_X7_forwards rfl rfl rfl (by decide +kernel) ⟨Nat.le_of_ble_eq_true rfl, Nat.le_of_ble_eq_true rfl⟩) (mw_preV (ci := 7) hC hw rfl hm.1) rfl rfl hl.1 rfl (lv_room (Nat.le_of_ble_eq_true rfl)) dX7_take_504 ⟨Nat.le_of_ble_eq_true rfl, Nat.le_of_ble_eq_true rfl⟩) (fun M1 H locs hm hf1 hw => ?_)
                                    have hf := hf.tr hf1
                                    exact md_iret hx hb hr hlocks hw hm hf (rfl) dX7_take_507
                                · skip
                                  have c_14 : A 16 ed > tl A ed ((mtk A ed) 24 0 % 128) (A 12 ed) - 1 := Nat.not_le.mp (fun h => c_14 ((nI_leI (a := A 16 ed) (b := tl A ed ((mtk A ed) 24 0 % 128) (A 12 ed) - 1) (by omega) (by omega)).mpr h))
                                  refine lv_aload_n hx hb dX7_take_442 rfl (lv_at hl 0 rfl) ?_
                                  refine mw_get (C := RX7) (T := TX7) (N := 27) (v := .ref (a 16)) hx hb hts inX7_take_X7 hown hC hw hm.1 rfl 16 (by decide) k_4 rfl dX7_take_443 ?_
                                  refine lv_iload_n hx hb dX7_take_446 rfl (lv_at hl 1 rfl) ?_
                                  refine md_ald 16 (n := 2) hx hb hC hw hm rfl (by decide) rfl (by omega) (by decide) dX7_take_447 ?_
                                  refine mw_ti (v' := nI (A 16 ed)) (congrArg nI ((md_u_k (by decide)).trans ((md_w_k (by decide)).trans ((md_w_k (by decide)).trans ((md_w_k (by decide)).trans ((md_u_k (by decide)).trans ((md_u_k (by decide)).trans ((md_u_k (by decide)).trans (congrFun (mtk_o A ed (by decide)) _))))))))) ?_
                                  refine lv_iload hx hb dX7_take_448 (lv_at hl 3 rfl) ?_
                                  refine lv_isub hx hb dX7_take_450 ?_
                                  refine mw_ti (v' := nI (A 16 ed - (tl A ed ((mtk A ed) 24 0 % 128) (A 12 ed) - 1))) (pk_sub (by omega)) ?_
                                  refine lv_goto (tgt := 455) hx hb dX7_take_451 (by decide) ?_
                                  refine mw_ti (v' := nI (A 16 ed - (tl A ed ((mtk A ed) 24 0 % 128) (A 12 ed) - 1))) (rfl) ?_
                                  refine md_ast 16 (n := 2) (v := A 16 ed - (tl A ed ((mtk A ed) 24 0 % 128) (A 12 ed) - 1)) hx hb hC hw hm rfl (by decide) rfl (by omega) (by decide) dX7_take_455 (fun M1 H locs hm hf1 hw => ?_)
                                  have hf := hf.tr hf1
                                  refine lv_aload_n hx hb dX7_take_456 rfl (lv_at hl 0 rfl) ?_
                                  refine mw_get (C := RX7) (T := TX7) (N := 27) (v := .ref (a 8)) hx hb hts inX7_take_X7 hown hC hw hm.1 rfl 8 (by decide) k_5 rfl dX7_take_457 ?_
                                  refine lv_iload_n hx hb dX7_take_460 rfl (lv_at hl 1 rfl) ?_
                                  refine lv_iload_n hx hb dX7_take_461 rfl (lv_at hl 2 rfl) ?_
                                  refine md_ast 8 (n := 2) (v := (mtk A ed) 24 0 % 128) hx hb hC hw hm rfl (by decide) rfl (by omega) (by decide) dX7_take_462 (fun M1 H locs hm hf1 hw => ?_)
                                  have hf := hf.tr hf1
                                  refine lv_aload_n hx hb dX7_take_463 rfl (lv_at hl 0 rfl) ?_
                                  refine mw_get (C := RX7) (T := TX7) (N := 27) (v := .ref (a 24)) hx hb hts inX7_take_X7 hown hC hw hm.1 rfl 24 (by decide) k_6 rfl dX7_take_464 ?_
                                  refine lv_iconst (v := nI 0) hx hb dX7_take_467 (by decide) ?_
                                  refine md_ald 24 (n := 280) hx hb hC hw hm rfl (by decide) rfl (by omega) (by decide) dX7_take_468 ?_
                                  refine mw_ti (v' := nI ((mtk A ed) 24 0)) (congrArg nI ((md_u_k (by decide)).trans ((md_u_k (by decide)).trans ((md_u_k (by decide)).trans ((md_w_k (by decide)).trans ((md_w_k (by decide)).trans ((md_w_k (by decide)).trans ((md_u_k (by decide)).trans ((md_u_k (by decide)).trans (md_u_k (by decide))))))))))) ?_
                                  refine lv_bipush (v := nI 7) hx hb dX7_take_469 (by decide) ?_
                                  refine lv_ishr hx hb dX7_take_471 ?_
                                  refine mw_ti (v' := nI (((mtk A ed) 24 0) / 128)) (pk_shrN (by omega) _ 7 (by decide)) ?_
                                  refine lv_aload_n hx hb dX7_take_472 rfl (lv_at hl 0 rfl) ?_
                                  refine mw_get (C := RX7) (T := TX7) (N := 27) (v := .ref (a 4)) hx hb hts inX7_take_X7 hown hC hw hm.1 rfl 4 (by decide) k_7 rfl dX7_take_473 ?_
                                  refine lv_iload_n hx hb dX7_take_476 rfl (lv_at hl 1 rfl) ?_
                                  refine md_ald 4 (n := 2) hx hb hC hw hm rfl (by decide) rfl (by omega) (by decide) dX7_take_477 ?_
                                  refine mw_ti (v' := nI (A 4 ed)) (congrArg nI ((md_u_k (by decide)).trans ((md_u_k (by decide)).trans ((md_u_k (by decide)).trans ((md_w_k (by decide)).trans ((md_w_k (by decide)).trans ((md_w_k (by decide)).trans ((md_u_k (by decide)).trans ((md_u_k (by decide)).trans ((md_u_k (by decide)).trans (congrFun (mtk_o A ed (by decide)) _))))))))))) ?_
                                  refine lv_icmp_eq (tgt := 502) hx hb dX7_take_478 (by decide) (fun c_18 => ?_) (fun c_18 => ?_)
                                  · skip
                                    have c_18 : ((mtk A ed) 24 0) / 128 = A 4 ed := (nI_eq (a := ((mtk A ed) 24 0) / 128) (b := A 4 ed) (by omega) (by omega)).mp c_18
                                    refine lv_aload_n hx hb dX7_take_502 rfl (lv_at hl 0 rfl) ?_
                                    refine lv_iload_n hx hb dX7_take_503 rfl (lv_at hl 1 rfl) ?_
                                    have hA_19 : md_u ((md_u ((md_u ((va_up ((va_up ((va_up ((md_u ((md_u ((md_u (mtk A ed) 18 ed (A 18 ed + 1))) 17 ed (lk (A 17 ed) (A 18 ed)))) 19 ed (A 19 ed * 2 % 8))) 13 (sht (A 13) (127 * ed) (tl A ed ((mtk A ed) 24 0 % 128) (A 12 ed) - 1) (A 12 ed - (tl A ed ((mtk A ed) 24 0 % 128) (A 12 ed) - 1))))) 14 (sht (A 14) (127 * ed) (tl A ed ((mtk A ed) 24 0 % 128) (A 12 ed) - 1) (A 12 ed - (tl A ed ((mtk A ed) 24 0 % 128) (A 12 ed) - 1))))) 15 (sht (A 15) (127 * ed) (tl A ed ((mtk A ed) 24 0 % 128) (A 12 ed) - 1) (A 12 ed - (tl A ed ((mtk A ed) 24 0 % 128) (A 12 ed) - 1))))) 12 ed (A 12 ed - (tl A ed ((mtk A ed) 24 0 % 128) (A 12 ed) - 1)))) 16 ed (A 16 ed - (tl A ed ((mtk A ed) 24 0 % 128) (A 12 ed) - 1)))) 8 ed ((mtk A ed) 24 0 % 128) = mto A ed (tl A ed ((mtk A ed) 24 0 % 128) (A 12 ed) - 1) := by unfold mto mt2; first | (rw [if_pos (by assumption)]; done) | rw [if_neg (by assumption)]
                                    rw [hA_19] at hm
                                    refine md_ci hC hw (va_runV (As := [.int (nI (ed))]) (rest := []) ⟨hx, hb, hml, hown, hts⟩ (c_X7_forwards l G _ H.size h0 a 0 (mfu A (40 * (1 - ed)) u) (mto A ed (tl A ed ((mtk A ed) 24 0 % 128) (A 12 ed) - 1)) ed hm (by omega) (by rw [mto_o A ed _ (by decide) (by decide), mt2_24, mtk_24]; exact mfA_24 hug hbits) (by omega) (by rw [mto_o A ed _ (by decide) (by decide), mt2_5, mtk_o A ed (by decide)]; exact h5) (by rw [mto_o A ed _ (by decide) (by decide), mt2_7, mtk_o A ed (by decide)]; exact h7) (by rw [mto_o A ed _ (by decide) (by decide), mt2_21, mtk_o A ed (by decide)]; exact ht)) (cwV 1 hts gX7_take_X7_forwards rfl rfl rfl (by decide +kernel) ⟨Nat.le_of_ble_eq_true rfl, Nat.le_of_ble_eq_true rfl⟩) (mw_preV (ci := 7) hC hw rfl hm.1) rfl rfl hl.1 rfl (lv_room (Nat.le_of_ble_eq_true rfl)) dX7_take_504 ⟨Nat.le_of_ble_eq_true rfl, Nat.le_of_ble_eq_true rfl⟩) (fun M1 H locs hm hf1 hw => ?_)
                                    have hf := hf.tr hf1
                                    exact md_iret hx hb hr hlocks hw hm hf (rfl) dX7_take_507
                                  · skip
                                    have c_18 : ((mtk A ed) 24 0) / 128 ≠ A 4 ed := fun h => c_18 ((nI_eq (a := ((mtk A ed) 24 0) / 128) (b := A 4 ed) (by omega) (by omega)).mpr h)
                                    refine lv_aload_n hx hb dX7_take_481 rfl (lv_at hl 0 rfl) ?_
                                    refine mw_get (C := RX7) (T := TX7) (N := 27) (v := .ref (a 4)) hx hb hts inX7_take_X7 hown hC hw hm.1 rfl 4 (by decide) k_7 rfl dX7_take_482 ?_
                                    refine lv_iload_n hx hb dX7_take_485 rfl (lv_at hl 1 rfl) ?_
                                    refine lv_iconst (v := nI 1) hx hb dX7_take_486 (by decide) ?_
                                    refine lv_aload_n hx hb dX7_take_487 rfl (lv_at hl 0 rfl) ?_
                                    refine mw_get (C := RX7) (T := TX7) (N := 27) (v := .ref (a 4)) hx hb hts inX7_take_X7 hown hC hw hm.1 rfl 4 (by decide) k_7 rfl dX7_take_488 ?_
                                    refine lv_iload_n hx hb dX7_take_491 rfl (lv_at hl 1 rfl) ?_
                                    refine md_ald 4 (n := 2) hx hb hC hw hm rfl (by decide) rfl (by omega) (by decide) dX7_take_492 ?_
                                    refine mw_ti (v' := nI (A 4 ed)) (congrArg nI ((md_u_k (by decide)).trans ((md_u_k (by decide)).trans ((md_u_k (by decide)).trans ((md_w_k (by decide)).trans ((md_w_k (by decide)).trans ((md_w_k (by decide)).trans ((md_u_k (by decide)).trans ((md_u_k (by decide)).trans ((md_u_k (by decide)).trans (congrFun (mtk_o A ed (by decide)) _))))))))))) ?_
                                    refine lv_isub hx hb dX7_take_493 ?_
                                    refine mw_ti (v' := nI (1 - (A 4 ed))) (pk_sub (by omega)) ?_
                                    refine md_ast 4 (n := 2) (v := 1 - (A 4 ed)) hx hb hC hw hm rfl (by decide) rfl (by omega) (by decide) dX7_take_494 (fun M1 H locs hm hf1 hw => ?_)
                                    have hf := hf.tr hf1
                                    refine lv_aload_n hx hb dX7_take_495 rfl (lv_at hl 0 rfl) ?_
                                    refine mw_get (C := RX7) (T := TX7) (N := 27) (v := .ref (a 16)) hx hb hts inX7_take_X7 hown hC hw hm.1 rfl 16 (by decide) k_4 rfl dX7_take_496 ?_
                                    refine lv_iload_n hx hb dX7_take_499 rfl (lv_at hl 1 rfl) ?_
                                    refine lv_iconst (v := nI 0) hx hb dX7_take_500 (by decide) ?_
                                    refine md_ast 16 (n := 2) (v := 0) hx hb hC hw hm rfl (by decide) rfl (by omega) (by decide) dX7_take_501 (fun M1 H locs hm hf1 hw => ?_)
                                    have hf := hf.tr hf1
                                    refine lv_aload_n hx hb dX7_take_502 rfl (lv_at hl 0 rfl) ?_
                                    refine lv_iload_n hx hb dX7_take_503 rfl (lv_at hl 1 rfl) ?_
                                    have hA_20 : md_u ((md_u ((md_u ((md_u ((md_u ((va_up ((va_up ((va_up ((md_u ((md_u ((md_u (mtk A ed) 18 ed (A 18 ed + 1))) 17 ed (lk (A 17 ed) (A 18 ed)))) 19 ed (A 19 ed * 2 % 8))) 13 (sht (A 13) (127 * ed) (tl A ed ((mtk A ed) 24 0 % 128) (A 12 ed) - 1) (A 12 ed - (tl A ed ((mtk A ed) 24 0 % 128) (A 12 ed) - 1))))) 14 (sht (A 14) (127 * ed) (tl A ed ((mtk A ed) 24 0 % 128) (A 12 ed) - 1) (A 12 ed - (tl A ed ((mtk A ed) 24 0 % 128) (A 12 ed) - 1))))) 15 (sht (A 15) (127 * ed) (tl A ed ((mtk A ed) 24 0 % 128) (A 12 ed) - 1) (A 12 ed - (tl A ed ((mtk A ed) 24 0 % 128) (A 12 ed) - 1))))) 12 ed (A 12 ed - (tl A ed ((mtk A ed) 24 0 % 128) (A 12 ed) - 1)))) 16 ed (A 16 ed - (tl A ed ((mtk A ed) 24 0 % 128) (A 12 ed) - 1)))) 8 ed ((mtk A ed) 24 0 % 128))) 4 ed (1 - (A 4 ed)))) 16 ed 0 = mto A ed (tl A ed ((mtk A ed) 24 0 % 128) (A 12 ed) - 1) := by unfold mto mt2; first | (rw [if_pos (by assumption)]; done) | rw [if_neg (by assumption)]
                                    rw [hA_20] at hm
                                    refine md_ci hC hw (va_runV (As := [.int (nI (ed))]) (rest := []) ⟨hx, hb, hml, hown, hts⟩ (c_X7_forwards l G _ H.size h0 a 0 (mfu A (40 * (1 - ed)) u) (mto A ed (tl A ed ((mtk A ed) 24 0 % 128) (A 12 ed) - 1)) ed hm (by omega) (by rw [mto_o A ed _ (by decide) (by decide), mt2_24, mtk_24]; exact mfA_24 hug hbits) (by omega) (by rw [mto_o A ed _ (by decide) (by decide), mt2_5, mtk_o A ed (by decide)]; exact h5) (by rw [mto_o A ed _ (by decide) (by decide), mt2_7, mtk_o A ed (by decide)]; exact h7) (by rw [mto_o A ed _ (by decide) (by decide), mt2_21, mtk_o A ed (by decide)]; exact ht)) (cwV 1 hts gX7_take_X7_forwards rfl rfl rfl (by decide +kernel) ⟨Nat.le_of_ble_eq_true rfl, Nat.le_of_ble_eq_true rfl⟩) (mw_preV (ci := 7) hC hw rfl hm.1) rfl rfl hl.1 rfl (lv_room (Nat.le_of_ble_eq_true rfl)) dX7_take_504 ⟨Nat.le_of_ble_eq_true rfl, Nat.le_of_ble_eq_true rfl⟩) (fun M1 H locs hm hf1 hw => ?_)
                                    have hf := hf.tr hf1
                                    exact md_iret hx hb hr hlocks hw hm hf (rfl) dX7_take_507
                              · skip
                                have c_13 : k + (tl A ed ((mtk A ed) 24 0 % 128) (A 12 ed) - 1) < A 12 ed := Nat.not_le.mp (fun h => c_13 ((nI_leI (a := A 12 ed) (b := k + (tl A ed ((mtk A ed) 24 0 % 128) (A 12 ed) - 1)) (by omega) (by omega)).mpr h))
                                refine lv_aload_n hx hb dX7_take_328 rfl (lv_at hl 0 rfl) ?_
                                refine mw_get (C := RX7) (T := TX7) (N := 27) (v := .ref (a 13)) hx hb hts inX7_take_X7 hown hC hw hm.1 rfl 13 (by decide) k_8 rfl dX7_take_329 ?_
                                refine lv_bipush (v := nI 127) hx hb dX7_take_332 (by decide) ?_
                                refine lv_iload_n hx hb dX7_take_334 rfl (lv_at hl 1 rfl) ?_
                                refine lv_imul hx hb dX7_take_335 ?_
                                refine mw_ti (v' := nI (127 * ed)) (pk_mul _ _) ?_
                                refine lv_iload hx hb dX7_take_336 (lv_at hl 4 rfl) ?_
                                refine lv_iadd hx hb dX7_take_338 ?_
                                refine mw_ti (v' := nI (127 * ed + k)) (nI_add _ _) ?_
                                refine lv_aload_n hx hb dX7_take_339 rfl (lv_at hl 0 rfl) ?_
                                refine mw_get (C := RX7) (T := TX7) (N := 27) (v := .ref (a 13)) hx hb hts inX7_take_X7 hown hC hw hm.1 rfl 13 (by decide) k_8 rfl dX7_take_340 ?_
                                refine lv_bipush (v := nI 127) hx hb dX7_take_343 (by decide) ?_
                                refine lv_iload_n hx hb dX7_take_345 rfl (lv_at hl 1 rfl) ?_
                                refine lv_imul hx hb dX7_take_346 ?_
                                refine mw_ti (v' := nI (127 * ed)) (pk_mul _ _) ?_
                                refine lv_iload hx hb dX7_take_347 (lv_at hl 4 rfl) ?_
                                refine lv_iadd hx hb dX7_take_349 ?_
                                refine mw_ti (v' := nI (127 * ed + k)) (nI_add _ _) ?_
                                refine lv_iload hx hb dX7_take_350 (lv_at hl 3 rfl) ?_
                                refine lv_iadd hx hb dX7_take_352 ?_
                                refine mw_ti (v' := nI (127 * ed + k + (tl A ed ((mtk A ed) 24 0 % 128) (A 12 ed) - 1))) (nI_add _ _) ?_
                                refine md_ald 13 (n := 254) hx hb hC hw hm rfl (by decide) rfl (by omega) (by decide) dX7_take_353 ?_
                                refine mw_ti (v' := nI ((sht (A 13) (127 * ed) (tl A ed ((mtk A ed) 24 0 % 128) (A 12 ed) - 1) k) (127 * ed + k + (tl A ed ((mtk A ed) 24 0 % 128) (A 12 ed) - 1)))) (congrArg nI ((md_w_k (by decide)).trans ((md_w_k (by decide)).trans md_w_s))) ?_
                                refine md_ast 13 (n := 254) (v := (sht (A 13) (127 * ed) (tl A ed ((mtk A ed) 24 0 % 128) (A 12 ed) - 1) k) (127 * ed + k + (tl A ed ((mtk A ed) 24 0 % 128) (A 12 ed) - 1))) hx hb hC hw hm rfl (by decide) rfl (by omega) (by decide) dX7_take_354 (fun M1 H locs hm hf1 hw => ?_)
                                have hf := hf.tr hf1
                                refine lv_aload_n hx hb dX7_take_355 rfl (lv_at hl 0 rfl) ?_
                                refine mw_get (C := RX7) (T := TX7) (N := 27) (v := .ref (a 14)) hx hb hts inX7_take_X7 hown hC hw hm.1 rfl 14 (by decide) k_9 rfl dX7_take_356 ?_
                                refine lv_bipush (v := nI 127) hx hb dX7_take_359 (by decide) ?_
                                refine lv_iload_n hx hb dX7_take_361 rfl (lv_at hl 1 rfl) ?_
                                refine lv_imul hx hb dX7_take_362 ?_
                                refine mw_ti (v' := nI (127 * ed)) (pk_mul _ _) ?_
                                refine lv_iload hx hb dX7_take_363 (lv_at hl 4 rfl) ?_
                                refine lv_iadd hx hb dX7_take_365 ?_
                                refine mw_ti (v' := nI (127 * ed + k)) (nI_add _ _) ?_
                                refine lv_aload_n hx hb dX7_take_366 rfl (lv_at hl 0 rfl) ?_
                                refine mw_get (C := RX7) (T := TX7) (N := 27) (v := .ref (a 14)) hx hb hts inX7_take_X7 hown hC hw hm.1 rfl 14 (by decide) k_9 rfl dX7_take_367 ?_
                                refine lv_bipush (v := nI 127) hx hb dX7_take_370 (by decide) ?_
                                refine lv_iload_n hx hb dX7_take_372 rfl (lv_at hl 1 rfl) ?_
                                refine lv_imul hx hb dX7_take_373 ?_
                                refine mw_ti (v' := nI (127 * ed)) (pk_mul _ _) ?_
                                refine lv_iload hx hb dX7_take_374 (lv_at hl 4 rfl) ?_
                                refine lv_iadd hx hb dX7_take_376 ?_
                                refine mw_ti (v' := nI (127 * ed + k)) (nI_add _ _) ?_
                                refine lv_iload hx hb dX7_take_377 (lv_at hl 3 rfl) ?_
                                refine lv_iadd hx hb dX7_take_379 ?_
                                refine mw_ti (v' := nI (127 * ed + k + (tl A ed ((mtk A ed) 24 0 % 128) (A 12 ed) - 1))) (nI_add _ _) ?_
                                refine md_ald 14 (n := 254) hx hb hC hw hm rfl (by decide) rfl (by omega) (by decide) dX7_take_380 ?_
                                refine mw_ti (v' := nI ((sht (A 14) (127 * ed) (tl A ed ((mtk A ed) 24 0 % 128) (A 12 ed) - 1) k) (127 * ed + k + (tl A ed ((mtk A ed) 24 0 % 128) (A 12 ed) - 1)))) (congrArg nI ((md_u_k (by decide)).trans ((md_w_k (by decide)).trans md_w_s))) ?_
                                refine md_ast 14 (n := 254) (v := (sht (A 14) (127 * ed) (tl A ed ((mtk A ed) 24 0 % 128) (A 12 ed) - 1) k) (127 * ed + k + (tl A ed ((mtk A ed) 24 0 % 128) (A 12 ed) - 1))) hx hb hC hw hm rfl (by decide) rfl (by omega) (by decide) dX7_take_381 (fun M1 H locs hm hf1 hw => ?_)
                                have hf := hf.tr hf1
                                refine lv_aload_n hx hb dX7_take_382 rfl (lv_at hl 0 rfl) ?_
                                refine mw_get (C := RX7) (T := TX7) (N := 27) (v := .ref (a 15)) hx hb hts inX7_take_X7 hown hC hw hm.1 rfl 15 (by decide) k_10 rfl dX7_take_383 ?_
                                refine lv_bipush (v := nI 127) hx hb dX7_take_386 (by decide) ?_
                                refine lv_iload_n hx hb dX7_take_388 rfl (lv_at hl 1 rfl) ?_
                                refine lv_imul hx hb dX7_take_389 ?_
                                refine mw_ti (v' := nI (127 * ed)) (pk_mul _ _) ?_
                                refine lv_iload hx hb dX7_take_390 (lv_at hl 4 rfl) ?_
                                refine lv_iadd hx hb dX7_take_392 ?_
                                refine mw_ti (v' := nI (127 * ed + k)) (nI_add _ _) ?_
                                refine lv_aload_n hx hb dX7_take_393 rfl (lv_at hl 0 rfl) ?_
                                refine mw_get (C := RX7) (T := TX7) (N := 27) (v := .ref (a 15)) hx hb hts inX7_take_X7 hown hC hw hm.1 rfl 15 (by decide) k_10 rfl dX7_take_394 ?_
                                refine lv_bipush (v := nI 127) hx hb dX7_take_397 (by decide) ?_
                                refine lv_iload_n hx hb dX7_take_399 rfl (lv_at hl 1 rfl) ?_
                                refine lv_imul hx hb dX7_take_400 ?_
                                refine mw_ti (v' := nI (127 * ed)) (pk_mul _ _) ?_
                                refine lv_iload hx hb dX7_take_401 (lv_at hl 4 rfl) ?_
                                refine lv_iadd hx hb dX7_take_403 ?_
                                refine mw_ti (v' := nI (127 * ed + k)) (nI_add _ _) ?_
                                refine lv_iload hx hb dX7_take_404 (lv_at hl 3 rfl) ?_
                                refine lv_iadd hx hb dX7_take_406 ?_
                                refine mw_ti (v' := nI (127 * ed + k + (tl A ed ((mtk A ed) 24 0 % 128) (A 12 ed) - 1))) (nI_add _ _) ?_
                                refine md_ald 15 (n := 254) hx hb hC hw hm rfl (by decide) rfl (by omega) (by decide) dX7_take_407 ?_
                                refine mw_ti (v' := nI ((sht (A 15) (127 * ed) (tl A ed ((mtk A ed) 24 0 % 128) (A 12 ed) - 1) k) (127 * ed + k + (tl A ed ((mtk A ed) 24 0 % 128) (A 12 ed) - 1)))) (congrArg nI ((md_u_k (by decide)).trans ((md_u_k (by decide)).trans md_w_s))) ?_
                                refine md_ast 15 (n := 254) (v := (sht (A 15) (127 * ed) (tl A ed ((mtk A ed) 24 0 % 128) (A 12 ed) - 1) k) (127 * ed + k + (tl A ed ((mtk A ed) 24 0 % 128) (A 12 ed) - 1))) hx hb hC hw hm rfl (by decide) rfl (by omega) (by decide) dX7_take_408 (fun M1 H locs hm hf1 hw => ?_)
                                have hf := hf.tr hf1
                                refine lv_iinc (v := nI (k + 1)) (lv' := [(5, .int (nI (k + 1))), (0, .ref (h0)), (1, .int (nI (ed))), (3, .int (nI ((mtk A ed) 24 0 % 128))), (4, .int (nI (tl A ed ((mtk A ed) 24 0 % 128) (A 12 ed) - 1)))]) hx hb dX7_take_409 hl (k := 4) rfl (by rw [show Int32.ofInt 1 = nI 1 by decide]; exact nI_add _ _) (by decide) rfl (fun ls hl => ?_)
                                refine lv_goto (tgt := 314) hx hb dX7_take_412 (by decide) ?_
                                have hA_21 : md_u ((md_u ((md_u ((va_up ((va_up ((va_up ((md_u ((md_u ((md_u (mtk A ed) 18 ed (A 18 ed + 1))) 17 ed (lk (A 17 ed) (A 18 ed)))) 19 ed (A 19 ed * 2 % 8))) 13 (sht (A 13) (127 * ed) (tl A ed ((mtk A ed) 24 0 % 128) (A 12 ed) - 1) k))) 14 (sht (A 14) (127 * ed) (tl A ed ((mtk A ed) 24 0 % 128) (A 12 ed) - 1) k))) 15 (sht (A 15) (127 * ed) (tl A ed ((mtk A ed) 24 0 % 128) (A 12 ed) - 1) k))) 13 (127 * ed + k) ((sht (A 13) (127 * ed) (tl A ed ((mtk A ed) 24 0 % 128) (A 12 ed) - 1) k) (127 * ed + k + (tl A ed ((mtk A ed) 24 0 % 128) (A 12 ed) - 1))))) 14 (127 * ed + k) ((sht (A 14) (127 * ed) (tl A ed ((mtk A ed) 24 0 % 128) (A 12 ed) - 1) k) (127 * ed + k + (tl A ed ((mtk A ed) 24 0 % 128) (A 12 ed) - 1))))) 15 (127 * ed + k) ((sht (A 15) (127 * ed) (tl A ed ((mtk A ed) 24 0 % 128) (A 12 ed) - 1) k) (127 * ed + k + (tl A ed ((mtk A ed) 24 0 % 128) (A 12 ed) - 1))) = va_up ((va_up ((va_up ((md_u ((md_u ((md_u (mtk A ed) 18 ed (A 18 ed + 1))) 17 ed (lk (A 17 ed) (A 18 ed)))) 19 ed (A 19 ed * 2 % 8))) 13 (sht (A 13) (127 * ed) (tl A ed ((mtk A ed) 24 0 % 128) (A 12 ed) - 1) (k + 1)))) 14 (sht (A 14) (127 * ed) (tl A ed ((mtk A ed) 24 0 % 128) (A 12 ed) - 1) (k + 1)))) 15 (sht (A 15) (127 * ed) (tl A ed ((mtk A ed) 24 0 % 128) (A 12 ed) - 1) (k + 1)) := by exact m3_s
                                rw [hA_21] at hm
                                exact ih314  (k + 1) (by omega) (by omega) _ _ _ ls hm hf hw (lv_sub hl [1, 2, 3, 4, 0] rfl)
                          have hA_22 : md_u ((md_u ((md_u (mtk A ed) 18 ed (A 18 ed + 1))) 17 ed (lk (A 17 ed) (A 18 ed)))) 19 ed (A 19 ed * 2 % 8) = va_up ((va_up ((va_up ((md_u ((md_u ((md_u (mtk A ed) 18 ed (A 18 ed + 1))) 17 ed (lk (A 17 ed) (A 18 ed)))) 19 ed (A 19 ed * 2 % 8))) 13 (sht (A 13) (127 * ed) (tl A ed ((mtk A ed) 24 0 % 128) (A 12 ed) - 1) 0))) 14 (sht (A 14) (127 * ed) (tl A ed ((mtk A ed) 24 0 % 128) (A 12 ed) - 1) 0))) 15 (sht (A 15) (127 * ed) (tl A ed ((mtk A ed) 24 0 % 128) (A 12 ed) - 1) 0) := by exact m3_0 (mtk_o A ed (j := 13) (by decide)) (mtk_o A ed (j := 14) (by decide)) (mtk_o A ed (j := 15) (by decide))
                          rw [hA_22] at hm
                          have hv_23 : (.int (tlv (tl A ed ((mtk A ed) 24 0 % 128) (A 12 ed))) : Value) = .int (nI (tl A ed ((mtk A ed) 24 0 % 128) (A 12 ed) - 1)) := by rw [tlv_n (by omega)]
                          rw [hv_23] at hl
                          exact lp_12 (A 12 ed - 0 + 1) 0 (by omega) (Nat.lt_succ_self _) _ _ _ ls hm hf hw (lv_sub hl [1, 2, 3, 4, 0] rfl)
                        · skip
                          exact absurd ((tlv_m (by omega)).mp c_11) (by omega)
                      · skip
                        exact absurd ((tlv_m (by omega)).mp c_10) (by omega)
                    · skip
                      have c_9 : k < A 12 ed := Nat.not_le.mp (fun h => c_9 ((nI_leI (a := A 12 ed) (b := k) (by omega) (by omega)).mpr h))
                      refine lv_aload_n hx hb dX7_take_202 rfl (lv_at hl 0 rfl) ?_
                      refine mw_get (C := RX7) (T := TX7) (N := 27) (v := .ref (a 13)) hx hb hts inX7_take_X7 hown hC hw hm.1 rfl 13 (by decide) k_8 rfl dX7_take_203 ?_
                      refine lv_bipush (v := nI 127) hx hb dX7_take_206 (by decide) ?_
                      refine lv_iload_n hx hb dX7_take_208 rfl (lv_at hl 1 rfl) ?_
                      refine lv_imul hx hb dX7_take_209 ?_
                      refine mw_ti (v' := nI (127 * ed)) (pk_mul _ _) ?_
                      refine lv_iload hx hb dX7_take_210 (lv_at hl 4 rfl) ?_
                      refine lv_iadd hx hb dX7_take_212 ?_
                      refine mw_ti (v' := nI (127 * ed + k)) (nI_add _ _) ?_
                      have h13k := h13 (127 * ed + k) (by omega)
                      refine md_ald 13 (n := 254) hx hb hC hw hm rfl (by decide) rfl (by omega) (by decide) dX7_take_213 ?_
                      refine mw_ti (v' := nI (A 13 (127 * ed + k))) (congrArg nI ((md_u_k (by decide)).trans ((md_u_k (by decide)).trans (congrFun (mtk_o A ed (by decide)) _)))) ?_
                      refine lv_iload_n hx hb dX7_take_214 rfl (lv_at hl 2 rfl) ?_
                      refine lv_icmp_ne (tgt := 225) hx hb dX7_take_215 (by decide) (fun c_24 => ?_) (fun c_24 => ?_)
                      · skip
                        have c_24 : A 13 (127 * ed + k) ≠ (mtk A ed) 24 0 % 128 := fun h => c_24 ((nI_eq (a := A 13 (127 * ed + k)) (b := (mtk A ed) 24 0 % 128) (by omega) (by omega)).mpr h)
                        refine lv_iload hx hb dX7_take_225 (lv_at hl 3 rfl) ?_
                        refine lv_istore (lv' := [(4, .int (tlv (tl A ed ((mtk A ed) 24 0 % 128) k))), (0, .ref (h0)), (1, .int (nI (ed))), (3, .int (nI ((mtk A ed) 24 0 % 128))), (5, .int (nI (k)))]) hx hb dX7_take_227 hl (by decide) rfl (fun ls hl => ?_)
                        refine lv_iinc (v := nI (k + 1)) (lv' := [(5, .int (nI (k + 1))), (4, .int (tlv (tl A ed ((mtk A ed) 24 0 % 128) k))), (0, .ref (h0)), (1, .int (nI (ed))), (3, .int (nI ((mtk A ed) 24 0 % 128)))]) hx hb dX7_take_229 hl (k := 4) rfl (by rw [show Int32.ofInt 1 = nI 1 by decide]; exact nI_add _ _) (by decide) rfl (fun ls hl => ?_)
                        refine lv_goto (tgt := 191) hx hb dX7_take_232 (by decide) ?_
                        have hv_25 : (.int (tlv (tl A ed ((mtk A ed) 24 0 % 128) k)) : Value) = .int (tlv (tl A ed ((mtk A ed) 24 0 % 128) (k + 1))) := by first | (rw [tl, if_pos (by assumption)]; exact congrArg Value.int (tlv_n (x := k + 2) (by omega)).symm) | (rw [tl, if_neg (by assumption)])
                        rw [hv_25] at hl
                        exact ih  (k + 1) (by omega) (by omega) _ _ _ ls hm hf hw (lv_sub hl [2, 3, 4, 1, 0] rfl)
                      · skip
                        have c_24 : A 13 (127 * ed + k) = (mtk A ed) 24 0 % 128 := (nI_eq (a := A 13 (127 * ed + k)) (b := (mtk A ed) 24 0 % 128) (by omega) (by omega)).mp c_24
                        refine lv_iload hx hb dX7_take_218 (lv_at hl 4 rfl) ?_
                        refine lv_iconst (v := nI 1) hx hb dX7_take_220 (by decide) ?_
                        refine lv_iadd hx hb dX7_take_221 ?_
                        refine mw_ti (v' := nI (k + 1)) (nI_add _ _) ?_
                        refine lv_goto (tgt := 227) hx hb dX7_take_222 (by decide) ?_
                        refine lv_istore (lv' := [(4, .int (nI (k + 1))), (0, .ref (h0)), (1, .int (nI (ed))), (3, .int (nI ((mtk A ed) 24 0 % 128))), (5, .int (nI (k)))]) hx hb dX7_take_227 hl (by decide) rfl (fun ls hl => ?_)
                        refine lv_iinc (v := nI (k + 1)) (lv' := [(5, .int (nI (k + 1))), (4, .int (nI (k + 1))), (0, .ref (h0)), (1, .int (nI (ed))), (3, .int (nI ((mtk A ed) 24 0 % 128)))]) hx hb dX7_take_229 hl (k := 4) rfl (by rw [show Int32.ofInt 1 = nI 1 by decide]; exact nI_add _ _) (by decide) rfl (fun ls hl => ?_)
                        refine lv_goto (tgt := 191) hx hb dX7_take_232 (by decide) ?_
                        have hv_26 : (.int (nI (k + 1)) : Value) = .int (tlv (tl A ed ((mtk A ed) 24 0 % 128) (k + 1))) := by first | (rw [tl, if_pos (by assumption)]; exact congrArg Value.int (tlv_n (x := k + 2) (by omega)).symm) | (rw [tl, if_neg (by assumption)])
                        have hl : lv_has ls 6 [(5, .int (nI (k + 1))), (4, .int (tlv (tl A ed ((mtk A ed) 24 0 % 128) (k + 1)))), (0, .ref (h0)), (1, .int (nI (ed))), (3, .int (nI ((mtk A ed) 24 0 % 128)))] := by rw [← hv_26]; exact hl
                        exact ih  (k + 1) (by omega) (by omega) _ _ _ ls hm hf hw (lv_sub hl [2, 3, 4, 1, 0] rfl)
                exact lp_8 (A 12 ed - 0 + 1) 0 (by omega) (Nat.lt_succ_self _) _ _ _ ls hm hf hw (lv_sub hl [1, 2, 3, 4, 0] rfl)
              refine lv_aload_n hx hb dX7_take_161 rfl (lv_at hl 0 rfl) ?_
              refine mw_get (C := RX7) (T := TX7) (N := 27) (v := .ref (a 24)) hx hb hts inX7_take_X7 hown hC hw hm.1 rfl 24 (by decide) k_6 rfl dX7_take_162 ?_
              refine lv_iconst (v := nI 0) hx hb dX7_take_165 (by decide) ?_
              refine md_ald 24 (n := 280) hx hb hC hw hm rfl (by decide) rfl (by omega) (by decide) dX7_take_166 ?_
              refine mw_ti (v' := nI ((mtk A ed) 24 0)) (congrArg nI ((md_u_k (by decide)).trans (md_u_k (by decide)))) ?_
              refine lv_bipush (v := nI 127) hx hb dX7_take_167 (by decide) ?_
              refine lv_iand hx hb dX7_take_169 ?_
              refine mw_ti (v' := nI (((mtk A ed) 24 0) % 128)) (pk_andN (by omega) 7 (by decide)) ?_
              refine lv_istore_n (lv' := [(3, .int (nI (((mtk A ed) 24 0) % 128))), (0, .ref (h0)), (1, .int (nI (ed))), (2, .int (nI (mft A (40 * (1 - ed)))))]) hx hb dX7_take_170 rfl hl (by decide) rfl (fun ls hl => ?_)
              refine lv_iload_n hx hb dX7_take_171 rfl (lv_at hl 0 rfl) ?_
              refine lv_aload_n hx hb dX7_take_172 rfl (lv_at hl 1 rfl) ?_
              refine mw_get (C := RX7) (T := TX7) (N := 27) (v := .ref (a 8)) hx hb hts inX7_take_X7 hown hC hw hm.1 rfl 8 (by decide) k_5 rfl dX7_take_173 ?_
              refine lv_iload_n hx hb dX7_take_176 rfl (lv_at hl 2 rfl) ?_
              refine md_ald 8 (n := 2) hx hb hC hw hm rfl (by decide) rfl (by omega) (by decide) dX7_take_177 ?_
              refine mw_ti (v' := nI (A 8 ed)) (congrArg nI ((md_u_k (by decide)).trans ((md_u_k (by decide)).trans (congrFun (mtk_o A ed (by decide)) _)))) ?_
              refine lv_icmp_ne (tgt := 185) hx hb dX7_take_178 (by decide) (fun c_27 => ?_) (fun c_27 => ?_)
              · skip
                have c_27 : ((mtk A ed) 24 0) % 128 ≠ A 8 ed := fun h => c_27 ((nI_eq (a := ((mtk A ed) 24 0) % 128) (b := A 8 ed) (by omega) (by omega)).mpr h)
                refine lv_iconst (v := -1) hx hb dX7_take_185 (by decide) ?_
                refine lv_istore (lv' := [(4, .int (-1)), (3, .int (nI (((mtk A ed) 24 0) % 128))), (0, .ref (h0)), (1, .int (nI (ed))), (2, .int (nI (mft A (40 * (1 - ed)))))]) hx hb dX7_take_186 hl (by decide) rfl (fun ls hl => ?_)
                have hv_28 : (.int (nI (((mtk A ed) 24 0) % 128)) : Value) = .int (nI ((mtk A ed) 24 0 % 128)) := by first | rfl | simp_all
                rw [hv_28] at hl
                have hv_29 : (.int (-1) : Value) = .int (tlv (tl A ed ((mtk A ed) 24 0 % 128) 0)) := by first | (rw [tl, if_pos (by assumption)]; rfl) | (rw [tl, if_neg (by assumption)]; rfl)
                rw [hv_29] at hl
                exact jn_7     _ _ _ ls hm hf hw (lv_sub hl [2, 3, 1, 0] rfl)
              · skip
                have c_27 : ((mtk A ed) 24 0) % 128 = A 8 ed := (nI_eq (a := ((mtk A ed) 24 0) % 128) (b := A 8 ed) (by omega) (by omega)).mp c_27
                refine lv_iconst (v := nI 0) hx hb dX7_take_181 (by decide) ?_
                refine lv_goto (tgt := 186) hx hb dX7_take_182 (by decide) ?_
                refine lv_istore (lv' := [(4, .int (nI (0))), (3, .int (nI (((mtk A ed) 24 0) % 128))), (0, .ref (h0)), (1, .int (nI (ed))), (2, .int (nI (mft A (40 * (1 - ed)))))]) hx hb dX7_take_186 hl (by decide) rfl (fun ls hl => ?_)
                have hv_30 : (.int (nI (((mtk A ed) 24 0) % 128)) : Value) = .int (nI ((mtk A ed) 24 0 % 128)) := by first | rfl | simp_all
                rw [hv_30] at hl
                have hv_31 : (.int (nI (0)) : Value) = .int (tlv (tl A ed ((mtk A ed) 24 0 % 128) 0)) := by first | (rw [tl, if_pos (by assumption)]; rfl) | (rw [tl, if_neg (by assumption)]; rfl)
                rw [hv_31] at hl
                exact jn_7     _ _ _ ls hm hf hw (lv_sub hl [2, 3, 1, 0] rfl)
            · skip
              have c_6 : mft A (40 * (1 - ed)) > 0 := Nat.not_le.mp (fun h => c_6 ((nI_leI (a := mft A (40 * (1 - ed))) (b := 0) (by omega) (by omega)).mpr h))
              exfalso; omega
          have hA_32 : md_u ((va_up ((va_up (mfA A (40 * (1 - ed))) 2 (shf ((mfA A (40 * (1 - ed))) 2) (40 * (1 - ed) + 0) ((mfA A (40 * (1 - ed))) 1 (1 - ed) - 1 - 0)))) 3 (mgo ((mfA A (40 * (1 - ed))) 2) ((mfA A (40 * (1 - ed))) 3) (40 * (1 - ed) + 0) ((mfA A (40 * (1 - ed))) 1 (1 - ed) - 1 - 0)))) 1 ((1 - ed)) ((mfA A (40 * (1 - ed))) 1 (1 - ed) - 1) = mtk A ed := by unfold mtk; rw [mfA_o _ _ (j := 1) (by decide) (by decide), mfA_o _ _ (j := 2) (by decide) (by decide), mfA_o _ _ (j := 3) (by decide) (by decide)]; rfl
          rw [hA_32] at hm
          refine lv_aload_n hx hb dX7_take_64 rfl (lv_at hl 1 rfl) ?_
          refine mw_get (C := RX7) (T := TX7) (N := 27) (v := .ref (a 18)) hx hb hts inX7_take_X7 hown hC hw hm.1 rfl 18 (by decide) k_11 rfl dX7_take_65 ?_
          refine lv_iload_n hx hb dX7_take_68 rfl (lv_at hl 2 rfl) ?_
          refine lv_dup2_11 hx hb dX7_take_69 rfl rfl ?_
          refine md_ald 18 (n := 2) hx hb hC hw hm rfl (by decide) rfl (by omega) (by decide) dX7_take_70 ?_
          refine mw_ti (v' := nI (A 18 ed)) (congrArg nI (congrFun (mtk_o A ed (by decide)) _)) ?_
          refine lv_iconst (v := nI 1) hx hb dX7_take_71 (by decide) ?_
          refine lv_iadd hx hb dX7_take_72 ?_
          refine mw_ti (v' := nI (A 18 ed + 1)) (nI_add _ _) ?_
          refine md_ast 18 (n := 2) (v := A 18 ed + 1) hx hb hC hw hm rfl (by decide) rfl (by omega) (by decide) dX7_take_73 (fun M1 H locs hm hf1 hw => ?_)
          have hf := hf.tr hf1
          refine lv_aload_n hx hb dX7_take_74 rfl (lv_at hl 1 rfl) ?_
          refine mw_get (C := RX7) (T := TX7) (N := 27) (v := .ref (a 18)) hx hb hts inX7_take_X7 hown hC hw hm.1 rfl 18 (by decide) k_11 rfl dX7_take_75 ?_
          refine lv_iload_n hx hb dX7_take_78 rfl (lv_at hl 2 rfl) ?_
          refine md_ald 18 (n := 2) hx hb hC hw hm rfl (by decide) rfl (by omega) (by decide) dX7_take_79 ?_
          refine mw_ti (v' := nI (A 18 ed + 1)) (congrArg nI md_u_s) ?_
          refine lv_sipush (v := nI 256) hx hb dX7_take_80 (by decide) ?_
          refine lv_irem hx hb dX7_take_83 (by decide) ?_
          refine mw_ti (v' := nI ((A 18 ed + 1) % 256)) (pk_rem (by omega) (by omega) (by omega)) ?_
          refine lv_if_ne (tgt := 106) hx hb dX7_take_84 (by decide) (fun c_33 => ?_) (fun c_33 => ?_)
          · skip
            have c_33 : (A 18 ed + 1) % 256 ≠ 0 := fun h => c_33 ((nI_eq (a := (A 18 ed + 1) % 256) (b := 0) (by omega) (by omega)).mpr h)
            have hA_34 : md_u (mtk A ed) 18 ed (A 18 ed + 1) = md_u ((md_u (mtk A ed) 18 ed (A 18 ed + 1))) 17 ed (lk (A 17 ed) (A 18 ed)) := by rw [show lk (A 17 ed) (A 18 ed) = A 17 ed by unfold lk; rw [if_neg (by omega)]]; exact md_ui ((md_u_k (by decide)).trans (congrFun (mtk_o A ed (by decide)) _))
            rw [hA_34] at hm
            exact jn_5     _ _ _ ls hm hf hw (lv_sub hl [1, 2, 0] rfl)
          · skip
            have c_33 : (A 18 ed + 1) % 256 = 0 := (nI_eq (a := (A 18 ed + 1) % 256) (b := 0) (by omega) (by omega)).mp c_33
            refine lv_aload_n hx hb dX7_take_87 rfl (lv_at hl 1 rfl) ?_
            refine mw_get (C := RX7) (T := TX7) (N := 27) (v := .ref (a 17)) hx hb hts inX7_take_X7 hown hC hw hm.1 rfl 17 (by decide) k_12 rfl dX7_take_88 ?_
            refine lv_iload_n hx hb dX7_take_91 rfl (lv_at hl 2 rfl) ?_
            refine md_ald 17 (n := 2) hx hb hC hw hm rfl (by decide) rfl (by omega) (by decide) dX7_take_92 ?_
            refine mw_ti (v' := nI (A 17 ed)) (congrArg nI ((md_u_k (by decide)).trans (congrFun (mtk_o A ed (by decide)) _))) ?_
            refine lv_if_le (tgt := 106) hx hb dX7_take_93 (by decide) (fun c_35 => ?_) (fun c_35 => ?_)
            · skip
              have c_35 : A 17 ed ≤ 0 := (nI_leI (a := A 17 ed) (b := 0) (by omega) (by omega)).mp c_35
              have hA_36 : md_u (mtk A ed) 18 ed (A 18 ed + 1) = md_u ((md_u (mtk A ed) 18 ed (A 18 ed + 1))) 17 ed (lk (A 17 ed) (A 18 ed)) := by rw [show lk (A 17 ed) (A 18 ed) = A 17 ed by unfold lk; rw [if_neg (by omega)]]; exact md_ui ((md_u_k (by decide)).trans (congrFun (mtk_o A ed (by decide)) _))
              rw [hA_36] at hm
              exact jn_5     _ _ _ ls hm hf hw (lv_sub hl [1, 2, 0] rfl)
            · skip
              have c_35 : A 17 ed > 0 := Nat.not_le.mp (fun h => c_35 ((nI_leI (a := A 17 ed) (b := 0) (by omega) (by omega)).mpr h))
              refine lv_aload_n hx hb dX7_take_96 rfl (lv_at hl 1 rfl) ?_
              refine mw_get (C := RX7) (T := TX7) (N := 27) (v := .ref (a 17)) hx hb hts inX7_take_X7 hown hC hw hm.1 rfl 17 (by decide) k_12 rfl dX7_take_97 ?_
              refine lv_iload_n hx hb dX7_take_100 rfl (lv_at hl 2 rfl) ?_
              refine lv_dup2_11 hx hb dX7_take_101 rfl rfl ?_
              refine md_ald 17 (n := 2) hx hb hC hw hm rfl (by decide) rfl (by omega) (by decide) dX7_take_102 ?_
              refine mw_ti (v' := nI (A 17 ed)) (congrArg nI ((md_u_k (by decide)).trans (congrFun (mtk_o A ed (by decide)) _))) ?_
              refine lv_iconst (v := nI 1) hx hb dX7_take_103 (by decide) ?_
              refine lv_isub hx hb dX7_take_104 ?_
              refine mw_ti (v' := nI (A 17 ed - 1)) (pk_sub (by omega)) ?_
              refine md_ast 17 (n := 2) (v := A 17 ed - 1) hx hb hC hw hm rfl (by decide) rfl (by omega) (by decide) dX7_take_105 (fun M1 H locs hm hf1 hw => ?_)
              have hf := hf.tr hf1
              have hA_37 : md_u ((md_u (mtk A ed) 18 ed (A 18 ed + 1))) 17 ed (A 17 ed - 1) = md_u ((md_u (mtk A ed) 18 ed (A 18 ed + 1))) 17 ed (lk (A 17 ed) (A 18 ed)) := by rw [show lk (A 17 ed) (A 18 ed) = A 17 ed - 1 by unfold lk; rw [if_pos (by omega)]]
              rw [hA_37] at hm
              exact jn_5     _ _ _ ls hm hf hw (lv_sub hl [1, 2, 0] rfl)
        · skip
          exact absurd c_4 (by decide)
      · skip
        have c_3 : A 20 ed ≠ 0 := fun h => c_3 ((nI_eq (a := A 20 ed) (b := 0) (by omega) (by omega)).mpr h)
        exfalso; omega
  · skip
    exact absurd c_1 (by decide)
