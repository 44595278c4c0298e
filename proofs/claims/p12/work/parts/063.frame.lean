/-! ===== LinkPairModel.frame ===== -/
theorem inX7_frame_X7 : ∀ w ∈ wsX70, w ∈ wsX7_frame := by decide +kernel
def RM_X7_frame : Room := { frames := 2, cells := 0, slots := 0, locals := 46 }
set_option maxHeartbeats 4000000 in
set_option maxRecDepth 100000 in
theorem c_X7_frame (l : Launch) (G : mw_G) (M : mw_M) (sz : Nat) (h0 : Nat) (a : Nat → Nat) (c u : Nat) (A : md_S) (ed nu ln se : Nat) (hm : md_at G M h0 a c u A) (hed : ed ≤ 1) (hf2 : A 1 ed ≤ 39) (hnu : nu < 128) (hln : ln ≤ 272) (hse : se < 256) (h7 : A 7 ed < 128) (h5 : A 5 ed ≤ 1) (h4 : A 4 ed ≤ 1) (hug : ∀ i, i < 280 → A 24 i < 256) : Met l yX7_frame wsX7_frame RM_X7_frame (mw_pre G M sz [.ref (h0), .int (nI (ed)), .int (nI (nu)), .int (nI (ln)), .int (nI (se))]) (md_Qv G M sz h0 a c u (mfrm A ed nu ln se)) 0 0 (mw_A M sz) := by
  refine Met.ofW (cc := cX7_frame) (maxL := 9) (ret := none) (by decide) rfl ?_
  intro p e s m args below meth c0 s₁ B hml hv
  obtain ⟨rfl, rfl, hC, hw⟩ := mw_in hv
  have hx := B.exec
  have hb := B.bytes
  have hr := B.returns
  have hts := atoms_spec (ws := wsX7_frame) B.pre
  have hown : s.vm.findClass RX7 = some m.cls := findClass_of_methodNamed B.named
  have hlocks := B.notSynchronized
  have hf : md_fr h0 a M M := md_fr.rf
  have k_0 := hts (.fieldLink RX7 81 "LinkPairModel" "unit" "[I") (by decide +kernel)
  have k_1 := hts (.fieldLink RX7 29 "LinkPairModel" "takenLatest" "[I") (by decide +kernel)
  have k_2 := hts (.fieldLink RX7 23 "LinkPairModel" "bib" "[I") (by decide +kernel)
  have k_3 := hts (.fieldLink RX7 20 "LinkPairModel" "fib" "[I") (by decide +kernel)
  have k_4 := hts (.fieldLink RX7 13 "LinkPairModel" "lengths" "[I") (by decide +kernel)
  have k_5 := hts (.fieldLink RX7 7 "LinkPairModel" "frames" "[I") (by decide +kernel)
  have hl := lv_entry ([.ref (h0), .int (nI (ed)), .int (nI (nu)), .int (nI (ln)), .int (nI (se))]) (n := 9) (Nat.le_of_ble_eq_true rfl)
  rw [lg_entry_eq]
  generalize (lg_sl ([.ref (h0), .int (nI (ed)), .int (nI (nu)), .int (nI (ln)), .int (nI (se))]) ++ List.replicate (9 - (lg_sl ([.ref (h0), .int (nI (ed)), .int (nI (nu)), .int (nI (ln)), .int (nI (se))])).length) Slot.unset).toArray = ls at hl ⊢
  have hl : lv_has ls 9 [(0, .ref (h0)), (1, .int (nI (ed))), (2, .int (nI (nu))), (3, .int (nI (ln))), (4, .int (nI (se)))] := hl
  refine mw_start (fun H locs hw => ?_) hw
  have hb1 : ∀ i, i < 280 → mg1 A ed nu ln i < 256 := upN (upN (upN hug (by omega)) (by omega)) (by omega)
  have hb2 : ∀ i, i < 280 → bod (mg1 A ed nu ln) se ln i < 256 := bodN hb1 se ln
  have hcd := cdu_lt (bod (mg1 A ed nu ln) se ln) (3 + ln)
  have hb3 : ∀ i, i < 280 → mgu A ed nu ln se i < 256 := upN (upN hb2 (by omega)) (by omega)
  have z1 := mfr0_1 A ed nu ln se
  have z2 := mfr0_2 A ed nu ln se
  have z24 := mfr0_24 A ed nu ln se
  have y1 := mfl_o (mfr0 A ed nu ln se) ed 8 (j := 1) (by decide) (by decide)
  have y24 := mfl_o (mfr0 A ed nu ln se) ed 8 (j := 24) (by decide) (by decide)
  have y2 := mfl_2 (mfr0 A ed nu ln se) ed 8
  rw [z1, show 40 * ed + (A 1 ed + 1) - 1 = 40 * ed + A 1 ed by omega, z2] at y2
  refine lv_aload_n hx hb dX7_frame_0 rfl (lv_at hl 0 rfl) ?_
  refine mw_get (C := RX7) (T := TX7) (N := 27) (v := .ref (a 24)) hx hb hts inX7_frame_X7 hown hC hw hm.1 rfl 24 (by decide) k_0 rfl dX7_frame_1 ?_
  refine lv_iconst (v := nI 0) hx hb dX7_frame_4 (by decide) ?_
  refine lv_aload_n hx hb dX7_frame_5 rfl (lv_at hl 0 rfl) ?_
  refine mw_get (C := RX7) (T := TX7) (N := 27) (v := .ref (a 7)) hx hb hts inX7_frame_X7 hown hC hw hm.1 rfl 7 (by decide) k_1 rfl dX7_frame_6 ?_
  refine lv_iload_n hx hb dX7_frame_9 rfl (lv_at hl 1 rfl) ?_
  refine md_ald 7 (n := 2) hx hb hC hw hm rfl (by decide) rfl (by omega) (by decide) dX7_frame_10 ?_
  refine lv_sipush (v := nI 128) hx hb dX7_frame_11 (by decide) ?_
  refine lv_aload_n hx hb dX7_frame_14 rfl (lv_at hl 0 rfl) ?_
  refine mw_get (C := RX7) (T := TX7) (N := 27) (v := .ref (a 5)) hx hb hts inX7_frame_X7 hown hC hw hm.1 rfl 5 (by decide) k_2 rfl dX7_frame_15 ?_
  refine lv_iload_n hx hb dX7_frame_18 rfl (lv_at hl 1 rfl) ?_
  refine md_ald 5 (n := 2) hx hb hC hw hm rfl (by decide) rfl (by omega) (by decide) dX7_frame_19 ?_
  refine lv_imul hx hb dX7_frame_20 ?_
  refine mw_ti (v' := nI (128 * (A 5 ed))) (pk_mul _ _) ?_
  refine lv_iadd hx hb dX7_frame_21 ?_
  refine mw_ti (v' := nI (A 7 ed + 128 * (A 5 ed))) (nI_add _ _) ?_
  refine md_ast 24 (n := 280) (v := A 7 ed + 128 * (A 5 ed)) hx hb hC hw hm rfl (by decide) rfl (by omega) (by decide) dX7_frame_22 (fun M1 H locs hm hf1 hw => ?_)
  have hf := hf.tr hf1
  refine lv_aload_n hx hb dX7_frame_23 rfl (lv_at hl 0 rfl) ?_
  refine mw_get (C := RX7) (T := TX7) (N := 27) (v := .ref (a 24)) hx hb hts inX7_frame_X7 hown hC hw hm.1 rfl 24 (by decide) k_0 rfl dX7_frame_24 ?_
  refine lv_iconst (v := nI 1) hx hb dX7_frame_27 (by decide) ?_
  refine lv_iload_n hx hb dX7_frame_28 rfl (lv_at hl 2 rfl) ?_
  refine lv_sipush (v := nI 128) hx hb dX7_frame_29 (by decide) ?_
  refine lv_aload_n hx hb dX7_frame_32 rfl (lv_at hl 0 rfl) ?_
  refine mw_get (C := RX7) (T := TX7) (N := 27) (v := .ref (a 4)) hx hb hts inX7_frame_X7 hown hC hw hm.1 rfl 4 (by decide) k_3 rfl dX7_frame_33 ?_
  refine lv_iload_n hx hb dX7_frame_36 rfl (lv_at hl 1 rfl) ?_
  refine md_ald 4 (n := 2) hx hb hC hw hm rfl (by decide) rfl (by omega) (by decide) dX7_frame_37 ?_
  refine mw_ti (v' := nI (A 4 ed)) (congrArg nI (md_u_k (by decide))) ?_
  refine lv_imul hx hb dX7_frame_38 ?_
  refine mw_ti (v' := nI (128 * (A 4 ed))) (pk_mul _ _) ?_
  refine lv_iadd hx hb dX7_frame_39 ?_
  refine mw_ti (v' := nI (nu + 128 * (A 4 ed))) (nI_add _ _) ?_
  refine md_ast 24 (n := 280) (v := nu + 128 * (A 4 ed)) hx hb hC hw hm rfl (by decide) rfl (by omega) (by decide) dX7_frame_40 (fun M1 H locs hm hf1 hw => ?_)
  have hf := hf.tr hf1
  refine lv_aload_n hx hb dX7_frame_41 rfl (lv_at hl 0 rfl) ?_
  refine mw_get (C := RX7) (T := TX7) (N := 27) (v := .ref (a 24)) hx hb hts inX7_frame_X7 hown hC hw hm.1 rfl 24 (by decide) k_0 rfl dX7_frame_42 ?_
  refine lv_iconst (v := nI 2) hx hb dX7_frame_45 (by decide) ?_
  refine lv_iload_n hx hb dX7_frame_46 rfl (lv_at hl 3 rfl) ?_
  refine lv_bipush (v := nI 63) hx hb dX7_frame_47 (by decide) ?_
  refine lv_icmp_le (tgt := 57) hx hb dX7_frame_49 (by decide) (fun c_1 => ?_) (fun c_1 => ?_)
  · skip
    have c_1 : ln ≤ 63 := (nI_leI (a := ln) (b := 63) (by omega) (by omega)).mp c_1
    refine lv_iload_n hx hb dX7_frame_57 rfl (lv_at hl 3 rfl) ?_
    refine mw_ti (v' := nI (min ln 63)) (congrArg nI (by omega)) ?_
    refine md_ast 24 (n := 280) (v := min ln 63) hx hb hC hw hm rfl (by decide) rfl (by omega) (by decide) dX7_frame_58 (fun M1 H locs hm hf1 hw => ?_)
    have hf := hf.tr hf1
    refine lv_iconst (v := nI 0) hx hb dX7_frame_59 (by decide) ?_
    refine lv_istore (lv' := [(5, .int (nI (0))), (0, .ref (h0)), (1, .int (nI (ed))), (2, .int (nI (nu))), (3, .int (nI (ln))), (4, .int (nI (se)))]) hx hb dX7_frame_60 hl (by decide) rfl (fun ls hl => ?_)
    have lp_2 : ∀ (n9 : Nat) (k : Nat), (hk : k ≤ ln) → ln - k < n9 → ∀ (M1 : mw_M) (H : Heap) (locs : List Loc) (ls : Array Slot), md_at G M1 h0 a c u (va_up A 24 (bod (mg1 A ed nu ln) se k)) → md_fr h0 a M M1 → mw_St G (mw_A M s.heap.size) s M1 H locs → lv_has ls 9 [(0, .ref (h0)), (1, .int (nI (ed))), (2, .int (nI (nu))), (3, .int (nI (ln))), (4, .int (nI (se))), (5, .int (nI (k)))] → W p l e (headSpec wsX7_frame RM_X7_frame).room s m ([.ref (h0), .int (nI (ed)), .int (nI (nu)), .int (nI (ln)), .int (nI (se))] : List Value).toArray below meth c0 H locs 0 0 (MQ below (md_Qv G M s.heap.size h0 a c u (mfrm A ed nu ln se)) ([.ref (h0), .int (nI (ed)), .int (nI (nu)), .int (nI (ln)), .int (nI (se))] : List Value).toArray s 0 0 (mw_A M s.heap.size)) (F0 m 62 ls []) := by
      intro n9
      induction n9 with
      | zero => intro k hk h9; exact absurd h9 (Nat.not_lt_zero _)
      | succ n9 ih =>
        intro k hk h9 M1 H locs ls hm hf hw hl
        refine lv_iload hx hb dX7_frame_62 (lv_at hl 5 rfl) ?_
        refine lv_iload_n hx hb dX7_frame_64 rfl (lv_at hl 3 rfl) ?_
        refine lv_icmp_ge (tgt := 101) hx hb dX7_frame_65 (by decide) (fun c_3 => ?_) (fun c_3 => ?_)
        · skip
          have c_3 : k ≥ ln := (nI_leI (a := ln) (b := k) (by omega) (by omega)).mp c_3
          obtain rfl : ln = k := by omega
          refine lv_aload_n hx hb dX7_frame_101 rfl (lv_at hl 0 rfl) ?_
          refine lv_iconst (v := nI 3) hx hb dX7_frame_102 (by decide) ?_
          refine lv_iload_n hx hb dX7_frame_103 rfl (lv_at hl 3 rfl) ?_
          refine lv_iadd hx hb dX7_frame_104 ?_
          refine mw_ti (v' := nI (3 + ln)) (nI_add _ _) ?_
          refine md_ci hC hw (va_runV (As := [.int (nI (3 + ln))]) (rest := []) ⟨hx, hb, hml, hown, hts⟩ (c_X7_unitCheck l G _ H.size h0 a c u (va_up A 24 (bod (mg1 A ed nu ln) se ln)) (3 + ln) hm (by omega) (by rw [va_up_self]; exact hb2)) (cwV 1 hts gX7_frame_X7_unitCheck rfl rfl rfl (by decide +kernel) ⟨Nat.le_of_ble_eq_true rfl, Nat.le_of_ble_eq_true rfl⟩) (mw_preV (ci := 7) hC hw rfl hm.1) rfl rfl hl.1 rfl (lv_room (Nat.le_of_ble_eq_true rfl)) dX7_frame_105 ⟨Nat.le_of_ble_eq_true rfl, Nat.le_of_ble_eq_true rfl⟩) (fun M1 H locs hm hf1 hw => ?_)
          have hf := hf.tr hf1
          refine mw_ti (v' := nI (65535 - cdu (bod (mg1 A ed nu ln) se ln) (3 + ln))) (by rw [va_up_self]) ?_
          refine lv_istore (lv' := [(5, .int (nI (65535 - cdu (bod (mg1 A ed nu ln) se ln) (3 + ln)))), (0, .ref (h0)), (1, .int (nI (ed))), (2, .int (nI (nu))), (3, .int (nI (ln))), (4, .int (nI (se)))]) hx hb dX7_frame_108 hl (by decide) rfl (fun ls hl => ?_)
          refine lv_aload_n hx hb dX7_frame_110 rfl (lv_at hl 1 rfl) ?_
          refine mw_get (C := RX7) (T := TX7) (N := 27) (v := .ref (a 24)) hx hb hts inX7_frame_X7 hown hC hw hm.1 rfl 24 (by decide) k_0 rfl dX7_frame_111 ?_
          refine lv_iconst (v := nI 3) hx hb dX7_frame_114 (by decide) ?_
          refine lv_iload_n hx hb dX7_frame_115 rfl (lv_at hl 4 rfl) ?_
          refine lv_iadd hx hb dX7_frame_116 ?_
          refine mw_ti (v' := nI (3 + ln)) (nI_add _ _) ?_
          refine lv_iload hx hb dX7_frame_117 (lv_at hl 0 rfl) ?_
          refine lv_sipush (v := nI 255) hx hb dX7_frame_119 (by decide) ?_
          refine lv_iand hx hb dX7_frame_122 ?_
          refine mw_ti (v' := nI ((65535 - cdu (bod (mg1 A ed nu ln) se ln) (3 + ln)) % 256)) (pk_andN (by omega) 8 (by decide)) ?_
          refine md_ast 24 (n := 280) (v := (65535 - cdu (bod (mg1 A ed nu ln) se ln) (3 + ln)) % 256) hx hb hC hw hm rfl (by decide) rfl (by omega) (by decide) dX7_frame_123 (fun M1 H locs hm hf1 hw => ?_)
          have hf := hf.tr hf1
          refine lv_aload_n hx hb dX7_frame_124 rfl (lv_at hl 1 rfl) ?_
          refine mw_get (C := RX7) (T := TX7) (N := 27) (v := .ref (a 24)) hx hb hts inX7_frame_X7 hown hC hw hm.1 rfl 24 (by decide) k_0 rfl dX7_frame_125 ?_
          refine lv_iconst (v := nI 4) hx hb dX7_frame_128 (by decide) ?_
          refine lv_iload_n hx hb dX7_frame_129 rfl (lv_at hl 4 rfl) ?_
          refine lv_iadd hx hb dX7_frame_130 ?_
          refine mw_ti (v' := nI (4 + ln)) (nI_add _ _) ?_
          refine lv_iload hx hb dX7_frame_131 (lv_at hl 0 rfl) ?_
          refine lv_bipush (v := nI 8) hx hb dX7_frame_133 (by decide) ?_
          refine lv_ishr hx hb dX7_frame_135 ?_
          refine mw_ti (v' := nI ((65535 - cdu (bod (mg1 A ed nu ln) se ln) (3 + ln)) / 256)) (pk_shrN (by omega) _ 8 (by decide)) ?_
          refine md_ast 24 (n := 280) (v := (65535 - cdu (bod (mg1 A ed nu ln) se ln) (3 + ln)) / 256) hx hb hC hw hm rfl (by decide) rfl (by omega) (by decide) dX7_frame_136 (fun M1 H locs hm hf1 hw => ?_)
          have hf := hf.tr hf1
          refine lv_aload_n hx hb dX7_frame_137 rfl (lv_at hl 1 rfl) ?_
          refine mw_get (C := RX7) (T := TX7) (N := 27) (v := .ref (a 2)) hx hb hts inX7_frame_X7 hown hC hw hm.1 rfl 2 (by decide) k_4 rfl dX7_frame_138 ?_
          refine lv_bipush (v := nI 40) hx hb dX7_frame_141 (by decide) ?_
          refine lv_iload_n hx hb dX7_frame_143 rfl (lv_at hl 2 rfl) ?_
          refine lv_imul hx hb dX7_frame_144 ?_
          refine mw_ti (v' := nI (40 * ed)) (pk_mul _ _) ?_
          refine lv_aload_n hx hb dX7_frame_145 rfl (lv_at hl 1 rfl) ?_
          refine mw_get (C := RX7) (T := TX7) (N := 27) (v := .ref (a 1)) hx hb hts inX7_frame_X7 hown hC hw hm.1 rfl 1 (by decide) k_5 rfl dX7_frame_146 ?_
          refine lv_iload_n hx hb dX7_frame_149 rfl (lv_at hl 2 rfl) ?_
          refine md_ald 1 (n := 2) hx hb hC hw hm rfl (by decide) rfl (by omega) (by decide) dX7_frame_150 ?_
          refine mw_ti (v' := nI (A 1 ed)) (congrArg nI ((md_u_k (by decide)).trans ((md_u_k (by decide)).trans (md_w_k (by decide))))) ?_
          refine lv_iadd hx hb dX7_frame_151 ?_
          refine mw_ti (v' := nI (40 * ed + A 1 ed)) (nI_add _ _) ?_
          refine lv_iconst (v := nI 0) hx hb dX7_frame_152 (by decide) ?_
          refine md_ast 2 (n := 80) (v := 0) hx hb hC hw hm rfl (by decide) rfl (by omega) (by decide) dX7_frame_153 (fun M1 H locs hm hf1 hw => ?_)
          have hf := hf.tr hf1
          refine lv_aload_n hx hb dX7_frame_154 rfl (lv_at hl 1 rfl) ?_
          refine mw_get (C := RX7) (T := TX7) (N := 27) (v := .ref (a 1)) hx hb hts inX7_frame_X7 hown hC hw hm.1 rfl 1 (by decide) k_5 rfl dX7_frame_155 ?_
          refine lv_iload_n hx hb dX7_frame_158 rfl (lv_at hl 2 rfl) ?_
          refine lv_dup2_11 hx hb dX7_frame_159 rfl rfl ?_
          refine md_ald 1 (n := 2) hx hb hC hw hm rfl (by decide) rfl (by omega) (by decide) dX7_frame_160 ?_
          refine mw_ti (v' := nI (A 1 ed)) (congrArg nI ((md_u_k (by decide)).trans ((md_u_k (by decide)).trans ((md_u_k (by decide)).trans (md_w_k (by decide)))))) ?_
          refine lv_iconst (v := nI 1) hx hb dX7_frame_161 (by decide) ?_
          refine lv_iadd hx hb dX7_frame_162 ?_
          refine mw_ti (v' := nI (A 1 ed + 1)) (nI_add _ _) ?_
          refine md_ast 1 (n := 2) (v := A 1 ed + 1) hx hb hC hw hm rfl (by decide) rfl (by omega) (by decide) dX7_frame_163 (fun M1 H locs hm hf1 hw => ?_)
          have hf := hf.tr hf1
          have hA_4 : md_u ((md_u ((md_u ((md_u ((va_up A 24 (bod (mg1 A ed nu ln) se ln))) 24 (3 + ln) ((65535 - cdu (bod (mg1 A ed nu ln) se ln) (3 + ln)) % 256))) 24 (4 + ln) ((65535 - cdu (bod (mg1 A ed nu ln) se ln) (3 + ln)) / 256))) 2 (40 * ed + A 1 ed) 0)) 1 ed (A 1 ed + 1) = mfr0 A ed nu ln se := by unfold mfr0 mopen mgu; rw [md_uw, md_uw, va_up_ne (k := 24) (j := 1) _ _ (by decide)]
          rw [hA_4] at hm
          refine lv_aload_n hx hb dX7_frame_164 rfl (lv_at hl 1 rfl) ?_
          refine lv_iload_n hx hb dX7_frame_165 rfl (lv_at hl 2 rfl) ?_
          refine md_cv hC hw (va_runV (As := [.int (nI (ed))]) (rest := []) ⟨hx, hb, hml, hown, hts⟩ (c_X7_flag l G _ H.size h0 a c u (mfr0 A ed nu ln se) ed hm (by omega) (by rw [z1]; omega) (by rw [z1]; omega) (by rw [z1, show 40 * ed + (A 1 ed + 1) - 1 = 40 * ed + A 1 ed by omega, z2]; omega)) (cwV 1 hts gX7_frame_X7_flag rfl rfl rfl (by decide +kernel) ⟨Nat.le_of_ble_eq_true rfl, Nat.le_of_ble_eq_true rfl⟩) (mw_preV (ci := 7) hC hw rfl hm.1) rfl rfl hl.1 rfl (lv_room (Nat.le_of_ble_eq_true rfl)) dX7_frame_166 ⟨Nat.le_of_ble_eq_true rfl, Nat.le_of_ble_eq_true rfl⟩) (fun M1 H locs hm hf1 hw => ?_)
          have hf := hf.tr hf1
          refine lv_iconst (v := nI 0) hx hb dX7_frame_169 (by decide) ?_
          refine lv_istore (lv' := [(6, .int (nI (0))), (5, .int (nI (65535 - cdu (bod (mg1 A ed nu ln) se ln) (3 + ln)))), (0, .ref (h0)), (1, .int (nI (ed))), (2, .int (nI (nu))), (3, .int (nI (ln))), (4, .int (nI (se)))]) hx hb dX7_frame_170 hl (by decide) rfl (fun ls hl => ?_)
          refine lv_iconst (v := nI 0) hx hb dX7_frame_172 (by decide) ?_
          refine lv_istore (lv' := [(7, .int (nI (0))), (6, .int (nI (0))), (5, .int (nI (65535 - cdu (bod (mg1 A ed nu ln) se ln) (3 + ln)))), (0, .ref (h0)), (1, .int (nI (ed))), (2, .int (nI (nu))), (3, .int (nI (ln))), (4, .int (nI (se)))]) hx hb dX7_frame_173 hl (by decide) rfl (fun ls hl => ?_)
          have lp_5 : ∀ (n9 : Nat) (k : Nat), (hk : k ≤ 8 * (5 + ln)) → 8 * (5 + ln) - k < n9 → ∀ (M1 : mw_M) (H : Heap) (locs : List Loc) (ls : Array Slot), md_at G M1 h0 a c u ((mws (mgu A ed nu ln se) (mfl (mfr0 A ed nu ln se) ed 8) ed k).1) → md_fr h0 a M M1 → mw_St G (mw_A M s.heap.size) s M1 H locs → lv_has ls 9 [(0, .ref (h0)), (1, .int (nI (ed))), (3, .int (nI (ln))), (6, .int (nI ((mws (mgu A ed nu ln se) (mfl (mfr0 A ed nu ln se) ed 8) ed k).2))), (7, .int (nI (k)))] → W p l e (headSpec wsX7_frame RM_X7_frame).room s m ([.ref (h0), .int (nI (ed)), .int (nI (nu)), .int (nI (ln)), .int (nI (se))] : List Value).toArray below meth c0 H locs 0 0 (MQ below (md_Qv G M s.heap.size h0 a c u (mfrm A ed nu ln se)) ([.ref (h0), .int (nI (ed)), .int (nI (nu)), .int (nI (ln)), .int (nI (se))] : List Value).toArray s 0 0 (mw_A M s.heap.size)) (F0 m 175 ls []) := by
            intro n9
            induction n9 with
            | zero => intro k hk h9; exact absurd h9 (Nat.not_lt_zero _)
            | succ n9 ih175 =>
              intro k hk h9 M1 H locs ls hm hf hw hl
              have x1 := mws_o (mgu A ed nu ln se) (mfl (mfr0 A ed nu ln se) ed 8) ed k (j := 1) (by decide) (by decide)
              have x24 := mws_o (mgu A ed nu ln se) (mfl (mfr0 A ed nu ln se) ed 8) ed k (j := 24) (by decide) (by decide)
              have xl := mws_le (mgu A ed nu ln se) (mfl (mfr0 A ed nu ln se) ed 8) ed k
              rw [y1, z1, show 40 * ed + (A 1 ed + 1) - 1 = 40 * ed + A 1 ed by omega, y2] at xl
              have hbl := gbit_le (mgu A ed nu ln se) k
              have hgk : k / 8 < 280 → (mgu A ed nu ln se) (k / 8) < 256 := fun h => hb3 _ h
              have hgd : (mgu A ed nu ln se) (k / 8) / 2 ^ (k % 8) ≤ (mgu A ed nu ln se) (k / 8) := Nat.div_le_self _ _
              refine lv_iload hx hb dX7_frame_175 (lv_at hl 4 rfl) ?_
              refine lv_bipush (v := nI 8) hx hb dX7_frame_177 (by decide) ?_
              refine lv_iconst (v := nI 5) hx hb dX7_frame_179 (by decide) ?_
              refine lv_iload_n hx hb dX7_frame_180 rfl (lv_at hl 2 rfl) ?_
              refine lv_iadd hx hb dX7_frame_181 ?_
              refine mw_ti (v' := nI (5 + ln)) (nI_add _ _) ?_
              refine lv_imul hx hb dX7_frame_182 ?_
              refine mw_ti (v' := nI (8 * (5 + ln))) (pk_mul _ _) ?_
              refine lv_icmp_ge (tgt := 250) hx hb dX7_frame_183 (by decide) (fun c_6 => ?_) (fun c_6 => ?_)
              · skip
                have c_6 : k ≥ 8 * (5 + ln) := (nI_leI (a := 8 * (5 + ln)) (b := k) (by omega) (by omega)).mp c_6
                obtain rfl : k = 8 * (5 + ln) := by omega
                refine lv_aload_n hx hb dX7_frame_250 rfl (lv_at hl 0 rfl) ?_
                refine lv_iload_n hx hb dX7_frame_251 rfl (lv_at hl 1 rfl) ?_
                refine md_cv hC hw (va_runV (As := [.int (nI (ed))]) (rest := []) ⟨hx, hb, hml, hown, hts⟩ (c_X7_flag l G _ H.size h0 a c u ((mws (mgu A ed nu ln se) (mfl (mfr0 A ed nu ln se) ed 8) ed (8 * (5 + ln))).1) ed hm (by omega) (by rw [x1, y1, z1]; omega) (by rw [x1, y1, z1]; omega) (by rw [x1, y1, z1, show 40 * ed + (A 1 ed + 1) - 1 = 40 * ed + A 1 ed by omega]; omega)) (cwV 1 hts gX7_frame_X7_flag rfl rfl rfl (by decide +kernel) ⟨Nat.le_of_ble_eq_true rfl, Nat.le_of_ble_eq_true rfl⟩) (mw_preV (ci := 7) hC hw rfl hm.1) rfl rfl hl.1 rfl (lv_room (Nat.le_of_ble_eq_true rfl)) dX7_frame_252 ⟨Nat.le_of_ble_eq_true rfl, Nat.le_of_ble_eq_true rfl⟩) (fun M1 H locs hm hf1 hw => ?_)
                have hf := hf.tr hf1
                have hA_7 : mfl ((mws (mgu A ed nu ln se) (mfl (mfr0 A ed nu ln se) ed 8) ed (8 * (5 + ln))).1) ed 8 = mfrm A ed nu ln se := by first | rfl | simp_all
                rw [hA_7] at hm
                exact md_vret hx hb hr hlocks hw hm hf dX7_frame_255
              · skip
                have c_6 : k < 8 * (5 + ln) := Nat.not_le.mp (fun h => c_6 ((nI_leI (a := 8 * (5 + ln)) (b := k) (by omega) (by omega)).mpr h))
                refine lv_aload_n hx hb dX7_frame_186 rfl (lv_at hl 0 rfl) ?_
                refine mw_get (C := RX7) (T := TX7) (N := 27) (v := .ref (a 24)) hx hb hts inX7_frame_X7 hown hC hw hm.1 rfl 24 (by decide) k_0 rfl dX7_frame_187 ?_
                refine lv_iload hx hb dX7_frame_190 (lv_at hl 4 rfl) ?_
                refine lv_bipush (v := nI 8) hx hb dX7_frame_192 (by decide) ?_
                refine lv_idiv hx hb dX7_frame_194 (by decide) ?_
                refine mw_ti (v' := nI (k / 8)) (pk_div (by omega) (by omega) (by omega)) ?_
                refine md_ald 24 (n := 280) hx hb hC hw hm rfl (by decide) rfl (by omega) (by decide) dX7_frame_195 ?_
                refine mw_ti (v' := nI ((mgu A ed nu ln se) (k / 8))) (by rw [x24, y24, z24]) ?_
                refine lv_iload hx hb dX7_frame_196 (lv_at hl 4 rfl) ?_
                refine lv_bipush (v := nI 8) hx hb dX7_frame_198 (by decide) ?_
                refine lv_irem hx hb dX7_frame_200 (by decide) ?_
                refine mw_ti (v' := nI (k % 8)) (pk_rem (by omega) (by omega) (by omega)) ?_
                refine lv_ishr hx hb dX7_frame_201 ?_
                refine mw_ti (v' := nI ((mgu A ed nu ln se) (k / 8) / 2 ^ (k % 8))) (sh_bit (by omega) (by omega)) ?_
                refine lv_iconst (v := nI 1) hx hb dX7_frame_202 (by decide) ?_
                refine lv_iand hx hb dX7_frame_203 ?_
                refine mw_ti (v' := nI (gbit (mgu A ed nu ln se) k)) ((pk_andN (by omega) 1 (by decide)).trans rfl) ?_
                refine lv_istore (lv' := [(8, .int (nI (gbit (mgu A ed nu ln se) k))), (0, .ref (h0)), (1, .int (nI (ed))), (3, .int (nI (ln))), (6, .int (nI ((mws (mgu A ed nu ln se) (mfl (mfr0 A ed nu ln se) ed 8) ed k).2))), (7, .int (nI (k)))]) hx hb dX7_frame_204 hl (by decide) rfl (fun ls hl => ?_)
                refine lv_aload_n hx hb dX7_frame_206 rfl (lv_at hl 1 rfl) ?_
                refine lv_iload_n hx hb dX7_frame_207 rfl (lv_at hl 2 rfl) ?_
                refine lv_iload hx hb dX7_frame_208 (lv_at hl 0 rfl) ?_
                refine md_cv hC hw (va_runV (As := [.int (nI (ed)), .int (nI (gbit (mgu A ed nu ln se) k))]) (rest := []) ⟨hx, hb, hml, hown, hts⟩ (c_X7_bit l G _ H.size h0 a c u ((mws (mgu A ed nu ln se) (mfl (mfr0 A ed nu ln se) ed 8) ed k).1) ed (gbit (mgu A ed nu ln se) k) hm (by omega) (by rw [x1, y1, z1]; omega) (by rw [x1, y1, z1]; omega) (by rw [x1, y1, z1, show 40 * ed + (A 1 ed + 1) - 1 = 40 * ed + A 1 ed by omega]; omega)) (cwV 2 hts gX7_frame_X7_bit rfl rfl rfl (by decide +kernel) ⟨Nat.le_of_ble_eq_true rfl, Nat.le_of_ble_eq_true rfl⟩) (mw_preV (ci := 7) hC hw rfl hm.1) rfl rfl hl.1 rfl (lv_room (Nat.le_of_ble_eq_true rfl)) dX7_frame_210 ⟨Nat.le_of_ble_eq_true rfl, Nat.le_of_ble_eq_true rfl⟩) (fun M1 H locs hm hf1 hw => ?_)
                have hf := hf.tr hf1
                refine lv_iload hx hb dX7_frame_213 (lv_at hl 0 rfl) ?_
                refine lv_iconst (v := nI 1) hx hb dX7_frame_215 (by decide) ?_
                refine lv_icmp_ne (tgt := 226) hx hb dX7_frame_216 (by decide) (fun c_8 => ?_) (fun c_8 => ?_)
                · skip
                  have c_8 : gbit (mgu A ed nu ln se) k ≠ 1 := fun h => c_8 ((nI_eq (a := gbit (mgu A ed nu ln se) k) (b := 1) (by omega) (by omega)).mpr h)
                  refine lv_iconst (v := nI 0) hx hb dX7_frame_226 (by decide) ?_
                  refine lv_istore (lv' := [(6, .int (nI (0))), (8, .int (nI (gbit (mgu A ed nu ln se) k))), (0, .ref (h0)), (1, .int (nI (ed))), (3, .int (nI (ln))), (7, .int (nI (k)))]) hx hb dX7_frame_227 hl (by decide) rfl (fun ls hl => ?_)
                  refine lv_iload hx hb dX7_frame_229 (lv_at hl 0 rfl) ?_
                  refine lv_iconst (v := nI 5) hx hb dX7_frame_231 (by decide) ?_
                  refine lv_icmp_ne (tgt := 244) hx hb dX7_frame_232 (by decide) (fun c_9 => ?_) (fun c_9 => ?_)
                  · skip
                    refine lv_iinc (v := nI (k + 1)) (lv' := [(7, .int (nI (k + 1))), (6, .int (nI (0))), (8, .int (nI (gbit (mgu A ed nu ln se) k))), (0, .ref (h0)), (1, .int (nI (ed))), (3, .int (nI (ln)))]) hx hb dX7_frame_244 hl (k := 5) rfl (by rw [show Int32.ofInt 1 = nI 1 by decide]; exact nI_add _ _) (by decide) rfl (fun ls hl => ?_)
                    refine lv_goto (tgt := 175) hx hb dX7_frame_247 (by decide) ?_
                    have hA_10 : mbit ((mws (mgu A ed nu ln se) (mfl (mfr0 A ed nu ln se) ed 8) ed k).1) ed (gbit (mgu A ed nu ln se) k) = (mws (mgu A ed nu ln se) (mfl (mfr0 A ed nu ln se) ed 8) ed (k + 1)).1 := by simp only [mws, mw1]; first | (rw [if_pos (by assumption), if_pos (by assumption)]; done) | (rw [if_pos (by assumption), if_neg (by assumption)]; done) | (rw [if_neg (by assumption)])
                    rw [hA_10] at hm
                    have hv_11 : (.int (nI (0)) : Value) = .int (nI ((mws (mgu A ed nu ln se) (mfl (mfr0 A ed nu ln se) ed 8) ed (k + 1)).2)) := by simp only [mws, mw1]; first | (rw [if_pos (by assumption), if_pos (by assumption)]; done) | (rw [if_pos (by assumption), if_neg (by assumption)]; done) | (rw [if_neg (by assumption)])
                    rw [hv_11] at hl
                    exact ih175  (k + 1) (by omega) (by omega) _ _ _ ls hm hf hw (lv_sub hl [3, 4, 5, 1, 0] rfl)
                  · skip
                    exact absurd c_9 (by decide)
                · skip
                  have c_8 : gbit (mgu A ed nu ln se) k = 1 := (nI_eq (a := gbit (mgu A ed nu ln se) k) (b := 1) (by omega) (by omega)).mp c_8
                  refine lv_iload hx hb dX7_frame_219 (lv_at hl 4 rfl) ?_
                  refine lv_iconst (v := nI 1) hx hb dX7_frame_221 (by decide) ?_
                  refine lv_iadd hx hb dX7_frame_222 ?_
                  refine mw_ti (v' := nI ((mws (mgu A ed nu ln se) (mfl (mfr0 A ed nu ln se) ed 8) ed k).2 + 1)) (nI_add _ _) ?_
                  refine lv_goto (tgt := 227) hx hb dX7_frame_223 (by decide) ?_
                  refine lv_istore (lv' := [(6, .int (nI ((mws (mgu A ed nu ln se) (mfl (mfr0 A ed nu ln se) ed 8) ed k).2 + 1))), (8, .int (nI (gbit (mgu A ed nu ln se) k))), (0, .ref (h0)), (1, .int (nI (ed))), (3, .int (nI (ln))), (7, .int (nI (k)))]) hx hb dX7_frame_227 hl (by decide) rfl (fun ls hl => ?_)
                  refine lv_iload hx hb dX7_frame_229 (lv_at hl 0 rfl) ?_
                  refine lv_iconst (v := nI 5) hx hb dX7_frame_231 (by decide) ?_
                  refine lv_icmp_ne (tgt := 244) hx hb dX7_frame_232 (by decide) (fun c_12 => ?_) (fun c_12 => ?_)
                  · skip
                    have c_12 : (mws (mgu A ed nu ln se) (mfl (mfr0 A ed nu ln se) ed 8) ed k).2 + 1 ≠ 5 := fun h => c_12 ((nI_eq (a := (mws (mgu A ed nu ln se) (mfl (mfr0 A ed nu ln se) ed 8) ed k).2 + 1) (b := 5) (by omega) (by omega)).mpr h)
                    refine lv_iinc (v := nI (k + 1)) (lv' := [(7, .int (nI (k + 1))), (6, .int (nI ((mws (mgu A ed nu ln se) (mfl (mfr0 A ed nu ln se) ed 8) ed k).2 + 1))), (8, .int (nI (gbit (mgu A ed nu ln se) k))), (0, .ref (h0)), (1, .int (nI (ed))), (3, .int (nI (ln)))]) hx hb dX7_frame_244 hl (k := 5) rfl (by rw [show Int32.ofInt 1 = nI 1 by decide]; exact nI_add _ _) (by decide) rfl (fun ls hl => ?_)
                    refine lv_goto (tgt := 175) hx hb dX7_frame_247 (by decide) ?_
                    have hA_13 : mbit ((mws (mgu A ed nu ln se) (mfl (mfr0 A ed nu ln se) ed 8) ed k).1) ed (gbit (mgu A ed nu ln se) k) = (mws (mgu A ed nu ln se) (mfl (mfr0 A ed nu ln se) ed 8) ed (k + 1)).1 := by simp only [mws, mw1]; first | (rw [if_pos (by assumption), if_pos (by assumption)]; done) | (rw [if_pos (by assumption), if_neg (by assumption)]; done) | (rw [if_neg (by assumption)])
                    rw [hA_13] at hm
                    have hv_14 : (.int (nI ((mws (mgu A ed nu ln se) (mfl (mfr0 A ed nu ln se) ed 8) ed k).2 + 1)) : Value) = .int (nI ((mws (mgu A ed nu ln se) (mfl (mfr0 A ed nu ln se) ed 8) ed (k + 1)).2)) := by simp only [mws, mw1]; first | (rw [if_pos (by assumption), if_pos (by assumption)]; done) | (rw [if_pos (by assumption), if_neg (by assumption)]; done) | (rw [if_neg (by assumption)])
                    rw [hv_14] at hl
                    exact ih175  (k + 1) (by omega) (by omega) _ _ _ ls hm hf hw (lv_sub hl [3, 4, 5, 1, 0] rfl)
                  · skip
                    have c_12 : (mws (mgu A ed nu ln se) (mfl (mfr0 A ed nu ln se) ed 8) ed k).2 + 1 = 5 := (nI_eq (a := (mws (mgu A ed nu ln se) (mfl (mfr0 A ed nu ln se) ed 8) ed k).2 + 1) (b := 5) (by omega) (by omega)).mp c_12
                    refine lv_aload_n hx hb dX7_frame_235 rfl (lv_at hl 2 rfl) ?_
                    refine lv_iload_n hx hb dX7_frame_236 rfl (lv_at hl 3 rfl) ?_
                    refine lv_iconst (v := nI 0) hx hb dX7_frame_237 (by decide) ?_
                    have w2 := mbit_2 (mws (mgu A ed nu ln se) (mfl (mfr0 A ed nu ln se) ed 8) ed k).1 ed (gbit (mgu A ed nu ln se) k)
                    rw [x1, y1, z1, show 40 * ed + (A 1 ed + 1) - 1 = 40 * ed + A 1 ed by omega] at w2
                    have w1 := mbit_o (mws (mgu A ed nu ln se) (mfl (mfr0 A ed nu ln se) ed 8) ed k).1 ed (gbit (mgu A ed nu ln se) k) (k := 1) (by decide) (by decide)
                    refine md_cv hC hw (va_runV (As := [.int (nI (ed)), .int (nI (0))]) (rest := []) ⟨hx, hb, hml, hown, hts⟩ (c_X7_bit l G _ H.size h0 a c u (mbit ((mws (mgu A ed nu ln se) (mfl (mfr0 A ed nu ln se) ed 8) ed k).1) ed (gbit (mgu A ed nu ln se) k)) ed 0 hm (by omega) (by rw [w1, x1, y1, z1]; omega) (by rw [w1, x1, y1, z1]; omega) (by rw [w1, x1, y1, z1, show 40 * ed + (A 1 ed + 1) - 1 = 40 * ed + A 1 ed by omega, w2]; omega)) (cwV 2 hts gX7_frame_X7_bit rfl rfl rfl (by decide +kernel) ⟨Nat.le_of_ble_eq_true rfl, Nat.le_of_ble_eq_true rfl⟩) (mw_preV (ci := 7) hC hw rfl hm.1) rfl rfl hl.1 rfl (lv_room (Nat.le_of_ble_eq_true rfl)) dX7_frame_238 ⟨Nat.le_of_ble_eq_true rfl, Nat.le_of_ble_eq_true rfl⟩) (fun M1 H locs hm hf1 hw => ?_)
                    have hf := hf.tr hf1
                    refine lv_iconst (v := nI 0) hx hb dX7_frame_241 (by decide) ?_
                    refine lv_istore (lv' := [(6, .int (nI (0))), (8, .int (nI (gbit (mgu A ed nu ln se) k))), (0, .ref (h0)), (1, .int (nI (ed))), (3, .int (nI (ln))), (7, .int (nI (k)))]) hx hb dX7_frame_242 hl (by decide) rfl (fun ls hl => ?_)
                    refine lv_iinc (v := nI (k + 1)) (lv' := [(7, .int (nI (k + 1))), (6, .int (nI (0))), (8, .int (nI (gbit (mgu A ed nu ln se) k))), (0, .ref (h0)), (1, .int (nI (ed))), (3, .int (nI (ln)))]) hx hb dX7_frame_244 hl (k := 5) rfl (by rw [show Int32.ofInt 1 = nI 1 by decide]; exact nI_add _ _) (by decide) rfl (fun ls hl => ?_)
                    refine lv_goto (tgt := 175) hx hb dX7_frame_247 (by decide) ?_
                    have hA_15 : mbit (mbit ((mws (mgu A ed nu ln se) (mfl (mfr0 A ed nu ln se) ed 8) ed k).1) ed (gbit (mgu A ed nu ln se) k)) ed 0 = (mws (mgu A ed nu ln se) (mfl (mfr0 A ed nu ln se) ed 8) ed (k + 1)).1 := by simp only [mws, mw1]; first | (rw [if_pos (by assumption), if_pos (by assumption)]; done) | (rw [if_pos (by assumption), if_neg (by assumption)]; done) | (rw [if_neg (by assumption)])
                    rw [hA_15] at hm
                    have hv_16 : (.int (nI (0)) : Value) = .int (nI ((mws (mgu A ed nu ln se) (mfl (mfr0 A ed nu ln se) ed 8) ed (k + 1)).2)) := by simp only [mws, mw1]; first | (rw [if_pos (by assumption), if_pos (by assumption)]; done) | (rw [if_pos (by assumption), if_neg (by assumption)]; done) | (rw [if_neg (by assumption)])
                    rw [hv_16] at hl
                    exact ih175  (k + 1) (by omega) (by omega) _ _ _ ls hm hf hw (lv_sub hl [3, 4, 5, 1, 0] rfl)
          have hA_17 : mfl (mfr0 A ed nu ln se) ed 8 = (mws (mgu A ed nu ln se) (mfl (mfr0 A ed nu ln se) ed 8) ed 0).1 := by first | rfl | simp_all
          rw [hA_17] at hm
          have hv_18 : (.int (nI (0)) : Value) = .int (nI ((mws (mgu A ed nu ln se) (mfl (mfr0 A ed nu ln se) ed 8) ed 0).2)) := by first | rfl | simp_all
          have hl : lv_has ls 9 [(7, .int (nI (0))), (6, .int (nI ((mws (mgu A ed nu ln se) (mfl (mfr0 A ed nu ln se) ed 8) ed 0).2))), (5, .int (nI (65535 - cdu (bod (mg1 A ed nu ln) se ln) (3 + ln)))), (0, .ref (h0)), (1, .int (nI (ed))), (2, .int (nI (nu))), (3, .int (nI (ln))), (4, .int (nI (se)))] := by rw [← hv_18]; exact hl
          exact lp_5 (8 * (5 + ln) - 0 + 1) 0 (by omega) (Nat.lt_succ_self _) _ _ _ ls hm hf hw (lv_sub hl [3, 4, 6, 1, 0] rfl)
        · skip
          have c_3 : k < ln := Nat.not_le.mp (fun h => c_3 ((nI_leI (a := ln) (b := k) (by omega) (by omega)).mpr h))
          refine lv_aload_n hx hb dX7_frame_68 rfl (lv_at hl 0 rfl) ?_
          refine mw_get (C := RX7) (T := TX7) (N := 27) (v := .ref (a 24)) hx hb hts inX7_frame_X7 hown hC hw hm.1 rfl 24 (by decide) k_0 rfl dX7_frame_69 ?_
          refine lv_iconst (v := nI 3) hx hb dX7_frame_72 (by decide) ?_
          refine lv_iload hx hb dX7_frame_73 (lv_at hl 5 rfl) ?_
          refine lv_iadd hx hb dX7_frame_75 ?_
          refine mw_ti (v' := nI (3 + k)) (nI_add _ _) ?_
          refine lv_iload hx hb dX7_frame_76 (lv_at hl 4 rfl) ?_
          refine lv_bipush (v := nI 37) hx hb dX7_frame_78 (by decide) ?_
          refine lv_iload hx hb dX7_frame_80 (lv_at hl 5 rfl) ?_
          refine lv_imul hx hb dX7_frame_82 ?_
          refine mw_ti (v' := nI (37 * k)) (pk_mul _ _) ?_
          refine lv_iadd hx hb dX7_frame_83 ?_
          refine mw_ti (v' := nI (se + 37 * k)) (nI_add _ _) ?_
          refine lv_iload hx hb dX7_frame_84 (lv_at hl 5 rfl) ?_
          refine lv_bipush (v := nI 8) hx hb dX7_frame_86 (by decide) ?_
          refine lv_idiv hx hb dX7_frame_88 (by decide) ?_
          refine mw_ti (v' := nI (k / 8)) (pk_div (by omega) (by omega) (by omega)) ?_
          refine lv_iadd hx hb dX7_frame_89 ?_
          refine mw_ti (v' := nI (se + 37 * k + k / 8)) (nI_add _ _) ?_
          refine lv_sipush (v := nI 255) hx hb dX7_frame_90 (by decide) ?_
          refine lv_iand hx hb dX7_frame_93 ?_
          refine mw_ti (v' := nI ((se + 37 * k + k / 8) % 256)) (pk_andN (by omega) 8 (by decide)) ?_
          refine md_ast 24 (n := 280) (v := (se + 37 * k + k / 8) % 256) hx hb hC hw hm rfl (by decide) rfl (by omega) (by decide) dX7_frame_94 (fun M1 H locs hm hf1 hw => ?_)
          have hf := hf.tr hf1
          refine lv_iinc (v := nI (k + 1)) (lv' := [(5, .int (nI (k + 1))), (0, .ref (h0)), (1, .int (nI (ed))), (2, .int (nI (nu))), (3, .int (nI (ln))), (4, .int (nI (se)))]) hx hb dX7_frame_95 hl (k := 5) rfl (by rw [show Int32.ofInt 1 = nI 1 by decide]; exact nI_add _ _) (by decide) rfl (fun ls hl => ?_)
          refine lv_goto (tgt := 62) hx hb dX7_frame_98 (by decide) ?_
          have hA_19 : md_u ((va_up A 24 (bod (mg1 A ed nu ln) se k))) 24 (3 + k) ((se + 37 * k + k / 8) % 256) = va_up A 24 (bod (mg1 A ed nu ln) se (k + 1)) := by rw [md_uw]; rfl
          rw [hA_19] at hm
          exact ih  (k + 1) (by omega) (by omega) _ _ _ ls hm hf hw (lv_sub hl [1, 2, 3, 4, 5, 0] rfl)
    have hA_20 : md_u ((md_u ((md_u A 24 0 (A 7 ed + 128 * (A 5 ed)))) 24 1 (nu + 128 * (A 4 ed)))) 24 2 (min ln 63) = va_up A 24 (bod (mg1 A ed nu ln) se 0) := by unfold md_u; simp only [va_up_self, bx_uu]; rfl
    rw [hA_20] at hm
    exact lp_2 (ln - 0 + 1) 0 (by omega) (Nat.lt_succ_self _) _ _ _ ls hm hf hw (lv_sub hl [1, 2, 3, 4, 5, 0] rfl)
  · skip
    have c_1 : ln > 63 := Nat.not_le.mp (fun h => c_1 ((nI_leI (a := ln) (b := 63) (by omega) (by omega)).mpr h))
    refine lv_bipush (v := nI 63) hx hb dX7_frame_52 (by decide) ?_
    refine lv_goto (tgt := 58) hx hb dX7_frame_54 (by decide) ?_
    refine mw_ti (v' := nI (min ln 63)) (congrArg nI (by omega)) ?_
    refine md_ast 24 (n := 280) (v := min ln 63) hx hb hC hw hm rfl (by decide) rfl (by omega) (by decide) dX7_frame_58 (fun M1 H locs hm hf1 hw => ?_)
    have hf := hf.tr hf1
    refine lv_iconst (v := nI 0) hx hb dX7_frame_59 (by decide) ?_
    refine lv_istore (lv' := [(5, .int (nI (0))), (0, .ref (h0)), (1, .int (nI (ed))), (2, .int (nI (nu))), (3, .int (nI (ln))), (4, .int (nI (se)))]) hx hb dX7_frame_60 hl (by decide) rfl (fun ls hl => ?_)
    have lp_21 : ∀ (n9 : Nat) (k : Nat), (hk : k ≤ ln) → ln - k < n9 → ∀ (M1 : mw_M) (H : Heap) (locs : List Loc) (ls : Array Slot), md_at G M1 h0 a c u (va_up A 24 (bod (mg1 A ed nu ln) se k)) → md_fr h0 a M M1 → mw_St G (mw_A M s.heap.size) s M1 H locs → lv_has ls 9 [(0, .ref (h0)), (1, .int (nI (ed))), (2, .int (nI (nu))), (3, .int (nI (ln))), (4, .int (nI (se))), (5, .int (nI (k)))] → W p l e (headSpec wsX7_frame RM_X7_frame).room s m ([.ref (h0), .int (nI (ed)), .int (nI (nu)), .int (nI (ln)), .int (nI (se))] : List Value).toArray below meth c0 H locs 0 0 (MQ below (md_Qv G M s.heap.size h0 a c u (mfrm A ed nu ln se)) ([.ref (h0), .int (nI (ed)), .int (nI (nu)), .int (nI (ln)), .int (nI (se))] : List Value).toArray s 0 0 (mw_A M s.heap.size)) (F0 m 62 ls []) := by
      intro n9
      induction n9 with
      | zero => intro k hk h9; exact absurd h9 (Nat.not_lt_zero _)
      | succ n9 ih =>
        intro k hk h9 M1 H locs ls hm hf hw hl
        refine lv_iload hx hb dX7_frame_62 (lv_at hl 5 rfl) ?_
        refine lv_iload_n hx hb dX7_frame_64 rfl (lv_at hl 3 rfl) ?_
        refine lv_icmp_ge (tgt := 101) hx hb dX7_frame_65 (by decide) (fun c_22 => ?_) (fun c_22 => ?_)
        · skip
          have c_22 : k ≥ ln := (nI_leI (a := ln) (b := k) (by omega) (by omega)).mp c_22
          obtain rfl : ln = k := by omega
          refine lv_aload_n hx hb dX7_frame_101 rfl (lv_at hl 0 rfl) ?_
          refine lv_iconst (v := nI 3) hx hb dX7_frame_102 (by decide) ?_
          refine lv_iload_n hx hb dX7_frame_103 rfl (lv_at hl 3 rfl) ?_
          refine lv_iadd hx hb dX7_frame_104 ?_
          refine mw_ti (v' := nI (3 + ln)) (nI_add _ _) ?_
          refine md_ci hC hw (va_runV (As := [.int (nI (3 + ln))]) (rest := []) ⟨hx, hb, hml, hown, hts⟩ (c_X7_unitCheck l G _ H.size h0 a c u (va_up A 24 (bod (mg1 A ed nu ln) se ln)) (3 + ln) hm (by omega) (by rw [va_up_self]; exact hb2)) (cwV 1 hts gX7_frame_X7_unitCheck rfl rfl rfl (by decide +kernel) ⟨Nat.le_of_ble_eq_true rfl, Nat.le_of_ble_eq_true rfl⟩) (mw_preV (ci := 7) hC hw rfl hm.1) rfl rfl hl.1 rfl (lv_room (Nat.le_of_ble_eq_true rfl)) dX7_frame_105 ⟨Nat.le_of_ble_eq_true rfl, Nat.le_of_ble_eq_true rfl⟩) (fun M1 H locs hm hf1 hw => ?_)
          have hf := hf.tr hf1
          refine mw_ti (v' := nI (65535 - cdu (bod (mg1 A ed nu ln) se ln) (3 + ln))) (by rw [va_up_self]) ?_
          refine lv_istore (lv' := [(5, .int (nI (65535 - cdu (bod (mg1 A ed nu ln) se ln) (3 + ln)))), (0, .ref (h0)), (1, .int (nI (ed))), (2, .int (nI (nu))), (3, .int (nI (ln))), (4, .int (nI (se)))]) hx hb dX7_frame_108 hl (by decide) rfl (fun ls hl => ?_)
          refine lv_aload_n hx hb dX7_frame_110 rfl (lv_at hl 1 rfl) ?_
          refine mw_get (C := RX7) (T := TX7) (N := 27) (v := .ref (a 24)) hx hb hts inX7_frame_X7 hown hC hw hm.1 rfl 24 (by decide) k_0 rfl dX7_frame_111 ?_
          refine lv_iconst (v := nI 3) hx hb dX7_frame_114 (by decide) ?_
          refine lv_iload_n hx hb dX7_frame_115 rfl (lv_at hl 4 rfl) ?_
          refine lv_iadd hx hb dX7_frame_116 ?_
          refine mw_ti (v' := nI (3 + ln)) (nI_add _ _) ?_
          refine lv_iload hx hb dX7_frame_117 (lv_at hl 0 rfl) ?_
          refine lv_sipush (v := nI 255) hx hb dX7_frame_119 (by decide) ?_
          refine lv_iand hx hb dX7_frame_122 ?_
          refine mw_ti (v' := nI ((65535 - cdu (bod (mg1 A ed nu ln) se ln) (3 + ln)) % 256)) (pk_andN (by omega) 8 (by decide)) ?_
          refine md_ast 24 (n := 280) (v := (65535 - cdu (bod (mg1 A ed nu ln) se ln) (3 + ln)) % 256) hx hb hC hw hm rfl (by decide) rfl (by omega) (by decide) dX7_frame_123 (fun M1 H locs hm hf1 hw => ?_)
          have hf := hf.tr hf1
          refine lv_aload_n hx hb dX7_frame_124 rfl (lv_at hl 1 rfl) ?_
          refine mw_get (C := RX7) (T := TX7) (N := 27) (v := .ref (a 24)) hx hb hts inX7_frame_X7 hown hC hw hm.1 rfl 24 (by decide) k_0 rfl dX7_frame_125 ?_
          refine lv_iconst (v := nI 4) hx hb dX7_frame_128 (by decide) ?_
          refine lv_iload_n hx hb dX7_frame_129 rfl (lv_at hl 4 rfl) ?_
          refine lv_iadd hx hb dX7_frame_130 ?_
          refine mw_ti (v' := nI (4 + ln)) (nI_add _ _) ?_
          refine lv_iload hx hb dX7_frame_131 (lv_at hl 0 rfl) ?_
          refine lv_bipush (v := nI 8) hx hb dX7_frame_133 (by decide) ?_
          refine lv_ishr hx hb dX7_frame_135 ?_
          refine mw_ti (v' := nI ((65535 - cdu (bod (mg1 A ed nu ln) se ln) (3 + ln)) / 256)) (pk_shrN (by omega) _ 8 (by decide)) ?_
          refine md_ast 24 (n := 280) (v := (65535 - cdu (bod (mg1 A ed nu ln) se ln) (3 + ln)) / 256) hx hb hC hw hm rfl (by decide) rfl (by omega) (by decide) dX7_frame_136 (fun M1 H locs hm hf1 hw => ?_)
          have hf := hf.tr hf1
          refine lv_aload_n hx hb dX7_frame_137 rfl (lv_at hl 1 rfl) ?_
          refine mw_get (C := RX7) (T := TX7) (N := 27) (v := .ref (a 2)) hx hb hts inX7_frame_X7 hown hC hw hm.1 rfl 2 (by decide) k_4 rfl dX7_frame_138 ?_
          refine lv_bipush (v := nI 40) hx hb dX7_frame_141 (by decide) ?_
          refine lv_iload_n hx hb dX7_frame_143 rfl (lv_at hl 2 rfl) ?_
          refine lv_imul hx hb dX7_frame_144 ?_
          refine mw_ti (v' := nI (40 * ed)) (pk_mul _ _) ?_
          refine lv_aload_n hx hb dX7_frame_145 rfl (lv_at hl 1 rfl) ?_
          refine mw_get (C := RX7) (T := TX7) (N := 27) (v := .ref (a 1)) hx hb hts inX7_frame_X7 hown hC hw hm.1 rfl 1 (by decide) k_5 rfl dX7_frame_146 ?_
          refine lv_iload_n hx hb dX7_frame_149 rfl (lv_at hl 2 rfl) ?_
          refine md_ald 1 (n := 2) hx hb hC hw hm rfl (by decide) rfl (by omega) (by decide) dX7_frame_150 ?_
          refine mw_ti (v' := nI (A 1 ed)) (congrArg nI ((md_u_k (by decide)).trans ((md_u_k (by decide)).trans (md_w_k (by decide))))) ?_
          refine lv_iadd hx hb dX7_frame_151 ?_
          refine mw_ti (v' := nI (40 * ed + A 1 ed)) (nI_add _ _) ?_
          refine lv_iconst (v := nI 0) hx hb dX7_frame_152 (by decide) ?_
          refine md_ast 2 (n := 80) (v := 0) hx hb hC hw hm rfl (by decide) rfl (by omega) (by decide) dX7_frame_153 (fun M1 H locs hm hf1 hw => ?_)
          have hf := hf.tr hf1
          refine lv_aload_n hx hb dX7_frame_154 rfl (lv_at hl 1 rfl) ?_
          refine mw_get (C := RX7) (T := TX7) (N := 27) (v := .ref (a 1)) hx hb hts inX7_frame_X7 hown hC hw hm.1 rfl 1 (by decide) k_5 rfl dX7_frame_155 ?_
          refine lv_iload_n hx hb dX7_frame_158 rfl (lv_at hl 2 rfl) ?_
          refine lv_dup2_11 hx hb dX7_frame_159 rfl rfl ?_
          refine md_ald 1 (n := 2) hx hb hC hw hm rfl (by decide) rfl (by omega) (by decide) dX7_frame_160 ?_
          refine mw_ti (v' := nI (A 1 ed)) (congrArg nI ((md_u_k (by decide)).trans ((md_u_k (by decide)).trans ((md_u_k (by decide)).trans (md_w_k (by decide)))))) ?_
          refine lv_iconst (v := nI 1) hx hb dX7_frame_161 (by decide) ?_
          refine lv_iadd hx hb dX7_frame_162 ?_
          refine mw_ti (v' := nI (A 1 ed + 1)) (nI_add _ _) ?_
          refine md_ast 1 (n := 2) (v := A 1 ed + 1) hx hb hC hw hm rfl (by decide) rfl (by omega) (by decide) dX7_frame_163 (fun M1 H locs hm hf1 hw => ?_)
          have hf := hf.tr hf1
          have hA_23 : md_u ((md_u ((md_u ((md_u ((va_up A 24 (bod (mg1 A ed nu ln) se ln))) 24 (3 + ln) ((65535 - cdu (bod (mg1 A ed nu ln) se ln) (3 + ln)) % 256))) 24 (4 + ln) ((65535 - cdu (bod (mg1 A ed nu ln) se ln) (3 + ln)) / 256))) 2 (40 * ed + A 1 ed) 0)) 1 ed (A 1 ed + 1) = mfr0 A ed nu ln se := by unfold mfr0 mopen mgu; rw [md_uw, md_uw, va_up_ne (k := 24) (j := 1) _ _ (by decide)]
          rw [hA_23] at hm
          refine lv_aload_n hx hb dX7_frame_164 rfl (lv_at hl 1 rfl) ?_
          refine lv_iload_n hx hb dX7_frame_165 rfl (lv_at hl 2 rfl) ?_
          refine md_cv hC hw (va_runV (As := [.int (nI (ed))]) (rest := []) ⟨hx, hb, hml, hown, hts⟩ (c_X7_flag l G _ H.size h0 a c u (mfr0 A ed nu ln se) ed hm (by omega) (by rw [z1]; omega) (by rw [z1]; omega) (by rw [z1, show 40 * ed + (A 1 ed + 1) - 1 = 40 * ed + A 1 ed by omega, z2]; omega)) (cwV 1 hts gX7_frame_X7_flag rfl rfl rfl (by decide +kernel) ⟨Nat.le_of_ble_eq_true rfl, Nat.le_of_ble_eq_true rfl⟩) (mw_preV (ci := 7) hC hw rfl hm.1) rfl rfl hl.1 rfl (lv_room (Nat.le_of_ble_eq_true rfl)) dX7_frame_166 ⟨Nat.le_of_ble_eq_true rfl, Nat.le_of_ble_eq_true rfl⟩) (fun M1 H locs hm hf1 hw => ?_)
          have hf := hf.tr hf1
          refine lv_iconst (v := nI 0) hx hb dX7_frame_169 (by decide) ?_
          refine lv_istore (lv' := [(6, .int (nI (0))), (5, .int (nI (65535 - cdu (bod (mg1 A ed nu ln) se ln) (3 + ln)))), (0, .ref (h0)), (1, .int (nI (ed))), (2, .int (nI (nu))), (3, .int (nI (ln))), (4, .int (nI (se)))]) hx hb dX7_frame_170 hl (by decide) rfl (fun ls hl => ?_)
          refine lv_iconst (v := nI 0) hx hb dX7_frame_172 (by decide) ?_
          refine lv_istore (lv' := [(7, .int (nI (0))), (6, .int (nI (0))), (5, .int (nI (65535 - cdu (bod (mg1 A ed nu ln) se ln) (3 + ln)))), (0, .ref (h0)), (1, .int (nI (ed))), (2, .int (nI (nu))), (3, .int (nI (ln))), (4, .int (nI (se)))]) hx hb dX7_frame_173 hl (by decide) rfl (fun ls hl => ?_)
          have lp_24 : ∀ (n9 : Nat) (k : Nat), (hk : k ≤ 8 * (5 + ln)) → 8 * (5 + ln) - k < n9 → ∀ (M1 : mw_M) (H : Heap) (locs : List Loc) (ls : Array Slot), md_at G M1 h0 a c u ((mws (mgu A ed nu ln se) (mfl (mfr0 A ed nu ln se) ed 8) ed k).1) → md_fr h0 a M M1 → mw_St G (mw_A M s.heap.size) s M1 H locs → lv_has ls 9 [(0, .ref (h0)), (1, .int (nI (ed))), (3, .int (nI (ln))), (6, .int (nI ((mws (mgu A ed nu ln se) (mfl (mfr0 A ed nu ln se) ed 8) ed k).2))), (7, .int (nI (k)))] → W p l e (headSpec wsX7_frame RM_X7_frame).room s m ([.ref (h0), .int (nI (ed)), .int (nI (nu)), .int (nI (ln)), .int (nI (se))] : List Value).toArray below meth c0 H locs 0 0 (MQ below (md_Qv G M s.heap.size h0 a c u (mfrm A ed nu ln se)) ([.ref (h0), .int (nI (ed)), .int (nI (nu)), .int (nI (ln)), .int (nI (se))] : List Value).toArray s 0 0 (mw_A M s.heap.size)) (F0 m 175 ls []) := by
            intro n9
            induction n9 with
            | zero => intro k hk h9; exact absurd h9 (Nat.not_lt_zero _)
            | succ n9 ih175 =>
              intro k hk h9 M1 H locs ls hm hf hw hl
              have x1 := mws_o (mgu A ed nu ln se) (mfl (mfr0 A ed nu ln se) ed 8) ed k (j := 1) (by decide) (by decide)
              have x24 := mws_o (mgu A ed nu ln se) (mfl (mfr0 A ed nu ln se) ed 8) ed k (j := 24) (by decide) (by decide)
              have xl := mws_le (mgu A ed nu ln se) (mfl (mfr0 A ed nu ln se) ed 8) ed k
              rw [y1, z1, show 40 * ed + (A 1 ed + 1) - 1 = 40 * ed + A 1 ed by omega, y2] at xl
              have hbl := gbit_le (mgu A ed nu ln se) k
              have hgk : k / 8 < 280 → (mgu A ed nu ln se) (k / 8) < 256 := fun h => hb3 _ h
              have hgd : (mgu A ed nu ln se) (k / 8) / 2 ^ (k % 8) ≤ (mgu A ed nu ln se) (k / 8) := Nat.div_le_self _ _
              refine lv_iload hx hb dX7_frame_175 (lv_at hl 4 rfl) ?_
              refine lv_bipush (v := nI 8) hx hb dX7_frame_177 (by decide) ?_
              refine lv_iconst (v := nI 5) hx hb dX7_frame_179 (by decide) ?_
              refine lv_iload_n hx hb dX7_frame_180 rfl (lv_at hl 2 rfl) ?_
              refine lv_iadd hx hb dX7_frame_181 ?_
              refine mw_ti (v' := nI (5 + ln)) (nI_add _ _) ?_
              refine lv_imul hx hb dX7_frame_182 ?_
              refine mw_ti (v' := nI (8 * (5 + ln))) (pk_mul _ _) ?_
              refine lv_icmp_ge (tgt := 250) hx hb dX7_frame_183 (by decide) (fun c_25 => ?_) (fun c_25 => ?_)
              · skip
                have c_25 : k ≥ 8 * (5 + ln) := (nI_leI (a := 8 * (5 + ln)) (b := k) (by omega) (by omega)).mp c_25
                obtain rfl : k = 8 * (5 + ln) := by omega
                refine lv_aload_n hx hb dX7_frame_250 rfl (lv_at hl 0 rfl) ?_
                refine lv_iload_n hx hb dX7_frame_251 rfl (lv_at hl 1 rfl) ?_
                refine md_cv hC hw (va_runV (As := [.int (nI (ed))]) (rest := []) ⟨hx, hb, hml, hown, hts⟩ (c_X7_flag l G _ H.size h0 a c u ((mws (mgu A ed nu ln se) (mfl (mfr0 A ed nu ln se) ed 8) ed (8 * (5 + ln))).1) ed hm (by omega) (by rw [x1, y1, z1]; omega) (by rw [x1, y1, z1]; omega) (by rw [x1, y1, z1, show 40 * ed + (A 1 ed + 1) - 1 = 40 * ed + A 1 ed by omega]; omega)) (cwV 1 hts gX7_frame_X7_flag rfl rfl rfl (by decide +kernel) ⟨Nat.le_of_ble_eq_true rfl, Nat.le_of_ble_eq_true rfl⟩) (mw_preV (ci := 7) hC hw rfl hm.1) rfl rfl hl.1 rfl (lv_room (Nat.le_of_ble_eq_true rfl)) dX7_frame_252 ⟨Nat.le_of_ble_eq_true rfl, Nat.le_of_ble_eq_true rfl⟩) (fun M1 H locs hm hf1 hw => ?_)
                have hf := hf.tr hf1
                have hA_26 : mfl ((mws (mgu A ed nu ln se) (mfl (mfr0 A ed nu ln se) ed 8) ed (8 * (5 + ln))).1) ed 8 = mfrm A ed nu ln se := by first | rfl | simp_all
                rw [hA_26] at hm
                exact md_vret hx hb hr hlocks hw hm hf dX7_frame_255
              · skip
                have c_25 : k < 8 * (5 + ln) := Nat.not_le.mp (fun h => c_25 ((nI_leI (a := 8 * (5 + ln)) (b := k) (by omega) (by omega)).mpr h))
                refine lv_aload_n hx hb dX7_frame_186 rfl (lv_at hl 0 rfl) ?_
                refine mw_get (C := RX7) (T := TX7) (N := 27) (v := .ref (a 24)) hx hb hts inX7_frame_X7 hown hC hw hm.1 rfl 24 (by decide) k_0 rfl dX7_frame_187 ?_
                refine lv_iload hx hb dX7_frame_190 (lv_at hl 4 rfl) ?_
                refine lv_bipush (v := nI 8) hx hb dX7_frame_192 (by decide) ?_
                refine lv_idiv hx hb dX7_frame_194 (by decide) ?_
                refine mw_ti (v' := nI (k / 8)) (pk_div (by omega) (by omega) (by omega)) ?_
                refine md_ald 24 (n := 280) hx hb hC hw hm rfl (by decide) rfl (by omega) (by decide) dX7_frame_195 ?_
                refine mw_ti (v' := nI ((mgu A ed nu ln se) (k / 8))) (by rw [x24, y24, z24]) ?_
                refine lv_iload hx hb dX7_frame_196 (lv_at hl 4 rfl) ?_
                refine lv_bipush (v := nI 8) hx hb dX7_frame_198 (by decide) ?_
                refine lv_irem hx hb dX7_frame_200 (by decide) ?_
                refine mw_ti (v' := nI (k % 8)) (pk_rem (by omega) (by omega) (by omega)) ?_
                refine lv_ishr hx hb dX7_frame_201 ?_
                refine mw_ti (v' := nI ((mgu A ed nu ln se) (k / 8) / 2 ^ (k % 8))) (sh_bit (by omega) (by omega)) ?_
                refine lv_iconst (v := nI 1) hx hb dX7_frame_202 (by decide) ?_
                refine lv_iand hx hb dX7_frame_203 ?_
                refine mw_ti (v' := nI (gbit (mgu A ed nu ln se) k)) ((pk_andN (by omega) 1 (by decide)).trans rfl) ?_
                refine lv_istore (lv' := [(8, .int (nI (gbit (mgu A ed nu ln se) k))), (0, .ref (h0)), (1, .int (nI (ed))), (3, .int (nI (ln))), (6, .int (nI ((mws (mgu A ed nu ln se) (mfl (mfr0 A ed nu ln se) ed 8) ed k).2))), (7, .int (nI (k)))]) hx hb dX7_frame_204 hl (by decide) rfl (fun ls hl => ?_)
                refine lv_aload_n hx hb dX7_frame_206 rfl (lv_at hl 1 rfl) ?_
                refine lv_iload_n hx hb dX7_frame_207 rfl (lv_at hl 2 rfl) ?_
                refine lv_iload hx hb dX7_frame_208 (lv_at hl 0 rfl) ?_
                refine md_cv hC hw (va_runV (As := [.int (nI (ed)), .int (nI (gbit (mgu A ed nu ln se) k))]) (rest := []) ⟨hx, hb, hml, hown, hts⟩ (c_X7_bit l G _ H.size h0 a c u ((mws (mgu A ed nu ln se) (mfl (mfr0 A ed nu ln se) ed 8) ed k).1) ed (gbit (mgu A ed nu ln se) k) hm (by omega) (by rw [x1, y1, z1]; omega) (by rw [x1, y1, z1]; omega) (by rw [x1, y1, z1, show 40 * ed + (A 1 ed + 1) - 1 = 40 * ed + A 1 ed by omega]; omega)) (cwV 2 hts gX7_frame_X7_bit rfl rfl rfl (by decide +kernel) ⟨Nat.le_of_ble_eq_true rfl, Nat.le_of_ble_eq_true rfl⟩) (mw_preV (ci := 7) hC hw rfl hm.1) rfl rfl hl.1 rfl (lv_room (Nat.le_of_ble_eq_true rfl)) dX7_frame_210 ⟨Nat.le_of_ble_eq_true rfl, Nat.le_of_ble_eq_true rfl⟩) (fun M1 H locs hm hf1 hw => ?_)
                have hf := hf.tr hf1
                refine lv_iload hx hb dX7_frame_213 (lv_at hl 0 rfl) ?_
                refine lv_iconst (v := nI 1) hx hb dX7_frame_215 (by decide) ?_
                refine lv_icmp_ne (tgt := 226) hx hb dX7_frame_216 (by decide) (fun c_27 => ?_) (fun c_27 => ?_)
                · skip
                  have c_27 : gbit (mgu A ed nu ln se) k ≠ 1 := fun h => c_27 ((nI_eq (a := gbit (mgu A ed nu ln se) k) (b := 1) (by omega) (by omega)).mpr h)
                  refine lv_iconst (v := nI 0) hx hb dX7_frame_226 (by decide) ?_
                  refine lv_istore (lv' := [(6, .int (nI (0))), (8, .int (nI (gbit (mgu A ed nu ln se) k))), (0, .ref (h0)), (1, .int (nI (ed))), (3, .int (nI (ln))), (7, .int (nI (k)))]) hx hb dX7_frame_227 hl (by decide) rfl (fun ls hl => ?_)
                  refine lv_iload hx hb dX7_frame_229 (lv_at hl 0 rfl) ?_
                  refine lv_iconst (v := nI 5) hx hb dX7_frame_231 (by decide) ?_
                  refine lv_icmp_ne (tgt := 244) hx hb dX7_frame_232 (by decide) (fun c_28 => ?_) (fun c_28 => ?_)
                  · skip
                    refine lv_iinc (v := nI (k + 1)) (lv' := [(7, .int (nI (k + 1))), (6, .int (nI (0))), (8, .int (nI (gbit (mgu A ed nu ln se) k))), (0, .ref (h0)), (1, .int (nI (ed))), (3, .int (nI (ln)))]) hx hb dX7_frame_244 hl (k := 5) rfl (by rw [show Int32.ofInt 1 = nI 1 by decide]; exact nI_add _ _) (by decide) rfl (fun ls hl => ?_)
                    refine lv_goto (tgt := 175) hx hb dX7_frame_247 (by decide) ?_
                    have hA_29 : mbit ((mws (mgu A ed nu ln se) (mfl (mfr0 A ed nu ln se) ed 8) ed k).1) ed (gbit (mgu A ed nu ln se) k) = (mws (mgu A ed nu ln se) (mfl (mfr0 A ed nu ln se) ed 8) ed (k + 1)).1 := by simp only [mws, mw1]; first | (rw [if_pos (by assumption), if_pos (by assumption)]; done) | (rw [if_pos (by assumption), if_neg (by assumption)]; done) | (rw [if_neg (by assumption)])
                    rw [hA_29] at hm
                    have hv_30 : (.int (nI (0)) : Value) = .int (nI ((mws (mgu A ed nu ln se) (mfl (mfr0 A ed nu ln se) ed 8) ed (k + 1)).2)) := by simp only [mws, mw1]; first | (rw [if_pos (by assumption), if_pos (by assumption)]; done) | (rw [if_pos (by assumption), if_neg (by assumption)]; done) | (rw [if_neg (by assumption)])
                    rw [hv_30] at hl
                    exact ih175  (k + 1) (by omega) (by omega) _ _ _ ls hm hf hw (lv_sub hl [3, 4, 5, 1, 0] rfl)
                  · skip
                    exact absurd c_28 (by decide)
                · skip
                  have c_27 : gbit (mgu A ed nu ln se) k = 1 := (nI_eq (a := gbit (mgu A ed nu ln se) k) (b := 1) (by omega) (by omega)).mp c_27
                  refine lv_iload hx hb dX7_frame_219 (lv_at hl 4 rfl) ?_
                  refine lv_iconst (v := nI 1) hx hb dX7_frame_221 (by decide) ?_
                  refine lv_iadd hx hb dX7_frame_222 ?_
                  refine mw_ti (v' := nI ((mws (mgu A ed nu ln se) (mfl (mfr0 A ed nu ln se) ed 8) ed k).2 + 1)) (nI_add _ _) ?_
                  refine lv_goto (tgt := 227) hx hb dX7_frame_223 (by decide) ?_
                  refine lv_istore (lv' := [(6, .int (nI ((mws (mgu A ed nu ln se) (mfl (mfr0 A ed nu ln se) ed 8) ed k).2 + 1))), (8, .int (nI (gbit (mgu A ed nu ln se) k))), (0, .ref (h0)), (1, .int (nI (ed))), (3, .int (nI (ln))), (7, .int (nI (k)))]) hx hb dX7_frame_227 hl (by decide) rfl (fun ls hl => ?_)
                  refine lv_iload hx hb dX7_frame_229 (lv_at hl 0 rfl) ?_
                  refine lv_iconst (v := nI 5) hx hb dX7_frame_231 (by decide) ?_
                  refine lv_icmp_ne (tgt := 244) hx hb dX7_frame_232 (by decide) (fun c_31 => ?_) (fun c_31 => ?_)
                  · skip
                    have c_31 : (mws (mgu A ed nu ln se) (mfl (mfr0 A ed nu ln se) ed 8) ed k).2 + 1 ≠ 5 := fun h => c_31 ((nI_eq (a := (mws (mgu A ed nu ln se) (mfl (mfr0 A ed nu ln se) ed 8) ed k).2 + 1) (b := 5) (by omega) (by omega)).mpr h)
                    refine lv_iinc (v := nI (k + 1)) (lv' := [(7, .int (nI (k + 1))), (6, .int (nI ((mws (mgu A ed nu ln se) (mfl (mfr0 A ed nu ln se) ed 8) ed k).2 + 1))), (8, .int (nI (gbit (mgu A ed nu ln se) k))), (0, .ref (h0)), (1, .int (nI (ed))), (3, .int (nI (ln)))]) hx hb dX7_frame_244 hl (k := 5) rfl (by rw [show Int32.ofInt 1 = nI 1 by decide]; exact nI_add _ _) (by decide) rfl (fun ls hl => ?_)
                    refine lv_goto (tgt := 175) hx hb dX7_frame_247 (by decide) ?_
                    have hA_32 : mbit ((mws (mgu A ed nu ln se) (mfl (mfr0 A ed nu ln se) ed 8) ed k).1) ed (gbit (mgu A ed nu ln se) k) = (mws (mgu A ed nu ln se) (mfl (mfr0 A ed nu ln se) ed 8) ed (k + 1)).1 := by simp only [mws, mw1]; first | (rw [if_pos (by assumption), if_pos (by assumption)]; done) | (rw [if_pos (by assumption), if_neg (by assumption)]; done) | (rw [if_neg (by assumption)])
                    rw [hA_32] at hm
                    have hv_33 : (.int (nI ((mws (mgu A ed nu ln se) (mfl (mfr0 A ed nu ln se) ed 8) ed k).2 + 1)) : Value) = .int (nI ((mws (mgu A ed nu ln se) (mfl (mfr0 A ed nu ln se) ed 8) ed (k + 1)).2)) := by simp only [mws, mw1]; first | (rw [if_pos (by assumption), if_pos (by assumption)]; done) | (rw [if_pos (by assumption), if_neg (by assumption)]; done) | (rw [if_neg (by assumption)])
                    rw [hv_33] at hl
                    exact ih175  (k + 1) (by omega) (by omega) _ _ _ ls hm hf hw (lv_sub hl [3, 4, 5, 1, 0] rfl)
                  · skip
                    have c_31 : (mws (mgu A ed nu ln se) (mfl (mfr0 A ed nu ln se) ed 8) ed k).2 + 1 = 5 := (nI_eq (a := (mws (mgu A ed nu ln se) (mfl (mfr0 A ed nu ln se) ed 8) ed k).2 + 1) (b := 5) (by omega) (by omega)).mp c_31
                    refine lv_aload_n hx hb dX7_frame_235 rfl (lv_at hl 2 rfl) ?_
                    refine lv_iload_n hx hb dX7_frame_236 rfl (lv_at hl 3 rfl) ?_
                    refine lv_iconst (v := nI 0) hx hb dX7_frame_237 (by decide) ?_
                    have w2 := mbit_2 (mws (mgu A ed nu ln se) (mfl (mfr0 A ed nu ln se) ed 8) ed k).1 ed (gbit (mgu A ed nu ln se) k)
                    rw [x1, y1, z1, show 40 * ed + (A 1 ed + 1) - 1 = 40 * ed + A 1 ed by omega] at w2
                    have w1 := mbit_o (mws (mgu A ed nu ln se) (mfl (mfr0 A ed nu ln se) ed 8) ed k).1 ed (gbit (mgu A ed nu ln se) k) (k := 1) (by decide) (by decide)
                    refine md_cv hC hw (va_runV (As := [.int (nI (ed)), .int (nI (0))]) (rest := []) ⟨hx, hb, hml, hown, hts⟩ (c_X7_bit l G _ H.size h0 a c u (mbit ((mws (mgu A ed nu ln se) (mfl (mfr0 A ed nu ln se) ed 8) ed k).1) ed (gbit (mgu A ed nu ln se) k)) ed 0 hm (by omega) (by rw [w1, x1, y1, z1]; omega) (by rw [w1, x1, y1, z1]; omega) (by rw [w1, x1, y1, z1, show 40 * ed + (A 1 ed + 1) - 1 = 40 * ed + A 1 ed by omega, w2]; omega)) (cwV 2 hts gX7_frame_X7_bit rfl rfl rfl (by decide +kernel) ⟨Nat.le_of_ble_eq_true rfl, Nat.le_of_ble_eq_true rfl⟩) (mw_preV (ci := 7) hC hw rfl hm.1) rfl rfl hl.1 rfl (lv_room (Nat.le_of_ble_eq_true rfl)) dX7_frame_238 ⟨Nat.le_of_ble_eq_true rfl, Nat.le_of_ble_eq_true rfl⟩) (fun M1 H locs hm hf1 hw => ?_)
                    have hf := hf.tr hf1
                    refine lv_iconst (v := nI 0) hx hb dX7_frame_241 (by decide) ?_
                    refine lv_istore (lv' := [(6, .int (nI (0))), (8, .int (nI (gbit (mgu A ed nu ln se) k))), (0, .ref (h0)), (1, .int (nI (ed))), (3, .int (nI (ln))), (7, .int (nI (k)))]) hx hb dX7_frame_242 hl (by decide) rfl (fun ls hl => ?_)
                    refine lv_iinc (v := nI (k + 1)) (lv' := [(7, .int (nI (k + 1))), (6, .int (nI (0))), (8, .int (nI (gbit (mgu A ed nu ln se) k))), (0, .ref (h0)), (1, .int (nI (ed))), (3, .int (nI (ln)))]) hx hb dX7_frame_244 hl (k := 5) rfl (by rw [show Int32.ofInt 1 = nI 1 by decide]; exact nI_add _ _) (by decide) rfl (fun ls hl => ?_)
                    refine lv_goto (tgt := 175) hx hb dX7_frame_247 (by decide) ?_
                    have hA_34 : mbit (mbit ((mws (mgu A ed nu ln se) (mfl (mfr0 A ed nu ln se) ed 8) ed k).1) ed (gbit (mgu A ed nu ln se) k)) ed 0 = (mws (mgu A ed nu ln se) (mfl (mfr0 A ed nu ln se) ed 8) ed (k + 1)).1 := by simp only [mws, mw1]; first | (rw [if_pos (by assumption), if_pos (by assumption)]; done) | (rw [if_pos (by assumption), if_neg (by assumption)]; done) | (rw [if_neg (by assumption)])
                    rw [hA_34] at hm
                    have hv_35 : (.int (nI (0)) : Value) = .int (nI ((mws (mgu A ed nu ln se) (mfl (mfr0 A ed nu ln se) ed 8) ed (k + 1)).2)) := by simp only [mws, mw1]; first | (rw [if_pos (by assumption), if_pos (by assumption)]; done) | (rw [if_pos (by assumption), if_neg (by assumption)]; done) | (rw [if_neg (by assumption)])
                    rw [hv_35] at hl
                    exact ih175  (k + 1) (by omega) (by omega) _ _ _ ls hm hf hw (lv_sub hl [3, 4, 5, 1, 0] rfl)
          have hA_36 : mfl (mfr0 A ed nu ln se) ed 8 = (mws (mgu A ed nu ln se) (mfl (mfr0 A ed nu ln se) ed 8) ed 0).1 := by first | rfl | simp_all
          rw [hA_36] at hm
          have hv_37 : (.int (nI (0)) : Value) = .int (nI ((mws (mgu A ed nu ln se) (mfl (mfr0 A ed nu ln se) ed 8) ed 0).2)) := by first | rfl | simp_all
          have hl : lv_has ls 9 [(7, .int (nI (0))), (6, .int (nI ((mws (mgu A ed nu ln se) (mfl (mfr0 A ed nu ln se) ed 8) ed 0).2))), (5, .int (nI (65535 - cdu (bod (mg1 A ed nu ln) se ln) (3 + ln)))), (0, .ref (h0)), (1, .int (nI (ed))), (2, .int (nI (nu))), (3, .int (nI (ln))), (4, .int (nI (se)))] := by rw [← hv_37]; exact hl
          exact lp_24 (8 * (5 + ln) - 0 + 1) 0 (by omega) (Nat.lt_succ_self _) _ _ _ ls hm hf hw (lv_sub hl [3, 4, 6, 1, 0] rfl)
        · skip
          have c_22 : k < ln := Nat.not_le.mp (fun h => c_22 ((nI_leI (a := ln) (b := k) (by omega) (by omega)).mpr h))
          refine lv_aload_n hx hb dX7_frame_68 rfl (lv_at hl 0 rfl) ?_
          refine mw_get (C := RX7) (T := TX7) (N := 27) (v := .ref (a 24)) hx hb hts inX7_frame_X7 hown hC hw hm.1 rfl 24 (by decide) k_0 rfl dX7_frame_69 ?_
          refine lv_iconst (v := nI 3) hx hb dX7_frame_72 (by decide) ?_
          refine lv_iload hx hb dX7_frame_73 (lv_at hl 5 rfl) ?_
          refine lv_iadd hx hb dX7_frame_75 ?_
          refine mw_ti (v' := nI (3 + k)) (nI_add _ _) ?_
          refine lv_iload hx hb dX7_frame_76 (lv_at hl 4 rfl) ?_
          refine lv_bipush (v := nI 37) hx hb dX7_frame_78 (by decide) ?_
          refine lv_iload hx hb dX7_frame_80 (lv_at hl 5 rfl) ?_
          refine lv_imul hx hb dX7_frame_82 ?_
          refine mw_ti (v' := nI (37 * k)) (pk_mul _ _) ?_
          refine lv_iadd hx hb dX7_frame_83 ?_
          refine mw_ti (v' := nI (se + 37 * k)) (nI_add _ _) ?_
          refine lv_iload hx hb dX7_frame_84 (lv_at hl 5 rfl) ?_
          refine lv_bipush (v := nI 8) hx hb dX7_frame_86 (by decide) ?_
          refine lv_idiv hx hb dX7_frame_88 (by decide) ?_
          refine mw_ti (v' := nI (k / 8)) (pk_div (by omega) (by omega) (by omega)) ?_
          refine lv_iadd hx hb dX7_frame_89 ?_
          refine mw_ti (v' := nI (se + 37 * k + k / 8)) (nI_add _ _) ?_
          refine lv_sipush (v := nI 255) hx hb dX7_frame_90 (by decide) ?_
          refine lv_iand hx hb dX7_frame_93 ?_
          refine mw_ti (v' := nI ((se + 37 * k + k / 8) % 256)) (pk_andN (by omega) 8 (by decide)) ?_
          refine md_ast 24 (n := 280) (v := (se + 37 * k + k / 8) % 256) hx hb hC hw hm rfl (by decide) rfl (by omega) (by decide) dX7_frame_94 (fun M1 H locs hm hf1 hw => ?_)
          have hf := hf.tr hf1
          refine lv_iinc (v := nI (k + 1)) (lv' := [(5, .int (nI (k + 1))), (0, .ref (h0)), (1, .int (nI (ed))), (2, .int (nI (nu))), (3, .int (nI (ln))), (4, .int (nI (se)))]) hx hb dX7_frame_95 hl (k := 5) rfl (by rw [show Int32.ofInt 1 = nI 1 by decide]; exact nI_add _ _) (by decide) rfl (fun ls hl => ?_)
          refine lv_goto (tgt := 62) hx hb dX7_frame_98 (by decide) ?_
          have hA_38 : md_u ((va_up A 24 (bod (mg1 A ed nu ln) se k))) 24 (3 + k) ((se + 37 * k + k / 8) % 256) = va_up A 24 (bod (mg1 A ed nu ln) se (k + 1)) := by rw [md_uw]; rfl
          rw [hA_38] at hm
          exact ih  (k + 1) (by omega) (by omega) _ _ _ ls hm hf hw (lv_sub hl [1, 2, 3, 4, 5, 0] rfl)
    have hA_39 : md_u ((md_u ((md_u A 24 0 (A 7 ed + 128 * (A 5 ed)))) 24 1 (nu + 128 * (A 4 ed)))) 24 2 (min ln 63) = va_up A 24 (bod (mg1 A ed nu ln) se 0) := by unfold md_u; simp only [va_up_self, bx_uu]; rfl
    rw [hA_39] at hm
    exact lp_21 (ln - 0 + 1) 0 (by omega) (Nat.lt_succ_self _) _ _ _ ls hm hf hw (lv_sub hl [1, 2, 3, 4, 5, 0] rfl)
