/-! ===== LinkPairModel: send of a new message, bits, forwards ===== -/
def RM_X7_send_first : Room := { frames := 3, cells := 0, slots := 0, locals := 74 }
set_option maxHeartbeats 4000000 in
set_option maxRecDepth 100000 in
theorem c_X7_send_first (l : Launch) (G : mw_G) (M : mw_M) (sz : Nat) (h0 : Nat) (a : Nat → Nat) (c u : Nat) (A : md_S) (ed : Nat) (hm : md_at G M h0 a c u A) (hed : ed ≤ 1) (h1_ : A 1 ed ≤ 39) (h20 : A 20 ed = 0) (h7 : A 7 ed < 128) (h5 : A 5 ed ≤ 1) (h4 : A 4 ed ≤ 1) (h6 : A 6 ed < 128) (h12 : A 12 ed ≤ 127) (h16 : A 16 ed ≤ A 12 ed) (h9_ : A 9 ed ≤ 60) (hug : ∀ i, i < 280 → A 24 i < 256) (hc : A 12 ed ≤ A 16 ed) (hc1 : A 12 ed < 127) (hc2 : 0 < A 9 ed) (hln : A 10 (60 * ed) ≤ 272) (hse : A 11 (60 * ed) < 256) : Met l yX7_send wsX7_send RM_X7_send_first (mw_pre G M sz [.ref (h0), .int (nI (ed))]) (md_Qi G M sz h0 a (nI (1)) 0 u (mfrm (ms1 A ed) ed ((A 6 ed + 1) % 128) (A 10 (60 * ed)) (A 11 (60 * ed)))) 0 0 (mw_A M sz) := by
  refine Met.ofW (cc := cX7_send) (maxL := 5) (ret := (some .int)) (by decide) rfl ?_
  intro p e s m args below meth c0 s₁ B hml hv
  obtain ⟨rfl, rfl, hC, hw⟩ := mw_in hv
  have hx := B.exec
  have hb := B.bytes
  have hr := B.returns
  have hts := atoms_spec (ws := wsX7_send) B.pre
  have hown : s.vm.findClass RX7 = some m.cls := findClass_of_methodNamed B.named
  have hlocks := B.notSynchronized
  have hf : md_fr h0 a M M := md_fr.rf
  have k_0 := hts (.fieldLink RX7 7 "LinkPairModel" "frames" "[I") (by decide +kernel)
  have k_1 := hts (.fieldLink RX7 68 "LinkPairModel" "failed" "[Z") (by decide +kernel)
  have k_2 := hts (.fieldLink RX7 56 "LinkPairModel" "again" "[I") (by decide +kernel)
  have k_3 := hts (.fieldLink RX7 44 "LinkPairModel" "open" "[I") (by decide +kernel)
  have k_4 := hts (.fieldLink RX7 35 "LinkPairModel" "waits" "[I") (by decide +kernel)
  have k_5 := hts (.fieldLink RX7 26 "LinkPairModel" "sentLatest" "[I") (by decide +kernel)
  have k_6 := hts (.fieldLink RX7 47 "LinkPairModel" "openNumber" "[I") (by decide +kernel)
  have k_7 := hts (.fieldLink RX7 50 "LinkPairModel" "openLength" "[I") (by decide +kernel)
  have k_8 := hts (.fieldLink RX7 38 "LinkPairModel" "waitLength" "[I") (by decide +kernel)
  have k_9 := hts (.fieldLink RX7 53 "LinkPairModel" "openSeed" "[I") (by decide +kernel)
  have k_10 := hts (.fieldLink RX7 41 "LinkPairModel" "waitSeed" "[I") (by decide +kernel)
  have hl := lv_entry ([.ref (h0), .int (nI (ed))]) (n := 5) (Nat.le_of_ble_eq_true rfl)
  rw [lg_entry_eq]
  generalize (lg_sl ([.ref (h0), .int (nI (ed))]) ++ List.replicate (5 - (lg_sl ([.ref (h0), .int (nI (ed))])).length) Slot.unset).toArray = ls at hl ⊢
  have hl : lv_has ls 5 [(0, .ref (h0)), (1, .int (nI (ed)))] := hl
  refine mw_start (fun H locs hw => ?_) hw
  refine lv_aload_n hx hb dX7_send_0 rfl (lv_at hl 0 rfl) ?_
  refine lv_iload_n hx hb dX7_send_1 rfl (lv_at hl 1 rfl) ?_
  refine mw_ci hC hw (va_runS (As := [.int (nI (ed))]) (rest := [.ref (h0)]) ⟨hx, hb, hml, hown, hts⟩ (c_X7_isEnd l G _ H.size ed  (by omega)) (cwS 1 hts gX7_send_X7_isEnd rfl rfl rfl (by decide +kernel) ⟨Nat.le_of_ble_eq_true rfl, Nat.le_of_ble_eq_true rfl⟩) (mw_preS hC hw) rfl rfl hl.1 rfl (lv_room (Nat.le_of_ble_eq_true rfl)) dX7_send_2 ⟨Nat.le_of_ble_eq_true rfl, Nat.le_of_ble_eq_true rfl⟩) (fun H locs hz hw => ?_)
  refine lv_if_ne (tgt := 12) hx hb dX7_send_5 (by decide) (fun c_1 => ?_) (fun c_1 => ?_)
  · skip
    refine lv_aload_n hx hb dX7_send_12 rfl (lv_at hl 0 rfl) ?_
    refine mw_get (C := RX7) (T := TX7) (N := 27) (v := .ref (a 1)) hx hb hts inX7_send_X7 hown hC hw hm.1 rfl 1 (by decide) k_0 rfl dX7_send_13 ?_
    refine lv_iload_n hx hb dX7_send_16 rfl (lv_at hl 1 rfl) ?_
    refine md_ald 1 (n := 2) hx hb hC hw hm rfl (by decide) rfl (by omega) (by decide) dX7_send_17 ?_
    refine lv_bipush (v := nI 40) hx hb dX7_send_18 (by decide) ?_
    refine lv_icmp_eq (tgt := 32) hx hb dX7_send_20 (by decide) (fun c_2 => ?_) (fun c_2 => ?_)
    · skip
      have c_2 : A 1 ed = 40 := (nI_eq (a := A 1 ed) (b := 40) (by omega) (by omega)).mp c_2
      exfalso; omega
    · skip
      have c_2 : A 1 ed ≠ 40 := fun h => c_2 ((nI_eq (a := A 1 ed) (b := 40) (by omega) (by omega)).mpr h)
      refine lv_aload_n hx hb dX7_send_23 rfl (lv_at hl 0 rfl) ?_
      refine mw_get (C := RX7) (T := TX7) (N := 27) (v := .ref (a 20)) hx hb hts inX7_send_X7 hown hC hw hm.1 rfl 20 (by decide) k_1 rfl dX7_send_24 ?_
      refine lv_iload_n hx hb dX7_send_27 rfl (lv_at hl 1 rfl) ?_
      refine md_zld 20 (n := 2) hx hb hC hw hm rfl (by decide) rfl (by omega) (by decide) dX7_send_28 ?_
      refine lv_if_eq (tgt := 36) hx hb dX7_send_29 (by decide) (fun c_3 => ?_) (fun c_3 => ?_)
      · skip
        have c_3 : A 20 ed = 0 := (nI_eq (a := A 20 ed) (b := 0) (by omega) (by omega)).mp c_3
        refine lv_iconst (v := nI 0) hx hb dX7_send_36 (by decide) ?_
        refine md_ci hC hw (va_runV (As := [.int (nI (0))]) (rest := []) ⟨hx, hb, hml, hown, hts⟩ (c_X7_refuses l G _ H.size h0 a c u A 0 hm (by omega)) (cwV 1 hts gX7_send_X7_refuses rfl rfl rfl (by decide +kernel) ⟨Nat.le_of_ble_eq_true rfl, Nat.le_of_ble_eq_true rfl⟩) (mw_preV (ci := 7) hC hw rfl hm.1) rfl rfl hl.1 rfl (lv_room (Nat.le_of_ble_eq_true rfl)) dX7_send_37 ⟨Nat.le_of_ble_eq_true rfl, Nat.le_of_ble_eq_true rfl⟩) (fun M1 H locs hm hf1 hw => ?_)
        have hf := hf.tr hf1
        refine mw_ti (v' := nI (0)) rfl ?_
        refine lv_if_eq (tgt := 45) hx hb dX7_send_40 (by decide) (fun c_4 => ?_) (fun c_4 => ?_)
        · skip
          refine lv_bipush (v := nI 127) hx hb dX7_send_45 (by decide) ?_
          refine lv_iload_n hx hb dX7_send_47 rfl (lv_at hl 1 rfl) ?_
          refine lv_imul hx hb dX7_send_48 ?_
          refine mw_ti (v' := nI (127 * ed)) (pk_mul _ _) ?_
          refine lv_istore_n (lv' := [(2, .int (nI (127 * ed))), (0, .ref (h0)), (1, .int (nI (ed)))]) hx hb dX7_send_49 rfl hl (by decide) rfl (fun ls hl => ?_)
          refine lv_aload_n hx hb dX7_send_50 rfl (lv_at hl 1 rfl) ?_
          refine mw_get (C := RX7) (T := TX7) (N := 27) (v := .ref (a 16)) hx hb hts inX7_send_X7 hown hC hw hm.1 rfl 16 (by decide) k_2 rfl dX7_send_51 ?_
          refine lv_iload_n hx hb dX7_send_54 rfl (lv_at hl 2 rfl) ?_
          refine md_ald 16 (n := 2) hx hb hC hw hm rfl (by decide) rfl (by omega) (by decide) dX7_send_55 ?_
          refine lv_aload_n hx hb dX7_send_56 rfl (lv_at hl 1 rfl) ?_
          refine mw_get (C := RX7) (T := TX7) (N := 27) (v := .ref (a 12)) hx hb hts inX7_send_X7 hown hC hw hm.1 rfl 12 (by decide) k_3 rfl dX7_send_57 ?_
          refine lv_iload_n hx hb dX7_send_60 rfl (lv_at hl 2 rfl) ?_
          refine md_ald 12 (n := 2) hx hb hC hw hm rfl (by decide) rfl (by omega) (by decide) dX7_send_61 ?_
          refine lv_icmp_ge (tgt := 109) hx hb dX7_send_62 (by decide) (fun c_5 => ?_) (fun c_5 => ?_)
          · skip
            have c_5 : A 16 ed ≥ A 12 ed := (nI_leI (a := A 12 ed) (b := A 16 ed) (by omega) (by omega)).mp c_5
            refine lv_aload_n hx hb dX7_send_109 rfl (lv_at hl 1 rfl) ?_
            refine mw_get (C := RX7) (T := TX7) (N := 27) (v := .ref (a 12)) hx hb hts inX7_send_X7 hown hC hw hm.1 rfl 12 (by decide) k_3 rfl dX7_send_110 ?_
            refine lv_iload_n hx hb dX7_send_113 rfl (lv_at hl 2 rfl) ?_
            refine md_ald 12 (n := 2) hx hb hC hw hm rfl (by decide) rfl (by omega) (by decide) dX7_send_114 ?_
            refine lv_bipush (v := nI 127) hx hb dX7_send_115 (by decide) ?_
            refine lv_icmp_eq (tgt := 129) hx hb dX7_send_117 (by decide) (fun c_6 => ?_) (fun c_6 => ?_)
            · skip
              have c_6 : A 12 ed = 127 := (nI_eq (a := A 12 ed) (b := 127) (by omega) (by omega)).mp c_6
              exfalso; omega
            · skip
              have c_6 : A 12 ed ≠ 127 := fun h => c_6 ((nI_eq (a := A 12 ed) (b := 127) (by omega) (by omega)).mpr h)
              refine lv_aload_n hx hb dX7_send_120 rfl (lv_at hl 1 rfl) ?_
              refine mw_get (C := RX7) (T := TX7) (N := 27) (v := .ref (a 9)) hx hb hts inX7_send_X7 hown hC hw hm.1 rfl 9 (by decide) k_4 rfl dX7_send_121 ?_
              refine lv_iload_n hx hb dX7_send_124 rfl (lv_at hl 2 rfl) ?_
              refine md_ald 9 (n := 2) hx hb hC hw hm rfl (by decide) rfl (by omega) (by decide) dX7_send_125 ?_
              refine lv_if_ne (tgt := 144) hx hb dX7_send_126 (by decide) (fun c_7 => ?_) (fun c_7 => ?_)
              · skip
                have c_7 : A 9 ed ≠ 0 := fun h => c_7 ((nI_eq (a := A 9 ed) (b := 0) (by omega) (by omega)).mpr h)
                refine lv_iload_n hx hb dX7_send_144 rfl (lv_at hl 0 rfl) ?_
                refine lv_aload_n hx hb dX7_send_145 rfl (lv_at hl 1 rfl) ?_
                refine mw_get (C := RX7) (T := TX7) (N := 27) (v := .ref (a 12)) hx hb hts inX7_send_X7 hown hC hw hm.1 rfl 12 (by decide) k_3 rfl dX7_send_146 ?_
                refine lv_iload_n hx hb dX7_send_149 rfl (lv_at hl 2 rfl) ?_
                refine md_ald 12 (n := 2) hx hb hC hw hm rfl (by decide) rfl (by omega) (by decide) dX7_send_150 ?_
                refine lv_iadd hx hb dX7_send_151 ?_
                refine mw_ti (v' := nI (127 * ed + A 12 ed)) (nI_add _ _) ?_
                refine lv_istore_n (lv' := [(3, .int (nI (127 * ed + A 12 ed))), (2, .int (nI (127 * ed))), (0, .ref (h0)), (1, .int (nI (ed)))]) hx hb dX7_send_152 rfl hl (by decide) rfl (fun ls hl => ?_)
                refine lv_aload_n hx hb dX7_send_153 rfl (lv_at hl 2 rfl) ?_
                refine mw_get (C := RX7) (T := TX7) (N := 27) (v := .ref (a 6)) hx hb hts inX7_send_X7 hown hC hw hm.1 rfl 6 (by decide) k_5 rfl dX7_send_154 ?_
                refine lv_iload_n hx hb dX7_send_157 rfl (lv_at hl 3 rfl) ?_
                refine lv_aload_n hx hb dX7_send_158 rfl (lv_at hl 2 rfl) ?_
                refine mw_get (C := RX7) (T := TX7) (N := 27) (v := .ref (a 6)) hx hb hts inX7_send_X7 hown hC hw hm.1 rfl 6 (by decide) k_5 rfl dX7_send_159 ?_
                refine lv_iload_n hx hb dX7_send_162 rfl (lv_at hl 3 rfl) ?_
                refine md_ald 6 (n := 2) hx hb hC hw hm rfl (by decide) rfl (by omega) (by decide) dX7_send_163 ?_
                refine lv_iconst (v := nI 1) hx hb dX7_send_164 (by decide) ?_
                refine lv_iadd hx hb dX7_send_165 ?_
                refine mw_ti (v' := nI (A 6 ed + 1)) (nI_add _ _) ?_
                refine lv_bipush (v := nI 127) hx hb dX7_send_166 (by decide) ?_
                refine lv_iand hx hb dX7_send_168 ?_
                refine mw_ti (v' := nI ((A 6 ed + 1) % 128)) (pk_andN (by omega) 7 (by decide)) ?_
                refine md_ast 6 (n := 2) (v := (A 6 ed + 1) % 128) hx hb hC hw hm rfl (by decide) rfl (by omega) (by decide) dX7_send_169 (fun M1 H locs hm hf1 hw => ?_)
                have hf := hf.tr hf1
                refine lv_aload_n hx hb dX7_send_170 rfl (lv_at hl 2 rfl) ?_
                refine mw_get (C := RX7) (T := TX7) (N := 27) (v := .ref (a 13)) hx hb hts inX7_send_X7 hown hC hw hm.1 rfl 13 (by decide) k_6 rfl dX7_send_171 ?_
                refine lv_iload_n hx hb dX7_send_174 rfl (lv_at hl 0 rfl) ?_
                refine lv_aload_n hx hb dX7_send_175 rfl (lv_at hl 2 rfl) ?_
                refine mw_get (C := RX7) (T := TX7) (N := 27) (v := .ref (a 6)) hx hb hts inX7_send_X7 hown hC hw hm.1 rfl 6 (by decide) k_5 rfl dX7_send_176 ?_
                refine lv_iload_n hx hb dX7_send_179 rfl (lv_at hl 3 rfl) ?_
                refine md_ald 6 (n := 2) hx hb hC hw hm rfl (by decide) rfl (by omega) (by decide) dX7_send_180 ?_
                refine mw_ti (v' := nI ((A 6 ed + 1) % 128)) (congrArg nI md_u_s) ?_
                refine md_ast 13 (n := 254) (v := (A 6 ed + 1) % 128) hx hb hC hw hm rfl (by decide) rfl (by omega) (by decide) dX7_send_181 (fun M1 H locs hm hf1 hw => ?_)
                have hf := hf.tr hf1
                refine lv_aload_n hx hb dX7_send_182 rfl (lv_at hl 2 rfl) ?_
                refine mw_get (C := RX7) (T := TX7) (N := 27) (v := .ref (a 14)) hx hb hts inX7_send_X7 hown hC hw hm.1 rfl 14 (by decide) k_7 rfl dX7_send_183 ?_
                refine lv_iload_n hx hb dX7_send_186 rfl (lv_at hl 0 rfl) ?_
                refine lv_aload_n hx hb dX7_send_187 rfl (lv_at hl 2 rfl) ?_
                refine mw_get (C := RX7) (T := TX7) (N := 27) (v := .ref (a 10)) hx hb hts inX7_send_X7 hown hC hw hm.1 rfl 10 (by decide) k_8 rfl dX7_send_188 ?_
                refine lv_bipush (v := nI 60) hx hb dX7_send_191 (by decide) ?_
                refine lv_iload_n hx hb dX7_send_193 rfl (lv_at hl 3 rfl) ?_
                refine lv_imul hx hb dX7_send_194 ?_
                refine mw_ti (v' := nI (60 * ed)) (pk_mul _ _) ?_
                refine md_ald 10 (n := 120) hx hb hC hw hm rfl (by decide) rfl (by omega) (by decide) dX7_send_195 ?_
                refine mw_ti (v' := nI (A 10 (60 * ed))) (congrArg nI ((md_u_k (by decide)).trans (md_u_k (by decide)))) ?_
                refine md_ast 14 (n := 254) (v := A 10 (60 * ed)) hx hb hC hw hm rfl (by decide) rfl (by omega) (by decide) dX7_send_196 (fun M1 H locs hm hf1 hw => ?_)
                have hf := hf.tr hf1
                refine lv_aload_n hx hb dX7_send_197 rfl (lv_at hl 2 rfl) ?_
                refine mw_get (C := RX7) (T := TX7) (N := 27) (v := .ref (a 15)) hx hb hts inX7_send_X7 hown hC hw hm.1 rfl 15 (by decide) k_9 rfl dX7_send_198 ?_
                refine lv_iload_n hx hb dX7_send_201 rfl (lv_at hl 0 rfl) ?_
                refine lv_aload_n hx hb dX7_send_202 rfl (lv_at hl 2 rfl) ?_
                refine mw_get (C := RX7) (T := TX7) (N := 27) (v := .ref (a 11)) hx hb hts inX7_send_X7 hown hC hw hm.1 rfl 11 (by decide) k_10 rfl dX7_send_203 ?_
                refine lv_bipush (v := nI 60) hx hb dX7_send_206 (by decide) ?_
                refine lv_iload_n hx hb dX7_send_208 rfl (lv_at hl 3 rfl) ?_
                refine lv_imul hx hb dX7_send_209 ?_
                refine mw_ti (v' := nI (60 * ed)) (pk_mul _ _) ?_
                refine md_ald 11 (n := 120) hx hb hC hw hm rfl (by decide) rfl (by omega) (by decide) dX7_send_210 ?_
                refine mw_ti (v' := nI (A 11 (60 * ed))) (congrArg nI ((md_u_k (by decide)).trans ((md_u_k (by decide)).trans (md_u_k (by decide))))) ?_
                refine md_ast 15 (n := 254) (v := A 11 (60 * ed)) hx hb hC hw hm rfl (by decide) rfl (by omega) (by decide) dX7_send_211 (fun M1 H locs hm hf1 hw => ?_)
                have hf := hf.tr hf1
                refine lv_bipush (v := nI 60) hx hb dX7_send_212 (by decide) ?_
                refine lv_iload_n hx hb dX7_send_214 rfl (lv_at hl 3 rfl) ?_
                refine lv_imul hx hb dX7_send_215 ?_
                refine mw_ti (v' := nI (60 * ed)) (pk_mul _ _) ?_
                refine lv_istore (lv' := [(4, .int (nI (60 * ed))), (3, .int (nI (127 * ed + A 12 ed))), (2, .int (nI (127 * ed))), (0, .ref (h0)), (1, .int (nI (ed)))]) hx hb dX7_send_216 hl (by decide) rfl (fun ls hl => ?_)
                have lp_8 : ∀ (n9 : Nat) (k : Nat), (hk : k + 1 ≤ A 9 ed) → A 9 ed - k < n9 → ∀ (M1 : mw_M) (H : Heap) (locs : List Loc) (ls : Array Slot), md_at G M1 h0 a 0 u (va_up ((va_up ((md_u ((md_u ((md_u ((md_u A 6 ed ((A 6 ed + 1) % 128))) 13 (127 * ed + A 12 ed) ((A 6 ed + 1) % 128))) 14 (127 * ed + A 12 ed) (A 10 (60 * ed)))) 15 (127 * ed + A 12 ed) (A 11 (60 * ed)))) 10 (shf (A 10) (60 * ed) k))) 11 (shf (A 11) (60 * ed) k)) → md_fr h0 a M M1 → mw_St G (mw_A M s.heap.size) s M1 H locs → lv_has ls 5 [(0, .ref (h0)), (1, .int (nI (ed))), (3, .int (nI (127 * ed + A 12 ed))), (4, .int (nI (60 * ed + k)))] → W p l e (headSpec wsX7_send RM_X7_send_first).room s m ([.ref (h0), .int (nI (ed))] : List Value).toArray below meth c0 H locs 0 0 (MQ below (md_Qi G M s.heap.size h0 a (nI (1)) 0 u (mfrm (ms1 A ed) ed ((A 6 ed + 1) % 128) (A 10 (60 * ed)) (A 11 (60 * ed)))) ([.ref (h0), .int (nI (ed))] : List Value).toArray s 0 0 (mw_A M s.heap.size)) (F0 m 218 ls []) := by
                  intro n9
                  induction n9 with
                  | zero => intro k hk h9; exact absurd h9 (Nat.not_lt_zero _)
                  | succ n9 ih =>
                    intro k hk h9 M1 H locs ls hm hf hw hl
                    refine lv_iload hx hb dX7_send_218 (lv_at hl 3 rfl) ?_
                    refine lv_iconst (v := nI 1) hx hb dX7_send_220 (by decide) ?_
                    refine lv_iadd hx hb dX7_send_221 ?_
                    refine mw_ti (v' := nI (60 * ed + k + 1)) (nI_add _ _) ?_
                    refine lv_bipush (v := nI 60) hx hb dX7_send_222 (by decide) ?_
                    refine lv_iload_n hx hb dX7_send_224 rfl (lv_at hl 1 rfl) ?_
                    refine lv_imul hx hb dX7_send_225 ?_
                    refine mw_ti (v' := nI (60 * ed)) (pk_mul _ _) ?_
                    refine lv_aload_n hx hb dX7_send_226 rfl (lv_at hl 0 rfl) ?_
                    refine mw_get (C := RX7) (T := TX7) (N := 27) (v := .ref (a 9)) hx hb hts inX7_send_X7 hown hC hw hm.1 rfl 9 (by decide) k_4 rfl dX7_send_227 ?_
                    refine lv_iload_n hx hb dX7_send_230 rfl (lv_at hl 1 rfl) ?_
                    refine md_ald 9 (n := 2) hx hb hC hw hm rfl (by decide) rfl (by omega) (by decide) dX7_send_231 ?_
                    refine mw_ti (v' := nI (A 9 ed)) (congrArg nI ((md_w_k (by decide)).trans ((md_w_k (by decide)).trans ((md_u_k (by decide)).trans ((md_u_k (by decide)).trans ((md_u_k (by decide)).trans (md_u_k (by decide)))))))) ?_
                    refine lv_iadd hx hb dX7_send_232 ?_
                    refine mw_ti (v' := nI (60 * ed + A 9 ed)) (nI_add _ _) ?_
                    refine lv_icmp_ge (tgt := 274) hx hb dX7_send_233 (by decide) (fun c_9 => ?_) (fun c_9 => ?_)
                    · skip
                      have c_9 : 60 * ed + k + 1 ≥ 60 * ed + A 9 ed := (nI_leI (a := 60 * ed + A 9 ed) (b := 60 * ed + k + 1) (by omega) (by omega)).mp c_9
                      obtain rfl : k = A 9 ed - 1 := by omega
                      refine lv_aload_n hx hb dX7_send_274 rfl (lv_at hl 0 rfl) ?_
                      refine mw_get (C := RX7) (T := TX7) (N := 27) (v := .ref (a 9)) hx hb hts inX7_send_X7 hown hC hw hm.1 rfl 9 (by decide) k_4 rfl dX7_send_275 ?_
                      refine lv_iload_n hx hb dX7_send_278 rfl (lv_at hl 1 rfl) ?_
                      refine lv_dup2_11 hx hb dX7_send_279 rfl rfl ?_
                      refine md_ald 9 (n := 2) hx hb hC hw hm rfl (by decide) rfl (by omega) (by decide) dX7_send_280 ?_
                      refine mw_ti (v' := nI (A 9 ed)) (congrArg nI ((md_w_k (by decide)).trans ((md_w_k (by decide)).trans ((md_u_k (by decide)).trans ((md_u_k (by decide)).trans ((md_u_k (by decide)).trans (md_u_k (by decide)))))))) ?_
                      refine lv_iconst (v := nI 1) hx hb dX7_send_281 (by decide) ?_
                      refine lv_isub hx hb dX7_send_282 ?_
                      refine mw_ti (v' := nI (A 9 ed - 1)) (pk_sub (by omega)) ?_
                      refine md_ast 9 (n := 2) (v := A 9 ed - 1) hx hb hC hw hm rfl (by decide) rfl (by omega) (by decide) dX7_send_283 (fun M1 H locs hm hf1 hw => ?_)
                      have hf := hf.tr hf1
                      refine lv_aload_n hx hb dX7_send_284 rfl (lv_at hl 0 rfl) ?_
                      refine mw_get (C := RX7) (T := TX7) (N := 27) (v := .ref (a 12)) hx hb hts inX7_send_X7 hown hC hw hm.1 rfl 12 (by decide) k_3 rfl dX7_send_285 ?_
                      refine lv_iload_n hx hb dX7_send_288 rfl (lv_at hl 1 rfl) ?_
                      refine lv_dup2_11 hx hb dX7_send_289 rfl rfl ?_
                      refine md_ald 12 (n := 2) hx hb hC hw hm rfl (by decide) rfl (by omega) (by decide) dX7_send_290 ?_
                      refine mw_ti (v' := nI (A 12 ed)) (congrArg nI ((md_u_k (by decide)).trans ((md_w_k (by decide)).trans ((md_w_k (by decide)).trans ((md_u_k (by decide)).trans ((md_u_k (by decide)).trans ((md_u_k (by decide)).trans (md_u_k (by decide))))))))) ?_
                      refine lv_iconst (v := nI 1) hx hb dX7_send_291 (by decide) ?_
                      refine lv_iadd hx hb dX7_send_292 ?_
                      refine mw_ti (v' := nI (A 12 ed + 1)) (nI_add _ _) ?_
                      refine md_ast 12 (n := 2) (v := A 12 ed + 1) hx hb hC hw hm rfl (by decide) rfl (by omega) (by decide) dX7_send_293 (fun M1 H locs hm hf1 hw => ?_)
                      have hf := hf.tr hf1
                      refine lv_aload_n hx hb dX7_send_294 rfl (lv_at hl 0 rfl) ?_
                      refine mw_get (C := RX7) (T := TX7) (N := 27) (v := .ref (a 16)) hx hb hts inX7_send_X7 hown hC hw hm.1 rfl 16 (by decide) k_2 rfl dX7_send_295 ?_
                      refine lv_iload_n hx hb dX7_send_298 rfl (lv_at hl 1 rfl) ?_
                      refine lv_aload_n hx hb dX7_send_299 rfl (lv_at hl 0 rfl) ?_
                      refine mw_get (C := RX7) (T := TX7) (N := 27) (v := .ref (a 12)) hx hb hts inX7_send_X7 hown hC hw hm.1 rfl 12 (by decide) k_3 rfl dX7_send_300 ?_
                      refine lv_iload_n hx hb dX7_send_303 rfl (lv_at hl 1 rfl) ?_
                      refine md_ald 12 (n := 2) hx hb hC hw hm rfl (by decide) rfl (by omega) (by decide) dX7_send_304 ?_
                      refine mw_ti (v' := nI (A 12 ed + 1)) (congrArg nI md_u_s) ?_
                      refine md_ast 16 (n := 2) (v := A 12 ed + 1) hx hb hC hw hm rfl (by decide) rfl (by omega) (by decide) dX7_send_305 (fun M1 H locs hm hf1 hw => ?_)
                      have hf := hf.tr hf1
                      refine lv_aload_n hx hb dX7_send_306 rfl (lv_at hl 0 rfl) ?_
                      refine lv_iload_n hx hb dX7_send_307 rfl (lv_at hl 1 rfl) ?_
                      refine lv_aload_n hx hb dX7_send_308 rfl (lv_at hl 0 rfl) ?_
                      refine mw_get (C := RX7) (T := TX7) (N := 27) (v := .ref (a 13)) hx hb hts inX7_send_X7 hown hC hw hm.1 rfl 13 (by decide) k_6 rfl dX7_send_309 ?_
                      refine lv_iload_n hx hb dX7_send_312 rfl (lv_at hl 2 rfl) ?_
                      refine md_ald 13 (n := 254) hx hb hC hw hm rfl (by decide) rfl (by omega) (by decide) dX7_send_313 ?_
                      refine mw_ti (v' := nI ((A 6 ed + 1) % 128)) (congrArg nI ((md_u_k (by decide)).trans ((md_u_k (by decide)).trans ((md_u_k (by decide)).trans ((md_w_k (by decide)).trans ((md_w_k (by decide)).trans ((md_u_k (by decide)).trans ((md_u_k (by decide)).trans md_u_s)))))))) ?_
                      refine lv_aload_n hx hb dX7_send_314 rfl (lv_at hl 0 rfl) ?_
                      refine mw_get (C := RX7) (T := TX7) (N := 27) (v := .ref (a 14)) hx hb hts inX7_send_X7 hown hC hw hm.1 rfl 14 (by decide) k_7 rfl dX7_send_315 ?_
                      refine lv_iload_n hx hb dX7_send_318 rfl (lv_at hl 2 rfl) ?_
                      refine md_ald 14 (n := 254) hx hb hC hw hm rfl (by decide) rfl (by omega) (by decide) dX7_send_319 ?_
                      refine mw_ti (v' := nI (A 10 (60 * ed))) (congrArg nI ((md_u_k (by decide)).trans ((md_u_k (by decide)).trans ((md_u_k (by decide)).trans ((md_w_k (by decide)).trans ((md_w_k (by decide)).trans ((md_u_k (by decide)).trans md_u_s))))))) ?_
                      refine lv_aload_n hx hb dX7_send_320 rfl (lv_at hl 0 rfl) ?_
                      refine mw_get (C := RX7) (T := TX7) (N := 27) (v := .ref (a 15)) hx hb hts inX7_send_X7 hown hC hw hm.1 rfl 15 (by decide) k_9 rfl dX7_send_321 ?_
                      refine lv_iload_n hx hb dX7_send_324 rfl (lv_at hl 2 rfl) ?_
                      refine md_ald 15 (n := 254) hx hb hC hw hm rfl (by decide) rfl (by omega) (by decide) dX7_send_325 ?_
                      refine mw_ti (v' := nI (A 11 (60 * ed))) (congrArg nI ((md_u_k (by decide)).trans ((md_u_k (by decide)).trans ((md_u_k (by decide)).trans ((md_w_k (by decide)).trans ((md_w_k (by decide)).trans md_u_s)))))) ?_
                      have hA_10 : md_u ((md_u ((md_u ((va_up ((va_up ((md_u ((md_u ((md_u ((md_u A 6 ed ((A 6 ed + 1) % 128))) 13 (127 * ed + A 12 ed) ((A 6 ed + 1) % 128))) 14 (127 * ed + A 12 ed) (A 10 (60 * ed)))) 15 (127 * ed + A 12 ed) (A 11 (60 * ed)))) 10 (shf (A 10) (60 * ed) (A 9 ed - 1)))) 11 (shf (A 11) (60 * ed) (A 9 ed - 1)))) 9 ed (A 9 ed - 1))) 12 ed (A 12 ed + 1))) 16 ed (A 12 ed + 1) = ms1 A ed := by rfl
                      rw [hA_10] at hm
                      refine md_cv hC hw (va_runV (As := [.int (nI (ed)), .int (nI ((A 6 ed + 1) % 128)), .int (nI (A 10 (60 * ed))), .int (nI (A 11 (60 * ed)))]) (rest := []) ⟨hx, hb, hml, hown, hts⟩ (c_X7_frame l G _ H.size h0 a 0 u (ms1 A ed) ed ((A 6 ed + 1) % 128) (A 10 (60 * ed)) (A 11 (60 * ed)) hm (by omega) (by rw [ms1_1]; exact h1_) (by omega) (by omega) (by omega) (by rw [ms1_7]; exact h7) (by rw [ms1_5]; exact h5) (by rw [ms1_4]; exact h4) (by rw [ms1_24]; exact hug)) (cwV 4 hts gX7_send_X7_frame rfl rfl rfl (by decide +kernel) ⟨Nat.le_of_ble_eq_true rfl, Nat.le_of_ble_eq_true rfl⟩) (mw_preV (ci := 7) hC hw rfl hm.1) rfl rfl hl.1 rfl (lv_room (Nat.le_of_ble_eq_true rfl)) dX7_send_326 ⟨Nat.le_of_ble_eq_true rfl, Nat.le_of_ble_eq_true rfl⟩) (fun M1 H locs hm hf1 hw => ?_)
                      have hf := hf.tr hf1
                      refine lv_iconst (v := nI 1) hx hb dX7_send_329 (by decide) ?_
                      exact md_iret hx hb hr hlocks hw hm hf (rfl) dX7_send_330
                    · skip
                      have c_9 : 60 * ed + k + 1 < 60 * ed + A 9 ed := Nat.not_le.mp (fun h => c_9 ((nI_leI (a := 60 * ed + A 9 ed) (b := 60 * ed + k + 1) (by omega) (by omega)).mpr h))
                      refine lv_aload_n hx hb dX7_send_236 rfl (lv_at hl 0 rfl) ?_
                      refine mw_get (C := RX7) (T := TX7) (N := 27) (v := .ref (a 10)) hx hb hts inX7_send_X7 hown hC hw hm.1 rfl 10 (by decide) k_8 rfl dX7_send_237 ?_
                      refine lv_iload hx hb dX7_send_240 (lv_at hl 3 rfl) ?_
                      refine lv_aload_n hx hb dX7_send_242 rfl (lv_at hl 0 rfl) ?_
                      refine mw_get (C := RX7) (T := TX7) (N := 27) (v := .ref (a 10)) hx hb hts inX7_send_X7 hown hC hw hm.1 rfl 10 (by decide) k_8 rfl dX7_send_243 ?_
                      refine lv_iload hx hb dX7_send_246 (lv_at hl 3 rfl) ?_
                      refine lv_iconst (v := nI 1) hx hb dX7_send_248 (by decide) ?_
                      refine lv_iadd hx hb dX7_send_249 ?_
                      refine mw_ti (v' := nI (60 * ed + k + 1)) (nI_add _ _) ?_
                      refine md_ald 10 (n := 120) hx hb hC hw hm rfl (by decide) rfl (by omega) (by decide) dX7_send_250 ?_
                      refine mw_ti (v' := nI ((shf (A 10) (60 * ed) k) (60 * ed + k + 1))) (congrArg nI ((md_w_k (by decide)).trans md_w_s)) ?_
                      refine md_ast 10 (n := 120) (v := (shf (A 10) (60 * ed) k) (60 * ed + k + 1)) hx hb hC hw hm rfl (by decide) rfl (by omega) (by decide) dX7_send_251 (fun M1 H locs hm hf1 hw => ?_)
                      have hf := hf.tr hf1
                      refine lv_aload_n hx hb dX7_send_252 rfl (lv_at hl 0 rfl) ?_
                      refine mw_get (C := RX7) (T := TX7) (N := 27) (v := .ref (a 11)) hx hb hts inX7_send_X7 hown hC hw hm.1 rfl 11 (by decide) k_10 rfl dX7_send_253 ?_
                      refine lv_iload hx hb dX7_send_256 (lv_at hl 3 rfl) ?_
                      refine lv_aload_n hx hb dX7_send_258 rfl (lv_at hl 0 rfl) ?_
                      refine mw_get (C := RX7) (T := TX7) (N := 27) (v := .ref (a 11)) hx hb hts inX7_send_X7 hown hC hw hm.1 rfl 11 (by decide) k_10 rfl dX7_send_259 ?_
                      refine lv_iload hx hb dX7_send_262 (lv_at hl 3 rfl) ?_
                      refine lv_iconst (v := nI 1) hx hb dX7_send_264 (by decide) ?_
                      refine lv_iadd hx hb dX7_send_265 ?_
                      refine mw_ti (v' := nI (60 * ed + k + 1)) (nI_add _ _) ?_
                      refine md_ald 11 (n := 120) hx hb hC hw hm rfl (by decide) rfl (by omega) (by decide) dX7_send_266 ?_
                      refine mw_ti (v' := nI ((shf (A 11) (60 * ed) k) (60 * ed + k + 1))) (congrArg nI ((md_u_k (by decide)).trans md_w_s)) ?_
                      refine md_ast 11 (n := 120) (v := (shf (A 11) (60 * ed) k) (60 * ed + k + 1)) hx hb hC hw hm rfl (by decide) rfl (by omega) (by decide) dX7_send_267 (fun M1 H locs hm hf1 hw => ?_)
                      have hf := hf.tr hf1
                      refine lv_iinc (v := nI (60 * ed + k + 1)) (lv' := [(4, .int (nI (60 * ed + k + 1))), (0, .ref (h0)), (1, .int (nI (ed))), (3, .int (nI (127 * ed + A 12 ed)))]) hx hb dX7_send_268 hl (k := 3) rfl (by rw [show Int32.ofInt 1 = nI 1 by decide]; exact nI_add _ _) (by decide) rfl (fun ls hl => ?_)
                      refine lv_goto (tgt := 218) hx hb dX7_send_271 (by decide) ?_
                      have hA_11 : md_u ((md_u ((va_up ((va_up ((md_u ((md_u ((md_u ((md_u A 6 ed ((A 6 ed + 1) % 128))) 13 (127 * ed + A 12 ed) ((A 6 ed + 1) % 128))) 14 (127 * ed + A 12 ed) (A 10 (60 * ed)))) 15 (127 * ed + A 12 ed) (A 11 (60 * ed)))) 10 (shf (A 10) (60 * ed) k))) 11 (shf (A 11) (60 * ed) k))) 10 (60 * ed + k) ((shf (A 10) (60 * ed) k) (60 * ed + k + 1)))) 11 (60 * ed + k) ((shf (A 11) (60 * ed) k) (60 * ed + k + 1)) = va_up ((va_up ((md_u ((md_u ((md_u ((md_u A 6 ed ((A 6 ed + 1) % 128))) 13 (127 * ed + A 12 ed) ((A 6 ed + 1) % 128))) 14 (127 * ed + A 12 ed) (A 10 (60 * ed)))) 15 (127 * ed + A 12 ed) (A 11 (60 * ed)))) 10 (shf (A 10) (60 * ed) (k + 1)))) 11 (shf (A 11) (60 * ed) (k + 1)) := by exact ms_ws (by decide)
                      rw [hA_11] at hm
                      have hv_12 : (.int (nI (60 * ed + k + 1)) : Value) = .int (nI (60 * ed + (k + 1))) := by first | rfl | simp_all
                      rw [hv_12] at hl
                      exact ih  (k + 1) (by omega) (by omega) _ _ _ ls hm hf hw (lv_sub hl [1, 2, 3, 0] rfl)
                have hA_13 : md_u ((md_u ((md_u ((md_u A 6 ed ((A 6 ed + 1) % 128))) 13 (127 * ed + A 12 ed) ((A 6 ed + 1) % 128))) 14 (127 * ed + A 12 ed) (A 10 (60 * ed)))) 15 (127 * ed + A 12 ed) (A 11 (60 * ed)) = va_up ((va_up ((md_u ((md_u ((md_u ((md_u A 6 ed ((A 6 ed + 1) % 128))) 13 (127 * ed + A 12 ed) ((A 6 ed + 1) % 128))) 14 (127 * ed + A 12 ed) (A 10 (60 * ed)))) 15 (127 * ed + A 12 ed) (A 11 (60 * ed)))) 10 (shf (A 10) (60 * ed) 0))) 11 (shf (A 11) (60 * ed) 0) := by exact ms_w0 (by decide) rfl rfl
                rw [hA_13] at hm
                have hv_14 : (.int (nI (60 * ed)) : Value) = .int (nI (60 * ed + 0)) := by first | rfl | simp_all
                rw [hv_14] at hl
                exact lp_8 (A 9 ed - 0 + 1) 0 (by omega) (Nat.lt_succ_self _) _ _ _ ls hm hf hw (lv_sub hl [3, 4, 1, 0] rfl)
              · skip
                have c_7 : A 9 ed = 0 := (nI_eq (a := A 9 ed) (b := 0) (by omega) (by omega)).mp c_7
                exfalso; omega
          · skip
            have c_5 : A 16 ed < A 12 ed := Nat.not_le.mp (fun h => c_5 ((nI_leI (a := A 12 ed) (b := A 16 ed) (by omega) (by omega)).mpr h))
            exfalso; omega
        · skip
          exact absurd c_4 (by decide)
      · skip
        have c_3 : A 20 ed ≠ 0 := fun h => c_3 ((nI_eq (a := A 20 ed) (b := 0) (by omega) (by omega)).mpr h)
        exfalso; omega
  · skip
    exact absurd c_1 (by decide)
def RM_X7_bits_bade : Room := { frames := 1, cells := 0, slots := 0, locals := 21 }
set_option maxHeartbeats 4000000 in
set_option maxRecDepth 100000 in
theorem c_X7_bits_bade (l : Launch) (G : mw_G) (M : mw_M) (sz : Nat) (h0 : Nat) (a : Nat → Nat) (c u : Nat) (A : md_S) (ed : Int32) (wv : Int64) (nb fz : Int32) (hm : md_at G M h0 a c u A) (hb1 : ed < 0 ∨ nI 1 < ed) : Met l yX7_bits wsX7_bits RM_X7_bits_bade (mw_pre G M sz [.ref (h0), .int (ed), .long (wv), .int (nb), .int (fz)]) (md_Qi G M sz h0 a (nI (0)) 1 u A) 0 0 (mw_A M sz) := by
  refine Met.ofW (cc := cX7_bits) (maxL := 9) (ret := (some .int)) (by decide) rfl ?_
  intro p e s m args below meth c0 s₁ B hml hv
  obtain ⟨rfl, rfl, hC, hw⟩ := mw_in hv
  have hx := B.exec
  have hb := B.bytes
  have hr := B.returns
  have hts := atoms_spec (ws := wsX7_bits) B.pre
  have hown : s.vm.findClass RX7 = some m.cls := findClass_of_methodNamed B.named
  have hlocks := B.notSynchronized
  have hf : md_fr h0 a M M := md_fr.rf
  have hl := lv_entry ([.ref (h0), .int (ed), .long (wv), .int (nb), .int (fz)]) (n := 9) (Nat.le_of_ble_eq_true rfl)
  rw [lg_entry_eq]
  generalize (lg_sl ([.ref (h0), .int (ed), .long (wv), .int (nb), .int (fz)]) ++ List.replicate (9 - (lg_sl ([.ref (h0), .int (ed), .long (wv), .int (nb), .int (fz)])).length) Slot.unset).toArray = ls at hl ⊢
  have hl : lv_has ls 9 [(0, .ref (h0)), (1, .int (ed)), (2, .long (wv)), (4, .int (nb)), (5, .int (fz))] := hl
  refine mw_start (fun H locs hw => ?_) hw
  refine lv_aload_n hx hb dX7_bits_0 rfl (lv_at hl 0 rfl) ?_
  refine lv_iload_n hx hb dX7_bits_1 rfl (lv_at hl 1 rfl) ?_
  refine mw_ci hC hw (va_runS (As := [.int (ed)]) (rest := [.ref (h0)]) ⟨hx, hb, hml, hown, hts⟩ (c_X7_isEnd_bad l G _ H.size ed  (hb1)) (cwS 1 hts gX7_bits_X7_isEnd rfl rfl rfl (by decide +kernel) ⟨Nat.le_of_ble_eq_true rfl, Nat.le_of_ble_eq_true rfl⟩) (mw_preS hC hw) rfl rfl hl.1 rfl (lv_room (Nat.le_of_ble_eq_true rfl)) dX7_bits_2 ⟨Nat.le_of_ble_eq_true rfl, Nat.le_of_ble_eq_true rfl⟩) (fun H locs hz hw => ?_)
  refine lv_if_eq (tgt := 21) hx hb dX7_bits_5 (by decide) (fun c_1 => ?_) (fun c_1 => ?_)
  · skip
    refine lv_iconst (v := nI 1) hx hb dX7_bits_21 (by decide) ?_
    refine lv_goto (tgt := 26) hx hb dX7_bits_22 (by decide) ?_
    refine md_ci hC hw (va_runV (As := [.int (nI (1))]) (rest := []) ⟨hx, hb, hml, hown, hts⟩ (c_X7_refuses l G _ H.size h0 a c u A 1 hm (by omega)) (cwV 1 hts gX7_bits_X7_refuses rfl rfl rfl (by decide +kernel) ⟨Nat.le_of_ble_eq_true rfl, Nat.le_of_ble_eq_true rfl⟩) (mw_preV (ci := 7) hC hw rfl hm.1) rfl rfl hl.1 rfl (lv_room (Nat.le_of_ble_eq_true rfl)) dX7_bits_26 ⟨Nat.le_of_ble_eq_true rfl, Nat.le_of_ble_eq_true rfl⟩) (fun M1 H locs hm hf1 hw => ?_)
    have hf := hf.tr hf1
    refine mw_ti (v' := nI (1)) rfl ?_
    refine lv_if_eq (tgt := 34) hx hb dX7_bits_29 (by decide) (fun c_2 => ?_) (fun c_2 => ?_)
    · skip
      exact absurd c_2 (by decide)
    · skip
      refine lv_iconst (v := nI 0) hx hb dX7_bits_32 (by decide) ?_
      exact md_iret hx hb hr hlocks hw hm hf (rfl) dX7_bits_33
  · skip
    exact absurd c_1 (by decide)
def RM_X7_bits_badn : Room := { frames := 1, cells := 0, slots := 0, locals := 21 }
set_option maxHeartbeats 4000000 in
set_option maxRecDepth 100000 in
theorem c_X7_bits_badn (l : Launch) (G : mw_G) (M : mw_M) (sz : Nat) (h0 : Nat) (a : Nat → Nat) (c u : Nat) (A : md_S) (ed : Nat) (wv : Int64) (nb fz : Int32) (hm : md_at G M h0 a c u A) (hed : ed ≤ 1) (hb1 : nb < nI 1 ∨ nI 64 < nb) : Met l yX7_bits wsX7_bits RM_X7_bits_badn (mw_pre G M sz [.ref (h0), .int (nI (ed)), .long (wv), .int (nb), .int (fz)]) (md_Qi G M sz h0 a (nI (0)) 1 u A) 0 0 (mw_A M sz) := by
  refine Met.ofW (cc := cX7_bits) (maxL := 9) (ret := (some .int)) (by decide) rfl ?_
  intro p e s m args below meth c0 s₁ B hml hv
  obtain ⟨rfl, rfl, hC, hw⟩ := mw_in hv
  have hx := B.exec
  have hb := B.bytes
  have hr := B.returns
  have hts := atoms_spec (ws := wsX7_bits) B.pre
  have hown : s.vm.findClass RX7 = some m.cls := findClass_of_methodNamed B.named
  have hlocks := B.notSynchronized
  have hf : md_fr h0 a M M := md_fr.rf
  have hl := lv_entry ([.ref (h0), .int (nI (ed)), .long (wv), .int (nb), .int (fz)]) (n := 9) (Nat.le_of_ble_eq_true rfl)
  rw [lg_entry_eq]
  generalize (lg_sl ([.ref (h0), .int (nI (ed)), .long (wv), .int (nb), .int (fz)]) ++ List.replicate (9 - (lg_sl ([.ref (h0), .int (nI (ed)), .long (wv), .int (nb), .int (fz)])).length) Slot.unset).toArray = ls at hl ⊢
  have hl : lv_has ls 9 [(0, .ref (h0)), (1, .int (nI (ed))), (2, .long (wv)), (4, .int (nb)), (5, .int (fz))] := hl
  refine mw_start (fun H locs hw => ?_) hw
  refine lv_aload_n hx hb dX7_bits_0 rfl (lv_at hl 0 rfl) ?_
  refine lv_iload_n hx hb dX7_bits_1 rfl (lv_at hl 1 rfl) ?_
  refine mw_ci hC hw (va_runS (As := [.int (nI (ed))]) (rest := [.ref (h0)]) ⟨hx, hb, hml, hown, hts⟩ (c_X7_isEnd l G _ H.size ed  (by omega)) (cwS 1 hts gX7_bits_X7_isEnd rfl rfl rfl (by decide +kernel) ⟨Nat.le_of_ble_eq_true rfl, Nat.le_of_ble_eq_true rfl⟩) (mw_preS hC hw) rfl rfl hl.1 rfl (lv_room (Nat.le_of_ble_eq_true rfl)) dX7_bits_2 ⟨Nat.le_of_ble_eq_true rfl, Nat.le_of_ble_eq_true rfl⟩) (fun H locs hz hw => ?_)
  refine lv_if_eq (tgt := 21) hx hb dX7_bits_5 (by decide) (fun c_1 => ?_) (fun c_1 => ?_)
  · skip
    exact absurd c_1 (by decide)
  · skip
    refine lv_iload hx hb dX7_bits_8 (lv_at hl 3 rfl) ?_
    refine lv_iconst (v := nI 1) hx hb dX7_bits_10 (by decide) ?_
    refine lv_icmp_lt (tgt := 21) hx hb dX7_bits_11 (by decide) (fun c_2 => ?_) (fun c_2 => ?_)
    · skip
      refine lv_iconst (v := nI 1) hx hb dX7_bits_21 (by decide) ?_
      refine lv_goto (tgt := 26) hx hb dX7_bits_22 (by decide) ?_
      refine md_ci hC hw (va_runV (As := [.int (nI (1))]) (rest := []) ⟨hx, hb, hml, hown, hts⟩ (c_X7_refuses l G _ H.size h0 a c u A 1 hm (by omega)) (cwV 1 hts gX7_bits_X7_refuses rfl rfl rfl (by decide +kernel) ⟨Nat.le_of_ble_eq_true rfl, Nat.le_of_ble_eq_true rfl⟩) (mw_preV (ci := 7) hC hw rfl hm.1) rfl rfl hl.1 rfl (lv_room (Nat.le_of_ble_eq_true rfl)) dX7_bits_26 ⟨Nat.le_of_ble_eq_true rfl, Nat.le_of_ble_eq_true rfl⟩) (fun M1 H locs hm hf1 hw => ?_)
      have hf := hf.tr hf1
      refine mw_ti (v' := nI (1)) rfl ?_
      refine lv_if_eq (tgt := 34) hx hb dX7_bits_29 (by decide) (fun c_3 => ?_) (fun c_3 => ?_)
      · skip
        exact absurd c_3 (by decide)
      · skip
        refine lv_iconst (v := nI 0) hx hb dX7_bits_32 (by decide) ?_
        exact md_iret hx hb hr hlocks hw hm hf (rfl) dX7_bits_33
    · skip
      refine lv_iload hx hb dX7_bits_14 (lv_at hl 3 rfl) ?_
      refine lv_bipush (v := nI 64) hx hb dX7_bits_16 (by decide) ?_
      refine lv_icmp_le (tgt := 25) hx hb dX7_bits_18 (by decide) (fun c_4 => ?_) (fun c_4 => ?_)
      · skip
        exact hb1.elim (fun h => absurd h (by assumption)) (fun h => absurd c_4 (Int32.not_le.mpr h))
      · skip
        refine lv_iconst (v := nI 1) hx hb dX7_bits_21 (by decide) ?_
        refine lv_goto (tgt := 26) hx hb dX7_bits_22 (by decide) ?_
        refine md_ci hC hw (va_runV (As := [.int (nI (1))]) (rest := []) ⟨hx, hb, hml, hown, hts⟩ (c_X7_refuses l G _ H.size h0 a c u A 1 hm (by omega)) (cwV 1 hts gX7_bits_X7_refuses rfl rfl rfl (by decide +kernel) ⟨Nat.le_of_ble_eq_true rfl, Nat.le_of_ble_eq_true rfl⟩) (mw_preV (ci := 7) hC hw rfl hm.1) rfl rfl hl.1 rfl (lv_room (Nat.le_of_ble_eq_true rfl)) dX7_bits_26 ⟨Nat.le_of_ble_eq_true rfl, Nat.le_of_ble_eq_true rfl⟩) (fun M1 H locs hm hf1 hw => ?_)
        have hf := hf.tr hf1
        refine mw_ti (v' := nI (1)) rfl ?_
        refine lv_if_eq (tgt := 34) hx hb dX7_bits_29 (by decide) (fun c_5 => ?_) (fun c_5 => ?_)
        · skip
          exact absurd c_5 (by decide)
        · skip
          refine lv_iconst (v := nI 0) hx hb dX7_bits_32 (by decide) ?_
          exact md_iret hx hb hr hlocks hw hm hf (rfl) dX7_bits_33
theorem inX7_bits_X7 : ∀ w ∈ wsX70, w ∈ wsX7_bits := by decide +kernel
def RM_X7_bits_full : Room := { frames := 1, cells := 0, slots := 0, locals := 21 }
set_option maxHeartbeats 4000000 in
set_option maxRecDepth 100000 in
theorem c_X7_bits_full (l : Launch) (G : mw_G) (M : mw_M) (sz : Nat) (h0 : Nat) (a : Nat → Nat) (c u : Nat) (A : md_S) (ed : Nat) (wv : Int64) (nb fz : Nat) (hm : md_at G M h0 a c u A) (hed : ed ≤ 1) (hnb : 1 ≤ nb) (hnb2 : nb ≤ 64) (hfz : fz ≤ 1) (hop : fz = 1 ∨ A 1 ed = 0) (hb1 : A 1 ed = 40) : Met l yX7_bits wsX7_bits RM_X7_bits_full (mw_pre G M sz [.ref (h0), .int (nI (ed)), .long (wv), .int (nI (nb)), .int (nI (fz))]) (md_Qi G M sz h0 a (nI (0)) 2 u A) 0 0 (mw_A M sz) := by
  refine Met.ofW (cc := cX7_bits) (maxL := 9) (ret := (some .int)) (by decide) rfl ?_
  intro p e s m args below meth c0 s₁ B hml hv
  obtain ⟨rfl, rfl, hC, hw⟩ := mw_in hv
  have hx := B.exec
  have hb := B.bytes
  have hr := B.returns
  have hts := atoms_spec (ws := wsX7_bits) B.pre
  have hown : s.vm.findClass RX7 = some m.cls := findClass_of_methodNamed B.named
  have hlocks := B.notSynchronized
  have hf : md_fr h0 a M M := md_fr.rf
  have k_0 := hts (.fieldLink RX7 7 "LinkPairModel" "frames" "[I") (by decide +kernel)
  have hl := lv_entry ([.ref (h0), .int (nI (ed)), .long (wv), .int (nI (nb)), .int (nI (fz))]) (n := 9) (Nat.le_of_ble_eq_true rfl)
  rw [lg_entry_eq]
  generalize (lg_sl ([.ref (h0), .int (nI (ed)), .long (wv), .int (nI (nb)), .int (nI (fz))]) ++ List.replicate (9 - (lg_sl ([.ref (h0), .int (nI (ed)), .long (wv), .int (nI (nb)), .int (nI (fz))])).length) Slot.unset).toArray = ls at hl ⊢
  have hl : lv_has ls 9 [(0, .ref (h0)), (1, .int (nI (ed))), (2, .long (wv)), (4, .int (nI (nb))), (5, .int (nI (fz)))] := hl
  refine mw_start (fun H locs hw => ?_) hw
  refine lv_aload_n hx hb dX7_bits_0 rfl (lv_at hl 0 rfl) ?_
  refine lv_iload_n hx hb dX7_bits_1 rfl (lv_at hl 1 rfl) ?_
  refine mw_ci hC hw (va_runS (As := [.int (nI (ed))]) (rest := [.ref (h0)]) ⟨hx, hb, hml, hown, hts⟩ (c_X7_isEnd l G _ H.size ed  (by omega)) (cwS 1 hts gX7_bits_X7_isEnd rfl rfl rfl (by decide +kernel) ⟨Nat.le_of_ble_eq_true rfl, Nat.le_of_ble_eq_true rfl⟩) (mw_preS hC hw) rfl rfl hl.1 rfl (lv_room (Nat.le_of_ble_eq_true rfl)) dX7_bits_2 ⟨Nat.le_of_ble_eq_true rfl, Nat.le_of_ble_eq_true rfl⟩) (fun H locs hz hw => ?_)
  refine lv_if_eq (tgt := 21) hx hb dX7_bits_5 (by decide) (fun c_1 => ?_) (fun c_1 => ?_)
  · skip
    exact absurd c_1 (by decide)
  · skip
    refine lv_iload hx hb dX7_bits_8 (lv_at hl 3 rfl) ?_
    refine lv_iconst (v := nI 1) hx hb dX7_bits_10 (by decide) ?_
    refine lv_icmp_lt (tgt := 21) hx hb dX7_bits_11 (by decide) (fun c_2 => ?_) (fun c_2 => ?_)
    · skip
      have c_2 : nb < 1 := (nI_ltI (a := nb) (b := 1) (by omega) (by omega)).mp c_2
      exfalso; omega
    · skip
      have c_2 : nb ≥ 1 := Nat.not_lt.mp (fun h => c_2 ((nI_ltI (a := nb) (b := 1) (by omega) (by omega)).mpr h))
      refine lv_iload hx hb dX7_bits_14 (lv_at hl 3 rfl) ?_
      refine lv_bipush (v := nI 64) hx hb dX7_bits_16 (by decide) ?_
      refine lv_icmp_le (tgt := 25) hx hb dX7_bits_18 (by decide) (fun c_3 => ?_) (fun c_3 => ?_)
      · skip
        have c_3 : nb ≤ 64 := (nI_leI (a := nb) (b := 64) (by omega) (by omega)).mp c_3
        refine lv_iconst (v := nI 0) hx hb dX7_bits_25 (by decide) ?_
        refine md_ci hC hw (va_runV (As := [.int (nI (0))]) (rest := []) ⟨hx, hb, hml, hown, hts⟩ (c_X7_refuses l G _ H.size h0 a c u A 0 hm (by omega)) (cwV 1 hts gX7_bits_X7_refuses rfl rfl rfl (by decide +kernel) ⟨Nat.le_of_ble_eq_true rfl, Nat.le_of_ble_eq_true rfl⟩) (mw_preV (ci := 7) hC hw rfl hm.1) rfl rfl hl.1 rfl (lv_room (Nat.le_of_ble_eq_true rfl)) dX7_bits_26 ⟨Nat.le_of_ble_eq_true rfl, Nat.le_of_ble_eq_true rfl⟩) (fun M1 H locs hm hf1 hw => ?_)
        have hf := hf.tr hf1
        refine mw_ti (v' := nI (0)) rfl ?_
        refine lv_if_eq (tgt := 34) hx hb dX7_bits_29 (by decide) (fun c_4 => ?_) (fun c_4 => ?_)
        · skip
          refine lv_iload hx hb dX7_bits_34 (lv_at hl 4 rfl) ?_
          refine lv_if_ne (tgt := 48) hx hb dX7_bits_36 (by decide) (fun c_5 => ?_) (fun c_5 => ?_)
          · skip
            have c_5 : fz ≠ 0 := fun h => c_5 ((nI_eq (a := fz) (b := 0) (by omega) (by omega)).mpr h)
            refine lv_iconst (v := nI 1) hx hb dX7_bits_48 (by decide) ?_
            refine lv_goto (tgt := 53) hx hb dX7_bits_49 (by decide) ?_
            refine lv_istore (lv' := [(6, .int (nI (1))), (0, .ref (h0)), (1, .int (nI (ed))), (2, .long (wv)), (4, .int (nI (nb))), (5, .int (nI (fz)))]) hx hb dX7_bits_53 hl (by decide) rfl (fun ls hl => ?_)
            refine lv_bipush (v := nI 40) hx hb dX7_bits_55 (by decide) ?_
            refine lv_iload_n hx hb dX7_bits_57 rfl (lv_at hl 2 rfl) ?_
            refine lv_imul hx hb dX7_bits_58 ?_
            refine mw_ti (v' := nI (40 * ed)) (pk_mul _ _) ?_
            refine lv_aload_n hx hb dX7_bits_59 rfl (lv_at hl 1 rfl) ?_
            refine mw_get (C := RX7) (T := TX7) (N := 27) (v := .ref (a 1)) hx hb hts inX7_bits_X7 hown hC hw hm.1 rfl 1 (by decide) k_0 rfl dX7_bits_60 ?_
            refine lv_iload_n hx hb dX7_bits_63 rfl (lv_at hl 2 rfl) ?_
            refine md_ald 1 (n := 2) hx hb hC hw hm rfl (by decide) rfl (by omega) (by decide) dX7_bits_64 ?_
            refine lv_iadd hx hb dX7_bits_65 ?_
            refine mw_ti (v' := nI (40 * ed + A 1 ed)) (nI_add _ _) ?_
            refine lv_iconst (v := nI 1) hx hb dX7_bits_66 (by decide) ?_
            refine lv_isub hx hb dX7_bits_67 ?_
            refine mw_ti (v' := nI (40 * ed + A 1 ed - 1)) (pk_sub (by omega)) ?_
            refine lv_istore (lv' := [(7, .int (nI (40 * ed + A 1 ed - 1))), (6, .int (nI (1))), (0, .ref (h0)), (1, .int (nI (ed))), (2, .long (wv)), (4, .int (nI (nb))), (5, .int (nI (fz)))]) hx hb dX7_bits_68 hl (by decide) rfl (fun ls hl => ?_)
            refine lv_aload_n hx hb dX7_bits_70 rfl (lv_at hl 2 rfl) ?_
            refine lv_iload hx hb dX7_bits_71 (lv_at hl 1 rfl) ?_
            refine lv_if_eq (tgt := 95) hx hb dX7_bits_73 (by decide) (fun c_6 => ?_) (fun c_6 => ?_)
            · skip
              exact absurd c_6 (by decide)
            · skip
              refine lv_aload_n hx hb dX7_bits_76 rfl (lv_at hl 2 rfl) ?_
              refine mw_get (C := RX7) (T := TX7) (N := 27) (v := .ref (a 1)) hx hb hts inX7_bits_X7 hown hC hw hm.1 rfl 1 (by decide) k_0 rfl dX7_bits_77 ?_
              refine lv_iload_n hx hb dX7_bits_80 rfl (lv_at hl 3 rfl) ?_
              refine md_ald 1 (n := 2) hx hb hC hw hm rfl (by decide) rfl (by omega) (by decide) dX7_bits_81 ?_
              refine lv_bipush (v := nI 40) hx hb dX7_bits_82 (by decide) ?_
              refine lv_icmp_ne (tgt := 91) hx hb dX7_bits_84 (by decide) (fun c_7 => ?_) (fun c_7 => ?_)
              · skip
                have c_7 : A 1 ed ≠ 40 := fun h => c_7 ((nI_eq (a := A 1 ed) (b := 40) (by omega) (by omega)).mpr h)
                exfalso; omega
              · skip
                have c_7 : A 1 ed = 40 := (nI_eq (a := A 1 ed) (b := 40) (by omega) (by omega)).mp c_7
                refine lv_iconst (v := nI 2) hx hb dX7_bits_87 (by decide) ?_
                refine lv_goto (tgt := 116) hx hb dX7_bits_88 (by decide) ?_
                refine md_ci hC hw (va_runV (As := [.int (nI (2))]) (rest := []) ⟨hx, hb, hml, hown, hts⟩ (c_X7_refuses l G _ H.size h0 a 0 u A 2 hm (by omega)) (cwV 1 hts gX7_bits_X7_refuses rfl rfl rfl (by decide +kernel) ⟨Nat.le_of_ble_eq_true rfl, Nat.le_of_ble_eq_true rfl⟩) (mw_preV (ci := 7) hC hw rfl hm.1) rfl rfl hl.1 rfl (lv_room (Nat.le_of_ble_eq_true rfl)) dX7_bits_116 ⟨Nat.le_of_ble_eq_true rfl, Nat.le_of_ble_eq_true rfl⟩) (fun M1 H locs hm hf1 hw => ?_)
                have hf := hf.tr hf1
                refine mw_ti (v' := nI (1)) rfl ?_
                refine lv_if_eq (tgt := 124) hx hb dX7_bits_119 (by decide) (fun c_8 => ?_) (fun c_8 => ?_)
                · skip
                  exact absurd c_8 (by decide)
                · skip
                  refine lv_iconst (v := nI 0) hx hb dX7_bits_122 (by decide) ?_
                  exact md_iret hx hb hr hlocks hw hm hf (rfl) dX7_bits_123
          · skip
            have c_5 : fz = 0 := (nI_eq (a := fz) (b := 0) (by omega) (by omega)).mp c_5
            refine lv_aload_n hx hb dX7_bits_39 rfl (lv_at hl 0 rfl) ?_
            refine mw_get (C := RX7) (T := TX7) (N := 27) (v := .ref (a 1)) hx hb hts inX7_bits_X7 hown hC hw hm.1 rfl 1 (by decide) k_0 rfl dX7_bits_40 ?_
            refine lv_iload_n hx hb dX7_bits_43 rfl (lv_at hl 1 rfl) ?_
            refine md_ald 1 (n := 2) hx hb hC hw hm rfl (by decide) rfl (by omega) (by decide) dX7_bits_44 ?_
            refine lv_if_ne (tgt := 52) hx hb dX7_bits_45 (by decide) (fun c_9 => ?_) (fun c_9 => ?_)
            · skip
              have c_9 : A 1 ed ≠ 0 := fun h => c_9 ((nI_eq (a := A 1 ed) (b := 0) (by omega) (by omega)).mpr h)
              exfalso; omega
            · skip
              have c_9 : A 1 ed = 0 := (nI_eq (a := A 1 ed) (b := 0) (by omega) (by omega)).mp c_9
              refine lv_iconst (v := nI 1) hx hb dX7_bits_48 (by decide) ?_
              refine lv_goto (tgt := 53) hx hb dX7_bits_49 (by decide) ?_
              refine lv_istore (lv' := [(6, .int (nI (1))), (0, .ref (h0)), (1, .int (nI (ed))), (2, .long (wv)), (4, .int (nI (nb))), (5, .int (nI (fz)))]) hx hb dX7_bits_53 hl (by decide) rfl (fun ls hl => ?_)
              refine lv_bipush (v := nI 40) hx hb dX7_bits_55 (by decide) ?_
              refine lv_iload_n hx hb dX7_bits_57 rfl (lv_at hl 2 rfl) ?_
              refine lv_imul hx hb dX7_bits_58 ?_
              refine mw_ti (v' := nI (40 * ed)) (pk_mul _ _) ?_
              refine lv_aload_n hx hb dX7_bits_59 rfl (lv_at hl 1 rfl) ?_
              refine mw_get (C := RX7) (T := TX7) (N := 27) (v := .ref (a 1)) hx hb hts inX7_bits_X7 hown hC hw hm.1 rfl 1 (by decide) k_0 rfl dX7_bits_60 ?_
              refine lv_iload_n hx hb dX7_bits_63 rfl (lv_at hl 2 rfl) ?_
              refine md_ald 1 (n := 2) hx hb hC hw hm rfl (by decide) rfl (by omega) (by decide) dX7_bits_64 ?_
              refine lv_iadd hx hb dX7_bits_65 ?_
              refine mw_ti (v' := nI (40 * ed + A 1 ed)) (nI_add _ _) ?_
              refine lv_iconst (v := nI 1) hx hb dX7_bits_66 (by decide) ?_
              refine lv_isub hx hb dX7_bits_67 ?_
              refine mw_ti (v' := nI (40 * ed + A 1 ed - 1)) (pk_sub (by omega)) ?_
              refine lv_istore (lv' := [(7, .int (nI (40 * ed + A 1 ed - 1))), (6, .int (nI (1))), (0, .ref (h0)), (1, .int (nI (ed))), (2, .long (wv)), (4, .int (nI (nb))), (5, .int (nI (fz)))]) hx hb dX7_bits_68 hl (by decide) rfl (fun ls hl => ?_)
              refine lv_aload_n hx hb dX7_bits_70 rfl (lv_at hl 2 rfl) ?_
              refine lv_iload hx hb dX7_bits_71 (lv_at hl 1 rfl) ?_
              refine lv_if_eq (tgt := 95) hx hb dX7_bits_73 (by decide) (fun c_10 => ?_) (fun c_10 => ?_)
              · skip
                exact absurd c_10 (by decide)
              · skip
                refine lv_aload_n hx hb dX7_bits_76 rfl (lv_at hl 2 rfl) ?_
                refine mw_get (C := RX7) (T := TX7) (N := 27) (v := .ref (a 1)) hx hb hts inX7_bits_X7 hown hC hw hm.1 rfl 1 (by decide) k_0 rfl dX7_bits_77 ?_
                refine lv_iload_n hx hb dX7_bits_80 rfl (lv_at hl 3 rfl) ?_
                refine md_ald 1 (n := 2) hx hb hC hw hm rfl (by decide) rfl (by omega) (by decide) dX7_bits_81 ?_
                refine lv_bipush (v := nI 40) hx hb dX7_bits_82 (by decide) ?_
                refine lv_icmp_ne (tgt := 91) hx hb dX7_bits_84 (by decide) (fun c_11 => ?_) (fun c_11 => ?_)
                · skip
                  have c_11 : A 1 ed ≠ 40 := fun h => c_11 ((nI_eq (a := A 1 ed) (b := 40) (by omega) (by omega)).mpr h)
                  exfalso; omega
                · skip
                  have c_11 : A 1 ed = 40 := (nI_eq (a := A 1 ed) (b := 40) (by omega) (by omega)).mp c_11
                  refine lv_iconst (v := nI 2) hx hb dX7_bits_87 (by decide) ?_
                  refine lv_goto (tgt := 116) hx hb dX7_bits_88 (by decide) ?_
                  refine md_ci hC hw (va_runV (As := [.int (nI (2))]) (rest := []) ⟨hx, hb, hml, hown, hts⟩ (c_X7_refuses l G _ H.size h0 a 0 u A 2 hm (by omega)) (cwV 1 hts gX7_bits_X7_refuses rfl rfl rfl (by decide +kernel) ⟨Nat.le_of_ble_eq_true rfl, Nat.le_of_ble_eq_true rfl⟩) (mw_preV (ci := 7) hC hw rfl hm.1) rfl rfl hl.1 rfl (lv_room (Nat.le_of_ble_eq_true rfl)) dX7_bits_116 ⟨Nat.le_of_ble_eq_true rfl, Nat.le_of_ble_eq_true rfl⟩) (fun M1 H locs hm hf1 hw => ?_)
                  have hf := hf.tr hf1
                  refine mw_ti (v' := nI (1)) rfl ?_
                  refine lv_if_eq (tgt := 124) hx hb dX7_bits_119 (by decide) (fun c_12 => ?_) (fun c_12 => ?_)
                  · skip
                    exact absurd c_12 (by decide)
                  · skip
                    refine lv_iconst (v := nI 0) hx hb dX7_bits_122 (by decide) ?_
                    exact md_iret hx hb hr hlocks hw hm hf (rfl) dX7_bits_123
        · skip
          exact absurd c_4 (by decide)
      · skip
        have c_3 : nb > 64 := Nat.not_le.mp (fun h => c_3 ((nI_leI (a := nb) (b := 64) (by omega) (by omega)).mpr h))
        exfalso; omega
def RM_X7_bits_long : Room := { frames := 1, cells := 0, slots := 0, locals := 21 }
set_option maxHeartbeats 4000000 in
set_option maxRecDepth 100000 in
theorem c_X7_bits_long (l : Launch) (G : mw_G) (M : mw_M) (sz : Nat) (h0 : Nat) (a : Nat → Nat) (c u : Nat) (A : md_S) (ed : Nat) (wv : Int64) (nb fz : Nat) (hm : md_at G M h0 a c u A) (hed : ed ≤ 1) (hnb : 1 ≤ nb) (hnb2 : nb ≤ 64) (hfz : fz ≤ 1) (hop : fz = 0) (hop2 : 0 < A 1 ed) (hf2 : A 1 ed ≤ 40) (hq : A 2 (40 * ed + A 1 ed - 1) ≤ 3000) (hb1 : 3000 < A 2 (40 * ed + A 1 ed - 1) + nb) : Met l yX7_bits wsX7_bits RM_X7_bits_long (mw_pre G M sz [.ref (h0), .int (nI (ed)), .long (wv), .int (nI (nb)), .int (nI (fz))]) (md_Qi G M sz h0 a (nI (0)) 2 u A) 0 0 (mw_A M sz) := by
  refine Met.ofW (cc := cX7_bits) (maxL := 9) (ret := (some .int)) (by decide) rfl ?_
  intro p e s m args below meth c0 s₁ B hml hv
  obtain ⟨rfl, rfl, hC, hw⟩ := mw_in hv
  have hx := B.exec
  have hb := B.bytes
  have hr := B.returns
  have hts := atoms_spec (ws := wsX7_bits) B.pre
  have hown : s.vm.findClass RX7 = some m.cls := findClass_of_methodNamed B.named
  have hlocks := B.notSynchronized
  have hf : md_fr h0 a M M := md_fr.rf
  have k_0 := hts (.fieldLink RX7 7 "LinkPairModel" "frames" "[I") (by decide +kernel)
  have k_1 := hts (.fieldLink RX7 13 "LinkPairModel" "lengths" "[I") (by decide +kernel)
  have hl := lv_entry ([.ref (h0), .int (nI (ed)), .long (wv), .int (nI (nb)), .int (nI (fz))]) (n := 9) (Nat.le_of_ble_eq_true rfl)
  rw [lg_entry_eq]
  generalize (lg_sl ([.ref (h0), .int (nI (ed)), .long (wv), .int (nI (nb)), .int (nI (fz))]) ++ List.replicate (9 - (lg_sl ([.ref (h0), .int (nI (ed)), .long (wv), .int (nI (nb)), .int (nI (fz))])).length) Slot.unset).toArray = ls at hl ⊢
  have hl : lv_has ls 9 [(0, .ref (h0)), (1, .int (nI (ed))), (2, .long (wv)), (4, .int (nI (nb))), (5, .int (nI (fz)))] := hl
  refine mw_start (fun H locs hw => ?_) hw
  refine lv_aload_n hx hb dX7_bits_0 rfl (lv_at hl 0 rfl) ?_
  refine lv_iload_n hx hb dX7_bits_1 rfl (lv_at hl 1 rfl) ?_
  refine mw_ci hC hw (va_runS (As := [.int (nI (ed))]) (rest := [.ref (h0)]) ⟨hx, hb, hml, hown, hts⟩ (c_X7_isEnd l G _ H.size ed  (by omega)) (cwS 1 hts gX7_bits_X7_isEnd rfl rfl rfl (by decide +kernel) ⟨Nat.le_of_ble_eq_true rfl, Nat.le_of_ble_eq_true rfl⟩) (mw_preS hC hw) rfl rfl hl.1 rfl (lv_room (Nat.le_of_ble_eq_true rfl)) dX7_bits_2 ⟨Nat.le_of_ble_eq_true rfl, Nat.le_of_ble_eq_true rfl⟩) (fun H locs hz hw => ?_)
  refine lv_if_eq (tgt := 21) hx hb dX7_bits_5 (by decide) (fun c_1 => ?_) (fun c_1 => ?_)
  · skip
    exact absurd c_1 (by decide)
  · skip
    refine lv_iload hx hb dX7_bits_8 (lv_at hl 3 rfl) ?_
    refine lv_iconst (v := nI 1) hx hb dX7_bits_10 (by decide) ?_
    refine lv_icmp_lt (tgt := 21) hx hb dX7_bits_11 (by decide) (fun c_2 => ?_) (fun c_2 => ?_)
    · skip
      have c_2 : nb < 1 := (nI_ltI (a := nb) (b := 1) (by omega) (by omega)).mp c_2
      exfalso; omega
    · skip
      have c_2 : nb ≥ 1 := Nat.not_lt.mp (fun h => c_2 ((nI_ltI (a := nb) (b := 1) (by omega) (by omega)).mpr h))
      refine lv_iload hx hb dX7_bits_14 (lv_at hl 3 rfl) ?_
      refine lv_bipush (v := nI 64) hx hb dX7_bits_16 (by decide) ?_
      refine lv_icmp_le (tgt := 25) hx hb dX7_bits_18 (by decide) (fun c_3 => ?_) (fun c_3 => ?_)
      · skip
        have c_3 : nb ≤ 64 := (nI_leI (a := nb) (b := 64) (by omega) (by omega)).mp c_3
        refine lv_iconst (v := nI 0) hx hb dX7_bits_25 (by decide) ?_
        refine md_ci hC hw (va_runV (As := [.int (nI (0))]) (rest := []) ⟨hx, hb, hml, hown, hts⟩ (c_X7_refuses l G _ H.size h0 a c u A 0 hm (by omega)) (cwV 1 hts gX7_bits_X7_refuses rfl rfl rfl (by decide +kernel) ⟨Nat.le_of_ble_eq_true rfl, Nat.le_of_ble_eq_true rfl⟩) (mw_preV (ci := 7) hC hw rfl hm.1) rfl rfl hl.1 rfl (lv_room (Nat.le_of_ble_eq_true rfl)) dX7_bits_26 ⟨Nat.le_of_ble_eq_true rfl, Nat.le_of_ble_eq_true rfl⟩) (fun M1 H locs hm hf1 hw => ?_)
        have hf := hf.tr hf1
        refine mw_ti (v' := nI (0)) rfl ?_
        refine lv_if_eq (tgt := 34) hx hb dX7_bits_29 (by decide) (fun c_4 => ?_) (fun c_4 => ?_)
        · skip
          refine lv_iload hx hb dX7_bits_34 (lv_at hl 4 rfl) ?_
          refine lv_if_ne (tgt := 48) hx hb dX7_bits_36 (by decide) (fun c_5 => ?_) (fun c_5 => ?_)
          · skip
            have c_5 : fz ≠ 0 := fun h => c_5 ((nI_eq (a := fz) (b := 0) (by omega) (by omega)).mpr h)
            exfalso; omega
          · skip
            have c_5 : fz = 0 := (nI_eq (a := fz) (b := 0) (by omega) (by omega)).mp c_5
            refine lv_aload_n hx hb dX7_bits_39 rfl (lv_at hl 0 rfl) ?_
            refine mw_get (C := RX7) (T := TX7) (N := 27) (v := .ref (a 1)) hx hb hts inX7_bits_X7 hown hC hw hm.1 rfl 1 (by decide) k_0 rfl dX7_bits_40 ?_
            refine lv_iload_n hx hb dX7_bits_43 rfl (lv_at hl 1 rfl) ?_
            refine md_ald 1 (n := 2) hx hb hC hw hm rfl (by decide) rfl (by omega) (by decide) dX7_bits_44 ?_
            refine lv_if_ne (tgt := 52) hx hb dX7_bits_45 (by decide) (fun c_6 => ?_) (fun c_6 => ?_)
            · skip
              have c_6 : A 1 ed ≠ 0 := fun h => c_6 ((nI_eq (a := A 1 ed) (b := 0) (by omega) (by omega)).mpr h)
              refine lv_iconst (v := nI 0) hx hb dX7_bits_52 (by decide) ?_
              refine lv_istore (lv' := [(6, .int (nI (0))), (0, .ref (h0)), (1, .int (nI (ed))), (2, .long (wv)), (4, .int (nI (nb))), (5, .int (nI (fz)))]) hx hb dX7_bits_53 hl (by decide) rfl (fun ls hl => ?_)
              refine lv_bipush (v := nI 40) hx hb dX7_bits_55 (by decide) ?_
              refine lv_iload_n hx hb dX7_bits_57 rfl (lv_at hl 2 rfl) ?_
              refine lv_imul hx hb dX7_bits_58 ?_
              refine mw_ti (v' := nI (40 * ed)) (pk_mul _ _) ?_
              refine lv_aload_n hx hb dX7_bits_59 rfl (lv_at hl 1 rfl) ?_
              refine mw_get (C := RX7) (T := TX7) (N := 27) (v := .ref (a 1)) hx hb hts inX7_bits_X7 hown hC hw hm.1 rfl 1 (by decide) k_0 rfl dX7_bits_60 ?_
              refine lv_iload_n hx hb dX7_bits_63 rfl (lv_at hl 2 rfl) ?_
              refine md_ald 1 (n := 2) hx hb hC hw hm rfl (by decide) rfl (by omega) (by decide) dX7_bits_64 ?_
              refine lv_iadd hx hb dX7_bits_65 ?_
              refine mw_ti (v' := nI (40 * ed + A 1 ed)) (nI_add _ _) ?_
              refine lv_iconst (v := nI 1) hx hb dX7_bits_66 (by decide) ?_
              refine lv_isub hx hb dX7_bits_67 ?_
              refine mw_ti (v' := nI (40 * ed + A 1 ed - 1)) (pk_sub (by omega)) ?_
              refine lv_istore (lv' := [(7, .int (nI (40 * ed + A 1 ed - 1))), (6, .int (nI (0))), (0, .ref (h0)), (1, .int (nI (ed))), (2, .long (wv)), (4, .int (nI (nb))), (5, .int (nI (fz)))]) hx hb dX7_bits_68 hl (by decide) rfl (fun ls hl => ?_)
              refine lv_aload_n hx hb dX7_bits_70 rfl (lv_at hl 2 rfl) ?_
              refine lv_iload hx hb dX7_bits_71 (lv_at hl 1 rfl) ?_
              refine lv_if_eq (tgt := 95) hx hb dX7_bits_73 (by decide) (fun c_7 => ?_) (fun c_7 => ?_)
              · skip
                refine lv_aload_n hx hb dX7_bits_95 rfl (lv_at hl 2 rfl) ?_
                refine mw_get (C := RX7) (T := TX7) (N := 27) (v := .ref (a 2)) hx hb hts inX7_bits_X7 hown hC hw hm.1 rfl 2 (by decide) k_1 rfl dX7_bits_96 ?_
                refine lv_iload hx hb dX7_bits_99 (lv_at hl 0 rfl) ?_
                refine md_ald 2 (n := 80) hx hb hC hw hm rfl (by decide) rfl (by omega) (by decide) dX7_bits_101 ?_
                refine lv_iload hx hb dX7_bits_102 (lv_at hl 5 rfl) ?_
                refine lv_iadd hx hb dX7_bits_104 ?_
                refine mw_ti (v' := nI (A 2 (40 * ed + A 1 ed - 1) + nb)) (nI_add _ _) ?_
                refine lv_sipush (v := nI 3000) hx hb dX7_bits_105 (by decide) ?_
                refine lv_icmp_le (tgt := 115) hx hb dX7_bits_108 (by decide) (fun c_8 => ?_) (fun c_8 => ?_)
                · skip
                  have c_8 : A 2 (40 * ed + A 1 ed - 1) + nb ≤ 3000 := (nI_leI (a := A 2 (40 * ed + A 1 ed - 1) + nb) (b := 3000) (by omega) (by omega)).mp c_8
                  exfalso; omega
                · skip
                  have c_8 : A 2 (40 * ed + A 1 ed - 1) + nb > 3000 := Nat.not_le.mp (fun h => c_8 ((nI_leI (a := A 2 (40 * ed + A 1 ed - 1) + nb) (b := 3000) (by omega) (by omega)).mpr h))
                  refine lv_iconst (v := nI 2) hx hb dX7_bits_111 (by decide) ?_
                  refine lv_goto (tgt := 116) hx hb dX7_bits_112 (by decide) ?_
                  refine md_ci hC hw (va_runV (As := [.int (nI (2))]) (rest := []) ⟨hx, hb, hml, hown, hts⟩ (c_X7_refuses l G _ H.size h0 a 0 u A 2 hm (by omega)) (cwV 1 hts gX7_bits_X7_refuses rfl rfl rfl (by decide +kernel) ⟨Nat.le_of_ble_eq_true rfl, Nat.le_of_ble_eq_true rfl⟩) (mw_preV (ci := 7) hC hw rfl hm.1) rfl rfl hl.1 rfl (lv_room (Nat.le_of_ble_eq_true rfl)) dX7_bits_116 ⟨Nat.le_of_ble_eq_true rfl, Nat.le_of_ble_eq_true rfl⟩) (fun M1 H locs hm hf1 hw => ?_)
                  have hf := hf.tr hf1
                  refine mw_ti (v' := nI (1)) rfl ?_
                  refine lv_if_eq (tgt := 124) hx hb dX7_bits_119 (by decide) (fun c_9 => ?_) (fun c_9 => ?_)
                  · skip
                    exact absurd c_9 (by decide)
                  · skip
                    refine lv_iconst (v := nI 0) hx hb dX7_bits_122 (by decide) ?_
                    exact md_iret hx hb hr hlocks hw hm hf (rfl) dX7_bits_123
              · skip
                exact absurd c_7 (by decide)
            · skip
              have c_6 : A 1 ed = 0 := (nI_eq (a := A 1 ed) (b := 0) (by omega) (by omega)).mp c_6
              exfalso; omega
        · skip
          exact absurd c_4 (by decide)
      · skip
        have c_3 : nb > 64 := Nat.not_le.mp (fun h => c_3 ((nI_leI (a := nb) (b := 64) (by omega) (by omega)).mpr h))
        exfalso; omega
def RM_X7_bits_app : Room := { frames := 1, cells := 0, slots := 0, locals := 23 }
set_option maxHeartbeats 4000000 in
set_option maxRecDepth 100000 in
theorem c_X7_bits_app (l : Launch) (G : mw_G) (M : mw_M) (sz : Nat) (h0 : Nat) (a : Nat → Nat) (c u : Nat) (A : md_S) (ed : Nat) (wv : Int64) (nb fz : Nat) (hm : md_at G M h0 a c u A) (hed : ed ≤ 1) (hnb : 1 ≤ nb) (hnb2 : nb ≤ 64) (hfz : fz ≤ 1) (hop : fz = 0) (hop2 : 0 < A 1 ed) (hf2 : A 1 ed ≤ 40) (hq : A 2 (40 * ed + A 1 ed - 1) + nb ≤ 3000) : Met l yX7_bits wsX7_bits RM_X7_bits_app (mw_pre G M sz [.ref (h0), .int (nI (ed)), .long (wv), .int (nI (nb)), .int (nI (fz))]) (md_Qi G M sz h0 a (nI (A 2 (40 * ed + A 1 ed - 1) + nb)) 0 u (mbts A ed wv nb)) 0 0 (mw_A M sz) := by
  refine Met.ofW (cc := cX7_bits) (maxL := 9) (ret := (some .int)) (by decide) rfl ?_
  intro p e s m args below meth c0 s₁ B hml hv
  obtain ⟨rfl, rfl, hC, hw⟩ := mw_in hv
  have hx := B.exec
  have hb := B.bytes
  have hr := B.returns
  have hts := atoms_spec (ws := wsX7_bits) B.pre
  have hown : s.vm.findClass RX7 = some m.cls := findClass_of_methodNamed B.named
  have hlocks := B.notSynchronized
  have hf : md_fr h0 a M M := md_fr.rf
  have k_0 := hts (.fieldLink RX7 7 "LinkPairModel" "frames" "[I") (by decide +kernel)
  have k_1 := hts (.fieldLink RX7 13 "LinkPairModel" "lengths" "[I") (by decide +kernel)
  have hl := lv_entry ([.ref (h0), .int (nI (ed)), .long (wv), .int (nI (nb)), .int (nI (fz))]) (n := 9) (Nat.le_of_ble_eq_true rfl)
  rw [lg_entry_eq]
  generalize (lg_sl ([.ref (h0), .int (nI (ed)), .long (wv), .int (nI (nb)), .int (nI (fz))]) ++ List.replicate (9 - (lg_sl ([.ref (h0), .int (nI (ed)), .long (wv), .int (nI (nb)), .int (nI (fz))])).length) Slot.unset).toArray = ls at hl ⊢
  have hl : lv_has ls 9 [(0, .ref (h0)), (1, .int (nI (ed))), (2, .long (wv)), (4, .int (nI (nb))), (5, .int (nI (fz)))] := hl
  refine mw_start (fun H locs hw => ?_) hw
  refine lv_aload_n hx hb dX7_bits_0 rfl (lv_at hl 0 rfl) ?_
  refine lv_iload_n hx hb dX7_bits_1 rfl (lv_at hl 1 rfl) ?_
  refine mw_ci hC hw (va_runS (As := [.int (nI (ed))]) (rest := [.ref (h0)]) ⟨hx, hb, hml, hown, hts⟩ (c_X7_isEnd l G _ H.size ed  (by omega)) (cwS 1 hts gX7_bits_X7_isEnd rfl rfl rfl (by decide +kernel) ⟨Nat.le_of_ble_eq_true rfl, Nat.le_of_ble_eq_true rfl⟩) (mw_preS hC hw) rfl rfl hl.1 rfl (lv_room (Nat.le_of_ble_eq_true rfl)) dX7_bits_2 ⟨Nat.le_of_ble_eq_true rfl, Nat.le_of_ble_eq_true rfl⟩) (fun H locs hz hw => ?_)
  refine lv_if_eq (tgt := 21) hx hb dX7_bits_5 (by decide) (fun c_1 => ?_) (fun c_1 => ?_)
  · skip
    exact absurd c_1 (by decide)
  · skip
    refine lv_iload hx hb dX7_bits_8 (lv_at hl 3 rfl) ?_
    refine lv_iconst (v := nI 1) hx hb dX7_bits_10 (by decide) ?_
    refine lv_icmp_lt (tgt := 21) hx hb dX7_bits_11 (by decide) (fun c_2 => ?_) (fun c_2 => ?_)
    · skip
      have c_2 : nb < 1 := (nI_ltI (a := nb) (b := 1) (by omega) (by omega)).mp c_2
      exfalso; omega
    · skip
      have c_2 : nb ≥ 1 := Nat.not_lt.mp (fun h => c_2 ((nI_ltI (a := nb) (b := 1) (by omega) (by omega)).mpr h))
      refine lv_iload hx hb dX7_bits_14 (lv_at hl 3 rfl) ?_
      refine lv_bipush (v := nI 64) hx hb dX7_bits_16 (by decide) ?_
      refine lv_icmp_le (tgt := 25) hx hb dX7_bits_18 (by decide) (fun c_3 => ?_) (fun c_3 => ?_)
      · skip
        have c_3 : nb ≤ 64 := (nI_leI (a := nb) (b := 64) (by omega) (by omega)).mp c_3
        refine lv_iconst (v := nI 0) hx hb dX7_bits_25 (by decide) ?_
        refine md_ci hC hw (va_runV (As := [.int (nI (0))]) (rest := []) ⟨hx, hb, hml, hown, hts⟩ (c_X7_refuses l G _ H.size h0 a c u A 0 hm (by omega)) (cwV 1 hts gX7_bits_X7_refuses rfl rfl rfl (by decide +kernel) ⟨Nat.le_of_ble_eq_true rfl, Nat.le_of_ble_eq_true rfl⟩) (mw_preV (ci := 7) hC hw rfl hm.1) rfl rfl hl.1 rfl (lv_room (Nat.le_of_ble_eq_true rfl)) dX7_bits_26 ⟨Nat.le_of_ble_eq_true rfl, Nat.le_of_ble_eq_true rfl⟩) (fun M1 H locs hm hf1 hw => ?_)
        have hf := hf.tr hf1
        refine mw_ti (v' := nI (0)) rfl ?_
        refine lv_if_eq (tgt := 34) hx hb dX7_bits_29 (by decide) (fun c_4 => ?_) (fun c_4 => ?_)
        · skip
          refine lv_iload hx hb dX7_bits_34 (lv_at hl 4 rfl) ?_
          refine lv_if_ne (tgt := 48) hx hb dX7_bits_36 (by decide) (fun c_5 => ?_) (fun c_5 => ?_)
          · skip
            have c_5 : fz ≠ 0 := fun h => c_5 ((nI_eq (a := fz) (b := 0) (by omega) (by omega)).mpr h)
            exfalso; omega
          · skip
            have c_5 : fz = 0 := (nI_eq (a := fz) (b := 0) (by omega) (by omega)).mp c_5
            refine lv_aload_n hx hb dX7_bits_39 rfl (lv_at hl 0 rfl) ?_
            refine mw_get (C := RX7) (T := TX7) (N := 27) (v := .ref (a 1)) hx hb hts inX7_bits_X7 hown hC hw hm.1 rfl 1 (by decide) k_0 rfl dX7_bits_40 ?_
            refine lv_iload_n hx hb dX7_bits_43 rfl (lv_at hl 1 rfl) ?_
            refine md_ald 1 (n := 2) hx hb hC hw hm rfl (by decide) rfl (by omega) (by decide) dX7_bits_44 ?_
            refine lv_if_ne (tgt := 52) hx hb dX7_bits_45 (by decide) (fun c_6 => ?_) (fun c_6 => ?_)
            · skip
              have c_6 : A 1 ed ≠ 0 := fun h => c_6 ((nI_eq (a := A 1 ed) (b := 0) (by omega) (by omega)).mpr h)
              refine lv_iconst (v := nI 0) hx hb dX7_bits_52 (by decide) ?_
              refine lv_istore (lv' := [(6, .int (nI (0))), (0, .ref (h0)), (1, .int (nI (ed))), (2, .long (wv)), (4, .int (nI (nb))), (5, .int (nI (fz)))]) hx hb dX7_bits_53 hl (by decide) rfl (fun ls hl => ?_)
              refine lv_bipush (v := nI 40) hx hb dX7_bits_55 (by decide) ?_
              refine lv_iload_n hx hb dX7_bits_57 rfl (lv_at hl 2 rfl) ?_
              refine lv_imul hx hb dX7_bits_58 ?_
              refine mw_ti (v' := nI (40 * ed)) (pk_mul _ _) ?_
              refine lv_aload_n hx hb dX7_bits_59 rfl (lv_at hl 1 rfl) ?_
              refine mw_get (C := RX7) (T := TX7) (N := 27) (v := .ref (a 1)) hx hb hts inX7_bits_X7 hown hC hw hm.1 rfl 1 (by decide) k_0 rfl dX7_bits_60 ?_
              refine lv_iload_n hx hb dX7_bits_63 rfl (lv_at hl 2 rfl) ?_
              refine md_ald 1 (n := 2) hx hb hC hw hm rfl (by decide) rfl (by omega) (by decide) dX7_bits_64 ?_
              refine lv_iadd hx hb dX7_bits_65 ?_
              refine mw_ti (v' := nI (40 * ed + A 1 ed)) (nI_add _ _) ?_
              refine lv_iconst (v := nI 1) hx hb dX7_bits_66 (by decide) ?_
              refine lv_isub hx hb dX7_bits_67 ?_
              refine mw_ti (v' := nI (40 * ed + A 1 ed - 1)) (pk_sub (by omega)) ?_
              refine lv_istore (lv' := [(7, .int (nI (40 * ed + A 1 ed - 1))), (6, .int (nI (0))), (0, .ref (h0)), (1, .int (nI (ed))), (2, .long (wv)), (4, .int (nI (nb))), (5, .int (nI (fz)))]) hx hb dX7_bits_68 hl (by decide) rfl (fun ls hl => ?_)
              refine lv_aload_n hx hb dX7_bits_70 rfl (lv_at hl 2 rfl) ?_
              refine lv_iload hx hb dX7_bits_71 (lv_at hl 1 rfl) ?_
              refine lv_if_eq (tgt := 95) hx hb dX7_bits_73 (by decide) (fun c_7 => ?_) (fun c_7 => ?_)
              · skip
                refine lv_aload_n hx hb dX7_bits_95 rfl (lv_at hl 2 rfl) ?_
                refine mw_get (C := RX7) (T := TX7) (N := 27) (v := .ref (a 2)) hx hb hts inX7_bits_X7 hown hC hw hm.1 rfl 2 (by decide) k_1 rfl dX7_bits_96 ?_
                refine lv_iload hx hb dX7_bits_99 (lv_at hl 0 rfl) ?_
                refine md_ald 2 (n := 80) hx hb hC hw hm rfl (by decide) rfl (by omega) (by decide) dX7_bits_101 ?_
                refine lv_iload hx hb dX7_bits_102 (lv_at hl 5 rfl) ?_
                refine lv_iadd hx hb dX7_bits_104 ?_
                refine mw_ti (v' := nI (A 2 (40 * ed + A 1 ed - 1) + nb)) (nI_add _ _) ?_
                refine lv_sipush (v := nI 3000) hx hb dX7_bits_105 (by decide) ?_
                refine lv_icmp_le (tgt := 115) hx hb dX7_bits_108 (by decide) (fun c_8 => ?_) (fun c_8 => ?_)
                · skip
                  have c_8 : A 2 (40 * ed + A 1 ed - 1) + nb ≤ 3000 := (nI_leI (a := A 2 (40 * ed + A 1 ed - 1) + nb) (b := 3000) (by omega) (by omega)).mp c_8
                  refine lv_iconst (v := nI 0) hx hb dX7_bits_115 (by decide) ?_
                  refine md_ci hC hw (va_runV (As := [.int (nI (0))]) (rest := []) ⟨hx, hb, hml, hown, hts⟩ (c_X7_refuses l G _ H.size h0 a 0 u A 0 hm (by omega)) (cwV 1 hts gX7_bits_X7_refuses rfl rfl rfl (by decide +kernel) ⟨Nat.le_of_ble_eq_true rfl, Nat.le_of_ble_eq_true rfl⟩) (mw_preV (ci := 7) hC hw rfl hm.1) rfl rfl hl.1 rfl (lv_room (Nat.le_of_ble_eq_true rfl)) dX7_bits_116 ⟨Nat.le_of_ble_eq_true rfl, Nat.le_of_ble_eq_true rfl⟩) (fun M1 H locs hm hf1 hw => ?_)
                  have hf := hf.tr hf1
                  refine mw_ti (v' := nI (0)) rfl ?_
                  refine lv_if_eq (tgt := 124) hx hb dX7_bits_119 (by decide) (fun c_9 => ?_) (fun c_9 => ?_)
                  · skip
                    refine lv_iload hx hb dX7_bits_124 (lv_at hl 1 rfl) ?_
                    refine lv_if_eq (tgt := 156) hx hb dX7_bits_126 (by decide) (fun c_10 => ?_) (fun c_10 => ?_)
                    · skip
                      refine lv_iconst (v := nI 0) hx hb dX7_bits_156 (by decide) ?_
                      refine lv_istore (lv' := [(8, .int (nI (0))), (7, .int (nI (40 * ed + A 1 ed - 1))), (6, .int (nI (0))), (0, .ref (h0)), (1, .int (nI (ed))), (2, .long (wv)), (4, .int (nI (nb))), (5, .int (nI (fz)))]) hx hb dX7_bits_157 hl (by decide) rfl (fun ls hl => ?_)
                      have lp_11 : ∀ (n9 : Nat) (k : Nat), (hk : k ≤ nb) → nb - k < n9 → ∀ (M1 : mw_M) (H : Heap) (locs : List Loc) (ls : Array Slot), md_at G M1 h0 a 0 u (mbts A ed wv k) → md_fr h0 a M M1 → mw_St G (mw_A M s.heap.size) s M1 H locs → lv_has ls 9 [(0, .ref (h0)), (1, .int (nI (ed))), (2, .long (wv)), (4, .int (nI (nb))), (8, .int (nI (k)))] → W p l e (headSpec wsX7_bits RM_X7_bits_app).room s m ([.ref (h0), .int (nI (ed)), .long (wv), .int (nI (nb)), .int (nI (fz))] : List Value).toArray below meth c0 H locs 0 0 (MQ below (md_Qi G M s.heap.size h0 a (nI (A 2 (40 * ed + A 1 ed - 1) + nb)) 0 u (mbts A ed wv nb)) ([.ref (h0), .int (nI (ed)), .long (wv), .int (nI (nb)), .int (nI (fz))] : List Value).toArray s 0 0 (mw_A M s.heap.size)) (F0 m 159 ls []) := by
                        intro n9
                        induction n9 with
                        | zero => intro k hk h9; exact absurd h9 (Nat.not_lt_zero _)
                        | succ n9 ih =>
                          intro k hk h9 M1 H locs ls hm hf hw hl
                          have h1 := mbts_o A ed wv k (j := 1) (by decide) (by decide)
                          have h2 := mbts_2 A ed wv k
                          refine lv_iload hx hb dX7_bits_159 (lv_at hl 4 rfl) ?_
                          refine lv_iload hx hb dX7_bits_161 (lv_at hl 3 rfl) ?_
                          refine lv_icmp_ge (tgt := 184) hx hb dX7_bits_163 (by decide) (fun c_12 => ?_) (fun c_12 => ?_)
                          · skip
                            have c_12 : k ≥ nb := (nI_leI (a := nb) (b := k) (by omega) (by omega)).mp c_12
                            obtain rfl : nb = k := by omega
                            refine lv_aload_n hx hb dX7_bits_184 rfl (lv_at hl 0 rfl) ?_
                            refine mw_get (C := RX7) (T := TX7) (N := 27) (v := .ref (a 2)) hx hb hts inX7_bits_X7 hown hC hw hm.1 rfl 2 (by decide) k_1 rfl dX7_bits_185 ?_
                            refine lv_bipush (v := nI 40) hx hb dX7_bits_188 (by decide) ?_
                            refine lv_iload_n hx hb dX7_bits_190 rfl (lv_at hl 1 rfl) ?_
                            refine lv_imul hx hb dX7_bits_191 ?_
                            refine mw_ti (v' := nI (40 * ed)) (pk_mul _ _) ?_
                            refine lv_aload_n hx hb dX7_bits_192 rfl (lv_at hl 0 rfl) ?_
                            refine mw_get (C := RX7) (T := TX7) (N := 27) (v := .ref (a 1)) hx hb hts inX7_bits_X7 hown hC hw hm.1 rfl 1 (by decide) k_0 rfl dX7_bits_193 ?_
                            refine lv_iload_n hx hb dX7_bits_196 rfl (lv_at hl 1 rfl) ?_
                            refine md_ald 1 (n := 2) hx hb hC hw hm rfl (by decide) rfl (by omega) (by decide) dX7_bits_197 ?_
                            refine mw_ti (v' := nI (A 1 ed)) (by rw [h1]) ?_
                            refine lv_iadd hx hb dX7_bits_198 ?_
                            refine mw_ti (v' := nI (40 * ed + A 1 ed)) (nI_add _ _) ?_
                            refine lv_iconst (v := nI 1) hx hb dX7_bits_199 (by decide) ?_
                            refine lv_isub hx hb dX7_bits_200 ?_
                            refine mw_ti (v' := nI (40 * ed + A 1 ed - 1)) (pk_sub (by omega)) ?_
                            refine md_ald 2 (n := 80) hx hb hC hw hm rfl (by decide) rfl (by omega) (by decide) dX7_bits_201 ?_
                            refine mw_ti (v' := nI (A 2 (40 * ed + A 1 ed - 1) + nb)) (by rw [h2]) ?_
                            exact md_iret hx hb hr hlocks hw hm hf (rfl) dX7_bits_202
                          · skip
                            have c_12 : k < nb := Nat.not_le.mp (fun h => c_12 ((nI_leI (a := nb) (b := k) (by omega) (by omega)).mpr h))
                            refine lv_aload_n hx hb dX7_bits_166 rfl (lv_at hl 0 rfl) ?_
                            refine lv_iload_n hx hb dX7_bits_167 rfl (lv_at hl 1 rfl) ?_
                            refine lv_lload_n hx hb dX7_bits_168 rfl (lv_at hl 2 rfl) ?_
                            refine lv_iload hx hb dX7_bits_169 (lv_at hl 4 rfl) ?_
                            refine lv_lshr hx hb dX7_bits_171 rfl ?_
                            refine lv_lconst (v := 1) hx hb dX7_bits_172 (by decide) ?_
                            refine lv_land hx hb dX7_bits_173 ?_
                            refine lv_l2i hx hb dX7_bits_174 rfl ?_
                            refine mw_ti (v' := nI (wbt wv k)) (wbt_valS wv (by omega)) ?_
                            refine md_cv hC hw (va_runV (As := [.int (nI (ed)), .int (nI (wbt wv k))]) (rest := []) ⟨hx, hb, hml, hown, hts⟩ (c_X7_bit l G _ H.size h0 a 0 u (mbts A ed wv k) ed (wbt wv k) hm (by omega) (by rw [h1]; omega) (by rw [h1]; omega) (by rw [h1, h2]; omega)) (cwV 2 hts gX7_bits_X7_bit rfl rfl rfl (by decide +kernel) ⟨Nat.le_of_ble_eq_true rfl, Nat.le_of_ble_eq_true rfl⟩) (mw_preV (ci := 7) hC hw rfl hm.1) rfl rfl hl.1 rfl (lv_room (Nat.le_of_ble_eq_true rfl)) dX7_bits_175 ⟨Nat.le_of_ble_eq_true rfl, Nat.le_of_ble_eq_true rfl⟩) (fun M1 H locs hm hf1 hw => ?_)
                            have hf := hf.tr hf1
                            refine lv_iinc (v := nI (k + 1)) (lv' := [(8, .int (nI (k + 1))), (0, .ref (h0)), (1, .int (nI (ed))), (2, .long (wv)), (4, .int (nI (nb)))]) hx hb dX7_bits_178 hl (k := 4) rfl (by rw [show Int32.ofInt 1 = nI 1 by decide]; exact nI_add _ _) (by decide) rfl (fun ls hl => ?_)
                            refine lv_goto (tgt := 159) hx hb dX7_bits_181 (by decide) ?_
                            have hA_13 : mbit (mbts A ed wv k) ed (wbt wv k) = mbts A ed wv (k + 1) := by first | rfl | simp_all
                            rw [hA_13] at hm
                            exact ih  (k + 1) (by omega) (by omega) _ _ _ ls hm hf hw (lv_sub hl [1, 2, 3, 4, 0] rfl)
                      have hA_14 : A = mbts A ed wv 0 := by first | rfl | simp_all
                      rw [hA_14] at hm
                      exact lp_11 (nb - 0 + 1) 0 (by omega) (Nat.lt_succ_self _) _ _ _ ls hm hf hw (lv_sub hl [3, 4, 5, 6, 0] rfl)
                    · skip
                      exact absurd c_10 (by decide)
                  · skip
                    exact absurd c_9 (by decide)
                · skip
                  have c_8 : A 2 (40 * ed + A 1 ed - 1) + nb > 3000 := Nat.not_le.mp (fun h => c_8 ((nI_leI (a := A 2 (40 * ed + A 1 ed - 1) + nb) (b := 3000) (by omega) (by omega)).mpr h))
                  exfalso; omega
              · skip
                exact absurd c_7 (by decide)
            · skip
              have c_6 : A 1 ed = 0 := (nI_eq (a := A 1 ed) (b := 0) (by omega) (by omega)).mp c_6
              exfalso; omega
        · skip
          exact absurd c_4 (by decide)
      · skip
        have c_3 : nb > 64 := Nat.not_le.mp (fun h => c_3 ((nI_leI (a := nb) (b := 64) (by omega) (by omega)).mpr h))
        exfalso; omega
def RM_X7_bits_fresh : Room := { frames := 1, cells := 0, slots := 0, locals := 23 }
set_option maxHeartbeats 4000000 in
set_option maxRecDepth 100000 in
theorem c_X7_bits_fresh (l : Launch) (G : mw_G) (M : mw_M) (sz : Nat) (h0 : Nat) (a : Nat → Nat) (c u : Nat) (A : md_S) (ed : Nat) (wv : Int64) (nb fz : Nat) (hm : md_at G M h0 a c u A) (hed : ed ≤ 1) (hnb : 1 ≤ nb) (hnb2 : nb ≤ 64) (hfz : fz ≤ 1) (hop : fz = 1 ∨ A 1 ed = 0) (hf2 : A 1 ed < 40) : Met l yX7_bits wsX7_bits RM_X7_bits_fresh (mw_pre G M sz [.ref (h0), .int (nI (ed)), .long (wv), .int (nI (nb)), .int (nI (fz))]) (md_Qi G M sz h0 a (nI (0 + nb)) 0 u (mbts (mopen A ed) ed wv nb)) 0 0 (mw_A M sz) := by
  refine Met.ofW (cc := cX7_bits) (maxL := 9) (ret := (some .int)) (by decide) rfl ?_
  intro p e s m args below meth c0 s₁ B hml hv
  obtain ⟨rfl, rfl, hC, hw⟩ := mw_in hv
  have hx := B.exec
  have hb := B.bytes
  have hr := B.returns
  have hts := atoms_spec (ws := wsX7_bits) B.pre
  have hown : s.vm.findClass RX7 = some m.cls := findClass_of_methodNamed B.named
  have hlocks := B.notSynchronized
  have hf : md_fr h0 a M M := md_fr.rf
  have k_0 := hts (.fieldLink RX7 7 "LinkPairModel" "frames" "[I") (by decide +kernel)
  have k_1 := hts (.fieldLink RX7 13 "LinkPairModel" "lengths" "[I") (by decide +kernel)
  have hl := lv_entry ([.ref (h0), .int (nI (ed)), .long (wv), .int (nI (nb)), .int (nI (fz))]) (n := 9) (Nat.le_of_ble_eq_true rfl)
  rw [lg_entry_eq]
  generalize (lg_sl ([.ref (h0), .int (nI (ed)), .long (wv), .int (nI (nb)), .int (nI (fz))]) ++ List.replicate (9 - (lg_sl ([.ref (h0), .int (nI (ed)), .long (wv), .int (nI (nb)), .int (nI (fz))])).length) Slot.unset).toArray = ls at hl ⊢
  have hl : lv_has ls 9 [(0, .ref (h0)), (1, .int (nI (ed))), (2, .long (wv)), (4, .int (nI (nb))), (5, .int (nI (fz)))] := hl
  refine mw_start (fun H locs hw => ?_) hw
  have mo1 := mopen_1 A ed
  have mo2 := mopen_2 A ed
  refine lv_aload_n hx hb dX7_bits_0 rfl (lv_at hl 0 rfl) ?_
  refine lv_iload_n hx hb dX7_bits_1 rfl (lv_at hl 1 rfl) ?_
  refine mw_ci hC hw (va_runS (As := [.int (nI (ed))]) (rest := [.ref (h0)]) ⟨hx, hb, hml, hown, hts⟩ (c_X7_isEnd l G _ H.size ed  (by omega)) (cwS 1 hts gX7_bits_X7_isEnd rfl rfl rfl (by decide +kernel) ⟨Nat.le_of_ble_eq_true rfl, Nat.le_of_ble_eq_true rfl⟩) (mw_preS hC hw) rfl rfl hl.1 rfl (lv_room (Nat.le_of_ble_eq_true rfl)) dX7_bits_2 ⟨Nat.le_of_ble_eq_true rfl, Nat.le_of_ble_eq_true rfl⟩) (fun H locs hz hw => ?_)
  refine lv_if_eq (tgt := 21) hx hb dX7_bits_5 (by decide) (fun c_1 => ?_) (fun c_1 => ?_)
  · skip
    exact absurd c_1 (by decide)
  · skip
    refine lv_iload hx hb dX7_bits_8 (lv_at hl 3 rfl) ?_
    refine lv_iconst (v := nI 1) hx hb dX7_bits_10 (by decide) ?_
    refine lv_icmp_lt (tgt := 21) hx hb dX7_bits_11 (by decide) (fun c_2 => ?_) (fun c_2 => ?_)
    · skip
      have c_2 : nb < 1 := (nI_ltI (a := nb) (b := 1) (by omega) (by omega)).mp c_2
      exfalso; omega
    · skip
      have c_2 : nb ≥ 1 := Nat.not_lt.mp (fun h => c_2 ((nI_ltI (a := nb) (b := 1) (by omega) (by omega)).mpr h))
      refine lv_iload hx hb dX7_bits_14 (lv_at hl 3 rfl) ?_
      refine lv_bipush (v := nI 64) hx hb dX7_bits_16 (by decide) ?_
      refine lv_icmp_le (tgt := 25) hx hb dX7_bits_18 (by decide) (fun c_3 => ?_) (fun c_3 => ?_)
      · skip
        have c_3 : nb ≤ 64 := (nI_leI (a := nb) (b := 64) (by omega) (by omega)).mp c_3
        refine lv_iconst (v := nI 0) hx hb dX7_bits_25 (by decide) ?_
        refine md_ci hC hw (va_runV (As := [.int (nI (0))]) (rest := []) ⟨hx, hb, hml, hown, hts⟩ (c_X7_refuses l G _ H.size h0 a c u A 0 hm (by omega)) (cwV 1 hts gX7_bits_X7_refuses rfl rfl rfl (by decide +kernel) ⟨Nat.le_of_ble_eq_true rfl, Nat.le_of_ble_eq_true rfl⟩) (mw_preV (ci := 7) hC hw rfl hm.1) rfl rfl hl.1 rfl (lv_room (Nat.le_of_ble_eq_true rfl)) dX7_bits_26 ⟨Nat.le_of_ble_eq_true rfl, Nat.le_of_ble_eq_true rfl⟩) (fun M1 H locs hm hf1 hw => ?_)
        have hf := hf.tr hf1
        refine mw_ti (v' := nI (0)) rfl ?_
        refine lv_if_eq (tgt := 34) hx hb dX7_bits_29 (by decide) (fun c_4 => ?_) (fun c_4 => ?_)
        · skip
          refine lv_iload hx hb dX7_bits_34 (lv_at hl 4 rfl) ?_
          refine lv_if_ne (tgt := 48) hx hb dX7_bits_36 (by decide) (fun c_5 => ?_) (fun c_5 => ?_)
          · skip
            have c_5 : fz ≠ 0 := fun h => c_5 ((nI_eq (a := fz) (b := 0) (by omega) (by omega)).mpr h)
            refine lv_iconst (v := nI 1) hx hb dX7_bits_48 (by decide) ?_
            refine lv_goto (tgt := 53) hx hb dX7_bits_49 (by decide) ?_
            refine lv_istore (lv' := [(6, .int (nI (1))), (0, .ref (h0)), (1, .int (nI (ed))), (2, .long (wv)), (4, .int (nI (nb))), (5, .int (nI (fz)))]) hx hb dX7_bits_53 hl (by decide) rfl (fun ls hl => ?_)
            refine lv_bipush (v := nI 40) hx hb dX7_bits_55 (by decide) ?_
            refine lv_iload_n hx hb dX7_bits_57 rfl (lv_at hl 2 rfl) ?_
            refine lv_imul hx hb dX7_bits_58 ?_
            refine mw_ti (v' := nI (40 * ed)) (pk_mul _ _) ?_
            refine lv_aload_n hx hb dX7_bits_59 rfl (lv_at hl 1 rfl) ?_
            refine mw_get (C := RX7) (T := TX7) (N := 27) (v := .ref (a 1)) hx hb hts inX7_bits_X7 hown hC hw hm.1 rfl 1 (by decide) k_0 rfl dX7_bits_60 ?_
            refine lv_iload_n hx hb dX7_bits_63 rfl (lv_at hl 2 rfl) ?_
            refine md_ald 1 (n := 2) hx hb hC hw hm rfl (by decide) rfl (by omega) (by decide) dX7_bits_64 ?_
            refine lv_iadd hx hb dX7_bits_65 ?_
            refine mw_ti (v' := nI (40 * ed + A 1 ed)) (nI_add _ _) ?_
            refine lv_iconst (v := nI 1) hx hb dX7_bits_66 (by decide) ?_
            refine lv_isub hx hb dX7_bits_67 ?_
            refine mw_ti (v' := nI (40 * ed + A 1 ed) - nI 1) (rfl) ?_
            refine lv_istore (lv' := [(7, .int (nI (40 * ed + A 1 ed) - nI 1)), (6, .int (nI (1))), (0, .ref (h0)), (1, .int (nI (ed))), (2, .long (wv)), (4, .int (nI (nb))), (5, .int (nI (fz)))]) hx hb dX7_bits_68 hl (by decide) rfl (fun ls hl => ?_)
            refine lv_aload_n hx hb dX7_bits_70 rfl (lv_at hl 2 rfl) ?_
            refine lv_iload hx hb dX7_bits_71 (lv_at hl 1 rfl) ?_
            refine lv_if_eq (tgt := 95) hx hb dX7_bits_73 (by decide) (fun c_6 => ?_) (fun c_6 => ?_)
            · skip
              exact absurd c_6 (by decide)
            · skip
              refine lv_aload_n hx hb dX7_bits_76 rfl (lv_at hl 2 rfl) ?_
              refine mw_get (C := RX7) (T := TX7) (N := 27) (v := .ref (a 1)) hx hb hts inX7_bits_X7 hown hC hw hm.1 rfl 1 (by decide) k_0 rfl dX7_bits_77 ?_
              refine lv_iload_n hx hb dX7_bits_80 rfl (lv_at hl 3 rfl) ?_
              refine md_ald 1 (n := 2) hx hb hC hw hm rfl (by decide) rfl (by omega) (by decide) dX7_bits_81 ?_
              refine lv_bipush (v := nI 40) hx hb dX7_bits_82 (by decide) ?_
              refine lv_icmp_ne (tgt := 91) hx hb dX7_bits_84 (by decide) (fun c_7 => ?_) (fun c_7 => ?_)
              · skip
                have c_7 : A 1 ed ≠ 40 := fun h => c_7 ((nI_eq (a := A 1 ed) (b := 40) (by omega) (by omega)).mpr h)
                refine lv_iconst (v := nI 0) hx hb dX7_bits_91 (by decide) ?_
                refine lv_goto (tgt := 116) hx hb dX7_bits_92 (by decide) ?_
                refine md_ci hC hw (va_runV (As := [.int (nI (0))]) (rest := []) ⟨hx, hb, hml, hown, hts⟩ (c_X7_refuses l G _ H.size h0 a 0 u A 0 hm (by omega)) (cwV 1 hts gX7_bits_X7_refuses rfl rfl rfl (by decide +kernel) ⟨Nat.le_of_ble_eq_true rfl, Nat.le_of_ble_eq_true rfl⟩) (mw_preV (ci := 7) hC hw rfl hm.1) rfl rfl hl.1 rfl (lv_room (Nat.le_of_ble_eq_true rfl)) dX7_bits_116 ⟨Nat.le_of_ble_eq_true rfl, Nat.le_of_ble_eq_true rfl⟩) (fun M1 H locs hm hf1 hw => ?_)
                have hf := hf.tr hf1
                refine mw_ti (v' := nI (0)) rfl ?_
                refine lv_if_eq (tgt := 124) hx hb dX7_bits_119 (by decide) (fun c_8 => ?_) (fun c_8 => ?_)
                · skip
                  refine lv_iload hx hb dX7_bits_124 (lv_at hl 1 rfl) ?_
                  refine lv_if_eq (tgt := 156) hx hb dX7_bits_126 (by decide) (fun c_9 => ?_) (fun c_9 => ?_)
                  · skip
                    exact absurd c_9 (by decide)
                  · skip
                    refine lv_aload_n hx hb dX7_bits_129 rfl (lv_at hl 2 rfl) ?_
                    refine mw_get (C := RX7) (T := TX7) (N := 27) (v := .ref (a 2)) hx hb hts inX7_bits_X7 hown hC hw hm.1 rfl 2 (by decide) k_1 rfl dX7_bits_130 ?_
                    refine lv_bipush (v := nI 40) hx hb dX7_bits_133 (by decide) ?_
                    refine lv_iload_n hx hb dX7_bits_135 rfl (lv_at hl 3 rfl) ?_
                    refine lv_imul hx hb dX7_bits_136 ?_
                    refine mw_ti (v' := nI (40 * ed)) (pk_mul _ _) ?_
                    refine lv_aload_n hx hb dX7_bits_137 rfl (lv_at hl 2 rfl) ?_
                    refine mw_get (C := RX7) (T := TX7) (N := 27) (v := .ref (a 1)) hx hb hts inX7_bits_X7 hown hC hw hm.1 rfl 1 (by decide) k_0 rfl dX7_bits_138 ?_
                    refine lv_iload_n hx hb dX7_bits_141 rfl (lv_at hl 3 rfl) ?_
                    refine md_ald 1 (n := 2) hx hb hC hw hm rfl (by decide) rfl (by omega) (by decide) dX7_bits_142 ?_
                    refine lv_iadd hx hb dX7_bits_143 ?_
                    refine mw_ti (v' := nI (40 * ed + A 1 ed)) (nI_add _ _) ?_
                    refine lv_iconst (v := nI 0) hx hb dX7_bits_144 (by decide) ?_
                    refine md_ast 2 (n := 80) (v := 0) hx hb hC hw hm rfl (by decide) rfl (by omega) (by decide) dX7_bits_145 (fun M1 H locs hm hf1 hw => ?_)
                    have hf := hf.tr hf1
                    refine lv_aload_n hx hb dX7_bits_146 rfl (lv_at hl 2 rfl) ?_
                    refine mw_get (C := RX7) (T := TX7) (N := 27) (v := .ref (a 1)) hx hb hts inX7_bits_X7 hown hC hw hm.1 rfl 1 (by decide) k_0 rfl dX7_bits_147 ?_
                    refine lv_iload_n hx hb dX7_bits_150 rfl (lv_at hl 3 rfl) ?_
                    refine lv_dup2_11 hx hb dX7_bits_151 rfl rfl ?_
                    refine md_ald 1 (n := 2) hx hb hC hw hm rfl (by decide) rfl (by omega) (by decide) dX7_bits_152 ?_
                    refine mw_ti (v' := nI (A 1 ed)) (congrArg nI (md_u_k (by decide))) ?_
                    refine lv_iconst (v := nI 1) hx hb dX7_bits_153 (by decide) ?_
                    refine lv_iadd hx hb dX7_bits_154 ?_
                    refine mw_ti (v' := nI (A 1 ed + 1)) (nI_add _ _) ?_
                    refine md_ast 1 (n := 2) (v := A 1 ed + 1) hx hb hC hw hm rfl (by decide) rfl (by omega) (by decide) dX7_bits_155 (fun M1 H locs hm hf1 hw => ?_)
                    have hf := hf.tr hf1
                    refine lv_iconst (v := nI 0) hx hb dX7_bits_156 (by decide) ?_
                    refine lv_istore (lv' := [(8, .int (nI (0))), (7, .int (nI (40 * ed + A 1 ed) - nI 1)), (6, .int (nI (1))), (0, .ref (h0)), (1, .int (nI (ed))), (2, .long (wv)), (4, .int (nI (nb))), (5, .int (nI (fz)))]) hx hb dX7_bits_157 hl (by decide) rfl (fun ls hl => ?_)
                    have lp_10 : ∀ (n9 : Nat) (k : Nat), (hk : k ≤ nb) → nb - k < n9 → ∀ (M1 : mw_M) (H : Heap) (locs : List Loc) (ls : Array Slot), md_at G M1 h0 a 0 u (mbts (mopen A ed) ed wv k) → md_fr h0 a M M1 → mw_St G (mw_A M s.heap.size) s M1 H locs → lv_has ls 9 [(0, .ref (h0)), (1, .int (nI (ed))), (2, .long (wv)), (4, .int (nI (nb))), (8, .int (nI (k)))] → W p l e (headSpec wsX7_bits RM_X7_bits_fresh).room s m ([.ref (h0), .int (nI (ed)), .long (wv), .int (nI (nb)), .int (nI (fz))] : List Value).toArray below meth c0 H locs 0 0 (MQ below (md_Qi G M s.heap.size h0 a (nI (0 + nb)) 0 u (mbts (mopen A ed) ed wv nb)) ([.ref (h0), .int (nI (ed)), .long (wv), .int (nI (nb)), .int (nI (fz))] : List Value).toArray s 0 0 (mw_A M s.heap.size)) (F0 m 159 ls []) := by
                      intro n9
                      induction n9 with
                      | zero => intro k hk h9; exact absurd h9 (Nat.not_lt_zero _)
                      | succ n9 ih =>
                        intro k hk h9 M1 H locs ls hm hf hw hl
                        have h1 := mbts_o (mopen A ed) ed wv k (j := 1) (by decide) (by decide)
                        have h2 := mbts_2 (mopen A ed) ed wv k
                        rw [mo1, show 40 * ed + (A 1 ed + 1) - 1 = 40 * ed + A 1 ed by omega, mo2] at h2
                        refine lv_iload hx hb dX7_bits_159 (lv_at hl 4 rfl) ?_
                        refine lv_iload hx hb dX7_bits_161 (lv_at hl 3 rfl) ?_
                        refine lv_icmp_ge (tgt := 184) hx hb dX7_bits_163 (by decide) (fun c_11 => ?_) (fun c_11 => ?_)
                        · skip
                          have c_11 : k ≥ nb := (nI_leI (a := nb) (b := k) (by omega) (by omega)).mp c_11
                          obtain rfl : nb = k := by omega
                          refine lv_aload_n hx hb dX7_bits_184 rfl (lv_at hl 0 rfl) ?_
                          refine mw_get (C := RX7) (T := TX7) (N := 27) (v := .ref (a 2)) hx hb hts inX7_bits_X7 hown hC hw hm.1 rfl 2 (by decide) k_1 rfl dX7_bits_185 ?_
                          refine lv_bipush (v := nI 40) hx hb dX7_bits_188 (by decide) ?_
                          refine lv_iload_n hx hb dX7_bits_190 rfl (lv_at hl 1 rfl) ?_
                          refine lv_imul hx hb dX7_bits_191 ?_
                          refine mw_ti (v' := nI (40 * ed)) (pk_mul _ _) ?_
                          refine lv_aload_n hx hb dX7_bits_192 rfl (lv_at hl 0 rfl) ?_
                          refine mw_get (C := RX7) (T := TX7) (N := 27) (v := .ref (a 1)) hx hb hts inX7_bits_X7 hown hC hw hm.1 rfl 1 (by decide) k_0 rfl dX7_bits_193 ?_
                          refine lv_iload_n hx hb dX7_bits_196 rfl (lv_at hl 1 rfl) ?_
                          refine md_ald 1 (n := 2) hx hb hC hw hm rfl (by decide) rfl (by omega) (by decide) dX7_bits_197 ?_
                          refine mw_ti (v' := nI (A 1 ed + 1)) (by rw [h1, mo1]) ?_
                          refine lv_iadd hx hb dX7_bits_198 ?_
                          refine mw_ti (v' := nI (40 * ed + A 1 ed + 1)) (nI_add _ _) ?_
                          refine lv_iconst (v := nI 1) hx hb dX7_bits_199 (by decide) ?_
                          refine lv_isub hx hb dX7_bits_200 ?_
                          refine mw_ti (v' := nI (40 * ed + A 1 ed)) ((pk_sub (by omega)).trans (congrArg nI (by omega))) ?_
                          refine md_ald 2 (n := 80) hx hb hC hw hm rfl (by decide) rfl (by omega) (by decide) dX7_bits_201 ?_
                          refine mw_ti (v' := nI (0 + nb)) (by rw [h2]) ?_
                          exact md_iret hx hb hr hlocks hw hm hf (rfl) dX7_bits_202
                        · skip
                          have c_11 : k < nb := Nat.not_le.mp (fun h => c_11 ((nI_leI (a := nb) (b := k) (by omega) (by omega)).mpr h))
                          refine lv_aload_n hx hb dX7_bits_166 rfl (lv_at hl 0 rfl) ?_
                          refine lv_iload_n hx hb dX7_bits_167 rfl (lv_at hl 1 rfl) ?_
                          refine lv_lload_n hx hb dX7_bits_168 rfl (lv_at hl 2 rfl) ?_
                          refine lv_iload hx hb dX7_bits_169 (lv_at hl 4 rfl) ?_
                          refine lv_lshr hx hb dX7_bits_171 rfl ?_
                          refine lv_lconst (v := 1) hx hb dX7_bits_172 (by decide) ?_
                          refine lv_land hx hb dX7_bits_173 ?_
                          refine lv_l2i hx hb dX7_bits_174 rfl ?_
                          refine mw_ti (v' := nI (wbt wv k)) (wbt_valS wv (by omega)) ?_
                          refine md_cv hC hw (va_runV (As := [.int (nI (ed)), .int (nI (wbt wv k))]) (rest := []) ⟨hx, hb, hml, hown, hts⟩ (c_X7_bit l G _ H.size h0 a 0 u (mbts (mopen A ed) ed wv k) ed (wbt wv k) hm (by omega) (by rw [h1, mo1]; omega) (by rw [h1, mo1]; omega) (by rw [h1, mo1, show 40 * ed + (A 1 ed + 1) - 1 = 40 * ed + A 1 ed by omega, h2]; omega)) (cwV 2 hts gX7_bits_X7_bit rfl rfl rfl (by decide +kernel) ⟨Nat.le_of_ble_eq_true rfl, Nat.le_of_ble_eq_true rfl⟩) (mw_preV (ci := 7) hC hw rfl hm.1) rfl rfl hl.1 rfl (lv_room (Nat.le_of_ble_eq_true rfl)) dX7_bits_175 ⟨Nat.le_of_ble_eq_true rfl, Nat.le_of_ble_eq_true rfl⟩) (fun M1 H locs hm hf1 hw => ?_)
                          have hf := hf.tr hf1
                          refine lv_iinc (v := nI (k + 1)) (lv' := [(8, .int (nI (k + 1))), (0, .ref (h0)), (1, .int (nI (ed))), (2, .long (wv)), (4, .int (nI (nb)))]) hx hb dX7_bits_178 hl (k := 4) rfl (by rw [show Int32.ofInt 1 = nI 1 by decide]; exact nI_add _ _) (by decide) rfl (fun ls hl => ?_)
                          refine lv_goto (tgt := 159) hx hb dX7_bits_181 (by decide) ?_
                          have hA_12 : mbit (mbts (mopen A ed) ed wv k) ed (wbt wv k) = mbts (mopen A ed) ed wv (k + 1) := by first | rfl | simp_all
                          rw [hA_12] at hm
                          exact ih  (k + 1) (by omega) (by omega) _ _ _ ls hm hf hw (lv_sub hl [1, 2, 3, 4, 0] rfl)
                    have hA_13 : md_u ((md_u A 2 (40 * ed + A 1 ed) 0)) 1 ed (A 1 ed + 1) = mbts (mopen A ed) ed wv 0 := by first | rfl | simp_all
                    rw [hA_13] at hm
                    exact lp_10 (nb - 0 + 1) 0 (by omega) (Nat.lt_succ_self _) _ _ _ ls hm hf hw (lv_sub hl [3, 4, 5, 6, 0] rfl)
                · skip
                  exact absurd c_8 (by decide)
              · skip
                have c_7 : A 1 ed = 40 := (nI_eq (a := A 1 ed) (b := 40) (by omega) (by omega)).mp c_7
                exfalso; omega
          · skip
            have c_5 : fz = 0 := (nI_eq (a := fz) (b := 0) (by omega) (by omega)).mp c_5
            refine lv_aload_n hx hb dX7_bits_39 rfl (lv_at hl 0 rfl) ?_
            refine mw_get (C := RX7) (T := TX7) (N := 27) (v := .ref (a 1)) hx hb hts inX7_bits_X7 hown hC hw hm.1 rfl 1 (by decide) k_0 rfl dX7_bits_40 ?_
            refine lv_iload_n hx hb dX7_bits_43 rfl (lv_at hl 1 rfl) ?_
            refine md_ald 1 (n := 2) hx hb hC hw hm rfl (by decide) rfl (by omega) (by decide) dX7_bits_44 ?_
            refine lv_if_ne (tgt := 52) hx hb dX7_bits_45 (by decide) (fun c_14 => ?_) (fun c_14 => ?_)
            · skip
              have c_14 : A 1 ed ≠ 0 := fun h => c_14 ((nI_eq (a := A 1 ed) (b := 0) (by omega) (by omega)).mpr h)
              exfalso; omega
            · skip
              have c_14 : A 1 ed = 0 := (nI_eq (a := A 1 ed) (b := 0) (by omega) (by omega)).mp c_14
              refine lv_iconst (v := nI 1) hx hb dX7_bits_48 (by decide) ?_
              refine lv_goto (tgt := 53) hx hb dX7_bits_49 (by decide) ?_
              refine lv_istore (lv' := [(6, .int (nI (1))), (0, .ref (h0)), (1, .int (nI (ed))), (2, .long (wv)), (4, .int (nI (nb))), (5, .int (nI (fz)))]) hx hb dX7_bits_53 hl (by decide) rfl (fun ls hl => ?_)
              refine lv_bipush (v := nI 40) hx hb dX7_bits_55 (by decide) ?_
              refine lv_iload_n hx hb dX7_bits_57 rfl (lv_at hl 2 rfl) ?_
              refine lv_imul hx hb dX7_bits_58 ?_
              refine mw_ti (v' := nI (40 * ed)) (pk_mul _ _) ?_
              refine lv_aload_n hx hb dX7_bits_59 rfl (lv_at hl 1 rfl) ?_
              refine mw_get (C := RX7) (T := TX7) (N := 27) (v := .ref (a 1)) hx hb hts inX7_bits_X7 hown hC hw hm.1 rfl 1 (by decide) k_0 rfl dX7_bits_60 ?_
              refine lv_iload_n hx hb dX7_bits_63 rfl (lv_at hl 2 rfl) ?_
              refine md_ald 1 (n := 2) hx hb hC hw hm rfl (by decide) rfl (by omega) (by decide) dX7_bits_64 ?_
              refine lv_iadd hx hb dX7_bits_65 ?_
              refine mw_ti (v' := nI (40 * ed + A 1 ed)) (nI_add _ _) ?_
              refine lv_iconst (v := nI 1) hx hb dX7_bits_66 (by decide) ?_
              refine lv_isub hx hb dX7_bits_67 ?_
              refine mw_ti (v' := nI (40 * ed + A 1 ed) - nI 1) (rfl) ?_
              refine lv_istore (lv' := [(7, .int (nI (40 * ed + A 1 ed) - nI 1)), (6, .int (nI (1))), (0, .ref (h0)), (1, .int (nI (ed))), (2, .long (wv)), (4, .int (nI (nb))), (5, .int (nI (fz)))]) hx hb dX7_bits_68 hl (by decide) rfl (fun ls hl => ?_)
              refine lv_aload_n hx hb dX7_bits_70 rfl (lv_at hl 2 rfl) ?_
              refine lv_iload hx hb dX7_bits_71 (lv_at hl 1 rfl) ?_
              refine lv_if_eq (tgt := 95) hx hb dX7_bits_73 (by decide) (fun c_15 => ?_) (fun c_15 => ?_)
              · skip
                exact absurd c_15 (by decide)
              · skip
                refine lv_aload_n hx hb dX7_bits_76 rfl (lv_at hl 2 rfl) ?_
                refine mw_get (C := RX7) (T := TX7) (N := 27) (v := .ref (a 1)) hx hb hts inX7_bits_X7 hown hC hw hm.1 rfl 1 (by decide) k_0 rfl dX7_bits_77 ?_
                refine lv_iload_n hx hb dX7_bits_80 rfl (lv_at hl 3 rfl) ?_
                refine md_ald 1 (n := 2) hx hb hC hw hm rfl (by decide) rfl (by omega) (by decide) dX7_bits_81 ?_
                refine lv_bipush (v := nI 40) hx hb dX7_bits_82 (by decide) ?_
                refine lv_icmp_ne (tgt := 91) hx hb dX7_bits_84 (by decide) (fun c_16 => ?_) (fun c_16 => ?_)
                · skip
                  have c_16 : A 1 ed ≠ 40 := fun h => c_16 ((nI_eq (a := A 1 ed) (b := 40) (by omega) (by omega)).mpr h)
                  refine lv_iconst (v := nI 0) hx hb dX7_bits_91 (by decide) ?_
                  refine lv_goto (tgt := 116) hx hb dX7_bits_92 (by decide) ?_
                  refine md_ci hC hw (va_runV (As := [.int (nI (0))]) (rest := []) ⟨hx, hb, hml, hown, hts⟩ (c_X7_refuses l G _ H.size h0 a 0 u A 0 hm (by omega)) (cwV 1 hts gX7_bits_X7_refuses rfl rfl rfl (by decide +kernel) ⟨Nat.le_of_ble_eq_true rfl, Nat.le_of_ble_eq_true rfl⟩) (mw_preV (ci := 7) hC hw rfl hm.1) rfl rfl hl.1 rfl (lv_room (Nat.le_of_ble_eq_true rfl)) dX7_bits_116 ⟨Nat.le_of_ble_eq_true rfl, Nat.le_of_ble_eq_true rfl⟩) (fun M1 H locs hm hf1 hw => ?_)
                  have hf := hf.tr hf1
                  refine mw_ti (v' := nI (0)) rfl ?_
                  refine lv_if_eq (tgt := 124) hx hb dX7_bits_119 (by decide) (fun c_17 => ?_) (fun c_17 => ?_)
                  · skip
                    refine lv_iload hx hb dX7_bits_124 (lv_at hl 1 rfl) ?_
                    refine lv_if_eq (tgt := 156) hx hb dX7_bits_126 (by decide) (fun c_18 => ?_) (fun c_18 => ?_)
                    · skip
                      exact absurd c_18 (by decide)
                    · skip
                      refine lv_aload_n hx hb dX7_bits_129 rfl (lv_at hl 2 rfl) ?_
                      refine mw_get (C := RX7) (T := TX7) (N := 27) (v := .ref (a 2)) hx hb hts inX7_bits_X7 hown hC hw hm.1 rfl 2 (by decide) k_1 rfl dX7_bits_130 ?_
                      refine lv_bipush (v := nI 40) hx hb dX7_bits_133 (by decide) ?_
                      refine lv_iload_n hx hb dX7_bits_135 rfl (lv_at hl 3 rfl) ?_
                      refine lv_imul hx hb dX7_bits_136 ?_
                      refine mw_ti (v' := nI (40 * ed)) (pk_mul _ _) ?_
                      refine lv_aload_n hx hb dX7_bits_137 rfl (lv_at hl 2 rfl) ?_
                      refine mw_get (C := RX7) (T := TX7) (N := 27) (v := .ref (a 1)) hx hb hts inX7_bits_X7 hown hC hw hm.1 rfl 1 (by decide) k_0 rfl dX7_bits_138 ?_
                      refine lv_iload_n hx hb dX7_bits_141 rfl (lv_at hl 3 rfl) ?_
                      refine md_ald 1 (n := 2) hx hb hC hw hm rfl (by decide) rfl (by omega) (by decide) dX7_bits_142 ?_
                      refine lv_iadd hx hb dX7_bits_143 ?_
                      refine mw_ti (v' := nI (40 * ed + A 1 ed)) (nI_add _ _) ?_
                      refine lv_iconst (v := nI 0) hx hb dX7_bits_144 (by decide) ?_
                      refine md_ast 2 (n := 80) (v := 0) hx hb hC hw hm rfl (by decide) rfl (by omega) (by decide) dX7_bits_145 (fun M1 H locs hm hf1 hw => ?_)
                      have hf := hf.tr hf1
                      refine lv_aload_n hx hb dX7_bits_146 rfl (lv_at hl 2 rfl) ?_
                      refine mw_get (C := RX7) (T := TX7) (N := 27) (v := .ref (a 1)) hx hb hts inX7_bits_X7 hown hC hw hm.1 rfl 1 (by decide) k_0 rfl dX7_bits_147 ?_
                      refine lv_iload_n hx hb dX7_bits_150 rfl (lv_at hl 3 rfl) ?_
                      refine lv_dup2_11 hx hb dX7_bits_151 rfl rfl ?_
                      refine md_ald 1 (n := 2) hx hb hC hw hm rfl (by decide) rfl (by omega) (by decide) dX7_bits_152 ?_
                      refine mw_ti (v' := nI (A 1 ed)) (congrArg nI (md_u_k (by decide))) ?_
                      refine lv_iconst (v := nI 1) hx hb dX7_bits_153 (by decide) ?_
                      refine lv_iadd hx hb dX7_bits_154 ?_
                      refine mw_ti (v' := nI (A 1 ed + 1)) (nI_add _ _) ?_
                      refine md_ast 1 (n := 2) (v := A 1 ed + 1) hx hb hC hw hm rfl (by decide) rfl (by omega) (by decide) dX7_bits_155 (fun M1 H locs hm hf1 hw => ?_)
                      have hf := hf.tr hf1
                      refine lv_iconst (v := nI 0) hx hb dX7_bits_156 (by decide) ?_
                      refine lv_istore (lv' := [(8, .int (nI (0))), (7, .int (nI (40 * ed + A 1 ed) - nI 1)), (6, .int (nI (1))), (0, .ref (h0)), (1, .int (nI (ed))), (2, .long (wv)), (4, .int (nI (nb))), (5, .int (nI (fz)))]) hx hb dX7_bits_157 hl (by decide) rfl (fun ls hl => ?_)
                      have lp_19 : ∀ (n9 : Nat) (k : Nat), (hk : k ≤ nb) → nb - k < n9 → ∀ (M1 : mw_M) (H : Heap) (locs : List Loc) (ls : Array Slot), md_at G M1 h0 a 0 u (mbts (mopen A ed) ed wv k) → md_fr h0 a M M1 → mw_St G (mw_A M s.heap.size) s M1 H locs → lv_has ls 9 [(0, .ref (h0)), (1, .int (nI (ed))), (2, .long (wv)), (4, .int (nI (nb))), (8, .int (nI (k)))] → W p l e (headSpec wsX7_bits RM_X7_bits_fresh).room s m ([.ref (h0), .int (nI (ed)), .long (wv), .int (nI (nb)), .int (nI (fz))] : List Value).toArray below meth c0 H locs 0 0 (MQ below (md_Qi G M s.heap.size h0 a (nI (0 + nb)) 0 u (mbts (mopen A ed) ed wv nb)) ([.ref (h0), .int (nI (ed)), .long (wv), .int (nI (nb)), .int (nI (fz))] : List Value).toArray s 0 0 (mw_A M s.heap.size)) (F0 m 159 ls []) := by
                        intro n9
                        induction n9 with
                        | zero => intro k hk h9; exact absurd h9 (Nat.not_lt_zero _)
                        | succ n9 ih =>
                          intro k hk h9 M1 H locs ls hm hf hw hl
                          have h1 := mbts_o (mopen A ed) ed wv k (j := 1) (by decide) (by decide)
                          have h2 := mbts_2 (mopen A ed) ed wv k
                          rw [mo1, show 40 * ed + (A 1 ed + 1) - 1 = 40 * ed + A 1 ed by omega, mo2] at h2
                          refine lv_iload hx hb dX7_bits_159 (lv_at hl 4 rfl) ?_
                          refine lv_iload hx hb dX7_bits_161 (lv_at hl 3 rfl) ?_
                          refine lv_icmp_ge (tgt := 184) hx hb dX7_bits_163 (by decide) (fun c_20 => ?_) (fun c_20 => ?_)
                          · skip
                            have c_20 : k ≥ nb := (nI_leI (a := nb) (b := k) (by omega) (by omega)).mp c_20
                            obtain rfl : nb = k := by omega
                            refine lv_aload_n hx hb dX7_bits_184 rfl (lv_at hl 0 rfl) ?_
                            refine mw_get (C := RX7) (T := TX7) (N := 27) (v := .ref (a 2)) hx hb hts inX7_bits_X7 hown hC hw hm.1 rfl 2 (by decide) k_1 rfl dX7_bits_185 ?_
                            refine lv_bipush (v := nI 40) hx hb dX7_bits_188 (by decide) ?_
                            refine lv_iload_n hx hb dX7_bits_190 rfl (lv_at hl 1 rfl) ?_
                            refine lv_imul hx hb dX7_bits_191 ?_
                            refine mw_ti (v' := nI (40 * ed)) (pk_mul _ _) ?_
                            refine lv_aload_n hx hb dX7_bits_192 rfl (lv_at hl 0 rfl) ?_
                            refine mw_get (C := RX7) (T := TX7) (N := 27) (v := .ref (a 1)) hx hb hts inX7_bits_X7 hown hC hw hm.1 rfl 1 (by decide) k_0 rfl dX7_bits_193 ?_
                            refine lv_iload_n hx hb dX7_bits_196 rfl (lv_at hl 1 rfl) ?_
                            refine md_ald 1 (n := 2) hx hb hC hw hm rfl (by decide) rfl (by omega) (by decide) dX7_bits_197 ?_
                            refine mw_ti (v' := nI (A 1 ed + 1)) (by rw [h1, mo1]) ?_
                            refine lv_iadd hx hb dX7_bits_198 ?_
                            refine mw_ti (v' := nI (40 * ed + A 1 ed + 1)) (nI_add _ _) ?_
                            refine lv_iconst (v := nI 1) hx hb dX7_bits_199 (by decide) ?_
                            refine lv_isub hx hb dX7_bits_200 ?_
                            refine mw_ti (v' := nI (40 * ed + A 1 ed)) ((pk_sub (by omega)).trans (congrArg nI (by omega))) ?_
                            refine md_ald 2 (n := 80) hx hb hC hw hm rfl (by decide) rfl (by omega) (by decide) dX7_bits_201 ?_
                            refine mw_ti (v' := nI (0 + nb)) (by rw [h2]) ?_
                            exact md_iret hx hb hr hlocks hw hm hf (rfl) dX7_bits_202
                          · skip
                            have c_20 : k < nb := Nat.not_le.mp (fun h => c_20 ((nI_leI (a := nb) (b := k) (by omega) (by omega)).mpr h))
                            refine lv_aload_n hx hb dX7_bits_166 rfl (lv_at hl 0 rfl) ?_
                            refine lv_iload_n hx hb dX7_bits_167 rfl (lv_at hl 1 rfl) ?_
                            refine lv_lload_n hx hb dX7_bits_168 rfl (lv_at hl 2 rfl) ?_
                            refine lv_iload hx hb dX7_bits_169 (lv_at hl 4 rfl) ?_
                            refine lv_lshr hx hb dX7_bits_171 rfl ?_
                            refine lv_lconst (v := 1) hx hb dX7_bits_172 (by decide) ?_
                            refine lv_land hx hb dX7_bits_173 ?_
                            refine lv_l2i hx hb dX7_bits_174 rfl ?_
                            refine mw_ti (v' := nI (wbt wv k)) (wbt_valS wv (by omega)) ?_
                            refine md_cv hC hw (va_runV (As := [.int (nI (ed)), .int (nI (wbt wv k))]) (rest := []) ⟨hx, hb, hml, hown, hts⟩ (c_X7_bit l G _ H.size h0 a 0 u (mbts (mopen A ed) ed wv k) ed (wbt wv k) hm (by omega) (by rw [h1, mo1]; omega) (by rw [h1, mo1]; omega) (by rw [h1, mo1, show 40 * ed + (A 1 ed + 1) - 1 = 40 * ed + A 1 ed by omega, h2]; omega)) (cwV 2 hts gX7_bits_X7_bit rfl rfl rfl (by decide +kernel) ⟨Nat.le_of_ble_eq_true rfl, Nat.le_of_ble_eq_true rfl⟩) (mw_preV (ci := 7) hC hw rfl hm.1) rfl rfl hl.1 rfl (lv_room (Nat.le_of_ble_eq_true rfl)) dX7_bits_175 ⟨Nat.le_of_ble_eq_true rfl, Nat.le_of_ble_eq_true rfl⟩) (fun M1 H locs hm hf1 hw => ?_)
                            have hf := hf.tr hf1
                            refine lv_iinc (v := nI (k + 1)) (lv' := [(8, .int (nI (k + 1))), (0, .ref (h0)), (1, .int (nI (ed))), (2, .long (wv)), (4, .int (nI (nb)))]) hx hb dX7_bits_178 hl (k := 4) rfl (by rw [show Int32.ofInt 1 = nI 1 by decide]; exact nI_add _ _) (by decide) rfl (fun ls hl => ?_)
                            refine lv_goto (tgt := 159) hx hb dX7_bits_181 (by decide) ?_
                            have hA_21 : mbit (mbts (mopen A ed) ed wv k) ed (wbt wv k) = mbts (mopen A ed) ed wv (k + 1) := by first | rfl | simp_all
                            rw [hA_21] at hm
                            exact ih  (k + 1) (by omega) (by omega) _ _ _ ls hm hf hw (lv_sub hl [1, 2, 3, 4, 0] rfl)
                      have hA_22 : md_u ((md_u A 2 (40 * ed + A 1 ed) 0)) 1 ed (A 1 ed + 1) = mbts (mopen A ed) ed wv 0 := by first | rfl | simp_all
                      rw [hA_22] at hm
                      exact lp_19 (nb - 0 + 1) 0 (by omega) (Nat.lt_succ_self _) _ _ _ ls hm hf hw (lv_sub hl [3, 4, 5, 6, 0] rfl)
                  · skip
                    exact absurd c_17 (by decide)
                · skip
                  have c_16 : A 1 ed = 40 := (nI_eq (a := A 1 ed) (b := 40) (by omega) (by omega)).mp c_16
                  exfalso; omega
        · skip
          exact absurd c_4 (by decide)
      · skip
        have c_3 : nb > 64 := Nat.not_le.mp (fun h => c_3 ((nI_leI (a := nb) (b := 64) (by omega) (by omega)).mpr h))
        exfalso; omega
theorem inX7_forwards_X7 : ∀ w ∈ wsX70, w ∈ wsX7_forwards := by decide +kernel
def RM_X7_forwards_0 : Room := { frames := 0, cells := 0, slots := 0, locals := 0 }
set_option maxHeartbeats 4000000 in
set_option maxRecDepth 100000 in
theorem c_X7_forwards_0 (l : Launch) (G : mw_G) (M : mw_M) (sz : Nat) (h0 : Nat) (a : Nat → Nat) (c u : Nat) (A : md_S) (ed : Nat) (hm : md_at G M h0 a c u A) (hed : ed ≤ 1) (hug : ∀ i, i < 280 → A 24 i < 256) (hu : u ≤ 277) (h5 : A 5 ed ≤ 1) (h7 : A 7 ed < 128) (hb1 : A 24 1 / 128 ≠ A 5 ed ∨ A 24 1 % 128 = A 7 ed) : Met l yX7_forwards wsX7_forwards RM_X7_forwards_0 (mw_pre G M sz [.ref (h0), .int (nI (ed))]) (md_Qi G M sz h0 a (nI (0)) c u A) 0 0 (mw_A M sz) := by
  refine Met.ofW (cc := cX7_forwards) (maxL := 6) (ret := (some .int)) (by decide) rfl ?_
  intro p e s m args below meth c0 s₁ B hml hv
  obtain ⟨rfl, rfl, hC, hw⟩ := mw_in hv
  have hx := B.exec
  have hb := B.bytes
  have hr := B.returns
  have hts := atoms_spec (ws := wsX7_forwards) B.pre
  have hown : s.vm.findClass RX7 = some m.cls := findClass_of_methodNamed B.named
  have hlocks := B.notSynchronized
  have hf : md_fr h0 a M M := md_fr.rf
  have k_0 := hts (.fieldLink RX7 81 "LinkPairModel" "unit" "[I") (by decide +kernel)
  have k_1 := hts (.fieldLink RX7 128 "LinkPairModel" "unitLength" "I") (by decide +kernel)
  have k_2 := hts (.fieldLink RX7 23 "LinkPairModel" "bib" "[I") (by decide +kernel)
  have k_3 := hts (.fieldLink RX7 29 "LinkPairModel" "takenLatest" "[I") (by decide +kernel)
  have hl := lv_entry ([.ref (h0), .int (nI (ed))]) (n := 6) (Nat.le_of_ble_eq_true rfl)
  rw [lg_entry_eq]
  generalize (lg_sl ([.ref (h0), .int (nI (ed))]) ++ List.replicate (6 - (lg_sl ([.ref (h0), .int (nI (ed))])).length) Slot.unset).toArray = ls at hl ⊢
  have hl : lv_has ls 6 [(0, .ref (h0)), (1, .int (nI (ed)))] := hl
  refine mw_start (fun H locs hw => ?_) hw
  have hg1 := hug 1 (by decide)
  refine lv_aload_n hx hb dX7_forwards_0 rfl (lv_at hl 0 rfl) ?_
  refine mw_get (C := RX7) (T := TX7) (N := 27) (v := .ref (a 24)) hx hb hts inX7_forwards_X7 hown hC hw hm.1 rfl 24 (by decide) k_0 rfl dX7_forwards_1 ?_
  refine lv_iconst (v := nI 1) hx hb dX7_forwards_4 (by decide) ?_
  refine md_ald 24 (n := 280) hx hb hC hw hm rfl (by decide) rfl (by omega) (by decide) dX7_forwards_5 ?_
  refine lv_bipush (v := nI 127) hx hb dX7_forwards_6 (by decide) ?_
  refine lv_iand hx hb dX7_forwards_8 ?_
  refine mw_ti (v' := nI ((A 24 1) % 128)) (pk_andN (by omega) 7 (by decide)) ?_
  refine lv_istore_n (lv' := [(2, .int (nI ((A 24 1) % 128))), (0, .ref (h0)), (1, .int (nI (ed)))]) hx hb dX7_forwards_9 rfl hl (by decide) rfl (fun ls hl => ?_)
  refine lv_aload_n hx hb dX7_forwards_10 rfl (lv_at hl 1 rfl) ?_
  refine mw_get (C := RX7) (T := TX7) (N := 27) (v := .int (nI (u))) hx hb hts inX7_forwards_X7 hown hC hw hm.1 rfl 25 (by decide) k_1 rfl dX7_forwards_11 ?_
  refine lv_iconst (v := nI 5) hx hb dX7_forwards_14 (by decide) ?_
  refine lv_icmp_le (tgt := 22) hx hb dX7_forwards_15 (by decide) (fun c_1 => ?_) (fun c_1 => ?_)
  · skip
    have c_1 : u ≤ 5 := (nI_leI (a := u) (b := 5) (by omega) (by omega)).mp c_1
    refine lv_iconst (v := nI 0) hx hb dX7_forwards_22 (by decide) ?_
    refine lv_istore_n (lv' := [(3, .int (nI (0))), (2, .int (nI ((A 24 1) % 128))), (0, .ref (h0)), (1, .int (nI (ed)))]) hx hb dX7_forwards_23 rfl hl (by decide) rfl (fun ls hl => ?_)
    refine lv_aload_n hx hb dX7_forwards_24 rfl (lv_at hl 2 rfl) ?_
    refine mw_get (C := RX7) (T := TX7) (N := 27) (v := .ref (a 24)) hx hb hts inX7_forwards_X7 hown hC hw hm.1 rfl 24 (by decide) k_0 rfl dX7_forwards_25 ?_
    refine lv_iconst (v := nI 1) hx hb dX7_forwards_28 (by decide) ?_
    refine md_ald 24 (n := 280) hx hb hC hw hm rfl (by decide) rfl (by omega) (by decide) dX7_forwards_29 ?_
    refine lv_bipush (v := nI 7) hx hb dX7_forwards_30 (by decide) ?_
    refine lv_ishr hx hb dX7_forwards_32 ?_
    refine mw_ti (v' := nI ((A 24 1) / 128)) (pk_shrN (by omega) _ 7 (by decide)) ?_
    refine lv_aload_n hx hb dX7_forwards_33 rfl (lv_at hl 2 rfl) ?_
    refine mw_get (C := RX7) (T := TX7) (N := 27) (v := .ref (a 5)) hx hb hts inX7_forwards_X7 hown hC hw hm.1 rfl 5 (by decide) k_2 rfl dX7_forwards_34 ?_
    refine lv_iload_n hx hb dX7_forwards_37 rfl (lv_at hl 3 rfl) ?_
    refine md_ald 5 (n := 2) hx hb hC hw hm rfl (by decide) rfl (by omega) (by decide) dX7_forwards_38 ?_
    refine lv_icmp_ne (tgt := 52) hx hb dX7_forwards_39 (by decide) (fun c_2 => ?_) (fun c_2 => ?_)
    · skip
      have c_2 : (A 24 1) / 128 ≠ A 5 ed := fun h => c_2 ((nI_eq (a := (A 24 1) / 128) (b := A 5 ed) (by omega) (by omega)).mpr h)
      refine lv_iconst (v := nI 0) hx hb dX7_forwards_52 (by decide) ?_
      exact md_iret hx hb hr hlocks hw hm hf (rfl) dX7_forwards_53
    · skip
      have c_2 : (A 24 1) / 128 = A 5 ed := (nI_eq (a := (A 24 1) / 128) (b := A 5 ed) (by omega) (by omega)).mp c_2
      refine lv_iload_n hx hb dX7_forwards_42 rfl (lv_at hl 1 rfl) ?_
      refine lv_aload_n hx hb dX7_forwards_43 rfl (lv_at hl 2 rfl) ?_
      refine mw_get (C := RX7) (T := TX7) (N := 27) (v := .ref (a 7)) hx hb hts inX7_forwards_X7 hown hC hw hm.1 rfl 7 (by decide) k_3 rfl dX7_forwards_44 ?_
      refine lv_iload_n hx hb dX7_forwards_47 rfl (lv_at hl 3 rfl) ?_
      refine md_ald 7 (n := 2) hx hb hC hw hm rfl (by decide) rfl (by omega) (by decide) dX7_forwards_48 ?_
      refine lv_icmp_ne (tgt := 54) hx hb dX7_forwards_49 (by decide) (fun c_3 => ?_) (fun c_3 => ?_)
      · skip
        have c_3 : (A 24 1) % 128 ≠ A 7 ed := fun h => c_3 ((nI_eq (a := (A 24 1) % 128) (b := A 7 ed) (by omega) (by omega)).mpr h)
        exfalso; omega
      · skip
        have c_3 : (A 24 1) % 128 = A 7 ed := (nI_eq (a := (A 24 1) % 128) (b := A 7 ed) (by omega) (by omega)).mp c_3
        refine lv_iconst (v := nI 0) hx hb dX7_forwards_52 (by decide) ?_
        exact md_iret hx hb hr hlocks hw hm hf (rfl) dX7_forwards_53
  · skip
    have c_1 : u > 5 := Nat.not_le.mp (fun h => c_1 ((nI_leI (a := u) (b := 5) (by omega) (by omega)).mpr h))
    refine lv_iconst (v := nI 1) hx hb dX7_forwards_18 (by decide) ?_
    refine lv_goto (tgt := 23) hx hb dX7_forwards_19 (by decide) ?_
    refine lv_istore_n (lv' := [(3, .int (nI (1))), (2, .int (nI ((A 24 1) % 128))), (0, .ref (h0)), (1, .int (nI (ed)))]) hx hb dX7_forwards_23 rfl hl (by decide) rfl (fun ls hl => ?_)
    refine lv_aload_n hx hb dX7_forwards_24 rfl (lv_at hl 2 rfl) ?_
    refine mw_get (C := RX7) (T := TX7) (N := 27) (v := .ref (a 24)) hx hb hts inX7_forwards_X7 hown hC hw hm.1 rfl 24 (by decide) k_0 rfl dX7_forwards_25 ?_
    refine lv_iconst (v := nI 1) hx hb dX7_forwards_28 (by decide) ?_
    refine md_ald 24 (n := 280) hx hb hC hw hm rfl (by decide) rfl (by omega) (by decide) dX7_forwards_29 ?_
    refine lv_bipush (v := nI 7) hx hb dX7_forwards_30 (by decide) ?_
    refine lv_ishr hx hb dX7_forwards_32 ?_
    refine mw_ti (v' := nI ((A 24 1) / 128)) (pk_shrN (by omega) _ 7 (by decide)) ?_
    refine lv_aload_n hx hb dX7_forwards_33 rfl (lv_at hl 2 rfl) ?_
    refine mw_get (C := RX7) (T := TX7) (N := 27) (v := .ref (a 5)) hx hb hts inX7_forwards_X7 hown hC hw hm.1 rfl 5 (by decide) k_2 rfl dX7_forwards_34 ?_
    refine lv_iload_n hx hb dX7_forwards_37 rfl (lv_at hl 3 rfl) ?_
    refine md_ald 5 (n := 2) hx hb hC hw hm rfl (by decide) rfl (by omega) (by decide) dX7_forwards_38 ?_
    refine lv_icmp_ne (tgt := 52) hx hb dX7_forwards_39 (by decide) (fun c_4 => ?_) (fun c_4 => ?_)
    · skip
      have c_4 : (A 24 1) / 128 ≠ A 5 ed := fun h => c_4 ((nI_eq (a := (A 24 1) / 128) (b := A 5 ed) (by omega) (by omega)).mpr h)
      refine lv_iconst (v := nI 0) hx hb dX7_forwards_52 (by decide) ?_
      exact md_iret hx hb hr hlocks hw hm hf (rfl) dX7_forwards_53
    · skip
      have c_4 : (A 24 1) / 128 = A 5 ed := (nI_eq (a := (A 24 1) / 128) (b := A 5 ed) (by omega) (by omega)).mp c_4
      refine lv_iload_n hx hb dX7_forwards_42 rfl (lv_at hl 1 rfl) ?_
      refine lv_aload_n hx hb dX7_forwards_43 rfl (lv_at hl 2 rfl) ?_
      refine mw_get (C := RX7) (T := TX7) (N := 27) (v := .ref (a 7)) hx hb hts inX7_forwards_X7 hown hC hw hm.1 rfl 7 (by decide) k_3 rfl dX7_forwards_44 ?_
      refine lv_iload_n hx hb dX7_forwards_47 rfl (lv_at hl 3 rfl) ?_
      refine md_ald 7 (n := 2) hx hb hC hw hm rfl (by decide) rfl (by omega) (by decide) dX7_forwards_48 ?_
      refine lv_icmp_ne (tgt := 54) hx hb dX7_forwards_49 (by decide) (fun c_5 => ?_) (fun c_5 => ?_)
      · skip
        have c_5 : (A 24 1) % 128 ≠ A 7 ed := fun h => c_5 ((nI_eq (a := (A 24 1) % 128) (b := A 7 ed) (by omega) (by omega)).mpr h)
        exfalso; omega
      · skip
        have c_5 : (A 24 1) % 128 = A 7 ed := (nI_eq (a := (A 24 1) % 128) (b := A 7 ed) (by omega) (by omega)).mp c_5
        refine lv_iconst (v := nI 0) hx hb dX7_forwards_52 (by decide) ?_
        exact md_iret hx hb hr hlocks hw hm hf (rfl) dX7_forwards_53
def RM_X7_forwards_2 : Room := { frames := 0, cells := 0, slots := 0, locals := 0 }
set_option maxHeartbeats 4000000 in
set_option maxRecDepth 100000 in
theorem c_X7_forwards_2 (l : Launch) (G : mw_G) (M : mw_M) (sz : Nat) (h0 : Nat) (a : Nat → Nat) (c u : Nat) (A : md_S) (ed : Nat) (hm : md_at G M h0 a c u A) (hed : ed ≤ 1) (hug : ∀ i, i < 280 → A 24 i < 256) (hu : u ≤ 277) (h5 : A 5 ed ≤ 1) (h7 : A 7 ed < 128) (hb1 : A 24 1 / 128 = A 5 ed) (hb2 : A 24 1 % 128 ≠ A 7 ed) (hb3 : u ≤ 5 ∨ A 24 1 % 128 ≠ (A 7 ed + 1) % 128) : Met l yX7_forwards wsX7_forwards RM_X7_forwards_2 (mw_pre G M sz [.ref (h0), .int (nI (ed))]) (md_Qi G M sz h0 a (nI (2)) c u (md_u A 5 ed (1 - A 5 ed))) 0 0 (mw_A M sz) := by
  refine Met.ofW (cc := cX7_forwards) (maxL := 6) (ret := (some .int)) (by decide) rfl ?_
  intro p e s m args below meth c0 s₁ B hml hv
  obtain ⟨rfl, rfl, hC, hw⟩ := mw_in hv
  have hx := B.exec
  have hb := B.bytes
  have hr := B.returns
  have hts := atoms_spec (ws := wsX7_forwards) B.pre
  have hown : s.vm.findClass RX7 = some m.cls := findClass_of_methodNamed B.named
  have hlocks := B.notSynchronized
  have hf : md_fr h0 a M M := md_fr.rf
  have k_0 := hts (.fieldLink RX7 81 "LinkPairModel" "unit" "[I") (by decide +kernel)
  have k_1 := hts (.fieldLink RX7 128 "LinkPairModel" "unitLength" "I") (by decide +kernel)
  have k_2 := hts (.fieldLink RX7 23 "LinkPairModel" "bib" "[I") (by decide +kernel)
  have k_3 := hts (.fieldLink RX7 29 "LinkPairModel" "takenLatest" "[I") (by decide +kernel)
  have hl := lv_entry ([.ref (h0), .int (nI (ed))]) (n := 6) (Nat.le_of_ble_eq_true rfl)
  rw [lg_entry_eq]
  generalize (lg_sl ([.ref (h0), .int (nI (ed))]) ++ List.replicate (6 - (lg_sl ([.ref (h0), .int (nI (ed))])).length) Slot.unset).toArray = ls at hl ⊢
  have hl : lv_has ls 6 [(0, .ref (h0)), (1, .int (nI (ed)))] := hl
  refine mw_start (fun H locs hw => ?_) hw
  have hg1 := hug 1 (by decide)
  refine lv_aload_n hx hb dX7_forwards_0 rfl (lv_at hl 0 rfl) ?_
  refine mw_get (C := RX7) (T := TX7) (N := 27) (v := .ref (a 24)) hx hb hts inX7_forwards_X7 hown hC hw hm.1 rfl 24 (by decide) k_0 rfl dX7_forwards_1 ?_
  refine lv_iconst (v := nI 1) hx hb dX7_forwards_4 (by decide) ?_
  refine md_ald 24 (n := 280) hx hb hC hw hm rfl (by decide) rfl (by omega) (by decide) dX7_forwards_5 ?_
  refine lv_bipush (v := nI 127) hx hb dX7_forwards_6 (by decide) ?_
  refine lv_iand hx hb dX7_forwards_8 ?_
  refine mw_ti (v' := nI ((A 24 1) % 128)) (pk_andN (by omega) 7 (by decide)) ?_
  refine lv_istore_n (lv' := [(2, .int (nI ((A 24 1) % 128))), (0, .ref (h0)), (1, .int (nI (ed)))]) hx hb dX7_forwards_9 rfl hl (by decide) rfl (fun ls hl => ?_)
  refine lv_aload_n hx hb dX7_forwards_10 rfl (lv_at hl 1 rfl) ?_
  refine mw_get (C := RX7) (T := TX7) (N := 27) (v := .int (nI (u))) hx hb hts inX7_forwards_X7 hown hC hw hm.1 rfl 25 (by decide) k_1 rfl dX7_forwards_11 ?_
  refine lv_iconst (v := nI 5) hx hb dX7_forwards_14 (by decide) ?_
  refine lv_icmp_le (tgt := 22) hx hb dX7_forwards_15 (by decide) (fun c_1 => ?_) (fun c_1 => ?_)
  · skip
    have c_1 : u ≤ 5 := (nI_leI (a := u) (b := 5) (by omega) (by omega)).mp c_1
    refine lv_iconst (v := nI 0) hx hb dX7_forwards_22 (by decide) ?_
    refine lv_istore_n (lv' := [(3, .int (nI (0))), (2, .int (nI ((A 24 1) % 128))), (0, .ref (h0)), (1, .int (nI (ed)))]) hx hb dX7_forwards_23 rfl hl (by decide) rfl (fun ls hl => ?_)
    refine lv_aload_n hx hb dX7_forwards_24 rfl (lv_at hl 2 rfl) ?_
    refine mw_get (C := RX7) (T := TX7) (N := 27) (v := .ref (a 24)) hx hb hts inX7_forwards_X7 hown hC hw hm.1 rfl 24 (by decide) k_0 rfl dX7_forwards_25 ?_
    refine lv_iconst (v := nI 1) hx hb dX7_forwards_28 (by decide) ?_
    refine md_ald 24 (n := 280) hx hb hC hw hm rfl (by decide) rfl (by omega) (by decide) dX7_forwards_29 ?_
    refine lv_bipush (v := nI 7) hx hb dX7_forwards_30 (by decide) ?_
    refine lv_ishr hx hb dX7_forwards_32 ?_
    refine mw_ti (v' := nI ((A 24 1) / 128)) (pk_shrN (by omega) _ 7 (by decide)) ?_
    refine lv_aload_n hx hb dX7_forwards_33 rfl (lv_at hl 2 rfl) ?_
    refine mw_get (C := RX7) (T := TX7) (N := 27) (v := .ref (a 5)) hx hb hts inX7_forwards_X7 hown hC hw hm.1 rfl 5 (by decide) k_2 rfl dX7_forwards_34 ?_
    refine lv_iload_n hx hb dX7_forwards_37 rfl (lv_at hl 3 rfl) ?_
    refine md_ald 5 (n := 2) hx hb hC hw hm rfl (by decide) rfl (by omega) (by decide) dX7_forwards_38 ?_
    refine lv_icmp_ne (tgt := 52) hx hb dX7_forwards_39 (by decide) (fun c_2 => ?_) (fun c_2 => ?_)
    · skip
      have c_2 : (A 24 1) / 128 ≠ A 5 ed := fun h => c_2 ((nI_eq (a := (A 24 1) / 128) (b := A 5 ed) (by omega) (by omega)).mpr h)
      exfalso; omega
    · skip
      have c_2 : (A 24 1) / 128 = A 5 ed := (nI_eq (a := (A 24 1) / 128) (b := A 5 ed) (by omega) (by omega)).mp c_2
      refine lv_iload_n hx hb dX7_forwards_42 rfl (lv_at hl 1 rfl) ?_
      refine lv_aload_n hx hb dX7_forwards_43 rfl (lv_at hl 2 rfl) ?_
      refine mw_get (C := RX7) (T := TX7) (N := 27) (v := .ref (a 7)) hx hb hts inX7_forwards_X7 hown hC hw hm.1 rfl 7 (by decide) k_3 rfl dX7_forwards_44 ?_
      refine lv_iload_n hx hb dX7_forwards_47 rfl (lv_at hl 3 rfl) ?_
      refine md_ald 7 (n := 2) hx hb hC hw hm rfl (by decide) rfl (by omega) (by decide) dX7_forwards_48 ?_
      refine lv_icmp_ne (tgt := 54) hx hb dX7_forwards_49 (by decide) (fun c_3 => ?_) (fun c_3 => ?_)
      · skip
        have c_3 : (A 24 1) % 128 ≠ A 7 ed := fun h => c_3 ((nI_eq (a := (A 24 1) % 128) (b := A 7 ed) (by omega) (by omega)).mpr h)
        refine lv_iload_n hx hb dX7_forwards_54 rfl (lv_at hl 0 rfl) ?_
        refine lv_if_eq (tgt := 73) hx hb dX7_forwards_55 (by decide) (fun c_4 => ?_) (fun c_4 => ?_)
        · skip
          refine lv_aload_n hx hb dX7_forwards_73 rfl (lv_at hl 2 rfl) ?_
          refine mw_get (C := RX7) (T := TX7) (N := 27) (v := .ref (a 5)) hx hb hts inX7_forwards_X7 hown hC hw hm.1 rfl 5 (by decide) k_2 rfl dX7_forwards_74 ?_
          refine lv_iload_n hx hb dX7_forwards_77 rfl (lv_at hl 3 rfl) ?_
          refine lv_iconst (v := nI 1) hx hb dX7_forwards_78 (by decide) ?_
          refine lv_aload_n hx hb dX7_forwards_79 rfl (lv_at hl 2 rfl) ?_
          refine mw_get (C := RX7) (T := TX7) (N := 27) (v := .ref (a 5)) hx hb hts inX7_forwards_X7 hown hC hw hm.1 rfl 5 (by decide) k_2 rfl dX7_forwards_80 ?_
          refine lv_iload_n hx hb dX7_forwards_83 rfl (lv_at hl 3 rfl) ?_
          refine md_ald 5 (n := 2) hx hb hC hw hm rfl (by decide) rfl (by omega) (by decide) dX7_forwards_84 ?_
          refine lv_isub hx hb dX7_forwards_85 ?_
          refine mw_ti (v' := nI (1 - (A 5 ed))) (pk_sub (by omega)) ?_
          refine md_ast 5 (n := 2) (v := 1 - (A 5 ed)) hx hb hC hw hm rfl (by decide) rfl (by omega) (by decide) dX7_forwards_86 (fun M1 H locs hm hf1 hw => ?_)
          have hf := hf.tr hf1
          refine lv_iconst (v := nI 2) hx hb dX7_forwards_87 (by decide) ?_
          have hA_5 : md_u A 5 ed (1 - (A 5 ed)) = md_u A 5 ed (1 - A 5 ed) := by first | rfl | simp_all
          rw [hA_5] at hm
          exact md_iret hx hb hr hlocks hw hm hf (rfl) dX7_forwards_88
        · skip
          exact absurd c_4 (by decide)
      · skip
        have c_3 : (A 24 1) % 128 = A 7 ed := (nI_eq (a := (A 24 1) % 128) (b := A 7 ed) (by omega) (by omega)).mp c_3
        exfalso; omega
  · skip
    have c_1 : u > 5 := Nat.not_le.mp (fun h => c_1 ((nI_leI (a := u) (b := 5) (by omega) (by omega)).mpr h))
    refine lv_iconst (v := nI 1) hx hb dX7_forwards_18 (by decide) ?_
    refine lv_goto (tgt := 23) hx hb dX7_forwards_19 (by decide) ?_
    refine lv_istore_n (lv' := [(3, .int (nI (1))), (2, .int (nI ((A 24 1) % 128))), (0, .ref (h0)), (1, .int (nI (ed)))]) hx hb dX7_forwards_23 rfl hl (by decide) rfl (fun ls hl => ?_)
    refine lv_aload_n hx hb dX7_forwards_24 rfl (lv_at hl 2 rfl) ?_
    refine mw_get (C := RX7) (T := TX7) (N := 27) (v := .ref (a 24)) hx hb hts inX7_forwards_X7 hown hC hw hm.1 rfl 24 (by decide) k_0 rfl dX7_forwards_25 ?_
    refine lv_iconst (v := nI 1) hx hb dX7_forwards_28 (by decide) ?_
    refine md_ald 24 (n := 280) hx hb hC hw hm rfl (by decide) rfl (by omega) (by decide) dX7_forwards_29 ?_
    refine lv_bipush (v := nI 7) hx hb dX7_forwards_30 (by decide) ?_
    refine lv_ishr hx hb dX7_forwards_32 ?_
    refine mw_ti (v' := nI ((A 24 1) / 128)) (pk_shrN (by omega) _ 7 (by decide)) ?_
    refine lv_aload_n hx hb dX7_forwards_33 rfl (lv_at hl 2 rfl) ?_
    refine mw_get (C := RX7) (T := TX7) (N := 27) (v := .ref (a 5)) hx hb hts inX7_forwards_X7 hown hC hw hm.1 rfl 5 (by decide) k_2 rfl dX7_forwards_34 ?_
    refine lv_iload_n hx hb dX7_forwards_37 rfl (lv_at hl 3 rfl) ?_
    refine md_ald 5 (n := 2) hx hb hC hw hm rfl (by decide) rfl (by omega) (by decide) dX7_forwards_38 ?_
    refine lv_icmp_ne (tgt := 52) hx hb dX7_forwards_39 (by decide) (fun c_6 => ?_) (fun c_6 => ?_)
    · skip
      have c_6 : (A 24 1) / 128 ≠ A 5 ed := fun h => c_6 ((nI_eq (a := (A 24 1) / 128) (b := A 5 ed) (by omega) (by omega)).mpr h)
      exfalso; omega
    · skip
      have c_6 : (A 24 1) / 128 = A 5 ed := (nI_eq (a := (A 24 1) / 128) (b := A 5 ed) (by omega) (by omega)).mp c_6
      refine lv_iload_n hx hb dX7_forwards_42 rfl (lv_at hl 1 rfl) ?_
      refine lv_aload_n hx hb dX7_forwards_43 rfl (lv_at hl 2 rfl) ?_
      refine mw_get (C := RX7) (T := TX7) (N := 27) (v := .ref (a 7)) hx hb hts inX7_forwards_X7 hown hC hw hm.1 rfl 7 (by decide) k_3 rfl dX7_forwards_44 ?_
      refine lv_iload_n hx hb dX7_forwards_47 rfl (lv_at hl 3 rfl) ?_
      refine md_ald 7 (n := 2) hx hb hC hw hm rfl (by decide) rfl (by omega) (by decide) dX7_forwards_48 ?_
      refine lv_icmp_ne (tgt := 54) hx hb dX7_forwards_49 (by decide) (fun c_7 => ?_) (fun c_7 => ?_)
      · skip
        have c_7 : (A 24 1) % 128 ≠ A 7 ed := fun h => c_7 ((nI_eq (a := (A 24 1) % 128) (b := A 7 ed) (by omega) (by omega)).mpr h)
        refine lv_iload_n hx hb dX7_forwards_54 rfl (lv_at hl 0 rfl) ?_
        refine lv_if_eq (tgt := 73) hx hb dX7_forwards_55 (by decide) (fun c_8 => ?_) (fun c_8 => ?_)
        · skip
          exact absurd c_8 (by decide)
        · skip
          refine lv_iload_n hx hb dX7_forwards_58 rfl (lv_at hl 1 rfl) ?_
          refine lv_aload_n hx hb dX7_forwards_59 rfl (lv_at hl 2 rfl) ?_
          refine mw_get (C := RX7) (T := TX7) (N := 27) (v := .ref (a 7)) hx hb hts inX7_forwards_X7 hown hC hw hm.1 rfl 7 (by decide) k_3 rfl dX7_forwards_60 ?_
          refine lv_iload_n hx hb dX7_forwards_63 rfl (lv_at hl 3 rfl) ?_
          refine md_ald 7 (n := 2) hx hb hC hw hm rfl (by decide) rfl (by omega) (by decide) dX7_forwards_64 ?_
          refine lv_iconst (v := nI 1) hx hb dX7_forwards_65 (by decide) ?_
          refine lv_iadd hx hb dX7_forwards_66 ?_
          refine mw_ti (v' := nI (A 7 ed + 1)) (nI_add _ _) ?_
          refine lv_bipush (v := nI 127) hx hb dX7_forwards_67 (by decide) ?_
          refine lv_iand hx hb dX7_forwards_69 ?_
          refine mw_ti (v' := nI ((A 7 ed + 1) % 128)) (pk_andN (by omega) 7 (by decide)) ?_
          refine lv_icmp_eq (tgt := 89) hx hb dX7_forwards_70 (by decide) (fun c_9 => ?_) (fun c_9 => ?_)
          · skip
            have c_9 : (A 24 1) % 128 = (A 7 ed + 1) % 128 := (nI_eq (a := (A 24 1) % 128) (b := (A 7 ed + 1) % 128) (by omega) (by omega)).mp c_9
            exfalso; omega
          · skip
            have c_9 : (A 24 1) % 128 ≠ (A 7 ed + 1) % 128 := fun h => c_9 ((nI_eq (a := (A 24 1) % 128) (b := (A 7 ed + 1) % 128) (by omega) (by omega)).mpr h)
            refine lv_aload_n hx hb dX7_forwards_73 rfl (lv_at hl 2 rfl) ?_
            refine mw_get (C := RX7) (T := TX7) (N := 27) (v := .ref (a 5)) hx hb hts inX7_forwards_X7 hown hC hw hm.1 rfl 5 (by decide) k_2 rfl dX7_forwards_74 ?_
            refine lv_iload_n hx hb dX7_forwards_77 rfl (lv_at hl 3 rfl) ?_
            refine lv_iconst (v := nI 1) hx hb dX7_forwards_78 (by decide) ?_
            refine lv_aload_n hx hb dX7_forwards_79 rfl (lv_at hl 2 rfl) ?_
            refine mw_get (C := RX7) (T := TX7) (N := 27) (v := .ref (a 5)) hx hb hts inX7_forwards_X7 hown hC hw hm.1 rfl 5 (by decide) k_2 rfl dX7_forwards_80 ?_
            refine lv_iload_n hx hb dX7_forwards_83 rfl (lv_at hl 3 rfl) ?_
            refine md_ald 5 (n := 2) hx hb hC hw hm rfl (by decide) rfl (by omega) (by decide) dX7_forwards_84 ?_
            refine lv_isub hx hb dX7_forwards_85 ?_
            refine mw_ti (v' := nI (1 - (A 5 ed))) (pk_sub (by omega)) ?_
            refine md_ast 5 (n := 2) (v := 1 - (A 5 ed)) hx hb hC hw hm rfl (by decide) rfl (by omega) (by decide) dX7_forwards_86 (fun M1 H locs hm hf1 hw => ?_)
            have hf := hf.tr hf1
            refine lv_iconst (v := nI 2) hx hb dX7_forwards_87 (by decide) ?_
            have hA_10 : md_u A 5 ed (1 - (A 5 ed)) = md_u A 5 ed (1 - A 5 ed) := by first | rfl | simp_all
            rw [hA_10] at hm
            exact md_iret hx hb hr hlocks hw hm hf (rfl) dX7_forwards_88
      · skip
        have c_7 : (A 24 1) % 128 = A 7 ed := (nI_eq (a := (A 24 1) % 128) (b := A 7 ed) (by omega) (by omega)).mp c_7
        exfalso; omega
def RM_X7_forwards_1 : Room := { frames := 0, cells := 0, slots := 0, locals := 0 }
set_option maxHeartbeats 4000000 in
set_option maxRecDepth 100000 in
theorem c_X7_forwards_1 (l : Launch) (G : mw_G) (M : mw_M) (sz : Nat) (h0 : Nat) (a : Nat → Nat) (c u : Nat) (A : md_S) (ed : Nat) (hm : md_at G M h0 a c u A) (hed : ed ≤ 1) (hug : ∀ i, i < 280 → A 24 i < 256) (hu : u ≤ 277) (h5 : A 5 ed ≤ 1) (h7 : A 7 ed < 128) (hb1 : A 24 1 / 128 = A 5 ed) (hb2 : A 24 1 % 128 ≠ A 7 ed) (hb3 : 5 < u) (hb4 : A 24 1 % 128 = (A 7 ed + 1) % 128) (ht : A 21 ed < 100000) : Met l yX7_forwards wsX7_forwards RM_X7_forwards_1 (mw_pre G M sz [.ref (h0), .int (nI (ed))]) (md_Qi G M sz h0 a (nI (1)) c u (md_u ((va_up ((md_u ((md_u A 7 ed (A 24 1 % 128))) 22 (50 * ed + A 21 ed % 50) (u - 5))) 23 (mke (A 23) (A 24) (272 * (50 * ed + A 21 ed % 50)) (u - 5)))) 21 ed (A 21 ed + 1))) 0 0 (mw_A M sz) := by
  refine Met.ofW (cc := cX7_forwards) (maxL := 6) (ret := (some .int)) (by decide) rfl ?_
  intro p e s m args below meth c0 s₁ B hml hv
  obtain ⟨rfl, rfl, hC, hw⟩ := mw_in hv
  have hx := B.exec
  have hb := B.bytes
  have hr := B.returns
  have hts := atoms_spec (ws := wsX7_forwards) B.pre
  have hown : s.vm.findClass RX7 = some m.cls := findClass_of_methodNamed B.named
  have hlocks := B.notSynchronized
  have hf : md_fr h0 a M M := md_fr.rf
  have k_0 := hts (.fieldLink RX7 81 "LinkPairModel" "unit" "[I") (by decide +kernel)
  have k_1 := hts (.fieldLink RX7 128 "LinkPairModel" "unitLength" "I") (by decide +kernel)
  have k_2 := hts (.fieldLink RX7 23 "LinkPairModel" "bib" "[I") (by decide +kernel)
  have k_3 := hts (.fieldLink RX7 29 "LinkPairModel" "takenLatest" "[I") (by decide +kernel)
  have k_4 := hts (.fieldLink RX7 72 "LinkPairModel" "takenCount" "[I") (by decide +kernel)
  have k_5 := hts (.fieldLink RX7 75 "LinkPairModel" "takenLength" "[I") (by decide +kernel)
  have k_6 := hts (.fieldLink RX7 78 "LinkPairModel" "takenBytes" "[I") (by decide +kernel)
  have hl := lv_entry ([.ref (h0), .int (nI (ed))]) (n := 6) (Nat.le_of_ble_eq_true rfl)
  rw [lg_entry_eq]
  generalize (lg_sl ([.ref (h0), .int (nI (ed))]) ++ List.replicate (6 - (lg_sl ([.ref (h0), .int (nI (ed))])).length) Slot.unset).toArray = ls at hl ⊢
  have hl : lv_has ls 6 [(0, .ref (h0)), (1, .int (nI (ed)))] := hl
  refine mw_start (fun H locs hw => ?_) hw
  have hg1 := hug 1 (by decide)
  refine lv_aload_n hx hb dX7_forwards_0 rfl (lv_at hl 0 rfl) ?_
  refine mw_get (C := RX7) (T := TX7) (N := 27) (v := .ref (a 24)) hx hb hts inX7_forwards_X7 hown hC hw hm.1 rfl 24 (by decide) k_0 rfl dX7_forwards_1 ?_
  refine lv_iconst (v := nI 1) hx hb dX7_forwards_4 (by decide) ?_
  refine md_ald 24 (n := 280) hx hb hC hw hm rfl (by decide) rfl (by omega) (by decide) dX7_forwards_5 ?_
  refine lv_bipush (v := nI 127) hx hb dX7_forwards_6 (by decide) ?_
  refine lv_iand hx hb dX7_forwards_8 ?_
  refine mw_ti (v' := nI ((A 24 1) % 128)) (pk_andN (by omega) 7 (by decide)) ?_
  refine lv_istore_n (lv' := [(2, .int (nI ((A 24 1) % 128))), (0, .ref (h0)), (1, .int (nI (ed)))]) hx hb dX7_forwards_9 rfl hl (by decide) rfl (fun ls hl => ?_)
  refine lv_aload_n hx hb dX7_forwards_10 rfl (lv_at hl 1 rfl) ?_
  refine mw_get (C := RX7) (T := TX7) (N := 27) (v := .int (nI (u))) hx hb hts inX7_forwards_X7 hown hC hw hm.1 rfl 25 (by decide) k_1 rfl dX7_forwards_11 ?_
  refine lv_iconst (v := nI 5) hx hb dX7_forwards_14 (by decide) ?_
  refine lv_icmp_le (tgt := 22) hx hb dX7_forwards_15 (by decide) (fun c_1 => ?_) (fun c_1 => ?_)
  · skip
    have c_1 : u ≤ 5 := (nI_leI (a := u) (b := 5) (by omega) (by omega)).mp c_1
    exfalso; omega
  · skip
    have c_1 : u > 5 := Nat.not_le.mp (fun h => c_1 ((nI_leI (a := u) (b := 5) (by omega) (by omega)).mpr h))
    refine lv_iconst (v := nI 1) hx hb dX7_forwards_18 (by decide) ?_
    refine lv_goto (tgt := 23) hx hb dX7_forwards_19 (by decide) ?_
    refine lv_istore_n (lv' := [(3, .int (nI (1))), (2, .int (nI ((A 24 1) % 128))), (0, .ref (h0)), (1, .int (nI (ed)))]) hx hb dX7_forwards_23 rfl hl (by decide) rfl (fun ls hl => ?_)
    refine lv_aload_n hx hb dX7_forwards_24 rfl (lv_at hl 2 rfl) ?_
    refine mw_get (C := RX7) (T := TX7) (N := 27) (v := .ref (a 24)) hx hb hts inX7_forwards_X7 hown hC hw hm.1 rfl 24 (by decide) k_0 rfl dX7_forwards_25 ?_
    refine lv_iconst (v := nI 1) hx hb dX7_forwards_28 (by decide) ?_
    refine md_ald 24 (n := 280) hx hb hC hw hm rfl (by decide) rfl (by omega) (by decide) dX7_forwards_29 ?_
    refine lv_bipush (v := nI 7) hx hb dX7_forwards_30 (by decide) ?_
    refine lv_ishr hx hb dX7_forwards_32 ?_
    refine mw_ti (v' := nI ((A 24 1) / 128)) (pk_shrN (by omega) _ 7 (by decide)) ?_
    refine lv_aload_n hx hb dX7_forwards_33 rfl (lv_at hl 2 rfl) ?_
    refine mw_get (C := RX7) (T := TX7) (N := 27) (v := .ref (a 5)) hx hb hts inX7_forwards_X7 hown hC hw hm.1 rfl 5 (by decide) k_2 rfl dX7_forwards_34 ?_
    refine lv_iload_n hx hb dX7_forwards_37 rfl (lv_at hl 3 rfl) ?_
    refine md_ald 5 (n := 2) hx hb hC hw hm rfl (by decide) rfl (by omega) (by decide) dX7_forwards_38 ?_
    refine lv_icmp_ne (tgt := 52) hx hb dX7_forwards_39 (by decide) (fun c_2 => ?_) (fun c_2 => ?_)
    · skip
      have c_2 : (A 24 1) / 128 ≠ A 5 ed := fun h => c_2 ((nI_eq (a := (A 24 1) / 128) (b := A 5 ed) (by omega) (by omega)).mpr h)
      exfalso; omega
    · skip
      have c_2 : (A 24 1) / 128 = A 5 ed := (nI_eq (a := (A 24 1) / 128) (b := A 5 ed) (by omega) (by omega)).mp c_2
      refine lv_iload_n hx hb dX7_forwards_42 rfl (lv_at hl 1 rfl) ?_
      refine lv_aload_n hx hb dX7_forwards_43 rfl (lv_at hl 2 rfl) ?_
      refine mw_get (C := RX7) (T := TX7) (N := 27) (v := .ref (a 7)) hx hb hts inX7_forwards_X7 hown hC hw hm.1 rfl 7 (by decide) k_3 rfl dX7_forwards_44 ?_
      refine lv_iload_n hx hb dX7_forwards_47 rfl (lv_at hl 3 rfl) ?_
      refine md_ald 7 (n := 2) hx hb hC hw hm rfl (by decide) rfl (by omega) (by decide) dX7_forwards_48 ?_
      refine lv_icmp_ne (tgt := 54) hx hb dX7_forwards_49 (by decide) (fun c_3 => ?_) (fun c_3 => ?_)
      · skip
        have c_3 : (A 24 1) % 128 ≠ A 7 ed := fun h => c_3 ((nI_eq (a := (A 24 1) % 128) (b := A 7 ed) (by omega) (by omega)).mpr h)
        refine lv_iload_n hx hb dX7_forwards_54 rfl (lv_at hl 0 rfl) ?_
        refine lv_if_eq (tgt := 73) hx hb dX7_forwards_55 (by decide) (fun c_4 => ?_) (fun c_4 => ?_)
        · skip
          exact absurd c_4 (by decide)
        · skip
          refine lv_iload_n hx hb dX7_forwards_58 rfl (lv_at hl 1 rfl) ?_
          refine lv_aload_n hx hb dX7_forwards_59 rfl (lv_at hl 2 rfl) ?_
          refine mw_get (C := RX7) (T := TX7) (N := 27) (v := .ref (a 7)) hx hb hts inX7_forwards_X7 hown hC hw hm.1 rfl 7 (by decide) k_3 rfl dX7_forwards_60 ?_
          refine lv_iload_n hx hb dX7_forwards_63 rfl (lv_at hl 3 rfl) ?_
          refine md_ald 7 (n := 2) hx hb hC hw hm rfl (by decide) rfl (by omega) (by decide) dX7_forwards_64 ?_
          refine lv_iconst (v := nI 1) hx hb dX7_forwards_65 (by decide) ?_
          refine lv_iadd hx hb dX7_forwards_66 ?_
          refine mw_ti (v' := nI (A 7 ed + 1)) (nI_add _ _) ?_
          refine lv_bipush (v := nI 127) hx hb dX7_forwards_67 (by decide) ?_
          refine lv_iand hx hb dX7_forwards_69 ?_
          refine mw_ti (v' := nI ((A 7 ed + 1) % 128)) (pk_andN (by omega) 7 (by decide)) ?_
          refine lv_icmp_eq (tgt := 89) hx hb dX7_forwards_70 (by decide) (fun c_5 => ?_) (fun c_5 => ?_)
          · skip
            have c_5 : (A 24 1) % 128 = (A 7 ed + 1) % 128 := (nI_eq (a := (A 24 1) % 128) (b := (A 7 ed + 1) % 128) (by omega) (by omega)).mp c_5
            refine lv_aload_n hx hb dX7_forwards_89 rfl (lv_at hl 2 rfl) ?_
            refine mw_get (C := RX7) (T := TX7) (N := 27) (v := .ref (a 7)) hx hb hts inX7_forwards_X7 hown hC hw hm.1 rfl 7 (by decide) k_3 rfl dX7_forwards_90 ?_
            refine lv_iload_n hx hb dX7_forwards_93 rfl (lv_at hl 3 rfl) ?_
            refine lv_iload_n hx hb dX7_forwards_94 rfl (lv_at hl 1 rfl) ?_
            refine md_ast 7 (n := 2) (v := (A 24 1) % 128) hx hb hC hw hm rfl (by decide) rfl (by omega) (by decide) dX7_forwards_95 (fun M1 H locs hm hf1 hw => ?_)
            have hf := hf.tr hf1
            refine lv_bipush (v := nI 50) hx hb dX7_forwards_96 (by decide) ?_
            refine lv_iload_n hx hb dX7_forwards_98 rfl (lv_at hl 3 rfl) ?_
            refine lv_imul hx hb dX7_forwards_99 ?_
            refine mw_ti (v' := nI (50 * ed)) (pk_mul _ _) ?_
            refine lv_aload_n hx hb dX7_forwards_100 rfl (lv_at hl 2 rfl) ?_
            refine mw_get (C := RX7) (T := TX7) (N := 27) (v := .ref (a 21)) hx hb hts inX7_forwards_X7 hown hC hw hm.1 rfl 21 (by decide) k_4 rfl dX7_forwards_101 ?_
            refine lv_iload_n hx hb dX7_forwards_104 rfl (lv_at hl 3 rfl) ?_
            refine md_ald 21 (n := 2) hx hb hC hw hm rfl (by decide) rfl (by omega) (by decide) dX7_forwards_105 ?_
            refine mw_ti (v' := nI (A 21 ed)) (congrArg nI (md_u_k (by decide))) ?_
            refine lv_bipush (v := nI 50) hx hb dX7_forwards_106 (by decide) ?_
            refine lv_irem hx hb dX7_forwards_108 (by decide) ?_
            refine mw_ti (v' := nI ((A 21 ed) % 50)) (pk_rem (by omega) (by omega) (by omega)) ?_
            refine lv_iadd hx hb dX7_forwards_109 ?_
            refine mw_ti (v' := nI (50 * ed + (A 21 ed) % 50)) (nI_add _ _) ?_
            refine lv_istore (lv' := [(4, .int (nI (50 * ed + (A 21 ed) % 50))), (3, .int (nI (1))), (2, .int (nI ((A 24 1) % 128))), (0, .ref (h0)), (1, .int (nI (ed)))]) hx hb dX7_forwards_110 hl (by decide) rfl (fun ls hl => ?_)
            refine lv_aload_n hx hb dX7_forwards_112 rfl (lv_at hl 3 rfl) ?_
            refine mw_get (C := RX7) (T := TX7) (N := 27) (v := .ref (a 22)) hx hb hts inX7_forwards_X7 hown hC hw hm.1 rfl 22 (by decide) k_5 rfl dX7_forwards_113 ?_
            refine lv_iload hx hb dX7_forwards_116 (lv_at hl 0 rfl) ?_
            refine lv_aload_n hx hb dX7_forwards_118 rfl (lv_at hl 3 rfl) ?_
            refine mw_get (C := RX7) (T := TX7) (N := 27) (v := .int (nI (u))) hx hb hts inX7_forwards_X7 hown hC hw hm.1 rfl 25 (by decide) k_1 rfl dX7_forwards_119 ?_
            refine lv_iconst (v := nI 5) hx hb dX7_forwards_122 (by decide) ?_
            refine lv_isub hx hb dX7_forwards_123 ?_
            refine mw_ti (v' := nI (u - 5)) (pk_sub (by omega)) ?_
            refine md_ast 22 (n := 100) (v := u - 5) hx hb hC hw hm rfl (by decide) rfl (by omega) (by decide) dX7_forwards_124 (fun M1 H locs hm hf1 hw => ?_)
            have hf := hf.tr hf1
            refine lv_iconst (v := nI 0) hx hb dX7_forwards_125 (by decide) ?_
            refine lv_istore (lv' := [(5, .int (nI (0))), (4, .int (nI (50 * ed + (A 21 ed) % 50))), (3, .int (nI (1))), (2, .int (nI ((A 24 1) % 128))), (0, .ref (h0)), (1, .int (nI (ed)))]) hx hb dX7_forwards_126 hl (by decide) rfl (fun ls hl => ?_)
            have lp_6 : ∀ (n9 : Nat) (k : Nat), (hk : k ≤ u - 5) → u - 5 - k < n9 → ∀ (M1 : mw_M) (H : Heap) (locs : List Loc) (ls : Array Slot), md_at G M1 h0 a c u (va_up ((md_u ((md_u A 7 ed (A 24 1 % 128))) 22 (50 * ed + A 21 ed % 50) (u - 5))) 23 (mke (A 23) (A 24) (272 * (50 * ed + A 21 ed % 50)) k)) → md_fr h0 a M M1 → mw_St G (mw_A M s.heap.size) s M1 H locs → lv_has ls 6 [(0, .ref (h0)), (1, .int (nI (ed))), (4, .int (nI (50 * ed + A 21 ed % 50))), (5, .int (nI (k)))] → W p l e (headSpec wsX7_forwards RM_X7_forwards_1).room s m ([.ref (h0), .int (nI (ed))] : List Value).toArray below meth c0 H locs 0 0 (MQ below (md_Qi G M s.heap.size h0 a (nI (1)) c u (md_u ((va_up ((md_u ((md_u A 7 ed (A 24 1 % 128))) 22 (50 * ed + A 21 ed % 50) (u - 5))) 23 (mke (A 23) (A 24) (272 * (50 * ed + A 21 ed % 50)) (u - 5)))) 21 ed (A 21 ed + 1))) ([.ref (h0), .int (nI (ed))] : List Value).toArray s 0 0 (mw_A M s.heap.size)) (F0 m 128 ls []) := by
              intro n9
              induction n9 with
              | zero => intro k hk h9; exact absurd h9 (Nat.not_lt_zero _)
              | succ n9 ih =>
                intro k hk h9 M1 H locs ls hm hf hw hl
                refine lv_iload hx hb dX7_forwards_128 (lv_at hl 3 rfl) ?_
                refine lv_aload_n hx hb dX7_forwards_130 rfl (lv_at hl 0 rfl) ?_
                refine mw_get (C := RX7) (T := TX7) (N := 27) (v := .int (nI (u))) hx hb hts inX7_forwards_X7 hown hC hw hm.1 rfl 25 (by decide) k_1 rfl dX7_forwards_131 ?_
                refine lv_iconst (v := nI 5) hx hb dX7_forwards_134 (by decide) ?_
                refine lv_isub hx hb dX7_forwards_135 ?_
                refine mw_ti (v' := nI (u - 5)) (pk_sub (by omega)) ?_
                refine lv_icmp_ge (tgt := 168) hx hb dX7_forwards_136 (by decide) (fun c_7 => ?_) (fun c_7 => ?_)
                · skip
                  have c_7 : k ≥ u - 5 := (nI_leI (a := u - 5) (b := k) (by omega) (by omega)).mp c_7
                  obtain rfl : k = u - 5 := by omega
                  refine lv_aload_n hx hb dX7_forwards_168 rfl (lv_at hl 0 rfl) ?_
                  refine mw_get (C := RX7) (T := TX7) (N := 27) (v := .ref (a 21)) hx hb hts inX7_forwards_X7 hown hC hw hm.1 rfl 21 (by decide) k_4 rfl dX7_forwards_169 ?_
                  refine lv_iload_n hx hb dX7_forwards_172 rfl (lv_at hl 1 rfl) ?_
                  refine lv_dup2_11 hx hb dX7_forwards_173 rfl rfl ?_
                  refine md_ald 21 (n := 2) hx hb hC hw hm rfl (by decide) rfl (by omega) (by decide) dX7_forwards_174 ?_
                  refine mw_ti (v' := nI (A 21 ed)) (congrArg nI ((md_w_k (by decide)).trans ((md_u_k (by decide)).trans (md_u_k (by decide))))) ?_
                  refine lv_iconst (v := nI 1) hx hb dX7_forwards_175 (by decide) ?_
                  refine lv_iadd hx hb dX7_forwards_176 ?_
                  refine mw_ti (v' := nI (A 21 ed + 1)) (nI_add _ _) ?_
                  refine md_ast 21 (n := 2) (v := A 21 ed + 1) hx hb hC hw hm rfl (by decide) rfl (by omega) (by decide) dX7_forwards_177 (fun M1 H locs hm hf1 hw => ?_)
                  have hf := hf.tr hf1
                  refine lv_iconst (v := nI 1) hx hb dX7_forwards_178 (by decide) ?_
                  exact md_iret hx hb hr hlocks hw hm hf (rfl) dX7_forwards_179
                · skip
                  have c_7 : k < u - 5 := Nat.not_le.mp (fun h => c_7 ((nI_leI (a := u - 5) (b := k) (by omega) (by omega)).mpr h))
                  refine lv_aload_n hx hb dX7_forwards_139 rfl (lv_at hl 0 rfl) ?_
                  refine mw_get (C := RX7) (T := TX7) (N := 27) (v := .ref (a 23)) hx hb hts inX7_forwards_X7 hown hC hw hm.1 rfl 23 (by decide) k_6 rfl dX7_forwards_140 ?_
                  refine lv_sipush (v := nI 272) hx hb dX7_forwards_143 (by decide) ?_
                  refine lv_iload hx hb dX7_forwards_146 (lv_at hl 2 rfl) ?_
                  refine lv_imul hx hb dX7_forwards_148 ?_
                  refine mw_ti (v' := nI (272 * (50 * ed + A 21 ed % 50))) (pk_mul _ _) ?_
                  refine lv_iload hx hb dX7_forwards_149 (lv_at hl 3 rfl) ?_
                  refine lv_iadd hx hb dX7_forwards_151 ?_
                  refine mw_ti (v' := nI (272 * (50 * ed + A 21 ed % 50) + k)) (nI_add _ _) ?_
                  refine lv_aload_n hx hb dX7_forwards_152 rfl (lv_at hl 0 rfl) ?_
                  refine mw_get (C := RX7) (T := TX7) (N := 27) (v := .ref (a 24)) hx hb hts inX7_forwards_X7 hown hC hw hm.1 rfl 24 (by decide) k_0 rfl dX7_forwards_153 ?_
                  refine lv_iconst (v := nI 3) hx hb dX7_forwards_156 (by decide) ?_
                  refine lv_iload hx hb dX7_forwards_157 (lv_at hl 3 rfl) ?_
                  refine lv_iadd hx hb dX7_forwards_159 ?_
                  refine mw_ti (v' := nI (3 + k)) (nI_add _ _) ?_
                  refine md_ald 24 (n := 280) hx hb hC hw hm rfl (by decide) rfl (by omega) (by decide) dX7_forwards_160 ?_
                  refine mw_ti (v' := nI (A 24 (3 + k))) (congrArg nI ((md_w_k (by decide)).trans ((md_u_k (by decide)).trans (md_u_k (by decide))))) ?_
                  refine md_ast 23 (n := 27200) (v := A 24 (3 + k)) hx hb hC hw hm rfl (by decide) rfl (by omega) (by decide) dX7_forwards_161 (fun M1 H locs hm hf1 hw => ?_)
                  have hf := hf.tr hf1
                  refine lv_iinc (v := nI (k + 1)) (lv' := [(5, .int (nI (k + 1))), (0, .ref (h0)), (1, .int (nI (ed))), (4, .int (nI (50 * ed + A 21 ed % 50)))]) hx hb dX7_forwards_162 hl (k := 3) rfl (by rw [show Int32.ofInt 1 = nI 1 by decide]; exact nI_add _ _) (by decide) rfl (fun ls hl => ?_)
                  refine lv_goto (tgt := 128) hx hb dX7_forwards_165 (by decide) ?_
                  have hA_8 : md_u ((va_up ((md_u ((md_u A 7 ed (A 24 1 % 128))) 22 (50 * ed + A 21 ed % 50) (u - 5))) 23 (mke (A 23) (A 24) (272 * (50 * ed + A 21 ed % 50)) k))) 23 (272 * (50 * ed + A 21 ed % 50) + k) (A 24 (3 + k)) = va_up ((md_u ((md_u A 7 ed (A 24 1 % 128))) 22 (50 * ed + A 21 ed % 50) (u - 5))) 23 (mke (A 23) (A 24) (272 * (50 * ed + A 21 ed % 50)) (k + 1)) := by rw [md_uw]; rfl
                  rw [hA_8] at hm
                  exact ih  (k + 1) (by omega) (by omega) _ _ _ ls hm hf hw (lv_sub hl [1, 2, 3, 0] rfl)
            have hA_9 : md_u ((md_u A 7 ed ((A 24 1) % 128))) 22 (50 * ed + (A 21 ed) % 50) (u - 5) = va_up ((md_u ((md_u A 7 ed (A 24 1 % 128))) 22 (50 * ed + A 21 ed % 50) (u - 5))) 23 (mke (A 23) (A 24) (272 * (50 * ed + A 21 ed % 50)) 0) := by exact va_upi rfl
            rw [hA_9] at hm
            have hv_10 : (.int (nI (50 * ed + (A 21 ed) % 50)) : Value) = .int (nI (50 * ed + A 21 ed % 50)) := by first | rfl | simp_all
            rw [hv_10] at hl
            exact lp_6 (u - 5 - 0 + 1) 0 (by omega) (Nat.lt_succ_self _) _ _ _ ls hm hf hw (lv_sub hl [4, 5, 1, 0] rfl)
          · skip
            have c_5 : (A 24 1) % 128 ≠ (A 7 ed + 1) % 128 := fun h => c_5 ((nI_eq (a := (A 24 1) % 128) (b := (A 7 ed + 1) % 128) (by omega) (by omega)).mpr h)
            exfalso; omega
      · skip
        have c_3 : (A 24 1) % 128 = A 7 ed := (nI_eq (a := (A 24 1) % 128) (b := A 7 ed) (by omega) (by omega)).mp c_3
        exfalso; omega
