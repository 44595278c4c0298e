/-! ===== LinkPairModel.put, send ===== -/
def RM_X7_put_bade : Room := { frames := 1, cells := 0, slots := 0, locals := 21 }
set_option maxHeartbeats 4000000 in
set_option maxRecDepth 100000 in
theorem c_X7_put_bade (l : Launch) (G : mw_G) (M : mw_M) (sz : Nat) (h0 : Nat) (a : Nat → Nat) (c u : Nat) (A : md_S) (ed ln se : Int32) (hm : md_at G M h0 a c u A) (hb1 : ed < 0 ∨ nI 1 < ed) : Met l yX7_put wsX7_put RM_X7_put_bade (mw_pre G M sz [.ref (h0), .int (ed), .int (ln), .int (se)]) (md_Qi G M sz h0 a (nI (0)) 1 u A) 0 0 (mw_A M sz) := by
  refine Met.ofW (cc := cX7_put) (maxL := 5) (ret := (some .int)) (by decide) rfl ?_
  intro p e s m args below meth c0 s₁ B hml hv
  obtain ⟨rfl, rfl, hC, hw⟩ := mw_in hv
  have hx := B.exec
  have hb := B.bytes
  have hr := B.returns
  have hts := atoms_spec (ws := wsX7_put) B.pre
  have hown : s.vm.findClass RX7 = some m.cls := findClass_of_methodNamed B.named
  have hlocks := B.notSynchronized
  have hf : md_fr h0 a M M := md_fr.rf
  have hl := lv_entry ([.ref (h0), .int (ed), .int (ln), .int (se)]) (n := 5) (Nat.le_of_ble_eq_true rfl)
  rw [lg_entry_eq]
  generalize (lg_sl ([.ref (h0), .int (ed), .int (ln), .int (se)]) ++ List.replicate (5 - (lg_sl ([.ref (h0), .int (ed), .int (ln), .int (se)])).length) Slot.unset).toArray = ls at hl ⊢
  have hl : lv_has ls 5 [(0, .ref (h0)), (1, .int (ed)), (2, .int (ln)), (3, .int (se))] := hl
  refine mw_start (fun H locs hw => ?_) hw
  refine lv_iload_n hx hb dX7_put_0 rfl (lv_at hl 1 rfl) ?_
  refine mw_ci hC hw (va_runS (As := [.int (ed)]) (rest := []) ⟨hx, hb, hml, hown, hts⟩ (c_X7_isEnd_bad l G _ H.size ed  (hb1)) (cwS 1 hts gX7_put_X7_isEnd rfl rfl rfl (by decide +kernel) ⟨Nat.le_of_ble_eq_true rfl, Nat.le_of_ble_eq_true rfl⟩) (mw_preS hC hw) rfl rfl hl.1 rfl (lv_room (Nat.le_of_ble_eq_true rfl)) dX7_put_1 ⟨Nat.le_of_ble_eq_true rfl, Nat.le_of_ble_eq_true rfl⟩) (fun H locs hz hw => ?_)
  refine lv_if_eq (tgt := 34) hx hb dX7_put_4 (by decide) (fun c_1 => ?_) (fun c_1 => ?_)
  · skip
    refine lv_iconst (v := nI 0) hx hb dX7_put_34 (by decide) ?_
    refine lv_istore (lv' := [(4, .int (nI (0))), (0, .ref (h0)), (1, .int (ed)), (2, .int (ln)), (3, .int (se))]) hx hb dX7_put_35 hl (by decide) rfl (fun ls hl => ?_)
    refine lv_aload_n hx hb dX7_put_37 rfl (lv_at hl 1 rfl) ?_
    refine lv_iload hx hb dX7_put_38 (lv_at hl 0 rfl) ?_
    refine lv_if_ne (tgt := 47) hx hb dX7_put_40 (by decide) (fun c_2 => ?_) (fun c_2 => ?_)
    · skip
      exact absurd c_2 (by decide)
    · skip
      refine lv_iconst (v := nI 1) hx hb dX7_put_43 (by decide) ?_
      refine lv_goto (tgt := 72) hx hb dX7_put_44 (by decide) ?_
      refine md_ci hC hw (va_runV (As := [.int (nI (1))]) (rest := []) ⟨hx, hb, hml, hown, hts⟩ (c_X7_refuses l G _ H.size h0 a c u A 1 hm (by omega)) (cwV 1 hts gX7_put_X7_refuses rfl rfl rfl (by decide +kernel) ⟨Nat.le_of_ble_eq_true rfl, Nat.le_of_ble_eq_true rfl⟩) (mw_preV (ci := 7) hC hw rfl hm.1) rfl rfl hl.1 rfl (lv_room (Nat.le_of_ble_eq_true rfl)) dX7_put_72 ⟨Nat.le_of_ble_eq_true rfl, Nat.le_of_ble_eq_true rfl⟩) (fun M1 H locs hm hf1 hw => ?_)
      have hf := hf.tr hf1
      refine mw_ti (v' := nI (1)) rfl ?_
      refine lv_if_eq (tgt := 80) hx hb dX7_put_75 (by decide) (fun c_3 => ?_) (fun c_3 => ?_)
      · skip
        exact absurd c_3 (by decide)
      · skip
        refine lv_iconst (v := nI 0) hx hb dX7_put_78 (by decide) ?_
        exact md_iret hx hb hr hlocks hw hm hf (rfl) dX7_put_79
  · skip
    exact absurd c_1 (by decide)
def RM_X7_put_bada : Room := { frames := 1, cells := 0, slots := 0, locals := 21 }
set_option maxHeartbeats 4000000 in
set_option maxRecDepth 100000 in
theorem c_X7_put_bada (l : Launch) (G : mw_G) (M : mw_M) (sz : Nat) (h0 : Nat) (a : Nat → Nat) (c u : Nat) (A : md_S) (ed : Nat) (ln se : Int32) (hm : md_at G M h0 a c u A) (hed : ed ≤ 1) (hb1 : ln < nI 1 ∨ nI 272 < ln ∨ se < 0 ∨ nI 255 < se) : Met l yX7_put wsX7_put RM_X7_put_bada (mw_pre G M sz [.ref (h0), .int (nI (ed)), .int (ln), .int (se)]) (md_Qi G M sz h0 a (nI (0)) 1 u A) 0 0 (mw_A M sz) := by
  refine Met.ofW (cc := cX7_put) (maxL := 5) (ret := (some .int)) (by decide) rfl ?_
  intro p e s m args below meth c0 s₁ B hml hv
  obtain ⟨rfl, rfl, hC, hw⟩ := mw_in hv
  have hx := B.exec
  have hb := B.bytes
  have hr := B.returns
  have hts := atoms_spec (ws := wsX7_put) B.pre
  have hown : s.vm.findClass RX7 = some m.cls := findClass_of_methodNamed B.named
  have hlocks := B.notSynchronized
  have hf : md_fr h0 a M M := md_fr.rf
  have hl := lv_entry ([.ref (h0), .int (nI (ed)), .int (ln), .int (se)]) (n := 5) (Nat.le_of_ble_eq_true rfl)
  rw [lg_entry_eq]
  generalize (lg_sl ([.ref (h0), .int (nI (ed)), .int (ln), .int (se)]) ++ List.replicate (5 - (lg_sl ([.ref (h0), .int (nI (ed)), .int (ln), .int (se)])).length) Slot.unset).toArray = ls at hl ⊢
  have hl : lv_has ls 5 [(0, .ref (h0)), (1, .int (nI (ed))), (2, .int (ln)), (3, .int (se))] := hl
  refine mw_start (fun H locs hw => ?_) hw
  refine lv_iload_n hx hb dX7_put_0 rfl (lv_at hl 1 rfl) ?_
  refine mw_ci hC hw (va_runS (As := [.int (nI (ed))]) (rest := []) ⟨hx, hb, hml, hown, hts⟩ (c_X7_isEnd l G _ H.size ed  (by omega)) (cwS 1 hts gX7_put_X7_isEnd rfl rfl rfl (by decide +kernel) ⟨Nat.le_of_ble_eq_true rfl, Nat.le_of_ble_eq_true rfl⟩) (mw_preS hC hw) rfl rfl hl.1 rfl (lv_room (Nat.le_of_ble_eq_true rfl)) dX7_put_1 ⟨Nat.le_of_ble_eq_true rfl, Nat.le_of_ble_eq_true rfl⟩) (fun H locs hz hw => ?_)
  refine lv_if_eq (tgt := 34) hx hb dX7_put_4 (by decide) (fun c_1 => ?_) (fun c_1 => ?_)
  · skip
    exact absurd c_1 (by decide)
  · skip
    refine lv_iload_n hx hb dX7_put_7 rfl (lv_at hl 2 rfl) ?_
    refine lv_iconst (v := nI 1) hx hb dX7_put_8 (by decide) ?_
    refine lv_icmp_lt (tgt := 34) hx hb dX7_put_9 (by decide) (fun c_2 => ?_) (fun c_2 => ?_)
    · skip
      refine lv_iconst (v := nI 0) hx hb dX7_put_34 (by decide) ?_
      refine lv_istore (lv' := [(4, .int (nI (0))), (0, .ref (h0)), (1, .int (nI (ed))), (2, .int (ln)), (3, .int (se))]) hx hb dX7_put_35 hl (by decide) rfl (fun ls hl => ?_)
      refine lv_aload_n hx hb dX7_put_37 rfl (lv_at hl 1 rfl) ?_
      refine lv_iload hx hb dX7_put_38 (lv_at hl 0 rfl) ?_
      refine lv_if_ne (tgt := 47) hx hb dX7_put_40 (by decide) (fun c_3 => ?_) (fun c_3 => ?_)
      · skip
        exact absurd c_3 (by decide)
      · skip
        refine lv_iconst (v := nI 1) hx hb dX7_put_43 (by decide) ?_
        refine lv_goto (tgt := 72) hx hb dX7_put_44 (by decide) ?_
        refine md_ci hC hw (va_runV (As := [.int (nI (1))]) (rest := []) ⟨hx, hb, hml, hown, hts⟩ (c_X7_refuses l G _ H.size h0 a c u A 1 hm (by omega)) (cwV 1 hts gX7_put_X7_refuses rfl rfl rfl (by decide +kernel) ⟨Nat.le_of_ble_eq_true rfl, Nat.le_of_ble_eq_true rfl⟩) (mw_preV (ci := 7) hC hw rfl hm.1) rfl rfl hl.1 rfl (lv_room (Nat.le_of_ble_eq_true rfl)) dX7_put_72 ⟨Nat.le_of_ble_eq_true rfl, Nat.le_of_ble_eq_true rfl⟩) (fun M1 H locs hm hf1 hw => ?_)
        have hf := hf.tr hf1
        refine mw_ti (v' := nI (1)) rfl ?_
        refine lv_if_eq (tgt := 80) hx hb dX7_put_75 (by decide) (fun c_4 => ?_) (fun c_4 => ?_)
        · skip
          exact absurd c_4 (by decide)
        · skip
          refine lv_iconst (v := nI 0) hx hb dX7_put_78 (by decide) ?_
          exact md_iret hx hb hr hlocks hw hm hf (rfl) dX7_put_79
    · skip
      refine lv_iload_n hx hb dX7_put_12 rfl (lv_at hl 2 rfl) ?_
      refine lv_sipush (v := nI 272) hx hb dX7_put_13 (by decide) ?_
      refine lv_icmp_gt (tgt := 34) hx hb dX7_put_16 (by decide) (fun c_5 => ?_) (fun c_5 => ?_)
      · skip
        refine lv_iconst (v := nI 0) hx hb dX7_put_34 (by decide) ?_
        refine lv_istore (lv' := [(4, .int (nI (0))), (0, .ref (h0)), (1, .int (nI (ed))), (2, .int (ln)), (3, .int (se))]) hx hb dX7_put_35 hl (by decide) rfl (fun ls hl => ?_)
        refine lv_aload_n hx hb dX7_put_37 rfl (lv_at hl 1 rfl) ?_
        refine lv_iload hx hb dX7_put_38 (lv_at hl 0 rfl) ?_
        refine lv_if_ne (tgt := 47) hx hb dX7_put_40 (by decide) (fun c_6 => ?_) (fun c_6 => ?_)
        · skip
          exact absurd c_6 (by decide)
        · skip
          refine lv_iconst (v := nI 1) hx hb dX7_put_43 (by decide) ?_
          refine lv_goto (tgt := 72) hx hb dX7_put_44 (by decide) ?_
          refine md_ci hC hw (va_runV (As := [.int (nI (1))]) (rest := []) ⟨hx, hb, hml, hown, hts⟩ (c_X7_refuses l G _ H.size h0 a c u A 1 hm (by omega)) (cwV 1 hts gX7_put_X7_refuses rfl rfl rfl (by decide +kernel) ⟨Nat.le_of_ble_eq_true rfl, Nat.le_of_ble_eq_true rfl⟩) (mw_preV (ci := 7) hC hw rfl hm.1) rfl rfl hl.1 rfl (lv_room (Nat.le_of_ble_eq_true rfl)) dX7_put_72 ⟨Nat.le_of_ble_eq_true rfl, Nat.le_of_ble_eq_true rfl⟩) (fun M1 H locs hm hf1 hw => ?_)
          have hf := hf.tr hf1
          refine mw_ti (v' := nI (1)) rfl ?_
          refine lv_if_eq (tgt := 80) hx hb dX7_put_75 (by decide) (fun c_7 => ?_) (fun c_7 => ?_)
          · skip
            exact absurd c_7 (by decide)
          · skip
            refine lv_iconst (v := nI 0) hx hb dX7_put_78 (by decide) ?_
            exact md_iret hx hb hr hlocks hw hm hf (rfl) dX7_put_79
      · skip
        refine lv_iload_n hx hb dX7_put_19 rfl (lv_at hl 3 rfl) ?_
        refine lv_if_lt (tgt := 34) hx hb dX7_put_20 (by decide) (fun c_8 => ?_) (fun c_8 => ?_)
        · skip
          refine lv_iconst (v := nI 0) hx hb dX7_put_34 (by decide) ?_
          refine lv_istore (lv' := [(4, .int (nI (0))), (0, .ref (h0)), (1, .int (nI (ed))), (2, .int (ln)), (3, .int (se))]) hx hb dX7_put_35 hl (by decide) rfl (fun ls hl => ?_)
          refine lv_aload_n hx hb dX7_put_37 rfl (lv_at hl 1 rfl) ?_
          refine lv_iload hx hb dX7_put_38 (lv_at hl 0 rfl) ?_
          refine lv_if_ne (tgt := 47) hx hb dX7_put_40 (by decide) (fun c_9 => ?_) (fun c_9 => ?_)
          · skip
            exact absurd c_9 (by decide)
          · skip
            refine lv_iconst (v := nI 1) hx hb dX7_put_43 (by decide) ?_
            refine lv_goto (tgt := 72) hx hb dX7_put_44 (by decide) ?_
            refine md_ci hC hw (va_runV (As := [.int (nI (1))]) (rest := []) ⟨hx, hb, hml, hown, hts⟩ (c_X7_refuses l G _ H.size h0 a c u A 1 hm (by omega)) (cwV 1 hts gX7_put_X7_refuses rfl rfl rfl (by decide +kernel) ⟨Nat.le_of_ble_eq_true rfl, Nat.le_of_ble_eq_true rfl⟩) (mw_preV (ci := 7) hC hw rfl hm.1) rfl rfl hl.1 rfl (lv_room (Nat.le_of_ble_eq_true rfl)) dX7_put_72 ⟨Nat.le_of_ble_eq_true rfl, Nat.le_of_ble_eq_true rfl⟩) (fun M1 H locs hm hf1 hw => ?_)
            have hf := hf.tr hf1
            refine mw_ti (v' := nI (1)) rfl ?_
            refine lv_if_eq (tgt := 80) hx hb dX7_put_75 (by decide) (fun c_10 => ?_) (fun c_10 => ?_)
            · skip
              exact absurd c_10 (by decide)
            · skip
              refine lv_iconst (v := nI 0) hx hb dX7_put_78 (by decide) ?_
              exact md_iret hx hb hr hlocks hw hm hf (rfl) dX7_put_79
        · skip
          refine lv_iload_n hx hb dX7_put_23 rfl (lv_at hl 3 rfl) ?_
          refine lv_sipush (v := nI 255) hx hb dX7_put_24 (by decide) ?_
          refine lv_icmp_gt (tgt := 34) hx hb dX7_put_27 (by decide) (fun c_11 => ?_) (fun c_11 => ?_)
          · skip
            refine lv_iconst (v := nI 0) hx hb dX7_put_34 (by decide) ?_
            refine lv_istore (lv' := [(4, .int (nI (0))), (0, .ref (h0)), (1, .int (nI (ed))), (2, .int (ln)), (3, .int (se))]) hx hb dX7_put_35 hl (by decide) rfl (fun ls hl => ?_)
            refine lv_aload_n hx hb dX7_put_37 rfl (lv_at hl 1 rfl) ?_
            refine lv_iload hx hb dX7_put_38 (lv_at hl 0 rfl) ?_
            refine lv_if_ne (tgt := 47) hx hb dX7_put_40 (by decide) (fun c_12 => ?_) (fun c_12 => ?_)
            · skip
              exact absurd c_12 (by decide)
            · skip
              refine lv_iconst (v := nI 1) hx hb dX7_put_43 (by decide) ?_
              refine lv_goto (tgt := 72) hx hb dX7_put_44 (by decide) ?_
              refine md_ci hC hw (va_runV (As := [.int (nI (1))]) (rest := []) ⟨hx, hb, hml, hown, hts⟩ (c_X7_refuses l G _ H.size h0 a c u A 1 hm (by omega)) (cwV 1 hts gX7_put_X7_refuses rfl rfl rfl (by decide +kernel) ⟨Nat.le_of_ble_eq_true rfl, Nat.le_of_ble_eq_true rfl⟩) (mw_preV (ci := 7) hC hw rfl hm.1) rfl rfl hl.1 rfl (lv_room (Nat.le_of_ble_eq_true rfl)) dX7_put_72 ⟨Nat.le_of_ble_eq_true rfl, Nat.le_of_ble_eq_true rfl⟩) (fun M1 H locs hm hf1 hw => ?_)
              have hf := hf.tr hf1
              refine mw_ti (v' := nI (1)) rfl ?_
              refine lv_if_eq (tgt := 80) hx hb dX7_put_75 (by decide) (fun c_13 => ?_) (fun c_13 => ?_)
              · skip
                exact absurd c_13 (by decide)
              · skip
                refine lv_iconst (v := nI 0) hx hb dX7_put_78 (by decide) ?_
                exact md_iret hx hb hr hlocks hw hm hf (rfl) dX7_put_79
          · skip
            exact hb1.elim (fun h => absurd h (by assumption)) (fun h => h.elim (fun h => absurd h (by assumption)) (fun h => h.elim (fun h => absurd h (by assumption)) (fun h => absurd h (by assumption))))
theorem inX7_put_X7 : ∀ w ∈ wsX70, w ∈ wsX7_put := by decide +kernel
def RM_X7_put_bads : Room := { frames := 1, cells := 0, slots := 0, locals := 21 }
set_option maxHeartbeats 4000000 in
set_option maxRecDepth 100000 in
theorem c_X7_put_bads (l : Launch) (G : mw_G) (M : mw_M) (sz : Nat) (h0 : Nat) (a : Nat → Nat) (c u : Nat) (A : md_S) (ed ln se : Nat) (hm : md_at G M h0 a c u A) (hed : ed ≤ 1) (hln : 1 ≤ ln) (hln2 : ln ≤ 272) (hse : se ≤ 255) (h9_ : A 9 ed ≤ 60) (h20 : A 20 ed ≤ 1) (hb1 : A 9 ed = 60 ∨ A 20 ed = 1) : Met l yX7_put wsX7_put RM_X7_put_bads (mw_pre G M sz [.ref (h0), .int (nI (ed)), .int (nI (ln)), .int (nI (se))]) (md_Qi G M sz h0 a (nI (0)) 2 u A) 0 0 (mw_A M sz) := by
  refine Met.ofW (cc := cX7_put) (maxL := 5) (ret := (some .int)) (by decide) rfl ?_
  intro p e s m args below meth c0 s₁ B hml hv
  obtain ⟨rfl, rfl, hC, hw⟩ := mw_in hv
  have hx := B.exec
  have hb := B.bytes
  have hr := B.returns
  have hts := atoms_spec (ws := wsX7_put) B.pre
  have hown : s.vm.findClass RX7 = some m.cls := findClass_of_methodNamed B.named
  have hlocks := B.notSynchronized
  have hf : md_fr h0 a M M := md_fr.rf
  have k_0 := hts (.fieldLink RX7 35 "LinkPairModel" "waits" "[I") (by decide +kernel)
  have k_1 := hts (.fieldLink RX7 68 "LinkPairModel" "failed" "[Z") (by decide +kernel)
  have hl := lv_entry ([.ref (h0), .int (nI (ed)), .int (nI (ln)), .int (nI (se))]) (n := 5) (Nat.le_of_ble_eq_true rfl)
  rw [lg_entry_eq]
  generalize (lg_sl ([.ref (h0), .int (nI (ed)), .int (nI (ln)), .int (nI (se))]) ++ List.replicate (5 - (lg_sl ([.ref (h0), .int (nI (ed)), .int (nI (ln)), .int (nI (se))])).length) Slot.unset).toArray = ls at hl ⊢
  have hl : lv_has ls 5 [(0, .ref (h0)), (1, .int (nI (ed))), (2, .int (nI (ln))), (3, .int (nI (se)))] := hl
  refine mw_start (fun H locs hw => ?_) hw
  refine lv_iload_n hx hb dX7_put_0 rfl (lv_at hl 1 rfl) ?_
  refine mw_ci hC hw (va_runS (As := [.int (nI (ed))]) (rest := []) ⟨hx, hb, hml, hown, hts⟩ (c_X7_isEnd l G _ H.size ed  (by omega)) (cwS 1 hts gX7_put_X7_isEnd rfl rfl rfl (by decide +kernel) ⟨Nat.le_of_ble_eq_true rfl, Nat.le_of_ble_eq_true rfl⟩) (mw_preS hC hw) rfl rfl hl.1 rfl (lv_room (Nat.le_of_ble_eq_true rfl)) dX7_put_1 ⟨Nat.le_of_ble_eq_true rfl, Nat.le_of_ble_eq_true rfl⟩) (fun H locs hz hw => ?_)
  refine lv_if_eq (tgt := 34) hx hb dX7_put_4 (by decide) (fun c_1 => ?_) (fun c_1 => ?_)
  · skip
    exact absurd c_1 (by decide)
  · skip
    refine lv_iload_n hx hb dX7_put_7 rfl (lv_at hl 2 rfl) ?_
    refine lv_iconst (v := nI 1) hx hb dX7_put_8 (by decide) ?_
    refine lv_icmp_lt (tgt := 34) hx hb dX7_put_9 (by decide) (fun c_2 => ?_) (fun c_2 => ?_)
    · skip
      have c_2 : ln < 1 := (nI_ltI (a := ln) (b := 1) (by omega) (by omega)).mp c_2
      exfalso; omega
    · skip
      have c_2 : ln ≥ 1 := Nat.not_lt.mp (fun h => c_2 ((nI_ltI (a := ln) (b := 1) (by omega) (by omega)).mpr h))
      refine lv_iload_n hx hb dX7_put_12 rfl (lv_at hl 2 rfl) ?_
      refine lv_sipush (v := nI 272) hx hb dX7_put_13 (by decide) ?_
      refine lv_icmp_gt (tgt := 34) hx hb dX7_put_16 (by decide) (fun c_3 => ?_) (fun c_3 => ?_)
      · skip
        have c_3 : ln > 272 := (nI_ltI (a := 272) (b := ln) (by omega) (by omega)).mp c_3
        exfalso; omega
      · skip
        have c_3 : ln ≤ 272 := Nat.not_lt.mp (fun h => c_3 ((nI_ltI (a := 272) (b := ln) (by omega) (by omega)).mpr h))
        refine lv_iload_n hx hb dX7_put_19 rfl (lv_at hl 3 rfl) ?_
        refine lv_if_lt (tgt := 34) hx hb dX7_put_20 (by decide) (fun c_4 => ?_) (fun c_4 => ?_)
        · skip
          have c_4 : se < 0 := (nI_ltI (a := se) (b := 0) (by omega) (by omega)).mp c_4
          exfalso; omega
        · skip
          have c_4 : se ≥ 0 := Nat.not_lt.mp (fun h => c_4 ((nI_ltI (a := se) (b := 0) (by omega) (by omega)).mpr h))
          refine lv_iload_n hx hb dX7_put_23 rfl (lv_at hl 3 rfl) ?_
          refine lv_sipush (v := nI 255) hx hb dX7_put_24 (by decide) ?_
          refine lv_icmp_gt (tgt := 34) hx hb dX7_put_27 (by decide) (fun c_5 => ?_) (fun c_5 => ?_)
          · skip
            have c_5 : se > 255 := (nI_ltI (a := 255) (b := se) (by omega) (by omega)).mp c_5
            exfalso; omega
          · skip
            have c_5 : se ≤ 255 := Nat.not_lt.mp (fun h => c_5 ((nI_ltI (a := 255) (b := se) (by omega) (by omega)).mpr h))
            refine lv_iconst (v := nI 1) hx hb dX7_put_30 (by decide) ?_
            refine lv_goto (tgt := 35) hx hb dX7_put_31 (by decide) ?_
            refine lv_istore (lv' := [(4, .int (nI (1))), (0, .ref (h0)), (1, .int (nI (ed))), (2, .int (nI (ln))), (3, .int (nI (se)))]) hx hb dX7_put_35 hl (by decide) rfl (fun ls hl => ?_)
            refine lv_aload_n hx hb dX7_put_37 rfl (lv_at hl 1 rfl) ?_
            refine lv_iload hx hb dX7_put_38 (lv_at hl 0 rfl) ?_
            refine lv_if_ne (tgt := 47) hx hb dX7_put_40 (by decide) (fun c_6 => ?_) (fun c_6 => ?_)
            · skip
              refine lv_aload_n hx hb dX7_put_47 rfl (lv_at hl 1 rfl) ?_
              refine mw_get (C := RX7) (T := TX7) (N := 27) (v := .ref (a 9)) hx hb hts inX7_put_X7 hown hC hw hm.1 rfl 9 (by decide) k_0 rfl dX7_put_48 ?_
              refine lv_iload_n hx hb dX7_put_51 rfl (lv_at hl 2 rfl) ?_
              refine md_ald 9 (n := 2) hx hb hC hw hm rfl (by decide) rfl (by omega) (by decide) dX7_put_52 ?_
              refine lv_bipush (v := nI 60) hx hb dX7_put_53 (by decide) ?_
              refine lv_icmp_eq (tgt := 67) hx hb dX7_put_55 (by decide) (fun c_7 => ?_) (fun c_7 => ?_)
              · skip
                have c_7 : A 9 ed = 60 := (nI_eq (a := A 9 ed) (b := 60) (by omega) (by omega)).mp c_7
                refine lv_iconst (v := nI 2) hx hb dX7_put_67 (by decide) ?_
                refine lv_goto (tgt := 72) hx hb dX7_put_68 (by decide) ?_
                refine md_ci hC hw (va_runV (As := [.int (nI (2))]) (rest := []) ⟨hx, hb, hml, hown, hts⟩ (c_X7_refuses l G _ H.size h0 a c u A 2 hm (by omega)) (cwV 1 hts gX7_put_X7_refuses rfl rfl rfl (by decide +kernel) ⟨Nat.le_of_ble_eq_true rfl, Nat.le_of_ble_eq_true rfl⟩) (mw_preV (ci := 7) hC hw rfl hm.1) rfl rfl hl.1 rfl (lv_room (Nat.le_of_ble_eq_true rfl)) dX7_put_72 ⟨Nat.le_of_ble_eq_true rfl, Nat.le_of_ble_eq_true rfl⟩) (fun M1 H locs hm hf1 hw => ?_)
                have hf := hf.tr hf1
                refine mw_ti (v' := nI (1)) rfl ?_
                refine lv_if_eq (tgt := 80) hx hb dX7_put_75 (by decide) (fun c_8 => ?_) (fun c_8 => ?_)
                · skip
                  exact absurd c_8 (by decide)
                · skip
                  refine lv_iconst (v := nI 0) hx hb dX7_put_78 (by decide) ?_
                  exact md_iret hx hb hr hlocks hw hm hf (rfl) dX7_put_79
              · skip
                have c_7 : A 9 ed ≠ 60 := fun h => c_7 ((nI_eq (a := A 9 ed) (b := 60) (by omega) (by omega)).mpr h)
                refine lv_aload_n hx hb dX7_put_58 rfl (lv_at hl 1 rfl) ?_
                refine mw_get (C := RX7) (T := TX7) (N := 27) (v := .ref (a 20)) hx hb hts inX7_put_X7 hown hC hw hm.1 rfl 20 (by decide) k_1 rfl dX7_put_59 ?_
                refine lv_iload_n hx hb dX7_put_62 rfl (lv_at hl 2 rfl) ?_
                refine md_zld 20 (n := 2) hx hb hC hw hm rfl (by decide) rfl (by omega) (by decide) dX7_put_63 ?_
                refine lv_if_eq (tgt := 71) hx hb dX7_put_64 (by decide) (fun c_9 => ?_) (fun c_9 => ?_)
                · skip
                  have c_9 : A 20 ed = 0 := (nI_eq (a := A 20 ed) (b := 0) (by omega) (by omega)).mp c_9
                  exfalso; omega
                · skip
                  have c_9 : A 20 ed ≠ 0 := fun h => c_9 ((nI_eq (a := A 20 ed) (b := 0) (by omega) (by omega)).mpr h)
                  refine lv_iconst (v := nI 2) hx hb dX7_put_67 (by decide) ?_
                  refine lv_goto (tgt := 72) hx hb dX7_put_68 (by decide) ?_
                  refine md_ci hC hw (va_runV (As := [.int (nI (2))]) (rest := []) ⟨hx, hb, hml, hown, hts⟩ (c_X7_refuses l G _ H.size h0 a c u A 2 hm (by omega)) (cwV 1 hts gX7_put_X7_refuses rfl rfl rfl (by decide +kernel) ⟨Nat.le_of_ble_eq_true rfl, Nat.le_of_ble_eq_true rfl⟩) (mw_preV (ci := 7) hC hw rfl hm.1) rfl rfl hl.1 rfl (lv_room (Nat.le_of_ble_eq_true rfl)) dX7_put_72 ⟨Nat.le_of_ble_eq_true rfl, Nat.le_of_ble_eq_true rfl⟩) (fun M1 H locs hm hf1 hw => ?_)
                  have hf := hf.tr hf1
                  refine mw_ti (v' := nI (1)) rfl ?_
                  refine lv_if_eq (tgt := 80) hx hb dX7_put_75 (by decide) (fun c_10 => ?_) (fun c_10 => ?_)
                  · skip
                    exact absurd c_10 (by decide)
                  · skip
                    refine lv_iconst (v := nI 0) hx hb dX7_put_78 (by decide) ?_
                    exact md_iret hx hb hr hlocks hw hm hf (rfl) dX7_put_79
            · skip
              exact absurd c_6 (by decide)
def RM_X7_put : Room := { frames := 1, cells := 0, slots := 0, locals := 21 }
set_option maxHeartbeats 4000000 in
set_option maxRecDepth 100000 in
theorem c_X7_put (l : Launch) (G : mw_G) (M : mw_M) (sz : Nat) (h0 : Nat) (a : Nat → Nat) (c u : Nat) (A : md_S) (ed ln se : Nat) (hm : md_at G M h0 a c u A) (hed : ed ≤ 1) (hln : 1 ≤ ln) (hln2 : ln ≤ 272) (hse : se ≤ 255) (h9_ : A 9 ed < 60) (h20 : A 20 ed = 0) : Met l yX7_put wsX7_put RM_X7_put (mw_pre G M sz [.ref (h0), .int (nI (ed)), .int (nI (ln)), .int (nI (se))]) (md_Qi G M sz h0 a (nI (A 9 ed + 1)) 0 u (md_u ((md_u ((md_u A 10 (60 * ed + A 9 ed) ln)) 11 (60 * ed + A 9 ed) se)) 9 ed (A 9 ed + 1))) 0 0 (mw_A M sz) := by
  refine Met.ofW (cc := cX7_put) (maxL := 5) (ret := (some .int)) (by decide) rfl ?_
  intro p e s m args below meth c0 s₁ B hml hv
  obtain ⟨rfl, rfl, hC, hw⟩ := mw_in hv
  have hx := B.exec
  have hb := B.bytes
  have hr := B.returns
  have hts := atoms_spec (ws := wsX7_put) B.pre
  have hown : s.vm.findClass RX7 = some m.cls := findClass_of_methodNamed B.named
  have hlocks := B.notSynchronized
  have hf : md_fr h0 a M M := md_fr.rf
  have k_0 := hts (.fieldLink RX7 35 "LinkPairModel" "waits" "[I") (by decide +kernel)
  have k_1 := hts (.fieldLink RX7 68 "LinkPairModel" "failed" "[Z") (by decide +kernel)
  have k_2 := hts (.fieldLink RX7 38 "LinkPairModel" "waitLength" "[I") (by decide +kernel)
  have k_3 := hts (.fieldLink RX7 41 "LinkPairModel" "waitSeed" "[I") (by decide +kernel)
  have hl := lv_entry ([.ref (h0), .int (nI (ed)), .int (nI (ln)), .int (nI (se))]) (n := 5) (Nat.le_of_ble_eq_true rfl)
  rw [lg_entry_eq]
  generalize (lg_sl ([.ref (h0), .int (nI (ed)), .int (nI (ln)), .int (nI (se))]) ++ List.replicate (5 - (lg_sl ([.ref (h0), .int (nI (ed)), .int (nI (ln)), .int (nI (se))])).length) Slot.unset).toArray = ls at hl ⊢
  have hl : lv_has ls 5 [(0, .ref (h0)), (1, .int (nI (ed))), (2, .int (nI (ln))), (3, .int (nI (se)))] := hl
  refine mw_start (fun H locs hw => ?_) hw
  refine lv_iload_n hx hb dX7_put_0 rfl (lv_at hl 1 rfl) ?_
  refine mw_ci hC hw (va_runS (As := [.int (nI (ed))]) (rest := []) ⟨hx, hb, hml, hown, hts⟩ (c_X7_isEnd l G _ H.size ed  (by omega)) (cwS 1 hts gX7_put_X7_isEnd rfl rfl rfl (by decide +kernel) ⟨Nat.le_of_ble_eq_true rfl, Nat.le_of_ble_eq_true rfl⟩) (mw_preS hC hw) rfl rfl hl.1 rfl (lv_room (Nat.le_of_ble_eq_true rfl)) dX7_put_1 ⟨Nat.le_of_ble_eq_true rfl, Nat.le_of_ble_eq_true rfl⟩) (fun H locs hz hw => ?_)
  refine lv_if_eq (tgt := 34) hx hb dX7_put_4 (by decide) (fun c_1 => ?_) (fun c_1 => ?_)
  · skip
    exact absurd c_1 (by decide)
  · skip
    refine lv_iload_n hx hb dX7_put_7 rfl (lv_at hl 2 rfl) ?_
    refine lv_iconst (v := nI 1) hx hb dX7_put_8 (by decide) ?_
    refine lv_icmp_lt (tgt := 34) hx hb dX7_put_9 (by decide) (fun c_2 => ?_) (fun c_2 => ?_)
    · skip
      have c_2 : ln < 1 := (nI_ltI (a := ln) (b := 1) (by omega) (by omega)).mp c_2
      exfalso; omega
    · skip
      have c_2 : ln ≥ 1 := Nat.not_lt.mp (fun h => c_2 ((nI_ltI (a := ln) (b := 1) (by omega) (by omega)).mpr h))
      refine lv_iload_n hx hb dX7_put_12 rfl (lv_at hl 2 rfl) ?_
      refine lv_sipush (v := nI 272) hx hb dX7_put_13 (by decide) ?_
      refine lv_icmp_gt (tgt := 34) hx hb dX7_put_16 (by decide) (fun c_3 => ?_) (fun c_3 => ?_)
      · skip
        have c_3 : ln > 272 := (nI_ltI (a := 272) (b := ln) (by omega) (by omega)).mp c_3
        exfalso; omega
      · skip
        have c_3 : ln ≤ 272 := Nat.not_lt.mp (fun h => c_3 ((nI_ltI (a := 272) (b := ln) (by omega) (by omega)).mpr h))
        refine lv_iload_n hx hb dX7_put_19 rfl (lv_at hl 3 rfl) ?_
        refine lv_if_lt (tgt := 34) hx hb dX7_put_20 (by decide) (fun c_4 => ?_) (fun c_4 => ?_)
        · skip
          have c_4 : se < 0 := (nI_ltI (a := se) (b := 0) (by omega) (by omega)).mp c_4
          exfalso; omega
        · skip
          have c_4 : se ≥ 0 := Nat.not_lt.mp (fun h => c_4 ((nI_ltI (a := se) (b := 0) (by omega) (by omega)).mpr h))
          refine lv_iload_n hx hb dX7_put_23 rfl (lv_at hl 3 rfl) ?_
          refine lv_sipush (v := nI 255) hx hb dX7_put_24 (by decide) ?_
          refine lv_icmp_gt (tgt := 34) hx hb dX7_put_27 (by decide) (fun c_5 => ?_) (fun c_5 => ?_)
          · skip
            have c_5 : se > 255 := (nI_ltI (a := 255) (b := se) (by omega) (by omega)).mp c_5
            exfalso; omega
          · skip
            have c_5 : se ≤ 255 := Nat.not_lt.mp (fun h => c_5 ((nI_ltI (a := 255) (b := se) (by omega) (by omega)).mpr h))
            refine lv_iconst (v := nI 1) hx hb dX7_put_30 (by decide) ?_
            refine lv_goto (tgt := 35) hx hb dX7_put_31 (by decide) ?_
            refine lv_istore (lv' := [(4, .int (nI (1))), (0, .ref (h0)), (1, .int (nI (ed))), (2, .int (nI (ln))), (3, .int (nI (se)))]) hx hb dX7_put_35 hl (by decide) rfl (fun ls hl => ?_)
            refine lv_aload_n hx hb dX7_put_37 rfl (lv_at hl 1 rfl) ?_
            refine lv_iload hx hb dX7_put_38 (lv_at hl 0 rfl) ?_
            refine lv_if_ne (tgt := 47) hx hb dX7_put_40 (by decide) (fun c_6 => ?_) (fun c_6 => ?_)
            · skip
              refine lv_aload_n hx hb dX7_put_47 rfl (lv_at hl 1 rfl) ?_
              refine mw_get (C := RX7) (T := TX7) (N := 27) (v := .ref (a 9)) hx hb hts inX7_put_X7 hown hC hw hm.1 rfl 9 (by decide) k_0 rfl dX7_put_48 ?_
              refine lv_iload_n hx hb dX7_put_51 rfl (lv_at hl 2 rfl) ?_
              refine md_ald 9 (n := 2) hx hb hC hw hm rfl (by decide) rfl (by omega) (by decide) dX7_put_52 ?_
              refine lv_bipush (v := nI 60) hx hb dX7_put_53 (by decide) ?_
              refine lv_icmp_eq (tgt := 67) hx hb dX7_put_55 (by decide) (fun c_7 => ?_) (fun c_7 => ?_)
              · skip
                have c_7 : A 9 ed = 60 := (nI_eq (a := A 9 ed) (b := 60) (by omega) (by omega)).mp c_7
                exfalso; omega
              · skip
                have c_7 : A 9 ed ≠ 60 := fun h => c_7 ((nI_eq (a := A 9 ed) (b := 60) (by omega) (by omega)).mpr h)
                refine lv_aload_n hx hb dX7_put_58 rfl (lv_at hl 1 rfl) ?_
                refine mw_get (C := RX7) (T := TX7) (N := 27) (v := .ref (a 20)) hx hb hts inX7_put_X7 hown hC hw hm.1 rfl 20 (by decide) k_1 rfl dX7_put_59 ?_
                refine lv_iload_n hx hb dX7_put_62 rfl (lv_at hl 2 rfl) ?_
                refine md_zld 20 (n := 2) hx hb hC hw hm rfl (by decide) rfl (by omega) (by decide) dX7_put_63 ?_
                refine lv_if_eq (tgt := 71) hx hb dX7_put_64 (by decide) (fun c_8 => ?_) (fun c_8 => ?_)
                · skip
                  have c_8 : A 20 ed = 0 := (nI_eq (a := A 20 ed) (b := 0) (by omega) (by omega)).mp c_8
                  refine lv_iconst (v := nI 0) hx hb dX7_put_71 (by decide) ?_
                  refine md_ci hC hw (va_runV (As := [.int (nI (0))]) (rest := []) ⟨hx, hb, hml, hown, hts⟩ (c_X7_refuses l G _ H.size h0 a c u A 0 hm (by omega)) (cwV 1 hts gX7_put_X7_refuses rfl rfl rfl (by decide +kernel) ⟨Nat.le_of_ble_eq_true rfl, Nat.le_of_ble_eq_true rfl⟩) (mw_preV (ci := 7) hC hw rfl hm.1) rfl rfl hl.1 rfl (lv_room (Nat.le_of_ble_eq_true rfl)) dX7_put_72 ⟨Nat.le_of_ble_eq_true rfl, Nat.le_of_ble_eq_true rfl⟩) (fun M1 H locs hm hf1 hw => ?_)
                  have hf := hf.tr hf1
                  refine mw_ti (v' := nI (0)) rfl ?_
                  refine lv_if_eq (tgt := 80) hx hb dX7_put_75 (by decide) (fun c_9 => ?_) (fun c_9 => ?_)
                  · skip
                    refine lv_aload_n hx hb dX7_put_80 rfl (lv_at hl 1 rfl) ?_
                    refine mw_get (C := RX7) (T := TX7) (N := 27) (v := .ref (a 10)) hx hb hts inX7_put_X7 hown hC hw hm.1 rfl 10 (by decide) k_2 rfl dX7_put_81 ?_
                    refine lv_bipush (v := nI 60) hx hb dX7_put_84 (by decide) ?_
                    refine lv_iload_n hx hb dX7_put_86 rfl (lv_at hl 2 rfl) ?_
                    refine lv_imul hx hb dX7_put_87 ?_
                    refine mw_ti (v' := nI (60 * ed)) (pk_mul _ _) ?_
                    refine lv_aload_n hx hb dX7_put_88 rfl (lv_at hl 1 rfl) ?_
                    refine mw_get (C := RX7) (T := TX7) (N := 27) (v := .ref (a 9)) hx hb hts inX7_put_X7 hown hC hw hm.1 rfl 9 (by decide) k_0 rfl dX7_put_89 ?_
                    refine lv_iload_n hx hb dX7_put_92 rfl (lv_at hl 2 rfl) ?_
                    refine md_ald 9 (n := 2) hx hb hC hw hm rfl (by decide) rfl (by omega) (by decide) dX7_put_93 ?_
                    refine lv_iadd hx hb dX7_put_94 ?_
                    refine mw_ti (v' := nI (60 * ed + A 9 ed)) (nI_add _ _) ?_
                    refine lv_iload_n hx hb dX7_put_95 rfl (lv_at hl 3 rfl) ?_
                    refine md_ast 10 (n := 120) (v := ln) hx hb hC hw hm rfl (by decide) rfl (by omega) (by decide) dX7_put_96 (fun M1 H locs hm hf1 hw => ?_)
                    have hf := hf.tr hf1
                    refine lv_aload_n hx hb dX7_put_97 rfl (lv_at hl 1 rfl) ?_
                    refine mw_get (C := RX7) (T := TX7) (N := 27) (v := .ref (a 11)) hx hb hts inX7_put_X7 hown hC hw hm.1 rfl 11 (by decide) k_3 rfl dX7_put_98 ?_
                    refine lv_bipush (v := nI 60) hx hb dX7_put_101 (by decide) ?_
                    refine lv_iload_n hx hb dX7_put_103 rfl (lv_at hl 2 rfl) ?_
                    refine lv_imul hx hb dX7_put_104 ?_
                    refine mw_ti (v' := nI (60 * ed)) (pk_mul _ _) ?_
                    refine lv_aload_n hx hb dX7_put_105 rfl (lv_at hl 1 rfl) ?_
                    refine mw_get (C := RX7) (T := TX7) (N := 27) (v := .ref (a 9)) hx hb hts inX7_put_X7 hown hC hw hm.1 rfl 9 (by decide) k_0 rfl dX7_put_106 ?_
                    refine lv_iload_n hx hb dX7_put_109 rfl (lv_at hl 2 rfl) ?_
                    refine md_ald 9 (n := 2) hx hb hC hw hm rfl (by decide) rfl (by omega) (by decide) dX7_put_110 ?_
                    refine mw_ti (v' := nI (A 9 ed)) (congrArg nI (md_u_k (by decide))) ?_
                    refine lv_iadd hx hb dX7_put_111 ?_
                    refine mw_ti (v' := nI (60 * ed + A 9 ed)) (nI_add _ _) ?_
                    refine lv_iload_n hx hb dX7_put_112 rfl (lv_at hl 4 rfl) ?_
                    refine md_ast 11 (n := 120) (v := se) hx hb hC hw hm rfl (by decide) rfl (by omega) (by decide) dX7_put_113 (fun M1 H locs hm hf1 hw => ?_)
                    have hf := hf.tr hf1
                    refine lv_aload_n hx hb dX7_put_114 rfl (lv_at hl 1 rfl) ?_
                    refine mw_get (C := RX7) (T := TX7) (N := 27) (v := .ref (a 9)) hx hb hts inX7_put_X7 hown hC hw hm.1 rfl 9 (by decide) k_0 rfl dX7_put_115 ?_
                    refine lv_iload_n hx hb dX7_put_118 rfl (lv_at hl 2 rfl) ?_
                    refine lv_dup2_11 hx hb dX7_put_119 rfl rfl ?_
                    refine md_ald 9 (n := 2) hx hb hC hw hm rfl (by decide) rfl (by omega) (by decide) dX7_put_120 ?_
                    refine mw_ti (v' := nI (A 9 ed)) (congrArg nI ((md_u_k (by decide)).trans (md_u_k (by decide)))) ?_
                    refine lv_iconst (v := nI 1) hx hb dX7_put_121 (by decide) ?_
                    refine lv_iadd hx hb dX7_put_122 ?_
                    refine mw_ti (v' := nI (A 9 ed + 1)) (nI_add _ _) ?_
                    refine md_ast 9 (n := 2) (v := A 9 ed + 1) hx hb hC hw hm rfl (by decide) rfl (by omega) (by decide) dX7_put_123 (fun M1 H locs hm hf1 hw => ?_)
                    have hf := hf.tr hf1
                    refine lv_aload_n hx hb dX7_put_124 rfl (lv_at hl 1 rfl) ?_
                    refine mw_get (C := RX7) (T := TX7) (N := 27) (v := .ref (a 9)) hx hb hts inX7_put_X7 hown hC hw hm.1 rfl 9 (by decide) k_0 rfl dX7_put_125 ?_
                    refine lv_iload_n hx hb dX7_put_128 rfl (lv_at hl 2 rfl) ?_
                    refine md_ald 9 (n := 2) hx hb hC hw hm rfl (by decide) rfl (by omega) (by decide) dX7_put_129 ?_
                    refine mw_ti (v' := nI (A 9 ed + 1)) (congrArg nI md_u_s) ?_
                    exact md_iret hx hb hr hlocks hw hm hf (rfl) dX7_put_130
                  · skip
                    exact absurd c_9 (by decide)
                · skip
                  have c_8 : A 20 ed ≠ 0 := fun h => c_8 ((nI_eq (a := A 20 ed) (b := 0) (by omega) (by omega)).mpr h)
                  exfalso; omega
            · skip
              exact absurd c_6 (by decide)
def RM_X7_send_bade : Room := { frames := 1, cells := 0, slots := 0, locals := 21 }
set_option maxHeartbeats 4000000 in
set_option maxRecDepth 100000 in
theorem c_X7_send_bade (l : Launch) (G : mw_G) (M : mw_M) (sz : Nat) (h0 : Nat) (a : Nat → Nat) (c u : Nat) (A : md_S) (ed : Int32) (hm : md_at G M h0 a c u A) (hb1 : ed < 0 ∨ nI 1 < ed) : Met l yX7_send wsX7_send RM_X7_send_bade (mw_pre G M sz [.ref (h0), .int (ed)]) (md_Qi G M sz h0 a (nI (0)) 1 u A) 0 0 (mw_A M sz) := by
  refine Met.ofW (cc := cX7_send) (maxL := 5) (ret := (some .int)) (by decide) rfl ?_
  intro p e s m args below meth c0 s₁ B hml hv
  obtain ⟨rfl, rfl, hC, hw⟩ := mw_in hv
  have hx := B.exec
  have hb := B.bytes
  have hr := B.returns
  have hts := atoms_spec (ws := wsX7_send) B.pre
  have hown : s.vm.findClass RX7 = some m.cls := findClass_of_methodNamed B.named
  have hlocks := B.notSynchronized
  have hf : md_fr h0 a M M := md_fr.rf
  have hl := lv_entry ([.ref (h0), .int (ed)]) (n := 5) (Nat.le_of_ble_eq_true rfl)
  rw [lg_entry_eq]
  generalize (lg_sl ([.ref (h0), .int (ed)]) ++ List.replicate (5 - (lg_sl ([.ref (h0), .int (ed)])).length) Slot.unset).toArray = ls at hl ⊢
  have hl : lv_has ls 5 [(0, .ref (h0)), (1, .int (ed))] := hl
  refine mw_start (fun H locs hw => ?_) hw
  refine lv_aload_n hx hb dX7_send_0 rfl (lv_at hl 0 rfl) ?_
  refine lv_iload_n hx hb dX7_send_1 rfl (lv_at hl 1 rfl) ?_
  refine mw_ci hC hw (va_runS (As := [.int (ed)]) (rest := [.ref (h0)]) ⟨hx, hb, hml, hown, hts⟩ (c_X7_isEnd_bad l G _ H.size ed  (hb1)) (cwS 1 hts gX7_send_X7_isEnd rfl rfl rfl (by decide +kernel) ⟨Nat.le_of_ble_eq_true rfl, Nat.le_of_ble_eq_true rfl⟩) (mw_preS hC hw) rfl rfl hl.1 rfl (lv_room (Nat.le_of_ble_eq_true rfl)) dX7_send_2 ⟨Nat.le_of_ble_eq_true rfl, Nat.le_of_ble_eq_true rfl⟩) (fun H locs hz hw => ?_)
  refine lv_if_ne (tgt := 12) hx hb dX7_send_5 (by decide) (fun c_1 => ?_) (fun c_1 => ?_)
  · skip
    exact absurd c_1 (by decide)
  · skip
    refine lv_iconst (v := nI 1) hx hb dX7_send_8 (by decide) ?_
    refine lv_goto (tgt := 37) hx hb dX7_send_9 (by decide) ?_
    refine md_ci hC hw (va_runV (As := [.int (nI (1))]) (rest := []) ⟨hx, hb, hml, hown, hts⟩ (c_X7_refuses l G _ H.size h0 a c u A 1 hm (by omega)) (cwV 1 hts gX7_send_X7_refuses rfl rfl rfl (by decide +kernel) ⟨Nat.le_of_ble_eq_true rfl, Nat.le_of_ble_eq_true rfl⟩) (mw_preV (ci := 7) hC hw rfl hm.1) rfl rfl hl.1 rfl (lv_room (Nat.le_of_ble_eq_true rfl)) dX7_send_37 ⟨Nat.le_of_ble_eq_true rfl, Nat.le_of_ble_eq_true rfl⟩) (fun M1 H locs hm hf1 hw => ?_)
    have hf := hf.tr hf1
    refine mw_ti (v' := nI (1)) rfl ?_
    refine lv_if_eq (tgt := 45) hx hb dX7_send_40 (by decide) (fun c_2 => ?_) (fun c_2 => ?_)
    · skip
      exact absurd c_2 (by decide)
    · skip
      refine lv_iconst (v := nI 0) hx hb dX7_send_43 (by decide) ?_
      exact md_iret hx hb hr hlocks hw hm hf (rfl) dX7_send_44
theorem inX7_send_X7 : ∀ w ∈ wsX70, w ∈ wsX7_send := by decide +kernel
def RM_X7_send_bads : Room := { frames := 1, cells := 0, slots := 0, locals := 21 }
set_option maxHeartbeats 4000000 in
set_option maxRecDepth 100000 in
theorem c_X7_send_bads (l : Launch) (G : mw_G) (M : mw_M) (sz : Nat) (h0 : Nat) (a : Nat → Nat) (c u : Nat) (A : md_S) (ed : Nat) (hm : md_at G M h0 a c u A) (hed : ed ≤ 1) (h1_ : A 1 ed ≤ 40) (h20 : A 20 ed ≤ 1) (hb1 : A 1 ed = 40 ∨ A 20 ed = 1) : Met l yX7_send wsX7_send RM_X7_send_bads (mw_pre G M sz [.ref (h0), .int (nI (ed))]) (md_Qi G M sz h0 a (nI (0)) 2 u A) 0 0 (mw_A M sz) := by
  refine Met.ofW (cc := cX7_send) (maxL := 5) (ret := (some .int)) (by decide) rfl ?_
  intro p e s m args below meth c0 s₁ B hml hv
  obtain ⟨rfl, rfl, hC, hw⟩ := mw_in hv
  have hx := B.exec
  have hb := B.bytes
  have hr := B.returns
  have hts := atoms_spec (ws := wsX7_send) B.pre
  have hown : s.vm.findClass RX7 = some m.cls := findClass_of_methodNamed B.named
  have hlocks := B.notSynchronized
  have hf : md_fr h0 a M M := md_fr.rf
  have k_0 := hts (.fieldLink RX7 7 "LinkPairModel" "frames" "[I") (by decide +kernel)
  have k_1 := hts (.fieldLink RX7 68 "LinkPairModel" "failed" "[Z") (by decide +kernel)
  have hl := lv_entry ([.ref (h0), .int (nI (ed))]) (n := 5) (Nat.le_of_ble_eq_true rfl)
  rw [lg_entry_eq]
  generalize (lg_sl ([.ref (h0), .int (nI (ed))]) ++ List.replicate (5 - (lg_sl ([.ref (h0), .int (nI (ed))])).length) Slot.unset).toArray = ls at hl ⊢
  have hl : lv_has ls 5 [(0, .ref (h0)), (1, .int (nI (ed)))] := hl
  refine mw_start (fun H locs hw => ?_) hw
  refine lv_aload_n hx hb dX7_send_0 rfl (lv_at hl 0 rfl) ?_
  refine lv_iload_n hx hb dX7_send_1 rfl (lv_at hl 1 rfl) ?_
  refine mw_ci hC hw (va_runS (As := [.int (nI (ed))]) (rest := [.ref (h0)]) ⟨hx, hb, hml, hown, hts⟩ (c_X7_isEnd l G _ H.size ed  (by omega)) (cwS 1 hts gX7_send_X7_isEnd rfl rfl rfl (by decide +kernel) ⟨Nat.le_of_ble_eq_true rfl, Nat.le_of_ble_eq_true rfl⟩) (mw_preS hC hw) rfl rfl hl.1 rfl (lv_room (Nat.le_of_ble_eq_true rfl)) dX7_send_2 ⟨Nat.le_of_ble_eq_true rfl, Nat.le_of_ble_eq_true rfl⟩) (fun H locs hz hw => ?_)
  refine lv_if_ne (tgt := 12) hx hb dX7_send_5 (by decide) (fun c_1 => ?_) (fun c_1 => ?_)
  · skip
    refine lv_aload_n hx hb dX7_send_12 rfl (lv_at hl 0 rfl) ?_
    refine mw_get (C := RX7) (T := TX7) (N := 27) (v := .ref (a 1)) hx hb hts inX7_send_X7 hown hC hw hm.1 rfl 1 (by decide) k_0 rfl dX7_send_13 ?_
    refine lv_iload_n hx hb dX7_send_16 rfl (lv_at hl 1 rfl) ?_
    refine md_ald 1 (n := 2) hx hb hC hw hm rfl (by decide) rfl (by omega) (by decide) dX7_send_17 ?_
    refine lv_bipush (v := nI 40) hx hb dX7_send_18 (by decide) ?_
    refine lv_icmp_eq (tgt := 32) hx hb dX7_send_20 (by decide) (fun c_2 => ?_) (fun c_2 => ?_)
    · skip
      have c_2 : A 1 ed = 40 := (nI_eq (a := A 1 ed) (b := 40) (by omega) (by omega)).mp c_2
      refine lv_iconst (v := nI 2) hx hb dX7_send_32 (by decide) ?_
      refine lv_goto (tgt := 37) hx hb dX7_send_33 (by decide) ?_
      refine md_ci hC hw (va_runV (As := [.int (nI (2))]) (rest := []) ⟨hx, hb, hml, hown, hts⟩ (c_X7_refuses l G _ H.size h0 a c u A 2 hm (by omega)) (cwV 1 hts gX7_send_X7_refuses rfl rfl rfl (by decide +kernel) ⟨Nat.le_of_ble_eq_true rfl, Nat.le_of_ble_eq_true rfl⟩) (mw_preV (ci := 7) hC hw rfl hm.1) rfl rfl hl.1 rfl (lv_room (Nat.le_of_ble_eq_true rfl)) dX7_send_37 ⟨Nat.le_of_ble_eq_true rfl, Nat.le_of_ble_eq_true rfl⟩) (fun M1 H locs hm hf1 hw => ?_)
      have hf := hf.tr hf1
      refine mw_ti (v' := nI (1)) rfl ?_
      refine lv_if_eq (tgt := 45) hx hb dX7_send_40 (by decide) (fun c_3 => ?_) (fun c_3 => ?_)
      · skip
        exact absurd c_3 (by decide)
      · skip
        refine lv_iconst (v := nI 0) hx hb dX7_send_43 (by decide) ?_
        exact md_iret hx hb hr hlocks hw hm hf (rfl) dX7_send_44
    · skip
      have c_2 : A 1 ed ≠ 40 := fun h => c_2 ((nI_eq (a := A 1 ed) (b := 40) (by omega) (by omega)).mpr h)
      refine lv_aload_n hx hb dX7_send_23 rfl (lv_at hl 0 rfl) ?_
      refine mw_get (C := RX7) (T := TX7) (N := 27) (v := .ref (a 20)) hx hb hts inX7_send_X7 hown hC hw hm.1 rfl 20 (by decide) k_1 rfl dX7_send_24 ?_
      refine lv_iload_n hx hb dX7_send_27 rfl (lv_at hl 1 rfl) ?_
      refine md_zld 20 (n := 2) hx hb hC hw hm rfl (by decide) rfl (by omega) (by decide) dX7_send_28 ?_
      refine lv_if_eq (tgt := 36) hx hb dX7_send_29 (by decide) (fun c_4 => ?_) (fun c_4 => ?_)
      · skip
        have c_4 : A 20 ed = 0 := (nI_eq (a := A 20 ed) (b := 0) (by omega) (by omega)).mp c_4
        exfalso; omega
      · skip
        have c_4 : A 20 ed ≠ 0 := fun h => c_4 ((nI_eq (a := A 20 ed) (b := 0) (by omega) (by omega)).mpr h)
        refine lv_iconst (v := nI 2) hx hb dX7_send_32 (by decide) ?_
        refine lv_goto (tgt := 37) hx hb dX7_send_33 (by decide) ?_
        refine md_ci hC hw (va_runV (As := [.int (nI (2))]) (rest := []) ⟨hx, hb, hml, hown, hts⟩ (c_X7_refuses l G _ H.size h0 a c u A 2 hm (by omega)) (cwV 1 hts gX7_send_X7_refuses rfl rfl rfl (by decide +kernel) ⟨Nat.le_of_ble_eq_true rfl, Nat.le_of_ble_eq_true rfl⟩) (mw_preV (ci := 7) hC hw rfl hm.1) rfl rfl hl.1 rfl (lv_room (Nat.le_of_ble_eq_true rfl)) dX7_send_37 ⟨Nat.le_of_ble_eq_true rfl, Nat.le_of_ble_eq_true rfl⟩) (fun M1 H locs hm hf1 hw => ?_)
        have hf := hf.tr hf1
        refine mw_ti (v' := nI (1)) rfl ?_
        refine lv_if_eq (tgt := 45) hx hb dX7_send_40 (by decide) (fun c_5 => ?_) (fun c_5 => ?_)
        · skip
          exact absurd c_5 (by decide)
        · skip
          refine lv_iconst (v := nI 0) hx hb dX7_send_43 (by decide) ?_
          exact md_iret hx hb hr hlocks hw hm hf (rfl) dX7_send_44
  · skip
    exact absurd c_1 (by decide)
def RM_X7_send_again : Room := { frames := 3, cells := 0, slots := 0, locals := 74 }
set_option maxHeartbeats 4000000 in
set_option maxRecDepth 100000 in
theorem c_X7_send_again (l : Launch) (G : mw_G) (M : mw_M) (sz : Nat) (h0 : Nat) (a : Nat → Nat) (c u : Nat) (A : md_S) (ed : Nat) (hm : md_at G M h0 a c u A) (hed : ed ≤ 1) (h1_ : A 1 ed ≤ 39) (h20 : A 20 ed = 0) (h7 : A 7 ed < 128) (h5 : A 5 ed ≤ 1) (h4 : A 4 ed ≤ 1) (h6 : A 6 ed < 128) (h12 : A 12 ed ≤ 127) (h16 : A 16 ed ≤ A 12 ed) (h9_ : A 9 ed ≤ 60) (hug : ∀ i, i < 280 → A 24 i < 256) (hc : A 16 ed < A 12 ed) (hnu : A 13 (127 * ed + A 16 ed) < 128) (hln : A 14 (127 * ed + A 16 ed) ≤ 272) (hse : A 15 (127 * ed + A 16 ed) < 256) : Met l yX7_send wsX7_send RM_X7_send_again (mw_pre G M sz [.ref (h0), .int (nI (ed))]) (md_Qi G M sz h0 a (nI (2)) 0 u (mfrm (md_u A 16 ed (A 16 ed + 1)) ed (A 13 (127 * ed + A 16 ed)) (A 14 (127 * ed + A 16 ed)) (A 15 (127 * ed + A 16 ed)))) 0 0 (mw_A M sz) := by
  refine Met.ofW (cc := cX7_send) (maxL := 5) (ret := (some .int)) (by decide) rfl ?_
  intro p e s m args below meth c0 s₁ B hml hv
  obtain ⟨rfl, rfl, hC, hw⟩ := mw_in hv
  have hx := B.exec
  have hb := B.bytes
  have hr := B.returns
  have hts := atoms_spec (ws := wsX7_send) B.pre
  have hown : s.vm.findClass RX7 = some m.cls := findClass_of_methodNamed B.named
  have hlocks := B.notSynchronized
  have hf : md_fr h0 a M M := md_fr.rf
  have k_0 := hts (.fieldLink RX7 7 "LinkPairModel" "frames" "[I") (by decide +kernel)
  have k_1 := hts (.fieldLink RX7 68 "LinkPairModel" "failed" "[Z") (by decide +kernel)
  have k_2 := hts (.fieldLink RX7 56 "LinkPairModel" "again" "[I") (by decide +kernel)
  have k_3 := hts (.fieldLink RX7 44 "LinkPairModel" "open" "[I") (by decide +kernel)
  have k_4 := hts (.fieldLink RX7 47 "LinkPairModel" "openNumber" "[I") (by decide +kernel)
  have k_5 := hts (.fieldLink RX7 50 "LinkPairModel" "openLength" "[I") (by decide +kernel)
  have k_6 := hts (.fieldLink RX7 53 "LinkPairModel" "openSeed" "[I") (by decide +kernel)
  have hl := lv_entry ([.ref (h0), .int (nI (ed))]) (n := 5) (Nat.le_of_ble_eq_true rfl)
  rw [lg_entry_eq]
  generalize (lg_sl ([.ref (h0), .int (nI (ed))]) ++ List.replicate (5 - (lg_sl ([.ref (h0), .int (nI (ed))])).length) Slot.unset).toArray = ls at hl ⊢
  have hl : lv_has ls 5 [(0, .ref (h0)), (1, .int (nI (ed)))] := hl
  refine mw_start (fun H locs hw => ?_) hw
  refine lv_aload_n hx hb dX7_send_0 rfl (lv_at hl 0 rfl) ?_
  refine lv_iload_n hx hb dX7_send_1 rfl (lv_at hl 1 rfl) ?_
  refine mw_ci hC hw (va_runS (As := [.int (nI (ed))]) (rest := [.ref (h0)]) ⟨hx, hb, hml, hown, hts⟩ (c_X7_isEnd l G _ H.size ed  (by omega)) (cwS 1 hts gX7_send_X7_isEnd rfl rfl rfl (by decide +kernel) ⟨Nat.le_of_ble_eq_true rfl, Nat.le_of_ble_eq_true rfl⟩) (mw_preS hC hw) rfl rfl hl.1 rfl (lv_room (Nat.le_of_ble_eq_true rfl)) dX7_send_2 ⟨Nat.le_of_ble_eq_true rfl, Nat.le_of_ble_eq_true rfl⟩) (fun H locs hz hw => ?_)
  refine lv_if_ne (tgt := 12) hx hb dX7_send_5 (by decide) (fun c_1 => ?_) (fun c_1 => ?_)
  · skip
    refine lv_aload_n hx hb dX7_send_12 rfl (lv_at hl 0 rfl) ?_
    refine mw_get (C := RX7) (T := TX7) (N := 27) (v := .ref (a 1)) hx hb hts inX7_send_X7 hown hC hw hm.1 rfl 1 (by decide) k_0 rfl dX7_send_13 ?_
    refine lv_iload_n hx hb dX7_send_16 rfl (lv_at hl 1 rfl) ?_
    refine md_ald 1 (n := 2) hx hb hC hw hm rfl (by decide) rfl (by omega) (by decide) dX7_send_17 ?_
    refine lv_bipush (v := nI 40) hx hb dX7_send_18 (by decide) ?_
    refine lv_icmp_eq (tgt := 32) hx hb dX7_send_20 (by decide) (fun c_2 => ?_) (fun c_2 => ?_)
    · skip
      have c_2 : A 1 ed = 40 := (nI_eq (a := A 1 ed) (b := 40) (by omega) (by omega)).mp c_2
      exfalso; omega
    · skip
      have c_2 : A 1 ed ≠ 40 := fun h => c_2 ((nI_eq (a := A 1 ed) (b := 40) (by omega) (by omega)).mpr h)
      refine lv_aload_n hx hb dX7_send_23 rfl (lv_at hl 0 rfl) ?_
      refine mw_get (C := RX7) (T := TX7) (N := 27) (v := .ref (a 20)) hx hb hts inX7_send_X7 hown hC hw hm.1 rfl 20 (by decide) k_1 rfl dX7_send_24 ?_
      refine lv_iload_n hx hb dX7_send_27 rfl (lv_at hl 1 rfl) ?_
      refine md_zld 20 (n := 2) hx hb hC hw hm rfl (by decide) rfl (by omega) (by decide) dX7_send_28 ?_
      refine lv_if_eq (tgt := 36) hx hb dX7_send_29 (by decide) (fun c_3 => ?_) (fun c_3 => ?_)
      · skip
        have c_3 : A 20 ed = 0 := (nI_eq (a := A 20 ed) (b := 0) (by omega) (by omega)).mp c_3
        refine lv_iconst (v := nI 0) hx hb dX7_send_36 (by decide) ?_
        refine md_ci hC hw (va_runV (As := [.int (nI (0))]) (rest := []) ⟨hx, hb, hml, hown, hts⟩ (c_X7_refuses l G _ H.size h0 a c u A 0 hm (by omega)) (cwV 1 hts gX7_send_X7_refuses rfl rfl rfl (by decide +kernel) ⟨Nat.le_of_ble_eq_true rfl, Nat.le_of_ble_eq_true rfl⟩) (mw_preV (ci := 7) hC hw rfl hm.1) rfl rfl hl.1 rfl (lv_room (Nat.le_of_ble_eq_true rfl)) dX7_send_37 ⟨Nat.le_of_ble_eq_true rfl, Nat.le_of_ble_eq_true rfl⟩) (fun M1 H locs hm hf1 hw => ?_)
        have hf := hf.tr hf1
        refine mw_ti (v' := nI (0)) rfl ?_
        refine lv_if_eq (tgt := 45) hx hb dX7_send_40 (by decide) (fun c_4 => ?_) (fun c_4 => ?_)
        · skip
          refine lv_bipush (v := nI 127) hx hb dX7_send_45 (by decide) ?_
          refine lv_iload_n hx hb dX7_send_47 rfl (lv_at hl 1 rfl) ?_
          refine lv_imul hx hb dX7_send_48 ?_
          refine mw_ti (v' := nI (127 * ed)) (pk_mul _ _) ?_
          refine lv_istore_n (lv' := [(2, .int (nI (127 * ed))), (0, .ref (h0)), (1, .int (nI (ed)))]) hx hb dX7_send_49 rfl hl (by decide) rfl (fun ls hl => ?_)
          refine lv_aload_n hx hb dX7_send_50 rfl (lv_at hl 1 rfl) ?_
          refine mw_get (C := RX7) (T := TX7) (N := 27) (v := .ref (a 16)) hx hb hts inX7_send_X7 hown hC hw hm.1 rfl 16 (by decide) k_2 rfl dX7_send_51 ?_
          refine lv_iload_n hx hb dX7_send_54 rfl (lv_at hl 2 rfl) ?_
          refine md_ald 16 (n := 2) hx hb hC hw hm rfl (by decide) rfl (by omega) (by decide) dX7_send_55 ?_
          refine lv_aload_n hx hb dX7_send_56 rfl (lv_at hl 1 rfl) ?_
          refine mw_get (C := RX7) (T := TX7) (N := 27) (v := .ref (a 12)) hx hb hts inX7_send_X7 hown hC hw hm.1 rfl 12 (by decide) k_3 rfl dX7_send_57 ?_
          refine lv_iload_n hx hb dX7_send_60 rfl (lv_at hl 2 rfl) ?_
          refine md_ald 12 (n := 2) hx hb hC hw hm rfl (by decide) rfl (by omega) (by decide) dX7_send_61 ?_
          refine lv_icmp_ge (tgt := 109) hx hb dX7_send_62 (by decide) (fun c_5 => ?_) (fun c_5 => ?_)
          · skip
            have c_5 : A 16 ed ≥ A 12 ed := (nI_leI (a := A 12 ed) (b := A 16 ed) (by omega) (by omega)).mp c_5
            exfalso; omega
          · skip
            have c_5 : A 16 ed < A 12 ed := Nat.not_le.mp (fun h => c_5 ((nI_leI (a := A 12 ed) (b := A 16 ed) (by omega) (by omega)).mpr h))
            refine lv_iload_n hx hb dX7_send_65 rfl (lv_at hl 0 rfl) ?_
            refine lv_aload_n hx hb dX7_send_66 rfl (lv_at hl 1 rfl) ?_
            refine mw_get (C := RX7) (T := TX7) (N := 27) (v := .ref (a 16)) hx hb hts inX7_send_X7 hown hC hw hm.1 rfl 16 (by decide) k_2 rfl dX7_send_67 ?_
            refine lv_iload_n hx hb dX7_send_70 rfl (lv_at hl 2 rfl) ?_
            refine md_ald 16 (n := 2) hx hb hC hw hm rfl (by decide) rfl (by omega) (by decide) dX7_send_71 ?_
            refine lv_iadd hx hb dX7_send_72 ?_
            refine mw_ti (v' := nI (127 * ed + A 16 ed)) (nI_add _ _) ?_
            refine lv_istore_n (lv' := [(3, .int (nI (127 * ed + A 16 ed))), (2, .int (nI (127 * ed))), (0, .ref (h0)), (1, .int (nI (ed)))]) hx hb dX7_send_73 rfl hl (by decide) rfl (fun ls hl => ?_)
            refine lv_aload_n hx hb dX7_send_74 rfl (lv_at hl 2 rfl) ?_
            refine mw_get (C := RX7) (T := TX7) (N := 27) (v := .ref (a 16)) hx hb hts inX7_send_X7 hown hC hw hm.1 rfl 16 (by decide) k_2 rfl dX7_send_75 ?_
            refine lv_iload_n hx hb dX7_send_78 rfl (lv_at hl 3 rfl) ?_
            refine lv_dup2_11 hx hb dX7_send_79 rfl rfl ?_
            refine md_ald 16 (n := 2) hx hb hC hw hm rfl (by decide) rfl (by omega) (by decide) dX7_send_80 ?_
            refine lv_iconst (v := nI 1) hx hb dX7_send_81 (by decide) ?_
            refine lv_iadd hx hb dX7_send_82 ?_
            refine mw_ti (v' := nI (A 16 ed + 1)) (nI_add _ _) ?_
            refine md_ast 16 (n := 2) (v := A 16 ed + 1) hx hb hC hw hm rfl (by decide) rfl (by omega) (by decide) dX7_send_83 (fun M1 H locs hm hf1 hw => ?_)
            have hf := hf.tr hf1
            refine lv_aload_n hx hb dX7_send_84 rfl (lv_at hl 2 rfl) ?_
            refine lv_iload_n hx hb dX7_send_85 rfl (lv_at hl 3 rfl) ?_
            refine lv_aload_n hx hb dX7_send_86 rfl (lv_at hl 2 rfl) ?_
            refine mw_get (C := RX7) (T := TX7) (N := 27) (v := .ref (a 13)) hx hb hts inX7_send_X7 hown hC hw hm.1 rfl 13 (by decide) k_4 rfl dX7_send_87 ?_
            refine lv_iload_n hx hb dX7_send_90 rfl (lv_at hl 0 rfl) ?_
            refine md_ald 13 (n := 254) hx hb hC hw hm rfl (by decide) rfl (by omega) (by decide) dX7_send_91 ?_
            refine mw_ti (v' := nI (A 13 (127 * ed + A 16 ed))) (congrArg nI (md_u_k (by decide))) ?_
            refine lv_aload_n hx hb dX7_send_92 rfl (lv_at hl 2 rfl) ?_
            refine mw_get (C := RX7) (T := TX7) (N := 27) (v := .ref (a 14)) hx hb hts inX7_send_X7 hown hC hw hm.1 rfl 14 (by decide) k_5 rfl dX7_send_93 ?_
            refine lv_iload_n hx hb dX7_send_96 rfl (lv_at hl 0 rfl) ?_
            refine md_ald 14 (n := 254) hx hb hC hw hm rfl (by decide) rfl (by omega) (by decide) dX7_send_97 ?_
            refine mw_ti (v' := nI (A 14 (127 * ed + A 16 ed))) (congrArg nI (md_u_k (by decide))) ?_
            refine lv_aload_n hx hb dX7_send_98 rfl (lv_at hl 2 rfl) ?_
            refine mw_get (C := RX7) (T := TX7) (N := 27) (v := .ref (a 15)) hx hb hts inX7_send_X7 hown hC hw hm.1 rfl 15 (by decide) k_6 rfl dX7_send_99 ?_
            refine lv_iload_n hx hb dX7_send_102 rfl (lv_at hl 0 rfl) ?_
            refine md_ald 15 (n := 254) hx hb hC hw hm rfl (by decide) rfl (by omega) (by decide) dX7_send_103 ?_
            refine mw_ti (v' := nI (A 15 (127 * ed + A 16 ed))) (congrArg nI (md_u_k (by decide))) ?_
            refine md_cv hC hw (va_runV (As := [.int (nI (ed)), .int (nI (A 13 (127 * ed + A 16 ed))), .int (nI (A 14 (127 * ed + A 16 ed))), .int (nI (A 15 (127 * ed + A 16 ed)))]) (rest := []) ⟨hx, hb, hml, hown, hts⟩ (c_X7_frame l G _ H.size h0 a 0 u (md_u A 16 ed (A 16 ed + 1)) ed (A 13 (127 * ed + A 16 ed)) (A 14 (127 * ed + A 16 ed)) (A 15 (127 * ed + A 16 ed)) hm (by omega) (by rw [md_u_k (by decide)]; exact h1_) (by omega) (by omega) (by omega) (by rw [md_u_k (by decide)]; exact h7) (by rw [md_u_k (by decide)]; exact h5) (by rw [md_u_k (by decide)]; exact h4) (fun i hi => by rw [md_u_k (by decide)]; exact hug i hi)) (cwV 4 hts gX7_send_X7_frame rfl rfl rfl (by decide +kernel) ⟨Nat.le_of_ble_eq_true rfl, Nat.le_of_ble_eq_true rfl⟩) (mw_preV (ci := 7) hC hw rfl hm.1) rfl rfl hl.1 rfl (lv_room (Nat.le_of_ble_eq_true rfl)) dX7_send_104 ⟨Nat.le_of_ble_eq_true rfl, Nat.le_of_ble_eq_true rfl⟩) (fun M1 H locs hm hf1 hw => ?_)
            have hf := hf.tr hf1
            refine lv_iconst (v := nI 2) hx hb dX7_send_107 (by decide) ?_
            exact md_iret hx hb hr hlocks hw hm hf (rfl) dX7_send_108
        · skip
          exact absurd c_4 (by decide)
      · skip
        have c_3 : A 20 ed ≠ 0 := fun h => c_3 ((nI_eq (a := A 20 ed) (b := 0) (by omega) (by omega)).mpr h)
        exfalso; omega
  · skip
    exact absurd c_1 (by decide)
def RM_X7_send_fill : Room := { frames := 3, cells := 0, slots := 0, locals := 74 }
set_option maxHeartbeats 4000000 in
set_option maxRecDepth 100000 in
theorem c_X7_send_fill (l : Launch) (G : mw_G) (M : mw_M) (sz : Nat) (h0 : Nat) (a : Nat → Nat) (c u : Nat) (A : md_S) (ed : Nat) (hm : md_at G M h0 a c u A) (hed : ed ≤ 1) (h1_ : A 1 ed ≤ 39) (h20 : A 20 ed = 0) (h7 : A 7 ed < 128) (h5 : A 5 ed ≤ 1) (h4 : A 4 ed ≤ 1) (h6 : A 6 ed < 128) (h12 : A 12 ed ≤ 127) (h16 : A 16 ed ≤ A 12 ed) (h9_ : A 9 ed ≤ 60) (hug : ∀ i, i < 280 → A 24 i < 256) (hc : A 12 ed ≤ A 16 ed) (hc2 : A 9 ed = 0 ∨ A 12 ed = 127) : Met l yX7_send wsX7_send RM_X7_send_fill (mw_pre G M sz [.ref (h0), .int (nI (ed))]) (md_Qi G M sz h0 a (nI (0)) 0 u (mfrm A ed (A 6 ed) 0 0)) 0 0 (mw_A M sz) := by
  refine Met.ofW (cc := cX7_send) (maxL := 5) (ret := (some .int)) (by decide) rfl ?_
  intro p e s m args below meth c0 s₁ B hml hv
  obtain ⟨rfl, rfl, hC, hw⟩ := mw_in hv
  have hx := B.exec
  have hb := B.bytes
  have hr := B.returns
  have hts := atoms_spec (ws := wsX7_send) B.pre
  have hown : s.vm.findClass RX7 = some m.cls := findClass_of_methodNamed B.named
  have hlocks := B.notSynchronized
  have hf : md_fr h0 a M M := md_fr.rf
  have k_0 := hts (.fieldLink RX7 7 "LinkPairModel" "frames" "[I") (by decide +kernel)
  have k_1 := hts (.fieldLink RX7 68 "LinkPairModel" "failed" "[Z") (by decide +kernel)
  have k_2 := hts (.fieldLink RX7 56 "LinkPairModel" "again" "[I") (by decide +kernel)
  have k_3 := hts (.fieldLink RX7 44 "LinkPairModel" "open" "[I") (by decide +kernel)
  have k_4 := hts (.fieldLink RX7 26 "LinkPairModel" "sentLatest" "[I") (by decide +kernel)
  have k_5 := hts (.fieldLink RX7 35 "LinkPairModel" "waits" "[I") (by decide +kernel)
  have hl := lv_entry ([.ref (h0), .int (nI (ed))]) (n := 5) (Nat.le_of_ble_eq_true rfl)
  rw [lg_entry_eq]
  generalize (lg_sl ([.ref (h0), .int (nI (ed))]) ++ List.replicate (5 - (lg_sl ([.ref (h0), .int (nI (ed))])).length) Slot.unset).toArray = ls at hl ⊢
  have hl : lv_has ls 5 [(0, .ref (h0)), (1, .int (nI (ed)))] := hl
  refine mw_start (fun H locs hw => ?_) hw
  refine lv_aload_n hx hb dX7_send_0 rfl (lv_at hl 0 rfl) ?_
  refine lv_iload_n hx hb dX7_send_1 rfl (lv_at hl 1 rfl) ?_
  refine mw_ci hC hw (va_runS (As := [.int (nI (ed))]) (rest := [.ref (h0)]) ⟨hx, hb, hml, hown, hts⟩ (c_X7_isEnd l G _ H.size ed  (by omega)) (cwS 1 hts gX7_send_X7_isEnd rfl rfl rfl (by decide +kernel) ⟨Nat.le_of_ble_eq_true rfl, Nat.le_of_ble_eq_true rfl⟩) (mw_preS hC hw) rfl rfl hl.1 rfl (lv_room (Nat.le_of_ble_eq_true rfl)) dX7_send_2 ⟨Nat.le_of_ble_eq_true rfl, Nat.le_of_ble_eq_true rfl⟩) (fun H locs hz hw => ?_)
  refine lv_if_ne (tgt := 12) hx hb dX7_send_5 (by decide) (fun c_1 => ?_) (fun c_1 => ?_)
  · skip
    refine lv_aload_n hx hb dX7_send_12 rfl (lv_at hl 0 rfl) ?_
    refine mw_get (C := RX7) (T := TX7) (N := 27) (v := .ref (a 1)) hx hb hts inX7_send_X7 hown hC hw hm.1 rfl 1 (by decide) k_0 rfl dX7_send_13 ?_
    refine lv_iload_n hx hb dX7_send_16 rfl (lv_at hl 1 rfl) ?_
    refine md_ald 1 (n := 2) hx hb hC hw hm rfl (by decide) rfl (by omega) (by decide) dX7_send_17 ?_
    refine lv_bipush (v := nI 40) hx hb dX7_send_18 (by decide) ?_
    refine lv_icmp_eq (tgt := 32) hx hb dX7_send_20 (by decide) (fun c_2 => ?_) (fun c_2 => ?_)
    · skip
      have c_2 : A 1 ed = 40 := (nI_eq (a := A 1 ed) (b := 40) (by omega) (by omega)).mp c_2
      exfalso; omega
    · skip
      have c_2 : A 1 ed ≠ 40 := fun h => c_2 ((nI_eq (a := A 1 ed) (b := 40) (by omega) (by omega)).mpr h)
      refine lv_aload_n hx hb dX7_send_23 rfl (lv_at hl 0 rfl) ?_
      refine mw_get (C := RX7) (T := TX7) (N := 27) (v := .ref (a 20)) hx hb hts inX7_send_X7 hown hC hw hm.1 rfl 20 (by decide) k_1 rfl dX7_send_24 ?_
      refine lv_iload_n hx hb dX7_send_27 rfl (lv_at hl 1 rfl) ?_
      refine md_zld 20 (n := 2) hx hb hC hw hm rfl (by decide) rfl (by omega) (by decide) dX7_send_28 ?_
      refine lv_if_eq (tgt := 36) hx hb dX7_send_29 (by decide) (fun c_3 => ?_) (fun c_3 => ?_)
      · skip
        have c_3 : A 20 ed = 0 := (nI_eq (a := A 20 ed) (b := 0) (by omega) (by omega)).mp c_3
        refine lv_iconst (v := nI 0) hx hb dX7_send_36 (by decide) ?_
        refine md_ci hC hw (va_runV (As := [.int (nI (0))]) (rest := []) ⟨hx, hb, hml, hown, hts⟩ (c_X7_refuses l G _ H.size h0 a c u A 0 hm (by omega)) (cwV 1 hts gX7_send_X7_refuses rfl rfl rfl (by decide +kernel) ⟨Nat.le_of_ble_eq_true rfl, Nat.le_of_ble_eq_true rfl⟩) (mw_preV (ci := 7) hC hw rfl hm.1) rfl rfl hl.1 rfl (lv_room (Nat.le_of_ble_eq_true rfl)) dX7_send_37 ⟨Nat.le_of_ble_eq_true rfl, Nat.le_of_ble_eq_true rfl⟩) (fun M1 H locs hm hf1 hw => ?_)
        have hf := hf.tr hf1
        refine mw_ti (v' := nI (0)) rfl ?_
        refine lv_if_eq (tgt := 45) hx hb dX7_send_40 (by decide) (fun c_4 => ?_) (fun c_4 => ?_)
        · skip
          refine lv_bipush (v := nI 127) hx hb dX7_send_45 (by decide) ?_
          refine lv_iload_n hx hb dX7_send_47 rfl (lv_at hl 1 rfl) ?_
          refine lv_imul hx hb dX7_send_48 ?_
          refine mw_ti (v' := nI (127 * ed)) (pk_mul _ _) ?_
          refine lv_istore_n (lv' := [(2, .int (nI (127 * ed))), (0, .ref (h0)), (1, .int (nI (ed)))]) hx hb dX7_send_49 rfl hl (by decide) rfl (fun ls hl => ?_)
          refine lv_aload_n hx hb dX7_send_50 rfl (lv_at hl 1 rfl) ?_
          refine mw_get (C := RX7) (T := TX7) (N := 27) (v := .ref (a 16)) hx hb hts inX7_send_X7 hown hC hw hm.1 rfl 16 (by decide) k_2 rfl dX7_send_51 ?_
          refine lv_iload_n hx hb dX7_send_54 rfl (lv_at hl 2 rfl) ?_
          refine md_ald 16 (n := 2) hx hb hC hw hm rfl (by decide) rfl (by omega) (by decide) dX7_send_55 ?_
          refine lv_aload_n hx hb dX7_send_56 rfl (lv_at hl 1 rfl) ?_
          refine mw_get (C := RX7) (T := TX7) (N := 27) (v := .ref (a 12)) hx hb hts inX7_send_X7 hown hC hw hm.1 rfl 12 (by decide) k_3 rfl dX7_send_57 ?_
          refine lv_iload_n hx hb dX7_send_60 rfl (lv_at hl 2 rfl) ?_
          refine md_ald 12 (n := 2) hx hb hC hw hm rfl (by decide) rfl (by omega) (by decide) dX7_send_61 ?_
          refine lv_icmp_ge (tgt := 109) hx hb dX7_send_62 (by decide) (fun c_5 => ?_) (fun c_5 => ?_)
          · skip
            have c_5 : A 16 ed ≥ A 12 ed := (nI_leI (a := A 12 ed) (b := A 16 ed) (by omega) (by omega)).mp c_5
            refine lv_aload_n hx hb dX7_send_109 rfl (lv_at hl 1 rfl) ?_
            refine mw_get (C := RX7) (T := TX7) (N := 27) (v := .ref (a 12)) hx hb hts inX7_send_X7 hown hC hw hm.1 rfl 12 (by decide) k_3 rfl dX7_send_110 ?_
            refine lv_iload_n hx hb dX7_send_113 rfl (lv_at hl 2 rfl) ?_
            refine md_ald 12 (n := 2) hx hb hC hw hm rfl (by decide) rfl (by omega) (by decide) dX7_send_114 ?_
            refine lv_bipush (v := nI 127) hx hb dX7_send_115 (by decide) ?_
            refine lv_icmp_eq (tgt := 129) hx hb dX7_send_117 (by decide) (fun c_6 => ?_) (fun c_6 => ?_)
            · skip
              have c_6 : A 12 ed = 127 := (nI_eq (a := A 12 ed) (b := 127) (by omega) (by omega)).mp c_6
              refine lv_aload_n hx hb dX7_send_129 rfl (lv_at hl 1 rfl) ?_
              refine lv_iload_n hx hb dX7_send_130 rfl (lv_at hl 2 rfl) ?_
              refine lv_aload_n hx hb dX7_send_131 rfl (lv_at hl 1 rfl) ?_
              refine mw_get (C := RX7) (T := TX7) (N := 27) (v := .ref (a 6)) hx hb hts inX7_send_X7 hown hC hw hm.1 rfl 6 (by decide) k_4 rfl dX7_send_132 ?_
              refine lv_iload_n hx hb dX7_send_135 rfl (lv_at hl 2 rfl) ?_
              refine md_ald 6 (n := 2) hx hb hC hw hm rfl (by decide) rfl (by omega) (by decide) dX7_send_136 ?_
              refine lv_iconst (v := nI 0) hx hb dX7_send_137 (by decide) ?_
              refine lv_iconst (v := nI 0) hx hb dX7_send_138 (by decide) ?_
              refine md_cv hC hw (va_runV (As := [.int (nI (ed)), .int (nI (A 6 ed)), .int (nI (0)), .int (nI (0))]) (rest := []) ⟨hx, hb, hml, hown, hts⟩ (c_X7_frame l G _ H.size h0 a 0 u A ed (A 6 ed) 0 0 hm (by omega) (h1_) (by omega) (by omega) (by omega) (h7) (h5) (h4) (hug)) (cwV 4 hts gX7_send_X7_frame rfl rfl rfl (by decide +kernel) ⟨Nat.le_of_ble_eq_true rfl, Nat.le_of_ble_eq_true rfl⟩) (mw_preV (ci := 7) hC hw rfl hm.1) rfl rfl hl.1 rfl (lv_room (Nat.le_of_ble_eq_true rfl)) dX7_send_139 ⟨Nat.le_of_ble_eq_true rfl, Nat.le_of_ble_eq_true rfl⟩) (fun M1 H locs hm hf1 hw => ?_)
              have hf := hf.tr hf1
              refine lv_iconst (v := nI 0) hx hb dX7_send_142 (by decide) ?_
              exact md_iret hx hb hr hlocks hw hm hf (rfl) dX7_send_143
            · skip
              have c_6 : A 12 ed ≠ 127 := fun h => c_6 ((nI_eq (a := A 12 ed) (b := 127) (by omega) (by omega)).mpr h)
              refine lv_aload_n hx hb dX7_send_120 rfl (lv_at hl 1 rfl) ?_
              refine mw_get (C := RX7) (T := TX7) (N := 27) (v := .ref (a 9)) hx hb hts inX7_send_X7 hown hC hw hm.1 rfl 9 (by decide) k_5 rfl dX7_send_121 ?_
              refine lv_iload_n hx hb dX7_send_124 rfl (lv_at hl 2 rfl) ?_
              refine md_ald 9 (n := 2) hx hb hC hw hm rfl (by decide) rfl (by omega) (by decide) dX7_send_125 ?_
              refine lv_if_ne (tgt := 144) hx hb dX7_send_126 (by decide) (fun c_7 => ?_) (fun c_7 => ?_)
              · skip
                have c_7 : A 9 ed ≠ 0 := fun h => c_7 ((nI_eq (a := A 9 ed) (b := 0) (by omega) (by omega)).mpr h)
                exfalso; omega
              · skip
                have c_7 : A 9 ed = 0 := (nI_eq (a := A 9 ed) (b := 0) (by omega) (by omega)).mp c_7
                refine lv_aload_n hx hb dX7_send_129 rfl (lv_at hl 1 rfl) ?_
                refine lv_iload_n hx hb dX7_send_130 rfl (lv_at hl 2 rfl) ?_
                refine lv_aload_n hx hb dX7_send_131 rfl (lv_at hl 1 rfl) ?_
                refine mw_get (C := RX7) (T := TX7) (N := 27) (v := .ref (a 6)) hx hb hts inX7_send_X7 hown hC hw hm.1 rfl 6 (by decide) k_4 rfl dX7_send_132 ?_
                refine lv_iload_n hx hb dX7_send_135 rfl (lv_at hl 2 rfl) ?_
                refine md_ald 6 (n := 2) hx hb hC hw hm rfl (by decide) rfl (by omega) (by decide) dX7_send_136 ?_
                refine lv_iconst (v := nI 0) hx hb dX7_send_137 (by decide) ?_
                refine lv_iconst (v := nI 0) hx hb dX7_send_138 (by decide) ?_
                refine md_cv hC hw (va_runV (As := [.int (nI (ed)), .int (nI (A 6 ed)), .int (nI (0)), .int (nI (0))]) (rest := []) ⟨hx, hb, hml, hown, hts⟩ (c_X7_frame l G _ H.size h0 a 0 u A ed (A 6 ed) 0 0 hm (by omega) (h1_) (by omega) (by omega) (by omega) (h7) (h5) (h4) (hug)) (cwV 4 hts gX7_send_X7_frame rfl rfl rfl (by decide +kernel) ⟨Nat.le_of_ble_eq_true rfl, Nat.le_of_ble_eq_true rfl⟩) (mw_preV (ci := 7) hC hw rfl hm.1) rfl rfl hl.1 rfl (lv_room (Nat.le_of_ble_eq_true rfl)) dX7_send_139 ⟨Nat.le_of_ble_eq_true rfl, Nat.le_of_ble_eq_true rfl⟩) (fun M1 H locs hm hf1 hw => ?_)
                have hf := hf.tr hf1
                refine lv_iconst (v := nI 0) hx hb dX7_send_142 (by decide) ?_
                exact md_iret hx hb hr hlocks hw hm hf (rfl) dX7_send_143
          · skip
            have c_5 : A 16 ed < A 12 ed := Nat.not_le.mp (fun h => c_5 ((nI_leI (a := A 12 ed) (b := A 16 ed) (by omega) (by omega)).mpr h))
            exfalso; omega
        · skip
          exact absurd c_4 (by decide)
      · skip
        have c_3 : A 20 ed ≠ 0 := fun h => c_3 ((nI_eq (a := A 20 ed) (b := 0) (by omega) (by omega)).mpr h)
        exfalso; omega
  · skip
    exact absurd c_1 (by decide)
