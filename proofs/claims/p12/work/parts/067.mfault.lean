/-! ===== LinkPairModel: goes, drop, fault ===== -/
theorem inX7_goes_X7 : ∀ w ∈ wsX70, w ∈ wsX7_goes := by decide +kernel
def RM_X7_goes : Room := { frames := 0, cells := 0, slots := 0, locals := 0 }
set_option maxHeartbeats 4000000 in
set_option maxRecDepth 100000 in
theorem c_X7_goes (l : Launch) (G : mw_G) (M : mw_M) (sz : Nat) (h0 : Nat) (a : Nat → Nat) (c u : Nat) (A : md_S) (ed fx : Nat) (hm : md_at G M h0 a c u A) (hed : ed ≤ 1) (hfx : fx < A 1 ed) (hf2 : A 1 ed ≤ 40) (hq : ∀ j, j < 80 → A 2 j ≤ 3000) : Met l yX7_goes wsX7_goes RM_X7_goes (mw_pre G M sz [.ref (h0), .int (nI (ed)), .int (nI (fx))]) (md_Qv G M sz h0 a c u (md_u ((va_up ((va_up A 2 (shf (A 2) (40 * ed + fx) (A 1 ed - 1 - fx)))) 3 (mgo (A 2) (A 3) (40 * ed + fx) (A 1 ed - 1 - fx)))) 1 ed (A 1 ed - 1))) 0 0 (mw_A M sz) := by
  refine Met.ofW (cc := cX7_goes) (maxL := 5) (ret := none) (by decide) rfl ?_
  intro p e s m args below meth c0 s₁ B hml hv
  obtain ⟨rfl, rfl, hC, hw⟩ := mw_in hv
  have hx := B.exec
  have hb := B.bytes
  have hr := B.returns
  have hts := atoms_spec (ws := wsX7_goes) B.pre
  have hown : s.vm.findClass RX7 = some m.cls := findClass_of_methodNamed B.named
  have hlocks := B.notSynchronized
  have hf : md_fr h0 a M M := md_fr.rf
  have k_0 := hts (.fieldLink RX7 7 "LinkPairModel" "frames" "[I") (by decide +kernel)
  have k_1 := hts (.fieldLink RX7 13 "LinkPairModel" "lengths" "[I") (by decide +kernel)
  have k_2 := hts (.fieldLink RX7 17 "LinkPairModel" "bits" "[I") (by decide +kernel)
  have hl := lv_entry ([.ref (h0), .int (nI (ed)), .int (nI (fx))]) (n := 5) (Nat.le_of_ble_eq_true rfl)
  rw [lg_entry_eq]
  generalize (lg_sl ([.ref (h0), .int (nI (ed)), .int (nI (fx))]) ++ List.replicate (5 - (lg_sl ([.ref (h0), .int (nI (ed)), .int (nI (fx))])).length) Slot.unset).toArray = ls at hl ⊢
  have hl : lv_has ls 5 [(0, .ref (h0)), (1, .int (nI (ed))), (2, .int (nI (fx)))] := hl
  refine mw_start (fun H locs hw => ?_) hw
  refine lv_bipush (v := nI 40) hx hb dX7_goes_0 (by decide) ?_
  refine lv_iload_n hx hb dX7_goes_2 rfl (lv_at hl 1 rfl) ?_
  refine lv_imul hx hb dX7_goes_3 ?_
  refine mw_ti (v' := nI (40 * ed)) (pk_mul _ _) ?_
  refine lv_iload_n hx hb dX7_goes_4 rfl (lv_at hl 2 rfl) ?_
  refine lv_iadd hx hb dX7_goes_5 ?_
  refine mw_ti (v' := nI (40 * ed + fx)) (nI_add _ _) ?_
  refine lv_istore_n (lv' := [(3, .int (nI (40 * ed + fx))), (0, .ref (h0)), (1, .int (nI (ed))), (2, .int (nI (fx)))]) hx hb dX7_goes_6 rfl hl (by decide) rfl (fun ls hl => ?_)
  have lp_1 : ∀ (n9 : Nat) (i : Nat), (hi : i + fx + 1 ≤ A 1 ed) → A 1 ed - i < n9 → ∀ (M1 : mw_M) (H : Heap) (locs : List Loc) (ls : Array Slot), md_at G M1 h0 a c u (va_up ((va_up A 2 (shf (A 2) (40 * ed + fx) i))) 3 (mgo (A 2) (A 3) (40 * ed + fx) i)) → md_fr h0 a M M1 → mw_St G (mw_A M s.heap.size) s M1 H locs → lv_has ls 5 [(0, .ref (h0)), (1, .int (nI (ed))), (3, .int (nI (40 * ed + fx + i)))] → W p l e (headSpec wsX7_goes RM_X7_goes).room s m ([.ref (h0), .int (nI (ed)), .int (nI (fx))] : List Value).toArray below meth c0 H locs 0 0 (MQ below (md_Qv G M s.heap.size h0 a c u (md_u ((va_up ((va_up A 2 (shf (A 2) (40 * ed + fx) (A 1 ed - 1 - fx)))) 3 (mgo (A 2) (A 3) (40 * ed + fx) (A 1 ed - 1 - fx)))) 1 ed (A 1 ed - 1))) ([.ref (h0), .int (nI (ed)), .int (nI (fx))] : List Value).toArray s 0 0 (mw_A M s.heap.size)) (F0 m 7 ls []) := by
    intro n9
    induction n9 with
    | zero => intro i hi h9; exact absurd h9 (Nat.not_lt_zero _)
    | succ n9 ih =>
      intro i hi h9 M1 H locs ls hm hf hw hl
      refine lv_iload_n hx hb dX7_goes_7 rfl (lv_at hl 2 rfl) ?_
      refine lv_iconst (v := nI 1) hx hb dX7_goes_8 (by decide) ?_
      refine lv_iadd hx hb dX7_goes_9 ?_
      refine mw_ti (v' := nI (40 * ed + fx + i + 1)) (nI_add _ _) ?_
      refine lv_bipush (v := nI 40) hx hb dX7_goes_10 (by decide) ?_
      refine lv_iload_n hx hb dX7_goes_12 rfl (lv_at hl 1 rfl) ?_
      refine lv_imul hx hb dX7_goes_13 ?_
      refine mw_ti (v' := nI (40 * ed)) (pk_mul _ _) ?_
      refine lv_aload_n hx hb dX7_goes_14 rfl (lv_at hl 0 rfl) ?_
      refine mw_get (C := RX7) (T := TX7) (N := 27) (v := .ref (a 1)) hx hb hts inX7_goes_X7 hown hC hw hm.1 rfl 1 (by decide) k_0 rfl dX7_goes_15 ?_
      refine lv_iload_n hx hb dX7_goes_18 rfl (lv_at hl 1 rfl) ?_
      refine md_ald 1 (n := 2) hx hb hC hw hm rfl (by decide) rfl (by omega) (by decide) dX7_goes_19 ?_
      refine mw_ti (v' := nI (A 1 ed)) (congrArg nI ((md_w_k (by decide)).trans (md_w_k (by decide)))) ?_
      refine lv_iadd hx hb dX7_goes_20 ?_
      refine mw_ti (v' := nI (40 * ed + A 1 ed)) (nI_add _ _) ?_
      refine lv_icmp_ge (tgt := 94) hx hb dX7_goes_21 (by decide) (fun c_2 => ?_) (fun c_2 => ?_)
      · skip
        have c_2 : 40 * ed + fx + i + 1 ≥ 40 * ed + A 1 ed := (nI_leI (a := 40 * ed + A 1 ed) (b := 40 * ed + fx + i + 1) (by omega) (by omega)).mp c_2
        obtain rfl : i = A 1 ed - 1 - fx := by omega
        refine lv_aload_n hx hb dX7_goes_94 rfl (lv_at hl 0 rfl) ?_
        refine mw_get (C := RX7) (T := TX7) (N := 27) (v := .ref (a 1)) hx hb hts inX7_goes_X7 hown hC hw hm.1 rfl 1 (by decide) k_0 rfl dX7_goes_95 ?_
        refine lv_iload_n hx hb dX7_goes_98 rfl (lv_at hl 1 rfl) ?_
        refine lv_dup2_11 hx hb dX7_goes_99 rfl rfl ?_
        refine md_ald 1 (n := 2) hx hb hC hw hm rfl (by decide) rfl (by omega) (by decide) dX7_goes_100 ?_
        refine mw_ti (v' := nI (A 1 ed)) (congrArg nI ((md_w_k (by decide)).trans (md_w_k (by decide)))) ?_
        refine lv_iconst (v := nI 1) hx hb dX7_goes_101 (by decide) ?_
        refine lv_isub hx hb dX7_goes_102 ?_
        refine mw_ti (v' := nI (A 1 ed - 1)) (pk_sub (by omega)) ?_
        refine md_ast 1 (n := 2) (v := A 1 ed - 1) hx hb hC hw hm rfl (by decide) rfl (by omega) (by decide) dX7_goes_103 (fun M1 H locs hm hf1 hw => ?_)
        have hf := hf.tr hf1
        exact md_vret hx hb hr hlocks hw hm hf dX7_goes_104
      · skip
        have c_2 : 40 * ed + fx + i + 1 < 40 * ed + A 1 ed := Nat.not_le.mp (fun h => c_2 ((nI_leI (a := 40 * ed + A 1 ed) (b := 40 * ed + fx + i + 1) (by omega) (by omega)).mpr h))
        refine lv_aload_n hx hb dX7_goes_24 rfl (lv_at hl 0 rfl) ?_
        refine mw_get (C := RX7) (T := TX7) (N := 27) (v := .ref (a 2)) hx hb hts inX7_goes_X7 hown hC hw hm.1 rfl 2 (by decide) k_1 rfl dX7_goes_25 ?_
        refine lv_iload_n hx hb dX7_goes_28 rfl (lv_at hl 2 rfl) ?_
        refine lv_aload_n hx hb dX7_goes_29 rfl (lv_at hl 0 rfl) ?_
        refine mw_get (C := RX7) (T := TX7) (N := 27) (v := .ref (a 2)) hx hb hts inX7_goes_X7 hown hC hw hm.1 rfl 2 (by decide) k_1 rfl dX7_goes_30 ?_
        refine lv_iload_n hx hb dX7_goes_33 rfl (lv_at hl 2 rfl) ?_
        refine lv_iconst (v := nI 1) hx hb dX7_goes_34 (by decide) ?_
        refine lv_iadd hx hb dX7_goes_35 ?_
        refine mw_ti (v' := nI (40 * ed + fx + i + 1)) (nI_add _ _) ?_
        refine md_ald 2 (n := 80) hx hb hC hw hm rfl (by decide) rfl (by omega) (by decide) dX7_goes_36 ?_
        refine mw_ti (v' := nI ((shf (A 2) (40 * ed + fx) i) (40 * ed + fx + i + 1))) (congrArg nI ((md_w_k (by decide)).trans md_w_s)) ?_
        refine md_ast 2 (n := 80) (v := (shf (A 2) (40 * ed + fx) i) (40 * ed + fx + i + 1)) hx hb hC hw hm rfl (by decide) rfl (by omega) (by decide) dX7_goes_37 (fun M1 H locs hm hf1 hw => ?_)
        have hf := hf.tr hf1
        refine lv_iconst (v := nI 0) hx hb dX7_goes_38 (by decide) ?_
        refine lv_istore (lv' := [(4, .int (nI (0))), (0, .ref (h0)), (1, .int (nI (ed))), (3, .int (nI (40 * ed + fx + i)))]) hx hb dX7_goes_39 hl (by decide) rfl (fun ls hl => ?_)
        have lp_3 : ∀ (n9 : Nat) (k : Nat), (hk : k ≤ A 2 (40 * ed + fx + i + 1)) → A 2 (40 * ed + fx + i + 1) - k < n9 → ∀ (M1 : mw_M) (H : Heap) (locs : List Loc) (ls : Array Slot), md_at G M1 h0 a c u (va_up ((va_up A 2 (shf (A 2) (40 * ed + fx) (i + 1)))) 3 (mcp (mgo (A 2) (A 3) (40 * ed + fx) i) (40 * ed + fx + i) k)) → md_fr h0 a M M1 → mw_St G (mw_A M s.heap.size) s M1 H locs → lv_has ls 5 [(0, .ref (h0)), (1, .int (nI (ed))), (3, .int (nI (40 * ed + fx + i))), (4, .int (nI (k)))] → W p l e (headSpec wsX7_goes RM_X7_goes).room s m ([.ref (h0), .int (nI (ed)), .int (nI (fx))] : List Value).toArray below meth c0 H locs 0 0 (MQ below (md_Qv G M s.heap.size h0 a c u (md_u ((va_up ((va_up A 2 (shf (A 2) (40 * ed + fx) (A 1 ed - 1 - fx)))) 3 (mgo (A 2) (A 3) (40 * ed + fx) (A 1 ed - 1 - fx)))) 1 ed (A 1 ed - 1))) ([.ref (h0), .int (nI (ed)), .int (nI (fx))] : List Value).toArray s 0 0 (mw_A M s.heap.size)) (F0 m 41 ls []) := by
          intro n9
          induction n9 with
          | zero => intro k hk h9; exact absurd h9 (Nat.not_lt_zero _)
          | succ n9 ih41 =>
            intro k hk h9 M1 H locs ls hm hf hw hl
            have hqi := hq (40 * ed + fx + i + 1) (by omega)
            refine lv_iload hx hb dX7_goes_41 (lv_at hl 3 rfl) ?_
            refine lv_aload_n hx hb dX7_goes_43 rfl (lv_at hl 0 rfl) ?_
            refine mw_get (C := RX7) (T := TX7) (N := 27) (v := .ref (a 2)) hx hb hts inX7_goes_X7 hown hC hw hm.1 rfl 2 (by decide) k_1 rfl dX7_goes_44 ?_
            refine lv_iload_n hx hb dX7_goes_47 rfl (lv_at hl 2 rfl) ?_
            refine md_ald 2 (n := 80) hx hb hC hw hm rfl (by decide) rfl (by omega) (by decide) dX7_goes_48 ?_
            refine mw_ti (v' := nI ((shf (A 2) (40 * ed + fx) (i + 1)) (40 * ed + fx + i))) (congrArg nI ((md_w_k (by decide)).trans md_w_s)) ?_
            refine mw_ti (v' := nI (A 2 (40 * ed + fx + i + 1))) (congrArg nI (shf_at _ _ _)) ?_
            refine lv_icmp_ge (tgt := 88) hx hb dX7_goes_49 (by decide) (fun c_4 => ?_) (fun c_4 => ?_)
            · skip
              have c_4 : k ≥ A 2 (40 * ed + fx + i + 1) := (nI_leI (a := A 2 (40 * ed + fx + i + 1)) (b := k) (by omega) (by omega)).mp c_4
              obtain rfl : k = A 2 (40 * ed + fx + i + 1) := by omega
              refine lv_iinc (v := nI (40 * ed + fx + i + 1)) (lv' := [(3, .int (nI (40 * ed + fx + i + 1))), (0, .ref (h0)), (1, .int (nI (ed))), (4, .int (nI (A 2 (40 * ed + fx + i + 1))))]) hx hb dX7_goes_88 hl (k := 2) rfl (by rw [show Int32.ofInt 1 = nI 1 by decide]; exact nI_add _ _) (by decide) rfl (fun ls hl => ?_)
              refine lv_goto (tgt := 7) hx hb dX7_goes_91 (by decide) ?_
              have hA_5 : va_up ((va_up A 2 (shf (A 2) (40 * ed + fx) (i + 1)))) 3 (mcp (mgo (A 2) (A 3) (40 * ed + fx) i) (40 * ed + fx + i) (A 2 (40 * ed + fx + i + 1))) = va_up ((va_up A 2 (shf (A 2) (40 * ed + fx) (i + 1)))) 3 (mgo (A 2) (A 3) (40 * ed + fx) (i + 1)) := by rfl
              rw [hA_5] at hm
              have hv_6 : (.int (nI (40 * ed + fx + i + 1)) : Value) = .int (nI (40 * ed + fx + (i + 1))) := by first | rfl | simp_all
              rw [hv_6] at hl
              exact ih  (i + 1) (by omega) (by omega) _ _ _ ls hm hf hw (lv_sub hl [1, 2, 0] rfl)
            · skip
              have c_4 : k < A 2 (40 * ed + fx + i + 1) := Nat.not_le.mp (fun h => c_4 ((nI_leI (a := A 2 (40 * ed + fx + i + 1)) (b := k) (by omega) (by omega)).mpr h))
              refine lv_aload_n hx hb dX7_goes_52 rfl (lv_at hl 0 rfl) ?_
              refine mw_get (C := RX7) (T := TX7) (N := 27) (v := .ref (a 3)) hx hb hts inX7_goes_X7 hown hC hw hm.1 rfl 3 (by decide) k_2 rfl dX7_goes_53 ?_
              refine lv_sipush (v := nI 3000) hx hb dX7_goes_56 (by decide) ?_
              refine lv_iload_n hx hb dX7_goes_59 rfl (lv_at hl 2 rfl) ?_
              refine lv_imul hx hb dX7_goes_60 ?_
              refine mw_ti (v' := nI (3000 * (40 * ed + fx + i))) (pk_mul _ _) ?_
              refine lv_iload hx hb dX7_goes_61 (lv_at hl 3 rfl) ?_
              refine lv_iadd hx hb dX7_goes_63 ?_
              refine mw_ti (v' := nI (3000 * (40 * ed + fx + i) + k)) (nI_add _ _) ?_
              refine lv_aload_n hx hb dX7_goes_64 rfl (lv_at hl 0 rfl) ?_
              refine mw_get (C := RX7) (T := TX7) (N := 27) (v := .ref (a 3)) hx hb hts inX7_goes_X7 hown hC hw hm.1 rfl 3 (by decide) k_2 rfl dX7_goes_65 ?_
              refine lv_sipush (v := nI 3000) hx hb dX7_goes_68 (by decide) ?_
              refine lv_iload_n hx hb dX7_goes_71 rfl (lv_at hl 2 rfl) ?_
              refine lv_imul hx hb dX7_goes_72 ?_
              refine mw_ti (v' := nI (3000 * (40 * ed + fx + i))) (pk_mul _ _) ?_
              refine lv_sipush (v := nI 3000) hx hb dX7_goes_73 (by decide) ?_
              refine lv_iadd hx hb dX7_goes_76 ?_
              refine mw_ti (v' := nI (3000 * (40 * ed + fx + i) + 3000)) (nI_add _ _) ?_
              refine lv_iload hx hb dX7_goes_77 (lv_at hl 3 rfl) ?_
              refine lv_iadd hx hb dX7_goes_79 ?_
              refine mw_ti (v' := nI (3000 * (40 * ed + fx + i) + 3000 + k)) (nI_add _ _) ?_
              refine md_ald 3 (n := 240000) hx hb hC hw hm rfl (by decide) rfl (by omega) (by decide) dX7_goes_80 ?_
              refine mw_ti (v' := nI ((mcp (mgo (A 2) (A 3) (40 * ed + fx) i) (40 * ed + fx + i) k) (3000 * (40 * ed + fx + i) + 3000 + k))) (congrArg nI md_w_s) ?_
              refine md_ast 3 (n := 240000) (v := (mcp (mgo (A 2) (A 3) (40 * ed + fx) i) (40 * ed + fx + i) k) (3000 * (40 * ed + fx + i) + 3000 + k)) hx hb hC hw hm rfl (by decide) rfl (by omega) (by decide) dX7_goes_81 (fun M1 H locs hm hf1 hw => ?_)
              have hf := hf.tr hf1
              refine lv_iinc (v := nI (k + 1)) (lv' := [(4, .int (nI (k + 1))), (0, .ref (h0)), (1, .int (nI (ed))), (3, .int (nI (40 * ed + fx + i)))]) hx hb dX7_goes_82 hl (k := 3) rfl (by rw [show Int32.ofInt 1 = nI 1 by decide]; exact nI_add _ _) (by decide) rfl (fun ls hl => ?_)
              refine lv_goto (tgt := 41) hx hb dX7_goes_85 (by decide) ?_
              have hA_7 : md_u ((va_up ((va_up A 2 (shf (A 2) (40 * ed + fx) (i + 1)))) 3 (mcp (mgo (A 2) (A 3) (40 * ed + fx) i) (40 * ed + fx + i) k))) 3 (3000 * (40 * ed + fx + i) + k) ((mcp (mgo (A 2) (A 3) (40 * ed + fx) i) (40 * ed + fx + i) k) (3000 * (40 * ed + fx + i) + 3000 + k)) = va_up ((va_up A 2 (shf (A 2) (40 * ed + fx) (i + 1)))) 3 (mcp (mgo (A 2) (A 3) (40 * ed + fx) i) (40 * ed + fx + i) (k + 1)) := by rw [md_uw, mcp_s _ _ _ (by omega)]
              rw [hA_7] at hm
              exact ih41  (k + 1) (by omega) (by omega) _ _ _ ls hm hf hw (lv_sub hl [1, 2, 3, 0] rfl)
        have hA_8 : md_u ((va_up ((va_up A 2 (shf (A 2) (40 * ed + fx) i))) 3 (mgo (A 2) (A 3) (40 * ed + fx) i))) 2 (40 * ed + fx + i) ((shf (A 2) (40 * ed + fx) i) (40 * ed + fx + i + 1)) = va_up ((va_up A 2 (shf (A 2) (40 * ed + fx) (i + 1)))) 3 (mcp (mgo (A 2) (A 3) (40 * ed + fx) i) (40 * ed + fx + i) 0) := by exact mg_in
        rw [hA_8] at hm
        exact lp_3 (A 2 (40 * ed + fx + i + 1) - 0 + 1) 0 (by omega) (Nat.lt_succ_self _) _ _ _ ls hm hf hw (lv_sub hl [1, 2, 3, 0] rfl)
  have hA_9 : A = va_up ((va_up A 2 (shf (A 2) (40 * ed + fx) 0))) 3 (mgo (A 2) (A 3) (40 * ed + fx) 0) := by exact mg_w0
  rw [hA_9] at hm
  have hv_10 : (.int (nI (40 * ed + fx)) : Value) = .int (nI (40 * ed + fx + 0)) := by first | rfl | simp_all
  rw [hv_10] at hl
  exact lp_1 (A 1 ed - 0 + 1) 0 (by omega) (Nat.lt_succ_self _) _ _ _ ls hm hf hw (lv_sub hl [1, 2, 0] rfl)
theorem inX7_drop_X7 : ∀ w ∈ wsX70, w ∈ wsX7_drop := by decide +kernel
def RM_X7_drop : Room := { frames := 2, cells := 0, slots := 0, locals := 42 }
set_option maxHeartbeats 4000000 in
set_option maxRecDepth 100000 in
theorem c_X7_drop (l : Launch) (G : mw_G) (M : mw_M) (sz : Nat) (h0 : Nat) (a : Nat → Nat) (c u : Nat) (A : md_S) (ed fx : Nat) (hm : md_at G M h0 a c u A) (hed : ed ≤ 1) (hfx : fx < A 1 ed) (hf2 : A 1 ed ≤ 40) (hq : ∀ j, j < 80 → A 2 j ≤ 3000) : Met l yX7_drop wsX7_drop RM_X7_drop (mw_pre G M sz [.ref (h0), .int (nI (ed)), .int (nI (fx))]) (md_Qi G M sz h0 a (nI (A 2 (40 * ed + fx))) 0 u (md_u ((va_up ((va_up A 2 (shf (A 2) (40 * ed + fx) (A 1 ed - 1 - fx)))) 3 (mgo (A 2) (A 3) (40 * ed + fx) (A 1 ed - 1 - fx)))) 1 ed (A 1 ed - 1))) 0 0 (mw_A M sz) := by
  refine Met.ofW (cc := cX7_drop) (maxL := 4) (ret := (some .int)) (by decide) rfl ?_
  intro p e s m args below meth c0 s₁ B hml hv
  obtain ⟨rfl, rfl, hC, hw⟩ := mw_in hv
  have hx := B.exec
  have hb := B.bytes
  have hr := B.returns
  have hts := atoms_spec (ws := wsX7_drop) B.pre
  have hown : s.vm.findClass RX7 = some m.cls := findClass_of_methodNamed B.named
  have hlocks := B.notSynchronized
  have hf : md_fr h0 a M M := md_fr.rf
  have k_0 := hts (.fieldLink RX7 13 "LinkPairModel" "lengths" "[I") (by decide +kernel)
  have hl := lv_entry ([.ref (h0), .int (nI (ed)), .int (nI (fx))]) (n := 4) (Nat.le_of_ble_eq_true rfl)
  rw [lg_entry_eq]
  generalize (lg_sl ([.ref (h0), .int (nI (ed)), .int (nI (fx))]) ++ List.replicate (4 - (lg_sl ([.ref (h0), .int (nI (ed)), .int (nI (fx))])).length) Slot.unset).toArray = ls at hl ⊢
  have hl : lv_has ls 4 [(0, .ref (h0)), (1, .int (nI (ed))), (2, .int (nI (fx)))] := hl
  refine mw_start (fun H locs hw => ?_) hw
  refine lv_aload_n hx hb dX7_drop_0 rfl (lv_at hl 0 rfl) ?_
  refine lv_aload_n hx hb dX7_drop_1 rfl (lv_at hl 0 rfl) ?_
  refine lv_iload_n hx hb dX7_drop_2 rfl (lv_at hl 1 rfl) ?_
  refine lv_iload_n hx hb dX7_drop_3 rfl (lv_at hl 2 rfl) ?_
  refine md_ci hC hw (va_runV (As := [.int (nI (ed)), .int (nI (fx))]) (rest := [.ref (h0)]) ⟨hx, hb, hml, hown, hts⟩ (c_X7_isFrame l G _ H.size h0 a c u A ed fx hm (by omega) (by omega) (by omega)) (cwV 2 hts gX7_drop_X7_isFrame rfl rfl rfl (by decide +kernel) ⟨Nat.le_of_ble_eq_true rfl, Nat.le_of_ble_eq_true rfl⟩) (mw_preV (ci := 7) hC hw rfl hm.1) rfl rfl hl.1 rfl (lv_room (Nat.le_of_ble_eq_true rfl)) dX7_drop_4 ⟨Nat.le_of_ble_eq_true rfl, Nat.le_of_ble_eq_true rfl⟩) (fun M1 H locs hm hf1 hw => ?_)
  have hf := hf.tr hf1
  refine lv_if_eq (tgt := 14) hx hb dX7_drop_7 (by decide) (fun c_1 => ?_) (fun c_1 => ?_)
  · skip
    exact absurd c_1 (by decide)
  · skip
    refine lv_iconst (v := nI 0) hx hb dX7_drop_10 (by decide) ?_
    refine lv_goto (tgt := 15) hx hb dX7_drop_11 (by decide) ?_
    refine md_ci hC hw (va_runV (As := [.int (nI (0))]) (rest := []) ⟨hx, hb, hml, hown, hts⟩ (c_X7_refuses l G _ H.size h0 a c u A 0 hm (by omega)) (cwV 1 hts gX7_drop_X7_refuses rfl rfl rfl (by decide +kernel) ⟨Nat.le_of_ble_eq_true rfl, Nat.le_of_ble_eq_true rfl⟩) (mw_preV (ci := 7) hC hw rfl hm.1) rfl rfl hl.1 rfl (lv_room (Nat.le_of_ble_eq_true rfl)) dX7_drop_15 ⟨Nat.le_of_ble_eq_true rfl, Nat.le_of_ble_eq_true rfl⟩) (fun M1 H locs hm hf1 hw => ?_)
    have hf := hf.tr hf1
    refine mw_ti (v' := nI (0)) rfl ?_
    refine lv_if_eq (tgt := 23) hx hb dX7_drop_18 (by decide) (fun c_2 => ?_) (fun c_2 => ?_)
    · skip
      refine lv_aload_n hx hb dX7_drop_23 rfl (lv_at hl 0 rfl) ?_
      refine mw_get (C := RX7) (T := TX7) (N := 27) (v := .ref (a 2)) hx hb hts inX7_drop_X7 hown hC hw hm.1 rfl 2 (by decide) k_0 rfl dX7_drop_24 ?_
      refine lv_bipush (v := nI 40) hx hb dX7_drop_27 (by decide) ?_
      refine lv_iload_n hx hb dX7_drop_29 rfl (lv_at hl 1 rfl) ?_
      refine lv_imul hx hb dX7_drop_30 ?_
      refine mw_ti (v' := nI (40 * ed)) (pk_mul _ _) ?_
      refine lv_iload_n hx hb dX7_drop_31 rfl (lv_at hl 2 rfl) ?_
      refine lv_iadd hx hb dX7_drop_32 ?_
      refine mw_ti (v' := nI (40 * ed + fx)) (nI_add _ _) ?_
      refine md_ald 2 (n := 80) hx hb hC hw hm rfl (by decide) rfl (by omega) (by decide) dX7_drop_33 ?_
      refine lv_istore_n (lv' := [(3, .int (nI (A 2 (40 * ed + fx)))), (0, .ref (h0)), (1, .int (nI (ed))), (2, .int (nI (fx)))]) hx hb dX7_drop_34 rfl hl (by decide) rfl (fun ls hl => ?_)
      refine lv_aload_n hx hb dX7_drop_35 rfl (lv_at hl 1 rfl) ?_
      refine lv_iload_n hx hb dX7_drop_36 rfl (lv_at hl 2 rfl) ?_
      refine lv_iload_n hx hb dX7_drop_37 rfl (lv_at hl 3 rfl) ?_
      refine md_cv hC hw (va_runV (As := [.int (nI (ed)), .int (nI (fx))]) (rest := []) ⟨hx, hb, hml, hown, hts⟩ (c_X7_goes l G _ H.size h0 a 0 u A ed fx hm (by omega) (by omega) (by omega) (hq)) (cwV 2 hts gX7_drop_X7_goes rfl rfl rfl (by decide +kernel) ⟨Nat.le_of_ble_eq_true rfl, Nat.le_of_ble_eq_true rfl⟩) (mw_preV (ci := 7) hC hw rfl hm.1) rfl rfl hl.1 rfl (lv_room (Nat.le_of_ble_eq_true rfl)) dX7_drop_38 ⟨Nat.le_of_ble_eq_true rfl, Nat.le_of_ble_eq_true rfl⟩) (fun M1 H locs hm hf1 hw => ?_)
      have hf := hf.tr hf1
      refine lv_iload_n hx hb dX7_drop_41 rfl (lv_at hl 0 rfl) ?_
      exact md_iret hx hb hr hlocks hw hm hf (rfl) dX7_drop_42
    · skip
      exact absurd c_2 (by decide)
theorem inX7_fault_X7 : ∀ w ∈ wsX70, w ∈ wsX7_fault := by decide +kernel
def RM_X7_fault : Room := { frames := 2, cells := 0, slots := 0, locals := 46 }
set_option maxHeartbeats 4000000 in
set_option maxRecDepth 100000 in
theorem c_X7_fault (l : Launch) (G : mw_G) (M : mw_M) (sz : Nat) (h0 : Nat) (a : Nat → Nat) (c u : Nat) (A : md_S) (fr : Nat) (hm : md_at G M h0 a c u A) (hfr : fr < 80) (hq : A 2 fr ≤ 3000) (hbits : ∀ i, i < A 2 fr → A 3 (3000 * fr + i) ≤ 1) (hug : ∀ i, i < 280 → A 24 i < 256) : Met l yX7_fault wsX7_fault RM_X7_fault (mw_pre G M sz [.ref (h0), .int (nI (fr))]) (md_Qi G M sz h0 a (nI (mft A fr)) c (mfu A fr u) (mfA A fr)) 0 0 (mw_A M sz) := by
  refine Met.ofW (cc := cX7_fault) (maxL := 9) (ret := (some .int)) (by decide) rfl ?_
  intro p e s m args below meth c0 s₁ B hml hv
  obtain ⟨rfl, rfl, hC, hw⟩ := mw_in hv
  have hx := B.exec
  have hb := B.bytes
  have hr := B.returns
  have hts := atoms_spec (ws := wsX7_fault) B.pre
  have hown : s.vm.findClass RX7 = some m.cls := findClass_of_methodNamed B.named
  have hlocks := B.notSynchronized
  have hf : md_fr h0 a M M := md_fr.rf
  have k_0 := hts (.fieldLink RX7 13 "LinkPairModel" "lengths" "[I") (by decide +kernel)
  have k_1 := hts (.fieldLink RX7 128 "LinkPairModel" "unitLength" "I") (by decide +kernel)
  have k_2 := hts (.fieldLink RX7 81 "LinkPairModel" "unit" "[I") (by decide +kernel)
  have k_3 := hts (.fieldLink RX7 84 "LinkPairModel" "plain" "[I") (by decide +kernel)
  have k_4 := hts (.fieldLink RX7 17 "LinkPairModel" "bits" "[I") (by decide +kernel)
  have hl := lv_entry ([.ref (h0), .int (nI (fr))]) (n := 9) (Nat.le_of_ble_eq_true rfl)
  rw [lg_entry_eq]
  generalize (lg_sl ([.ref (h0), .int (nI (fr))]) ++ List.replicate (9 - (lg_sl ([.ref (h0), .int (nI (fr))])).length) Slot.unset).toArray = ls at hl ⊢
  have hl : lv_has ls 9 [(0, .ref (h0)), (1, .int (nI (fr)))] := hl
  refine mw_start (fun H locs hw => ?_) hw
  refine lv_sipush (v := nI 3000) hx hb dX7_fault_0 (by decide) ?_
  refine lv_iload_n hx hb dX7_fault_3 rfl (lv_at hl 1 rfl) ?_
  refine lv_imul hx hb dX7_fault_4 ?_
  refine mw_ti (v' := nI (3000 * fr)) (pk_mul _ _) ?_
  refine lv_istore_n (lv' := [(2, .int (nI (3000 * fr))), (0, .ref (h0)), (1, .int (nI (fr)))]) hx hb dX7_fault_5 rfl hl (by decide) rfl (fun ls hl => ?_)
  refine lv_aload_n hx hb dX7_fault_6 rfl (lv_at hl 1 rfl) ?_
  refine mw_get (C := RX7) (T := TX7) (N := 27) (v := .ref (a 2)) hx hb hts inX7_fault_X7 hown hC hw hm.1 rfl 2 (by decide) k_0 rfl dX7_fault_7 ?_
  refine lv_iload_n hx hb dX7_fault_10 rfl (lv_at hl 2 rfl) ?_
  refine md_ald 2 (n := 80) hx hb hC hw hm rfl (by decide) rfl (by omega) (by decide) dX7_fault_11 ?_
  refine lv_istore_n (lv' := [(3, .int (nI (A 2 fr))), (2, .int (nI (3000 * fr))), (0, .ref (h0)), (1, .int (nI (fr)))]) hx hb dX7_fault_12 rfl hl (by decide) rfl (fun ls hl => ?_)
  refine lv_iload_n hx hb dX7_fault_13 rfl (lv_at hl 0 rfl) ?_
  refine lv_bipush (v := nI 16) hx hb dX7_fault_14 (by decide) ?_
  refine lv_icmp_lt (tgt := 44) hx hb dX7_fault_16 (by decide) (fun c_1 => ?_) (fun c_1 => ?_)
  · skip
    have c_1 : A 2 fr < 16 := (nI_ltI (a := A 2 fr) (b := 16) (by omega) (by omega)).mp c_1
    refine lv_iconst (v := nI 1) hx hb dX7_fault_44 (by decide) ?_
    have hok : ¬ mf1 A fr := fun h => by obtain ⟨h1, h2, h3⟩ := h; omega
    have hA_2 : A = mfA A fr := by unfold mfA; rw [if_neg hok]
    rw [hA_2] at hm
    have h_3 : u = mfu A fr u := by unfold mfu; rw [if_neg hok]
    rw [h_3] at hm
    exact md_iret hx hb hr hlocks hw hm hf (by unfold mft; rw [if_neg hok]) dX7_fault_45
  · skip
    have c_1 : A 2 fr ≥ 16 := Nat.not_lt.mp (fun h => c_1 ((nI_ltI (a := A 2 fr) (b := 16) (by omega) (by omega)).mpr h))
    refine lv_aload_n hx hb dX7_fault_19 rfl (lv_at hl 2 rfl) ?_
    refine lv_iload_n hx hb dX7_fault_20 rfl (lv_at hl 1 rfl) ?_
    refine md_ci hC hw (va_runV (As := [.int (nI (3000 * fr))]) (rest := []) ⟨hx, hb, hml, hown, hts⟩ (c_X7_isFlag l G _ H.size h0 a c u A (3000 * fr) hm (by omega) (fun i hi => hbits i (by omega))) (cwV 1 hts gX7_fault_X7_isFlag rfl rfl rfl (by decide +kernel) ⟨Nat.le_of_ble_eq_true rfl, Nat.le_of_ble_eq_true rfl⟩) (mw_preV (ci := 7) hC hw rfl hm.1) rfl rfl hl.1 rfl (lv_room (Nat.le_of_ble_eq_true rfl)) dX7_fault_21 ⟨Nat.le_of_ble_eq_true rfl, Nat.le_of_ble_eq_true rfl⟩) (fun M1 H locs hm hf1 hw => ?_)
    have hf := hf.tr hf1
    have hi1 := ifl_lt A (3000 * fr) 8 (fun i hi => hbits i (by omega))
    refine lv_bipush (v := nI 126) hx hb dX7_fault_24 (by decide) ?_
    refine lv_icmp_ne (tgt := 44) hx hb dX7_fault_26 (by decide) (fun c_4 => ?_) (fun c_4 => ?_)
    · skip
      have c_4 : ifl A (3000 * fr) 8 ≠ 126 := fun h => c_4 ((nI_eq (a := ifl A (3000 * fr) 8) (b := 126) (by omega) (by omega)).mpr h)
      refine lv_iconst (v := nI 1) hx hb dX7_fault_44 (by decide) ?_
      have hok : ¬ mf1 A fr := fun h => by obtain ⟨h1, h2, h3⟩ := h; omega
      have hA_5 : A = mfA A fr := by unfold mfA; rw [if_neg hok]
      rw [hA_5] at hm
      have h_6 : u = mfu A fr u := by unfold mfu; rw [if_neg hok]
      rw [h_6] at hm
      exact md_iret hx hb hr hlocks hw hm hf (by unfold mft; rw [if_neg hok]) dX7_fault_45
    · skip
      have c_4 : ifl A (3000 * fr) 8 = 126 := (nI_eq (a := ifl A (3000 * fr) 8) (b := 126) (by omega) (by omega)).mp c_4
      refine lv_aload_n hx hb dX7_fault_29 rfl (lv_at hl 2 rfl) ?_
      refine lv_iload_n hx hb dX7_fault_30 rfl (lv_at hl 1 rfl) ?_
      refine lv_iload_n hx hb dX7_fault_31 rfl (lv_at hl 0 rfl) ?_
      refine lv_iadd hx hb dX7_fault_32 ?_
      refine mw_ti (v' := nI (3000 * fr + A 2 fr)) (nI_add _ _) ?_
      refine lv_bipush (v := nI 8) hx hb dX7_fault_33 (by decide) ?_
      refine lv_isub hx hb dX7_fault_35 ?_
      refine mw_ti (v' := nI (3000 * fr + A 2 fr - 8)) (pk_sub (by omega)) ?_
      have hb8 : ∀ i, i < 8 → A 3 (3000 * fr + A 2 fr - 8 + i) ≤ 1 := fun i hi => (show 3000 * fr + A 2 fr - 8 + i = 3000 * fr + (A 2 fr - 8 + i) by omega) ▸ hbits (A 2 fr - 8 + i) (by omega)
      refine md_ci hC hw (va_runV (As := [.int (nI (3000 * fr + A 2 fr - 8))]) (rest := []) ⟨hx, hb, hml, hown, hts⟩ (c_X7_isFlag l G _ H.size h0 a c u A (3000 * fr + A 2 fr - 8) hm (by omega) (hb8)) (cwV 1 hts gX7_fault_X7_isFlag rfl rfl rfl (by decide +kernel) ⟨Nat.le_of_ble_eq_true rfl, Nat.le_of_ble_eq_true rfl⟩) (mw_preV (ci := 7) hC hw rfl hm.1) rfl rfl hl.1 rfl (lv_room (Nat.le_of_ble_eq_true rfl)) dX7_fault_36 ⟨Nat.le_of_ble_eq_true rfl, Nat.le_of_ble_eq_true rfl⟩) (fun M1 H locs hm hf1 hw => ?_)
      have hf := hf.tr hf1
      have hi2 := ifl_lt A (3000 * fr + A 2 fr - 8) 8 hb8
      refine lv_bipush (v := nI 126) hx hb dX7_fault_39 (by decide) ?_
      refine lv_icmp_eq (tgt := 46) hx hb dX7_fault_41 (by decide) (fun c_7 => ?_) (fun c_7 => ?_)
      · skip
        have c_7 : ifl A (3000 * fr + A 2 fr - 8) 8 = 126 := (nI_eq (a := ifl A (3000 * fr + A 2 fr - 8) 8) (b := 126) (by omega) (by omega)).mp c_7
        have hok : mf1 A fr := ⟨by omega, by omega, c_7⟩
        refine lv_iconst (v := nI 0) hx hb dX7_fault_46 (by decide) ?_
        refine lv_istore (lv' := [(4, .int (nI (0))), (3, .int (nI (A 2 fr))), (2, .int (nI (3000 * fr))), (0, .ref (h0)), (1, .int (nI (fr)))]) hx hb dX7_fault_47 hl (by decide) rfl (fun ls hl => ?_)
        refine lv_iconst (v := nI 0) hx hb dX7_fault_49 (by decide) ?_
        refine lv_istore (lv' := [(5, .int (nI (0))), (4, .int (nI (0))), (3, .int (nI (A 2 fr))), (2, .int (nI (3000 * fr))), (0, .ref (h0)), (1, .int (nI (fr)))]) hx hb dX7_fault_50 hl (by decide) rfl (fun ls hl => ?_)
        refine lv_iconst (v := nI 0) hx hb dX7_fault_52 (by decide) ?_
        refine lv_istore (lv' := [(6, .int (nI (0))), (5, .int (nI (0))), (4, .int (nI (0))), (3, .int (nI (A 2 fr))), (2, .int (nI (3000 * fr))), (0, .ref (h0)), (1, .int (nI (fr)))]) hx hb dX7_fault_53 hl (by decide) rfl (fun ls hl => ?_)
        refine lv_bipush (v := nI 8) hx hb dX7_fault_55 (by decide) ?_
        refine lv_istore (lv' := [(7, .int (nI (8))), (6, .int (nI (0))), (5, .int (nI (0))), (4, .int (nI (0))), (3, .int (nI (A 2 fr))), (2, .int (nI (3000 * fr))), (0, .ref (h0)), (1, .int (nI (fr)))]) hx hb dX7_fault_57 hl (by decide) rfl (fun ls hl => ?_)
        have lp_8 : ∀ (n9 : Nat) (k : Nat), (hk : k ≤ A 2 fr - 16) → (hs : (mT A fr k).1 ≤ 5) → A 2 fr - k < n9 → ∀ (M1 : mw_M) (H : Heap) (locs : List Loc) (ls : Array Slot), md_at G M1 h0 a c u (va_up A 26 ((mT A fr k).2.2.2)) → md_fr h0 a M M1 → mw_St G (mw_A M s.heap.size) s M1 H locs → lv_has ls 9 [(0, .ref (h0)), (2, .int (nI (3000 * fr))), (3, .int (nI (A 2 fr))), (4, .int (nI ((mT A fr k).1))), (5, .int (nI ((mT A fr k).2.1))), (6, .int (nI ((mT A fr k).2.2.1))), (7, .int (nI (8 + k)))] → W p l e (headSpec wsX7_fault RM_X7_fault).room s m ([.ref (h0), .int (nI (fr))] : List Value).toArray below meth c0 H locs 0 0 (MQ below (md_Qi G M s.heap.size h0 a (nI (mft A fr)) c (mfu A fr u) (mfA A fr)) ([.ref (h0), .int (nI (fr))] : List Value).toArray s 0 0 (mw_A M s.heap.size)) (F0 m 59 ls []) := by
          intro n9
          induction n9 with
          | zero => intro k hk hs h9; exact absurd h9 (Nat.not_lt_zero _)
          | succ n9 ih =>
            intro k hk hs h9 M1 H locs ls hm hf hw hl
            have hle := mT_le A fr k
            have h6 : ¬ (mT A fr k).1 = 6 := by omega
            refine lv_iload hx hb dX7_fault_59 (lv_at hl 6 rfl) ?_
            refine lv_iload_n hx hb dX7_fault_61 rfl (lv_at hl 2 rfl) ?_
            refine lv_bipush (v := nI 8) hx hb dX7_fault_62 (by decide) ?_
            refine lv_isub hx hb dX7_fault_64 ?_
            refine mw_ti (v' := nI (A 2 fr - 8)) (pk_sub (by omega)) ?_
            refine lv_icmp_ge (tgt := 140) hx hb dX7_fault_65 (by decide) (fun c_9 => ?_) (fun c_9 => ?_)
            · skip
              have c_9 : 8 + k ≥ A 2 fr - 8 := (nI_leI (a := A 2 fr - 8) (b := 8 + k) (by omega) (by omega)).mp c_9
              obtain rfl : k = A 2 fr - 16 := by omega
              refine lv_iload hx hb dX7_fault_140 (lv_at hl 4 rfl) ?_
              refine lv_bipush (v := nI 8) hx hb dX7_fault_142 (by decide) ?_
              refine lv_irem hx hb dX7_fault_144 (by decide) ?_
              refine mw_ti (v' := nI (((mT A fr (A 2 fr - 16)).2.1) % 8)) (pk_rem (by omega) (by omega) (by omega)) ?_
              refine lv_if_ne (tgt := 163) hx hb dX7_fault_145 (by decide) (fun c_10 => ?_) (fun c_10 => ?_)
              · skip
                have c_10 : ((mT A fr (A 2 fr - 16)).2.1) % 8 ≠ 0 := fun h => c_10 ((nI_eq (a := ((mT A fr (A 2 fr - 16)).2.1) % 8) (b := 0) (by omega) (by omega)).mpr h)
                refine lv_iconst (v := nI 3) hx hb dX7_fault_163 (by decide) ?_
                have h3 : ¬ mf3 A fr := fun h => by obtain ⟨h1, h2, h3⟩ := h; simp only [mfT] at h1 h2 h3; omega
                have hA_11 : va_up A 26 ((mT A fr (A 2 fr - 16)).2.2.2) = mfA A fr := by unfold mfA; rw [if_pos hok, if_neg (show ¬ (mfT A fr).1 = 6 from h6), if_neg h3]; rfl
                rw [hA_11] at hm
                have h_12 : u = mfu A fr u := by unfold mfu; rw [if_pos hok, if_neg (show ¬ (mfT A fr).1 = 6 from h6), if_neg h3]
                rw [h_12] at hm
                exact md_iret hx hb hr hlocks hw hm hf (by unfold mft; rw [if_pos hok, if_neg (show ¬ (mfT A fr).1 = 6 from h6), if_neg h3]) dX7_fault_164
              · skip
                have c_10 : ((mT A fr (A 2 fr - 16)).2.1) % 8 = 0 := (nI_eq (a := ((mT A fr (A 2 fr - 16)).2.1) % 8) (b := 0) (by omega) (by omega)).mp c_10
                refine lv_iload hx hb dX7_fault_148 (lv_at hl 4 rfl) ?_
                refine lv_bipush (v := nI 40) hx hb dX7_fault_150 (by decide) ?_
                refine lv_icmp_lt (tgt := 163) hx hb dX7_fault_152 (by decide) (fun c_13 => ?_) (fun c_13 => ?_)
                · skip
                  have c_13 : (mT A fr (A 2 fr - 16)).2.1 < 40 := (nI_ltI (a := (mT A fr (A 2 fr - 16)).2.1) (b := 40) (by omega) (by omega)).mp c_13
                  refine lv_iconst (v := nI 3) hx hb dX7_fault_163 (by decide) ?_
                  have h3 : ¬ mf3 A fr := fun h => by obtain ⟨h1, h2, h3⟩ := h; simp only [mfT] at h1 h2 h3; omega
                  have hA_14 : va_up A 26 ((mT A fr (A 2 fr - 16)).2.2.2) = mfA A fr := by unfold mfA; rw [if_pos hok, if_neg (show ¬ (mfT A fr).1 = 6 from h6), if_neg h3]; rfl
                  rw [hA_14] at hm
                  have h_15 : u = mfu A fr u := by unfold mfu; rw [if_pos hok, if_neg (show ¬ (mfT A fr).1 = 6 from h6), if_neg h3]
                  rw [h_15] at hm
                  exact md_iret hx hb hr hlocks hw hm hf (by unfold mft; rw [if_pos hok, if_neg (show ¬ (mfT A fr).1 = 6 from h6), if_neg h3]) dX7_fault_164
                · skip
                  have c_13 : (mT A fr (A 2 fr - 16)).2.1 ≥ 40 := Nat.not_lt.mp (fun h => c_13 ((nI_ltI (a := (mT A fr (A 2 fr - 16)).2.1) (b := 40) (by omega) (by omega)).mpr h))
                  refine lv_iload hx hb dX7_fault_155 (lv_at hl 4 rfl) ?_
                  refine lv_sipush (v := nI 2216) hx hb dX7_fault_157 (by decide) ?_
                  refine lv_icmp_le (tgt := 165) hx hb dX7_fault_160 (by decide) (fun c_16 => ?_) (fun c_16 => ?_)
                  · skip
                    have c_16 : (mT A fr (A 2 fr - 16)).2.1 ≤ 2216 := (nI_leI (a := (mT A fr (A 2 fr - 16)).2.1) (b := 2216) (by omega) (by omega)).mp c_16
                    have h3 : mf3 A fr := ⟨by show (mT A fr (A 2 fr - 16)).2.1 % 8 = 0; omega, by show 40 ≤ (mT A fr (A 2 fr - 16)).2.1; omega, c_16⟩
                    have hP := mT_b hbits (A 2 fr - 16) (by omega)
                    have hun : ∀ i, i < 280 → mun (A 24) (mT A fr (A 2 fr - 16)).2.2.2 ((mT A fr (A 2 fr - 16)).2.1 / 8) i < 256 := mun_lt hug (fun i hi => hP i (by omega)) _ (Nat.le_refl _)
                    refine lv_aload_n hx hb dX7_fault_165 rfl (lv_at hl 0 rfl) ?_
                    refine lv_iload hx hb dX7_fault_166 (lv_at hl 4 rfl) ?_
                    refine lv_bipush (v := nI 8) hx hb dX7_fault_168 (by decide) ?_
                    refine lv_idiv hx hb dX7_fault_170 (by decide) ?_
                    refine mw_ti (v' := nI (((mT A fr (A 2 fr - 16)).2.1) / 8)) (pk_div (by omega) (by omega) (by omega)) ?_
                    refine mw_put (C := RX7) (T := TX7) (N := 27) hx hb hts inX7_fault_X7 tyX7 tyX7_ok nmX7 hown hC hw hm.1 rfl 25 (by decide) k_1 rfl rfl rfl (Nat.le_of_ble_eq_true rfl) dX7_fault_171 (fun H locs hw => ?_)
                    have hw : mw_St G (mw_A M s.heap.size) s (va_up _ h0 (some (md_obj a c (((mT A fr (A 2 fr - 16)).2.1) / 8)))) H locs := hw
                    have hm := hm.co c (((mT A fr (A 2 fr - 16)).2.1) / 8)
                    have hf := hf.tr (md_fr.co (x := some (md_obj a c (((mT A fr (A 2 fr - 16)).2.1) / 8))))
                    refine lv_iconst (v := nI 0) hx hb dX7_fault_174 (by decide) ?_
                    refine lv_istore (lv' := [(7, .int (nI (0))), (0, .ref (h0)), (2, .int (nI (3000 * fr))), (3, .int (nI (A 2 fr))), (4, .int (nI ((mT A fr (A 2 fr - 16)).1))), (5, .int (nI ((mT A fr (A 2 fr - 16)).2.1))), (6, .int (nI ((mT A fr (A 2 fr - 16)).2.2.1)))]) hx hb dX7_fault_175 hl (by decide) rfl (fun ls hl => ?_)
                    have lp_17 : ∀ (n9 : Nat) (j : Nat), (hj : j ≤ (mT A fr (A 2 fr - 16)).2.1 / 8) → (mT A fr (A 2 fr - 16)).2.1 / 8 - j < n9 → ∀ (M1 : mw_M) (H : Heap) (locs : List Loc) (ls : Array Slot), md_at G M1 h0 a c ((mT A fr (A 2 fr - 16)).2.1 / 8) (va_up ((va_up A 26 ((mT A fr (A 2 fr - 16)).2.2.2))) 24 (mun (A 24) (mT A fr (A 2 fr - 16)).2.2.2 j)) → md_fr h0 a M M1 → mw_St G (mw_A M s.heap.size) s M1 H locs → lv_has ls 9 [(0, .ref (h0)), (7, .int (nI (j)))] → W p l e (headSpec wsX7_fault RM_X7_fault).room s m ([.ref (h0), .int (nI (fr))] : List Value).toArray below meth c0 H locs 0 0 (MQ below (md_Qi G M s.heap.size h0 a (nI (mft A fr)) c (mfu A fr u) (mfA A fr)) ([.ref (h0), .int (nI (fr))] : List Value).toArray s 0 0 (mw_A M s.heap.size)) (F0 m 177 ls []) := by
                      intro n9
                      induction n9 with
                      | zero => intro j hj h9; exact absurd h9 (Nat.not_lt_zero _)
                      | succ n9 ih177 =>
                        intro j hj h9 M1 H locs ls hm hf hw hl
                        refine lv_iload hx hb dX7_fault_177 (lv_at hl 1 rfl) ?_
                        refine lv_aload_n hx hb dX7_fault_179 rfl (lv_at hl 0 rfl) ?_
                        refine mw_get (C := RX7) (T := TX7) (N := 27) (v := .int (nI ((mT A fr (A 2 fr - 16)).2.1 / 8))) hx hb hts inX7_fault_X7 hown hC hw hm.1 rfl 25 (by decide) k_1 rfl dX7_fault_180 ?_
                        refine lv_icmp_ge (tgt := 242) hx hb dX7_fault_183 (by decide) (fun c_18 => ?_) (fun c_18 => ?_)
                        · skip
                          have c_18 : j ≥ (mT A fr (A 2 fr - 16)).2.1 / 8 := (nI_leI (a := (mT A fr (A 2 fr - 16)).2.1 / 8) (b := j) (by omega) (by omega)).mp c_18
                          obtain rfl : j = (mT A fr (A 2 fr - 16)).2.1 / 8 := by omega
                          refine lv_aload_n hx hb dX7_fault_242 rfl (lv_at hl 0 rfl) ?_
                          refine lv_aload_n hx hb dX7_fault_243 rfl (lv_at hl 0 rfl) ?_
                          refine mw_get (C := RX7) (T := TX7) (N := 27) (v := .int (nI ((mT A fr (A 2 fr - 16)).2.1 / 8))) hx hb hts inX7_fault_X7 hown hC hw hm.1 rfl 25 (by decide) k_1 rfl dX7_fault_244 ?_
                          refine lv_iconst (v := nI 2) hx hb dX7_fault_247 (by decide) ?_
                          refine lv_isub hx hb dX7_fault_248 ?_
                          refine mw_ti (v' := nI ((mT A fr (A 2 fr - 16)).2.1 / 8 - 2)) (pk_sub (by omega)) ?_
                          refine md_ci hC hw (va_runV (As := [.int (nI ((mT A fr (A 2 fr - 16)).2.1 / 8 - 2))]) (rest := []) ⟨hx, hb, hml, hown, hts⟩ (c_X7_unitCheck l G _ H.size h0 a c ((mT A fr (A 2 fr - 16)).2.1 / 8) (va_up ((va_up A 26 ((mT A fr (A 2 fr - 16)).2.2.2))) 24 (mun (A 24) (mT A fr (A 2 fr - 16)).2.2.2 ((mT A fr (A 2 fr - 16)).2.1 / 8))) ((mT A fr (A 2 fr - 16)).2.1 / 8 - 2) hm (by omega) (by rw [va_up_self]; exact hun)) (cwV 1 hts gX7_fault_X7_unitCheck rfl rfl rfl (by decide +kernel) ⟨Nat.le_of_ble_eq_true rfl, Nat.le_of_ble_eq_true rfl⟩) (mw_preV (ci := 7) hC hw rfl hm.1) rfl rfl hl.1 rfl (lv_room (Nat.le_of_ble_eq_true rfl)) dX7_fault_249 ⟨Nat.le_of_ble_eq_true rfl, Nat.le_of_ble_eq_true rfl⟩) (fun M1 H locs hm hf1 hw => ?_)
                          have hf := hf.tr hf1
                          have hcd := cdu_lt (mun (A 24) (mT A fr (A 2 fr - 16)).2.2.2 ((mT A fr (A 2 fr - 16)).2.1 / 8)) ((mT A fr (A 2 fr - 16)).2.1 / 8 - 2)
                          refine mw_ti (v' := nI (65535 - cdu (mun (A 24) (mT A fr (A 2 fr - 16)).2.2.2 ((mT A fr (A 2 fr - 16)).2.1 / 8)) ((mT A fr (A 2 fr - 16)).2.1 / 8 - 2))) (by rw [va_up_self]) ?_
                          refine lv_aload_n hx hb dX7_fault_252 rfl (lv_at hl 0 rfl) ?_
                          refine mw_get (C := RX7) (T := TX7) (N := 27) (v := .ref (a 24)) hx hb hts inX7_fault_X7 hown hC hw hm.1 rfl 24 (by decide) k_2 rfl dX7_fault_253 ?_
                          refine lv_aload_n hx hb dX7_fault_256 rfl (lv_at hl 0 rfl) ?_
                          refine mw_get (C := RX7) (T := TX7) (N := 27) (v := .int (nI ((mT A fr (A 2 fr - 16)).2.1 / 8))) hx hb hts inX7_fault_X7 hown hC hw hm.1 rfl 25 (by decide) k_1 rfl dX7_fault_257 ?_
                          refine lv_iconst (v := nI 2) hx hb dX7_fault_260 (by decide) ?_
                          refine lv_isub hx hb dX7_fault_261 ?_
                          refine mw_ti (v' := nI ((mT A fr (A 2 fr - 16)).2.1 / 8 - 2)) (pk_sub (by omega)) ?_
                          refine md_ald 24 (n := 280) hx hb hC hw hm rfl (by decide) rfl (by omega) (by decide) dX7_fault_262 ?_
                          refine mw_ti (v' := nI ((mun (A 24) (mT A fr (A 2 fr - 16)).2.2.2 ((mT A fr (A 2 fr - 16)).2.1 / 8)) ((mT A fr (A 2 fr - 16)).2.1 / 8 - 2))) (congrArg nI md_w_s) ?_
                          refine lv_sipush (v := nI 256) hx hb dX7_fault_263 (by decide) ?_
                          refine lv_aload_n hx hb dX7_fault_266 rfl (lv_at hl 0 rfl) ?_
                          refine mw_get (C := RX7) (T := TX7) (N := 27) (v := .ref (a 24)) hx hb hts inX7_fault_X7 hown hC hw hm.1 rfl 24 (by decide) k_2 rfl dX7_fault_267 ?_
                          refine lv_aload_n hx hb dX7_fault_270 rfl (lv_at hl 0 rfl) ?_
                          refine mw_get (C := RX7) (T := TX7) (N := 27) (v := .int (nI ((mT A fr (A 2 fr - 16)).2.1 / 8))) hx hb hts inX7_fault_X7 hown hC hw hm.1 rfl 25 (by decide) k_1 rfl dX7_fault_271 ?_
                          refine lv_iconst (v := nI 1) hx hb dX7_fault_274 (by decide) ?_
                          refine lv_isub hx hb dX7_fault_275 ?_
                          refine mw_ti (v' := nI ((mT A fr (A 2 fr - 16)).2.1 / 8 - 1)) (pk_sub (by omega)) ?_
                          refine md_ald 24 (n := 280) hx hb hC hw hm rfl (by decide) rfl (by omega) (by decide) dX7_fault_276 ?_
                          refine mw_ti (v' := nI ((mun (A 24) (mT A fr (A 2 fr - 16)).2.2.2 ((mT A fr (A 2 fr - 16)).2.1 / 8)) ((mT A fr (A 2 fr - 16)).2.1 / 8 - 1))) (congrArg nI md_w_s) ?_
                          refine lv_imul hx hb dX7_fault_277 ?_
                          refine mw_ti (v' := nI (256 * ((mun (A 24) (mT A fr (A 2 fr - 16)).2.2.2 ((mT A fr (A 2 fr - 16)).2.1 / 8)) ((mT A fr (A 2 fr - 16)).2.1 / 8 - 1)))) (pk_mul _ _) ?_
                          refine lv_iadd hx hb dX7_fault_278 ?_
                          refine mw_ti (v' := nI ((mun (A 24) (mT A fr (A 2 fr - 16)).2.2.2 ((mT A fr (A 2 fr - 16)).2.1 / 8)) ((mT A fr (A 2 fr - 16)).2.1 / 8 - 2) + (256 * ((mun (A 24) (mT A fr (A 2 fr - 16)).2.2.2 ((mT A fr (A 2 fr - 16)).2.1 / 8)) ((mT A fr (A 2 fr - 16)).2.1 / 8 - 1))))) (nI_add _ _) ?_
                          have hu1 := hun ((mT A fr (A 2 fr - 16)).2.1 / 8 - 2) (by omega)
                          have hu2 := hun ((mT A fr (A 2 fr - 16)).2.1 / 8 - 1) (by omega)
                          have hu3 := hun 2 (by decide)
                          refine lv_icmp_eq (tgt := 284) hx hb dX7_fault_279 (by decide) (fun c_19 => ?_) (fun c_19 => ?_)
                          · skip
                            have c_19 : 65535 - cdu (mun (A 24) (mT A fr (A 2 fr - 16)).2.2.2 ((mT A fr (A 2 fr - 16)).2.1 / 8)) ((mT A fr (A 2 fr - 16)).2.1 / 8 - 2) = (mun (A 24) (mT A fr (A 2 fr - 16)).2.2.2 ((mT A fr (A 2 fr - 16)).2.1 / 8)) ((mT A fr (A 2 fr - 16)).2.1 / 8 - 2) + (256 * ((mun (A 24) (mT A fr (A 2 fr - 16)).2.2.2 ((mT A fr (A 2 fr - 16)).2.1 / 8)) ((mT A fr (A 2 fr - 16)).2.1 / 8 - 1))) := (nI_eq (a := 65535 - cdu (mun (A 24) (mT A fr (A 2 fr - 16)).2.2.2 ((mT A fr (A 2 fr - 16)).2.1 / 8)) ((mT A fr (A 2 fr - 16)).2.1 / 8 - 2)) (b := (mun (A 24) (mT A fr (A 2 fr - 16)).2.2.2 ((mT A fr (A 2 fr - 16)).2.1 / 8)) ((mT A fr (A 2 fr - 16)).2.1 / 8 - 2) + (256 * ((mun (A 24) (mT A fr (A 2 fr - 16)).2.2.2 ((mT A fr (A 2 fr - 16)).2.1 / 8)) ((mT A fr (A 2 fr - 16)).2.1 / 8 - 1)))) (by omega) (by omega)).mp c_19
                            refine lv_aload_n hx hb dX7_fault_284 rfl (lv_at hl 0 rfl) ?_
                            refine mw_get (C := RX7) (T := TX7) (N := 27) (v := .int (nI ((mT A fr (A 2 fr - 16)).2.1 / 8))) hx hb hts inX7_fault_X7 hown hC hw hm.1 rfl 25 (by decide) k_1 rfl dX7_fault_285 ?_
                            refine lv_iconst (v := nI 5) hx hb dX7_fault_288 (by decide) ?_
                            refine lv_isub hx hb dX7_fault_289 ?_
                            refine mw_ti (v' := nI ((mT A fr (A 2 fr - 16)).2.1 / 8 - 5)) (pk_sub (by omega)) ?_
                            refine lv_istore (lv' := [(7, .int (nI ((mT A fr (A 2 fr - 16)).2.1 / 8 - 5))), (0, .ref (h0))]) hx hb dX7_fault_290 hl (by decide) rfl (fun ls hl => ?_)
                            refine lv_aload_n hx hb dX7_fault_292 rfl (lv_at hl 1 rfl) ?_
                            refine mw_get (C := RX7) (T := TX7) (N := 27) (v := .ref (a 24)) hx hb hts inX7_fault_X7 hown hC hw hm.1 rfl 24 (by decide) k_2 rfl dX7_fault_293 ?_
                            refine lv_iconst (v := nI 2) hx hb dX7_fault_296 (by decide) ?_
                            refine md_ald 24 (n := 280) hx hb hC hw hm rfl (by decide) rfl (by omega) (by decide) dX7_fault_297 ?_
                            refine mw_ti (v' := nI ((mun (A 24) (mT A fr (A 2 fr - 16)).2.2.2 ((mT A fr (A 2 fr - 16)).2.1 / 8)) 2)) (congrArg nI md_w_s) ?_
                            refine lv_iload hx hb dX7_fault_298 (lv_at hl 0 rfl) ?_
                            refine lv_bipush (v := nI 63) hx hb dX7_fault_300 (by decide) ?_
                            refine lv_icmp_le (tgt := 310) hx hb dX7_fault_302 (by decide) (fun c_20 => ?_) (fun c_20 => ?_)
                            · skip
                              have c_20 : (mT A fr (A 2 fr - 16)).2.1 / 8 - 5 ≤ 63 := (nI_leI (a := (mT A fr (A 2 fr - 16)).2.1 / 8 - 5) (b := 63) (by omega) (by omega)).mp c_20
                              refine lv_iload hx hb dX7_fault_310 (lv_at hl 0 rfl) ?_
                              refine lv_icmp_eq (tgt := 319) hx hb dX7_fault_312 (by decide) (fun c_21 => ?_) (fun c_21 => ?_)
                              · skip
                                have c_21 : (mun (A 24) (mT A fr (A 2 fr - 16)).2.2.2 ((mT A fr (A 2 fr - 16)).2.1 / 8)) 2 = (mT A fr (A 2 fr - 16)).2.1 / 8 - 5 := (nI_eq (a := (mun (A 24) (mT A fr (A 2 fr - 16)).2.2.2 ((mT A fr (A 2 fr - 16)).2.1 / 8)) 2) (b := (mT A fr (A 2 fr - 16)).2.1 / 8 - 5) (by omega) (by omega)).mp c_21
                                refine lv_iconst (v := nI 0) hx hb dX7_fault_319 (by decide) ?_
                                have hA_22 : va_up ((va_up A 26 ((mT A fr (A 2 fr - 16)).2.2.2))) 24 (mun (A 24) (mT A fr (A 2 fr - 16)).2.2.2 ((mT A fr (A 2 fr - 16)).2.1 / 8)) = mfA A fr := by unfold mfA mfU; rw [if_pos hok, if_neg (show ¬ (mfT A fr).1 = 6 from h6), if_pos h3]; rfl
                                rw [hA_22] at hm
                                have h_23 : (mT A fr (A 2 fr - 16)).2.1 / 8 = mfu A fr u := by unfold mfu; rw [if_pos hok, if_neg (show ¬ (mfT A fr).1 = 6 from h6), if_pos h3]; rfl
                                rw [h_23] at hm
                                exact md_iret hx hb hr hlocks hw hm hf (by unfold mft mfU; rw [if_pos hok, if_neg (show ¬ (mfT A fr).1 = 6 from h6), if_pos h3]; unfold mfT; unfold mrt; rw [if_pos (by assumption)]; first | (rw [if_pos (by omega)]; done) | (rw [if_neg (by omega)])) dX7_fault_320
                              · skip
                                have c_21 : (mun (A 24) (mT A fr (A 2 fr - 16)).2.2.2 ((mT A fr (A 2 fr - 16)).2.1 / 8)) 2 ≠ (mT A fr (A 2 fr - 16)).2.1 / 8 - 5 := fun h => c_21 ((nI_eq (a := (mun (A 24) (mT A fr (A 2 fr - 16)).2.2.2 ((mT A fr (A 2 fr - 16)).2.1 / 8)) 2) (b := (mT A fr (A 2 fr - 16)).2.1 / 8 - 5) (by omega) (by omega)).mpr h)
                                refine lv_iconst (v := nI 5) hx hb dX7_fault_315 (by decide) ?_
                                refine lv_goto (tgt := 320) hx hb dX7_fault_316 (by decide) ?_
                                have hA_24 : va_up ((va_up A 26 ((mT A fr (A 2 fr - 16)).2.2.2))) 24 (mun (A 24) (mT A fr (A 2 fr - 16)).2.2.2 ((mT A fr (A 2 fr - 16)).2.1 / 8)) = mfA A fr := by unfold mfA mfU; rw [if_pos hok, if_neg (show ¬ (mfT A fr).1 = 6 from h6), if_pos h3]; rfl
                                rw [hA_24] at hm
                                have h_25 : (mT A fr (A 2 fr - 16)).2.1 / 8 = mfu A fr u := by unfold mfu; rw [if_pos hok, if_neg (show ¬ (mfT A fr).1 = 6 from h6), if_pos h3]; rfl
                                rw [h_25] at hm
                                exact md_iret hx hb hr hlocks hw hm hf (by unfold mft mfU; rw [if_pos hok, if_neg (show ¬ (mfT A fr).1 = 6 from h6), if_pos h3]; unfold mfT; unfold mrt; rw [if_pos (by assumption)]; first | (rw [if_pos (by omega)]; done) | (rw [if_neg (by omega)])) dX7_fault_320
                            · skip
                              have c_20 : (mT A fr (A 2 fr - 16)).2.1 / 8 - 5 > 63 := Nat.not_le.mp (fun h => c_20 ((nI_leI (a := (mT A fr (A 2 fr - 16)).2.1 / 8 - 5) (b := 63) (by omega) (by omega)).mpr h))
                              refine lv_bipush (v := nI 63) hx hb dX7_fault_305 (by decide) ?_
                              refine lv_goto (tgt := 312) hx hb dX7_fault_307 (by decide) ?_
                              refine lv_icmp_eq (tgt := 319) hx hb dX7_fault_312 (by decide) (fun c_26 => ?_) (fun c_26 => ?_)
                              · skip
                                have c_26 : (mun (A 24) (mT A fr (A 2 fr - 16)).2.2.2 ((mT A fr (A 2 fr - 16)).2.1 / 8)) 2 = 63 := (nI_eq (a := (mun (A 24) (mT A fr (A 2 fr - 16)).2.2.2 ((mT A fr (A 2 fr - 16)).2.1 / 8)) 2) (b := 63) (by omega) (by omega)).mp c_26
                                refine lv_iconst (v := nI 0) hx hb dX7_fault_319 (by decide) ?_
                                have hA_27 : va_up ((va_up A 26 ((mT A fr (A 2 fr - 16)).2.2.2))) 24 (mun (A 24) (mT A fr (A 2 fr - 16)).2.2.2 ((mT A fr (A 2 fr - 16)).2.1 / 8)) = mfA A fr := by unfold mfA mfU; rw [if_pos hok, if_neg (show ¬ (mfT A fr).1 = 6 from h6), if_pos h3]; rfl
                                rw [hA_27] at hm
                                have h_28 : (mT A fr (A 2 fr - 16)).2.1 / 8 = mfu A fr u := by unfold mfu; rw [if_pos hok, if_neg (show ¬ (mfT A fr).1 = 6 from h6), if_pos h3]; rfl
                                rw [h_28] at hm
                                exact md_iret hx hb hr hlocks hw hm hf (by unfold mft mfU; rw [if_pos hok, if_neg (show ¬ (mfT A fr).1 = 6 from h6), if_pos h3]; unfold mfT; unfold mrt; rw [if_pos (by assumption)]; first | (rw [if_pos (by omega)]; done) | (rw [if_neg (by omega)])) dX7_fault_320
                              · skip
                                have c_26 : (mun (A 24) (mT A fr (A 2 fr - 16)).2.2.2 ((mT A fr (A 2 fr - 16)).2.1 / 8)) 2 ≠ 63 := fun h => c_26 ((nI_eq (a := (mun (A 24) (mT A fr (A 2 fr - 16)).2.2.2 ((mT A fr (A 2 fr - 16)).2.1 / 8)) 2) (b := 63) (by omega) (by omega)).mpr h)
                                refine lv_iconst (v := nI 5) hx hb dX7_fault_315 (by decide) ?_
                                refine lv_goto (tgt := 320) hx hb dX7_fault_316 (by decide) ?_
                                have hA_29 : va_up ((va_up A 26 ((mT A fr (A 2 fr - 16)).2.2.2))) 24 (mun (A 24) (mT A fr (A 2 fr - 16)).2.2.2 ((mT A fr (A 2 fr - 16)).2.1 / 8)) = mfA A fr := by unfold mfA mfU; rw [if_pos hok, if_neg (show ¬ (mfT A fr).1 = 6 from h6), if_pos h3]; rfl
                                rw [hA_29] at hm
                                have h_30 : (mT A fr (A 2 fr - 16)).2.1 / 8 = mfu A fr u := by unfold mfu; rw [if_pos hok, if_neg (show ¬ (mfT A fr).1 = 6 from h6), if_pos h3]; rfl
                                rw [h_30] at hm
                                exact md_iret hx hb hr hlocks hw hm hf (by unfold mft mfU; rw [if_pos hok, if_neg (show ¬ (mfT A fr).1 = 6 from h6), if_pos h3]; unfold mfT; unfold mrt; rw [if_pos (by assumption)]; first | (rw [if_pos (by omega)]; done) | (rw [if_neg (by omega)])) dX7_fault_320
                          · skip
                            have c_19 : 65535 - cdu (mun (A 24) (mT A fr (A 2 fr - 16)).2.2.2 ((mT A fr (A 2 fr - 16)).2.1 / 8)) ((mT A fr (A 2 fr - 16)).2.1 / 8 - 2) ≠ (mun (A 24) (mT A fr (A 2 fr - 16)).2.2.2 ((mT A fr (A 2 fr - 16)).2.1 / 8)) ((mT A fr (A 2 fr - 16)).2.1 / 8 - 2) + (256 * ((mun (A 24) (mT A fr (A 2 fr - 16)).2.2.2 ((mT A fr (A 2 fr - 16)).2.1 / 8)) ((mT A fr (A 2 fr - 16)).2.1 / 8 - 1))) := fun h => c_19 ((nI_eq (a := 65535 - cdu (mun (A 24) (mT A fr (A 2 fr - 16)).2.2.2 ((mT A fr (A 2 fr - 16)).2.1 / 8)) ((mT A fr (A 2 fr - 16)).2.1 / 8 - 2)) (b := (mun (A 24) (mT A fr (A 2 fr - 16)).2.2.2 ((mT A fr (A 2 fr - 16)).2.1 / 8)) ((mT A fr (A 2 fr - 16)).2.1 / 8 - 2) + (256 * ((mun (A 24) (mT A fr (A 2 fr - 16)).2.2.2 ((mT A fr (A 2 fr - 16)).2.1 / 8)) ((mT A fr (A 2 fr - 16)).2.1 / 8 - 1)))) (by omega) (by omega)).mpr h)
                            refine lv_iconst (v := nI 4) hx hb dX7_fault_282 (by decide) ?_
                            have hA_31 : va_up ((va_up A 26 ((mT A fr (A 2 fr - 16)).2.2.2))) 24 (mun (A 24) (mT A fr (A 2 fr - 16)).2.2.2 ((mT A fr (A 2 fr - 16)).2.1 / 8)) = mfA A fr := by unfold mfA mfU; rw [if_pos hok, if_neg (show ¬ (mfT A fr).1 = 6 from h6), if_pos h3]; rfl
                            rw [hA_31] at hm
                            have h_32 : (mT A fr (A 2 fr - 16)).2.1 / 8 = mfu A fr u := by unfold mfu; rw [if_pos hok, if_neg (show ¬ (mfT A fr).1 = 6 from h6), if_pos h3]; rfl
                            rw [h_32] at hm
                            exact md_iret hx hb hr hlocks hw hm hf (by unfold mft mfU; rw [if_pos hok, if_neg (show ¬ (mfT A fr).1 = 6 from h6), if_pos h3]; unfold mfT; unfold mrt; rw [if_neg (by assumption)]) dX7_fault_283
                        · skip
                          have c_18 : j < (mT A fr (A 2 fr - 16)).2.1 / 8 := Nat.not_le.mp (fun h => c_18 ((nI_leI (a := (mT A fr (A 2 fr - 16)).2.1 / 8) (b := j) (by omega) (by omega)).mpr h))
                          refine lv_aload_n hx hb dX7_fault_186 rfl (lv_at hl 0 rfl) ?_
                          refine mw_get (C := RX7) (T := TX7) (N := 27) (v := .ref (a 24)) hx hb hts inX7_fault_X7 hown hC hw hm.1 rfl 24 (by decide) k_2 rfl dX7_fault_187 ?_
                          refine lv_iload hx hb dX7_fault_190 (lv_at hl 1 rfl) ?_
                          refine lv_iconst (v := nI 0) hx hb dX7_fault_192 (by decide) ?_
                          refine md_ast 24 (n := 280) (v := 0) hx hb hC hw hm rfl (by decide) rfl (by omega) (by decide) dX7_fault_193 (fun M1 H locs hm hf1 hw => ?_)
                          have hf := hf.tr hf1
                          refine lv_iconst (v := nI 0) hx hb dX7_fault_194 (by decide) ?_
                          refine lv_istore (lv' := [(8, .int (nI (0))), (0, .ref (h0)), (7, .int (nI (j)))]) hx hb dX7_fault_195 hl (by decide) rfl (fun ls hl => ?_)
                          have lp_33 : ∀ (n9 : Nat) (z : Nat), (hz : z ≤ 8) → 8 - z < n9 → ∀ (M1 : mw_M) (H : Heap) (locs : List Loc) (ls : Array Slot), md_at G M1 h0 a c ((mT A fr (A 2 fr - 16)).2.1 / 8) (va_up ((va_up A 26 ((mT A fr (A 2 fr - 16)).2.2.2))) 24 (va_up (mun (A 24) (mT A fr (A 2 fr - 16)).2.2.2 j) j (byt (mT A fr (A 2 fr - 16)).2.2.2 j z))) → md_fr h0 a M M1 → mw_St G (mw_A M s.heap.size) s M1 H locs → lv_has ls 9 [(0, .ref (h0)), (7, .int (nI (j))), (8, .int (nI (z)))] → W p l e (headSpec wsX7_fault RM_X7_fault).room s m ([.ref (h0), .int (nI (fr))] : List Value).toArray below meth c0 H locs 0 0 (MQ below (md_Qi G M s.heap.size h0 a (nI (mft A fr)) c (mfu A fr u) (mfA A fr)) ([.ref (h0), .int (nI (fr))] : List Value).toArray s 0 0 (mw_A M s.heap.size)) (F0 m 197 ls []) := by
                            intro n9
                            induction n9 with
                            | zero => intro z hz h9; exact absurd h9 (Nat.not_lt_zero _)
                            | succ n9 ih197 =>
                              intro z hz h9 M1 H locs ls hm hf hw hl
                              refine lv_iload hx hb dX7_fault_197 (lv_at hl 2 rfl) ?_
                              refine lv_bipush (v := nI 8) hx hb dX7_fault_199 (by decide) ?_
                              refine lv_icmp_ge (tgt := 236) hx hb dX7_fault_201 (by decide) (fun c_34 => ?_) (fun c_34 => ?_)
                              · skip
                                have c_34 : z ≥ 8 := (nI_leI (a := 8) (b := z) (by omega) (by omega)).mp c_34
                                obtain rfl : z = 8 := by omega
                                refine lv_iinc (v := nI (j + 1)) (lv' := [(7, .int (nI (j + 1))), (0, .ref (h0)), (8, .int (nI (8)))]) hx hb dX7_fault_236 hl (k := 1) rfl (by rw [show Int32.ofInt 1 = nI 1 by decide]; exact nI_add _ _) (by decide) rfl (fun ls hl => ?_)
                                refine lv_goto (tgt := 177) hx hb dX7_fault_239 (by decide) ?_
                                have hA_35 : va_up ((va_up A 26 ((mT A fr (A 2 fr - 16)).2.2.2))) 24 (va_up (mun (A 24) (mT A fr (A 2 fr - 16)).2.2.2 j) j (byt (mT A fr (A 2 fr - 16)).2.2.2 j 8)) = va_up ((va_up A 26 ((mT A fr (A 2 fr - 16)).2.2.2))) 24 (mun (A 24) (mT A fr (A 2 fr - 16)).2.2.2 (j + 1)) := by rfl
                                rw [hA_35] at hm
                                exact ih177  (j + 1) (by omega) (by omega) _ _ _ ls hm hf hw (lv_sub hl [1, 0] rfl)
                              · skip
                                have c_34 : z < 8 := Nat.not_le.mp (fun h => c_34 ((nI_leI (a := 8) (b := z) (by omega) (by omega)).mpr h))
                                refine lv_aload_n hx hb dX7_fault_204 rfl (lv_at hl 0 rfl) ?_
                                refine mw_get (C := RX7) (T := TX7) (N := 27) (v := .ref (a 24)) hx hb hts inX7_fault_X7 hown hC hw hm.1 rfl 24 (by decide) k_2 rfl dX7_fault_205 ?_
                                refine lv_iload hx hb dX7_fault_208 (lv_at hl 1 rfl) ?_
                                refine lv_dup2_11 hx hb dX7_fault_210 rfl rfl ?_
                                refine md_ald 24 (n := 280) hx hb hC hw hm rfl (by decide) rfl (by omega) (by decide) dX7_fault_211 ?_
                                refine mw_ti (v' := nI ((va_up (mun (A 24) (mT A fr (A 2 fr - 16)).2.2.2 j) j (byt (mT A fr (A 2 fr - 16)).2.2.2 j z)) j)) (congrArg nI md_w_s) ?_
                                refine mw_ti (v' := nI (byt (mT A fr (A 2 fr - 16)).2.2.2 j z)) (by rw [va_up_self]) ?_
                                refine lv_aload_n hx hb dX7_fault_212 rfl (lv_at hl 0 rfl) ?_
                                refine mw_get (C := RX7) (T := TX7) (N := 27) (v := .ref (a 26)) hx hb hts inX7_fault_X7 hown hC hw hm.1 rfl 26 (by decide) k_3 rfl dX7_fault_213 ?_
                                refine lv_bipush (v := nI 8) hx hb dX7_fault_216 (by decide) ?_
                                refine lv_iload hx hb dX7_fault_218 (lv_at hl 1 rfl) ?_
                                refine lv_imul hx hb dX7_fault_220 ?_
                                refine mw_ti (v' := nI (8 * j)) (pk_mul _ _) ?_
                                refine lv_iload hx hb dX7_fault_221 (lv_at hl 2 rfl) ?_
                                refine lv_iadd hx hb dX7_fault_223 ?_
                                refine mw_ti (v' := nI (8 * j + z)) (nI_add _ _) ?_
                                refine md_ald 26 (n := 3000) hx hb hC hw hm rfl (by decide) rfl (by omega) (by decide) dX7_fault_224 ?_
                                refine mw_ti (v' := nI (((mT A fr (A 2 fr - 16)).2.2.2) (8 * j + z))) (congrArg nI ((md_w_k (by decide)).trans md_w_s)) ?_
                                refine lv_iload hx hb dX7_fault_225 (lv_at hl 2 rfl) ?_
                                refine lv_ishl hx hb dX7_fault_227 ?_
                                refine mw_ti (v' := nI ((mT A fr (A 2 fr - 16)).2.2.2 (8 * j + z) * 2 ^ z)) (shl_b (by omega) (hP _ (by omega))) ?_
                                refine lv_iadd hx hb dX7_fault_228 ?_
                                refine mw_ti (v' := nI (byt (mT A fr (A 2 fr - 16)).2.2.2 j z + ((mT A fr (A 2 fr - 16)).2.2.2 (8 * j + z) * 2 ^ z))) (nI_add _ _) ?_
                                refine md_ast 24 (n := 280) (v := byt (mT A fr (A 2 fr - 16)).2.2.2 j z + ((mT A fr (A 2 fr - 16)).2.2.2 (8 * j + z) * 2 ^ z)) hx hb hC hw hm rfl (by decide) rfl (by omega) (by decide) dX7_fault_229 (fun M1 H locs hm hf1 hw => ?_)
                                have hf := hf.tr hf1
                                refine lv_iinc (v := nI (z + 1)) (lv' := [(8, .int (nI (z + 1))), (0, .ref (h0)), (7, .int (nI (j)))]) hx hb dX7_fault_230 hl (k := 2) rfl (by rw [show Int32.ofInt 1 = nI 1 by decide]; exact nI_add _ _) (by decide) rfl (fun ls hl => ?_)
                                refine lv_goto (tgt := 197) hx hb dX7_fault_233 (by decide) ?_
                                have hA_36 : md_u ((va_up ((va_up A 26 ((mT A fr (A 2 fr - 16)).2.2.2))) 24 (va_up (mun (A 24) (mT A fr (A 2 fr - 16)).2.2.2 j) j (byt (mT A fr (A 2 fr - 16)).2.2.2 j z)))) 24 j (byt (mT A fr (A 2 fr - 16)).2.2.2 j z + ((mT A fr (A 2 fr - 16)).2.2.2 (8 * j + z) * 2 ^ z)) = va_up ((va_up A 26 ((mT A fr (A 2 fr - 16)).2.2.2))) 24 (va_up (mun (A 24) (mT A fr (A 2 fr - 16)).2.2.2 j) j (byt (mT A fr (A 2 fr - 16)).2.2.2 j (z + 1))) := by rw [md_uw, bx_uu]; rfl
                                rw [hA_36] at hm
                                exact ih197  (z + 1) (by omega) (by omega) _ _ _ ls hm hf hw (lv_sub hl [1, 2, 0] rfl)
                          have hA_37 : md_u ((va_up ((va_up A 26 ((mT A fr (A 2 fr - 16)).2.2.2))) 24 (mun (A 24) (mT A fr (A 2 fr - 16)).2.2.2 j))) 24 j 0 = va_up ((va_up A 26 ((mT A fr (A 2 fr - 16)).2.2.2))) 24 (va_up (mun (A 24) (mT A fr (A 2 fr - 16)).2.2.2 j) j (byt (mT A fr (A 2 fr - 16)).2.2.2 j 0)) := by rw [md_uw]; rfl
                          rw [hA_37] at hm
                          exact lp_33 (8 - 0 + 1) 0 (by omega) (Nat.lt_succ_self _) _ _ _ ls hm hf hw (lv_sub hl [1, 2, 0] rfl)
                    have hA_38 : va_up A 26 ((mT A fr (A 2 fr - 16)).2.2.2) = va_up ((va_up A 26 ((mT A fr (A 2 fr - 16)).2.2.2))) 24 (mun (A 24) (mT A fr (A 2 fr - 16)).2.2.2 0) := by exact va_upi rfl
                    rw [hA_38] at hm
                    have h_39 : ((mT A fr (A 2 fr - 16)).2.1) / 8 = (mT A fr (A 2 fr - 16)).2.1 / 8 := by first | rfl | omega | simp_all
                    rw [h_39] at hm
                    exact lp_17 ((mT A fr (A 2 fr - 16)).2.1 / 8 - 0 + 1) 0 (by omega) (Nat.lt_succ_self _) _ _ _ ls hm hf hw (lv_sub hl [1, 0] rfl)
                  · skip
                    have c_16 : (mT A fr (A 2 fr - 16)).2.1 > 2216 := Nat.not_le.mp (fun h => c_16 ((nI_leI (a := (mT A fr (A 2 fr - 16)).2.1) (b := 2216) (by omega) (by omega)).mpr h))
                    refine lv_iconst (v := nI 3) hx hb dX7_fault_163 (by decide) ?_
                    have h3 : ¬ mf3 A fr := fun h => by obtain ⟨h1, h2, h3⟩ := h; simp only [mfT] at h1 h2 h3; omega
                    have hA_40 : va_up A 26 ((mT A fr (A 2 fr - 16)).2.2.2) = mfA A fr := by unfold mfA; rw [if_pos hok, if_neg (show ¬ (mfT A fr).1 = 6 from h6), if_neg h3]; rfl
                    rw [hA_40] at hm
                    have h_41 : u = mfu A fr u := by unfold mfu; rw [if_pos hok, if_neg (show ¬ (mfT A fr).1 = 6 from h6), if_neg h3]
                    rw [h_41] at hm
                    exact md_iret hx hb hr hlocks hw hm hf (by unfold mft; rw [if_pos hok, if_neg (show ¬ (mfT A fr).1 = 6 from h6), if_neg h3]) dX7_fault_164
            · skip
              have c_9 : 8 + k < A 2 fr - 8 := Nat.not_le.mp (fun h => c_9 ((nI_leI (a := A 2 fr - 8) (b := 8 + k) (by omega) (by omega)).mpr h))
              refine lv_aload_n hx hb dX7_fault_68 rfl (lv_at hl 0 rfl) ?_
              refine mw_get (C := RX7) (T := TX7) (N := 27) (v := .ref (a 3)) hx hb hts inX7_fault_X7 hown hC hw hm.1 rfl 3 (by decide) k_4 rfl dX7_fault_69 ?_
              refine lv_iload_n hx hb dX7_fault_72 rfl (lv_at hl 1 rfl) ?_
              refine lv_iload hx hb dX7_fault_73 (lv_at hl 6 rfl) ?_
              refine lv_iadd hx hb dX7_fault_75 ?_
              refine mw_ti (v' := nI (3000 * fr + (8 + k))) (nI_add _ _) ?_
              have hbk := hbits (8 + k) (by omega)
              refine md_ald 3 (n := 240000) hx hb hC hw hm rfl (by decide) rfl (by omega) (by decide) dX7_fault_76 ?_
              refine mw_ti (v' := nI (A 3 (3000 * fr + (8 + k)))) (congrArg nI (md_w_k (by decide))) ?_
              refine lv_istore (lv' := [(8, .int (nI (A 3 (3000 * fr + (8 + k))))), (0, .ref (h0)), (2, .int (nI (3000 * fr))), (3, .int (nI (A 2 fr))), (4, .int (nI ((mT A fr k).1))), (5, .int (nI ((mT A fr k).2.1))), (6, .int (nI ((mT A fr k).2.2.1))), (7, .int (nI (8 + k)))]) hx hb dX7_fault_77 hl (by decide) rfl (fun ls hl => ?_)
              refine lv_iload hx hb dX7_fault_79 (lv_at hl 0 rfl) ?_
              refine lv_iconst (v := nI 1) hx hb dX7_fault_81 (by decide) ?_
              refine lv_icmp_ne (tgt := 92) hx hb dX7_fault_82 (by decide) (fun c_42 => ?_) (fun c_42 => ?_)
              · skip
                have c_42 : A 3 (3000 * fr + (8 + k)) ≠ 1 := fun h => c_42 ((nI_eq (a := A 3 (3000 * fr + (8 + k))) (b := 1) (by omega) (by omega)).mpr h)
                have hv1 : ¬ A 3 (3000 * fr + (8 + k)) = 1 := c_42
                refine lv_iconst (v := nI 0) hx hb dX7_fault_92 (by decide) ?_
                refine lv_istore (lv' := [(4, .int (nI (0))), (8, .int (nI (A 3 (3000 * fr + (8 + k))))), (0, .ref (h0)), (2, .int (nI (3000 * fr))), (3, .int (nI (A 2 fr))), (5, .int (nI ((mT A fr k).2.1))), (6, .int (nI ((mT A fr k).2.2.1))), (7, .int (nI (8 + k)))]) hx hb dX7_fault_93 hl (by decide) rfl (fun ls hl => ?_)
                refine lv_iload hx hb dX7_fault_95 (lv_at hl 0 rfl) ?_
                refine lv_bipush (v := nI 6) hx hb dX7_fault_97 (by decide) ?_
                refine lv_icmp_ne (tgt := 104) hx hb dX7_fault_99 (by decide) (fun c_43 => ?_) (fun c_43 => ?_)
                · skip
                  refine lv_iload hx hb dX7_fault_104 (lv_at hl 6 rfl) ?_
                  refine lv_if_ne (tgt := 121) hx hb dX7_fault_106 (by decide) (fun c_44 => ?_) (fun c_44 => ?_)
                  · skip
                    have c_44 : (mT A fr k).2.2.1 ≠ 0 := fun h => c_44 ((nI_eq (a := (mT A fr k).2.2.1) (b := 0) (by omega) (by omega)).mpr h)
                    have hl0 : ¬ (mT A fr k).2.2.1 = 0 := c_44
                    refine lv_iload hx hb dX7_fault_121 (lv_at hl 0 rfl) ?_
                    refine lv_iconst (v := nI 5) hx hb dX7_fault_123 (by decide) ?_
                    refine lv_icmp_ne (tgt := 131) hx hb dX7_fault_124 (by decide) (fun c_45 => ?_) (fun c_45 => ?_)
                    · skip
                      refine lv_iconst (v := nI 0) hx hb dX7_fault_131 (by decide) ?_
                      refine lv_istore (lv' := [(6, .int (nI (0))), (4, .int (nI (0))), (8, .int (nI (A 3 (3000 * fr + (8 + k))))), (0, .ref (h0)), (2, .int (nI (3000 * fr))), (3, .int (nI (A 2 fr))), (5, .int (nI ((mT A fr k).2.1))), (7, .int (nI (8 + k)))]) hx hb dX7_fault_132 hl (by decide) rfl (fun ls hl => ?_)
                      refine lv_iinc (v := nI (8 + k + 1)) (lv' := [(7, .int (nI (8 + k + 1))), (6, .int (nI (0))), (4, .int (nI (0))), (8, .int (nI (A 3 (3000 * fr + (8 + k))))), (0, .ref (h0)), (2, .int (nI (3000 * fr))), (3, .int (nI (A 2 fr))), (5, .int (nI ((mT A fr k).2.1)))]) hx hb dX7_fault_134 hl (k := 7) rfl (by rw [show Int32.ofInt 1 = nI 1 by decide]; exact nI_add _ _) (by decide) rfl (fun ls hl => ?_)
                      refine lv_goto (tgt := 59) hx hb dX7_fault_137 (by decide) ?_
                      have hT : mT A fr (k + 1) = (0, (mT A fr k).2.1, 0, (mT A fr k).2.2.2) := by rw [mT]; unfold fs1 fs2 lvl; simp [h6, hv1, hl0]
                      have hA_46 : va_up A 26 ((mT A fr k).2.2.2) = va_up A 26 ((mT A fr (k + 1)).2.2.2) := by first | (rw [hT]; done) | (rw [hT, md_uw]; done) | simp only [hT, md_uw]
                      rw [hA_46] at hm
                      have hv_47 : (.int (nI (0)) : Value) = .int (nI ((mT A fr (k + 1)).1)) := by rw [hT]
                      have hv_48 : (.int (nI ((mT A fr k).2.1)) : Value) = .int (nI ((mT A fr (k + 1)).2.1)) := by rw [hT]
                      have hv_49 : (.int (nI (0)) : Value) = .int (nI ((mT A fr (k + 1)).2.2.1)) := by rw [hT]
                      have hv_50 : (.int (nI (8 + k + 1)) : Value) = .int (nI (8 + (k + 1))) := by first | rfl | simp_all
                      have hl : lv_has ls 9 [(7, .int (nI (8 + (k + 1)))), (6, .int (nI ((mT A fr (k + 1)).2.2.1))), (4, .int (nI ((mT A fr (k + 1)).1))), (8, .int (nI (A 3 (3000 * fr + (8 + k))))), (0, .ref (h0)), (2, .int (nI (3000 * fr))), (3, .int (nI (A 2 fr))), (5, .int (nI ((mT A fr (k + 1)).2.1)))] := by rw [← hv_47, ← hv_48, ← hv_49, ← hv_50]; exact hl
                      exact ih  (k + 1) (by omega) (by rw [hT]; show 0 ≤ 5; omega) (by omega) _ _ _ ls hm hf hw (lv_sub hl [4, 5, 6, 2, 7, 1, 0] rfl)
                    · skip
                      exact absurd c_45 (by decide)
                  · skip
                    have c_44 : (mT A fr k).2.2.1 = 0 := (nI_eq (a := (mT A fr k).2.2.1) (b := 0) (by omega) (by omega)).mp c_44
                    have hl0 : (mT A fr k).2.2.1 = 0 := c_44
                    refine lv_aload_n hx hb dX7_fault_109 rfl (lv_at hl 2 rfl) ?_
                    refine mw_get (C := RX7) (T := TX7) (N := 27) (v := .ref (a 26)) hx hb hts inX7_fault_X7 hown hC hw hm.1 rfl 26 (by decide) k_3 rfl dX7_fault_110 ?_
                    refine lv_iload hx hb dX7_fault_113 (lv_at hl 5 rfl) ?_
                    refine lv_iload hx hb dX7_fault_115 (lv_at hl 1 rfl) ?_
                    refine md_ast 26 (n := 3000) (v := A 3 (3000 * fr + (8 + k))) hx hb hC hw hm rfl (by decide) rfl (by omega) (by decide) dX7_fault_117 (fun M1 H locs hm hf1 hw => ?_)
                    have hf := hf.tr hf1
                    refine lv_iinc (v := nI ((mT A fr k).2.1 + 1)) (lv' := [(5, .int (nI ((mT A fr k).2.1 + 1))), (4, .int (nI (0))), (8, .int (nI (A 3 (3000 * fr + (8 + k))))), (0, .ref (h0)), (2, .int (nI (3000 * fr))), (3, .int (nI (A 2 fr))), (6, .int (nI ((mT A fr k).2.2.1))), (7, .int (nI (8 + k)))]) hx hb dX7_fault_118 hl (k := 5) rfl (by rw [show Int32.ofInt 1 = nI 1 by decide]; exact nI_add _ _) (by decide) rfl (fun ls hl => ?_)
                    refine lv_iload hx hb dX7_fault_121 (lv_at hl 1 rfl) ?_
                    refine lv_iconst (v := nI 5) hx hb dX7_fault_123 (by decide) ?_
                    refine lv_icmp_ne (tgt := 131) hx hb dX7_fault_124 (by decide) (fun c_51 => ?_) (fun c_51 => ?_)
                    · skip
                      refine lv_iconst (v := nI 0) hx hb dX7_fault_131 (by decide) ?_
                      refine lv_istore (lv' := [(6, .int (nI (0))), (5, .int (nI ((mT A fr k).2.1 + 1))), (4, .int (nI (0))), (8, .int (nI (A 3 (3000 * fr + (8 + k))))), (0, .ref (h0)), (2, .int (nI (3000 * fr))), (3, .int (nI (A 2 fr))), (7, .int (nI (8 + k)))]) hx hb dX7_fault_132 hl (by decide) rfl (fun ls hl => ?_)
                      refine lv_iinc (v := nI (8 + k + 1)) (lv' := [(7, .int (nI (8 + k + 1))), (6, .int (nI (0))), (5, .int (nI ((mT A fr k).2.1 + 1))), (4, .int (nI (0))), (8, .int (nI (A 3 (3000 * fr + (8 + k))))), (0, .ref (h0)), (2, .int (nI (3000 * fr))), (3, .int (nI (A 2 fr)))]) hx hb dX7_fault_134 hl (k := 7) rfl (by rw [show Int32.ofInt 1 = nI 1 by decide]; exact nI_add _ _) (by decide) rfl (fun ls hl => ?_)
                      refine lv_goto (tgt := 59) hx hb dX7_fault_137 (by decide) ?_
                      have hT : mT A fr (k + 1) = (0, (mT A fr k).2.1 + 1, 0, va_up (mT A fr k).2.2.2 (mT A fr k).2.1 (A 3 (3000 * fr + (8 + k)))) := by rw [mT]; unfold fs1 fs2 lvl; simp [h6, hv1, hl0]
                      have hA_52 : md_u ((va_up A 26 ((mT A fr k).2.2.2))) 26 ((mT A fr k).2.1) (A 3 (3000 * fr + (8 + k))) = va_up A 26 ((mT A fr (k + 1)).2.2.2) := by first | (rw [hT]; done) | (rw [hT, md_uw]; done) | simp only [hT, md_uw]
                      rw [hA_52] at hm
                      have hv_53 : (.int (nI (0)) : Value) = .int (nI ((mT A fr (k + 1)).1)) := by rw [hT]
                      have hv_54 : (.int (nI ((mT A fr k).2.1 + 1)) : Value) = .int (nI ((mT A fr (k + 1)).2.1)) := by rw [hT]
                      have hv_55 : (.int (nI (0)) : Value) = .int (nI ((mT A fr (k + 1)).2.2.1)) := by rw [hT]
                      have hv_56 : (.int (nI (8 + k + 1)) : Value) = .int (nI (8 + (k + 1))) := by first | rfl | simp_all
                      have hl : lv_has ls 9 [(7, .int (nI (8 + (k + 1)))), (6, .int (nI ((mT A fr (k + 1)).2.2.1))), (5, .int (nI ((mT A fr (k + 1)).2.1))), (4, .int (nI ((mT A fr (k + 1)).1))), (8, .int (nI (A 3 (3000 * fr + (8 + k))))), (0, .ref (h0)), (2, .int (nI (3000 * fr))), (3, .int (nI (A 2 fr)))] := by rw [← hv_53, ← hv_54, ← hv_55, ← hv_56]; exact hl
                      exact ih  (k + 1) (by omega) (by rw [hT]; show 0 ≤ 5; omega) (by omega) _ _ _ ls hm hf hw (lv_sub hl [5, 6, 7, 3, 2, 1, 0] rfl)
                    · skip
                      exact absurd c_51 (by decide)
                · skip
                  exact absurd c_43 (by decide)
              · skip
                have c_42 : A 3 (3000 * fr + (8 + k)) = 1 := (nI_eq (a := A 3 (3000 * fr + (8 + k))) (b := 1) (by omega) (by omega)).mp c_42
                have hv1 : A 3 (3000 * fr + (8 + k)) = 1 := c_42
                refine lv_iload hx hb dX7_fault_85 (lv_at hl 4 rfl) ?_
                refine lv_iconst (v := nI 1) hx hb dX7_fault_87 (by decide) ?_
                refine lv_iadd hx hb dX7_fault_88 ?_
                refine mw_ti (v' := nI ((mT A fr k).1 + 1)) (nI_add _ _) ?_
                refine lv_goto (tgt := 93) hx hb dX7_fault_89 (by decide) ?_
                refine lv_istore (lv' := [(4, .int (nI ((mT A fr k).1 + 1))), (8, .int (nI (A 3 (3000 * fr + (8 + k))))), (0, .ref (h0)), (2, .int (nI (3000 * fr))), (3, .int (nI (A 2 fr))), (5, .int (nI ((mT A fr k).2.1))), (6, .int (nI ((mT A fr k).2.2.1))), (7, .int (nI (8 + k)))]) hx hb dX7_fault_93 hl (by decide) rfl (fun ls hl => ?_)
                refine lv_iload hx hb dX7_fault_95 (lv_at hl 0 rfl) ?_
                refine lv_bipush (v := nI 6) hx hb dX7_fault_97 (by decide) ?_
                refine lv_icmp_ne (tgt := 104) hx hb dX7_fault_99 (by decide) (fun c_57 => ?_) (fun c_57 => ?_)
                · skip
                  have c_57 : (mT A fr k).1 + 1 ≠ 6 := fun h => c_57 ((nI_eq (a := (mT A fr k).1 + 1) (b := 6) (by omega) (by omega)).mpr h)
                  have ho6 : ¬ (mT A fr k).1 + 1 = 6 := c_57
                  refine lv_iload hx hb dX7_fault_104 (lv_at hl 6 rfl) ?_
                  refine lv_if_ne (tgt := 121) hx hb dX7_fault_106 (by decide) (fun c_58 => ?_) (fun c_58 => ?_)
                  · skip
                    have c_58 : (mT A fr k).2.2.1 ≠ 0 := fun h => c_58 ((nI_eq (a := (mT A fr k).2.2.1) (b := 0) (by omega) (by omega)).mpr h)
                    have hl0 : ¬ (mT A fr k).2.2.1 = 0 := c_58
                    refine lv_iload hx hb dX7_fault_121 (lv_at hl 0 rfl) ?_
                    refine lv_iconst (v := nI 5) hx hb dX7_fault_123 (by decide) ?_
                    refine lv_icmp_ne (tgt := 131) hx hb dX7_fault_124 (by decide) (fun c_59 => ?_) (fun c_59 => ?_)
                    · skip
                      have c_59 : (mT A fr k).1 + 1 ≠ 5 := fun h => c_59 ((nI_eq (a := (mT A fr k).1 + 1) (b := 5) (by omega) (by omega)).mpr h)
                      have h5 : ¬ (mT A fr k).1 + 1 = 5 := c_59
                      refine lv_iconst (v := nI 0) hx hb dX7_fault_131 (by decide) ?_
                      refine lv_istore (lv' := [(6, .int (nI (0))), (4, .int (nI ((mT A fr k).1 + 1))), (8, .int (nI (A 3 (3000 * fr + (8 + k))))), (0, .ref (h0)), (2, .int (nI (3000 * fr))), (3, .int (nI (A 2 fr))), (5, .int (nI ((mT A fr k).2.1))), (7, .int (nI (8 + k)))]) hx hb dX7_fault_132 hl (by decide) rfl (fun ls hl => ?_)
                      refine lv_iinc (v := nI (8 + k + 1)) (lv' := [(7, .int (nI (8 + k + 1))), (6, .int (nI (0))), (4, .int (nI ((mT A fr k).1 + 1))), (8, .int (nI (A 3 (3000 * fr + (8 + k))))), (0, .ref (h0)), (2, .int (nI (3000 * fr))), (3, .int (nI (A 2 fr))), (5, .int (nI ((mT A fr k).2.1)))]) hx hb dX7_fault_134 hl (k := 7) rfl (by rw [show Int32.ofInt 1 = nI 1 by decide]; exact nI_add _ _) (by decide) rfl (fun ls hl => ?_)
                      refine lv_goto (tgt := 59) hx hb dX7_fault_137 (by decide) ?_
                      have hT : mT A fr (k + 1) = ((mT A fr k).1 + 1, (mT A fr k).2.1, 0, (mT A fr k).2.2.2) := by rw [mT]; unfold fs1 fs2 lvl; simp [h6, hv1, hl0, ho6, h5]
                      have hA_60 : va_up A 26 ((mT A fr k).2.2.2) = va_up A 26 ((mT A fr (k + 1)).2.2.2) := by first | (rw [hT]; done) | (rw [hT, md_uw]; done) | simp only [hT, md_uw]
                      rw [hA_60] at hm
                      have hv_61 : (.int (nI ((mT A fr k).1 + 1)) : Value) = .int (nI ((mT A fr (k + 1)).1)) := by rw [hT]
                      rw [hv_61] at hl
                      have hv_62 : (.int (nI ((mT A fr k).2.1)) : Value) = .int (nI ((mT A fr (k + 1)).2.1)) := by rw [hT]
                      rw [hv_62] at hl
                      have hv_63 : (.int (nI (0)) : Value) = .int (nI ((mT A fr (k + 1)).2.2.1)) := by rw [hT]
                      rw [hv_63] at hl
                      have hv_64 : (.int (nI (8 + k + 1)) : Value) = .int (nI (8 + (k + 1))) := by first | rfl | simp_all
                      rw [hv_64] at hl
                      exact ih  (k + 1) (by omega) (by rw [hT]; show (mT A fr k).1 + 1 ≤ 5; omega) (by omega) _ _ _ ls hm hf hw (lv_sub hl [4, 5, 6, 2, 7, 1, 0] rfl)
                    · skip
                      have c_59 : (mT A fr k).1 + 1 = 5 := (nI_eq (a := (mT A fr k).1 + 1) (b := 5) (by omega) (by omega)).mp c_59
                      have h5 : (mT A fr k).1 + 1 = 5 := c_59
                      refine lv_iconst (v := nI 1) hx hb dX7_fault_127 (by decide) ?_
                      refine lv_goto (tgt := 132) hx hb dX7_fault_128 (by decide) ?_
                      refine lv_istore (lv' := [(6, .int (nI (1))), (4, .int (nI ((mT A fr k).1 + 1))), (8, .int (nI (A 3 (3000 * fr + (8 + k))))), (0, .ref (h0)), (2, .int (nI (3000 * fr))), (3, .int (nI (A 2 fr))), (5, .int (nI ((mT A fr k).2.1))), (7, .int (nI (8 + k)))]) hx hb dX7_fault_132 hl (by decide) rfl (fun ls hl => ?_)
                      refine lv_iinc (v := nI (8 + k + 1)) (lv' := [(7, .int (nI (8 + k + 1))), (6, .int (nI (1))), (4, .int (nI ((mT A fr k).1 + 1))), (8, .int (nI (A 3 (3000 * fr + (8 + k))))), (0, .ref (h0)), (2, .int (nI (3000 * fr))), (3, .int (nI (A 2 fr))), (5, .int (nI ((mT A fr k).2.1)))]) hx hb dX7_fault_134 hl (k := 7) rfl (by rw [show Int32.ofInt 1 = nI 1 by decide]; exact nI_add _ _) (by decide) rfl (fun ls hl => ?_)
                      refine lv_goto (tgt := 59) hx hb dX7_fault_137 (by decide) ?_
                      have hT : mT A fr (k + 1) = ((mT A fr k).1 + 1, (mT A fr k).2.1, 1, (mT A fr k).2.2.2) := by rw [mT]; unfold fs1 fs2 lvl; simp [h6, hv1, hl0, ho6, h5]
                      have hA_65 : va_up A 26 ((mT A fr k).2.2.2) = va_up A 26 ((mT A fr (k + 1)).2.2.2) := by first | (rw [hT]; done) | (rw [hT, md_uw]; done) | simp only [hT, md_uw]
                      rw [hA_65] at hm
                      have hv_66 : (.int (nI ((mT A fr k).1 + 1)) : Value) = .int (nI ((mT A fr (k + 1)).1)) := by rw [hT]
                      rw [hv_66] at hl
                      have hv_67 : (.int (nI ((mT A fr k).2.1)) : Value) = .int (nI ((mT A fr (k + 1)).2.1)) := by rw [hT]
                      rw [hv_67] at hl
                      have hv_68 : (.int (nI (1)) : Value) = .int (nI ((mT A fr (k + 1)).2.2.1)) := by rw [hT]
                      rw [hv_68] at hl
                      have hv_69 : (.int (nI (8 + k + 1)) : Value) = .int (nI (8 + (k + 1))) := by first | rfl | simp_all
                      rw [hv_69] at hl
                      exact ih  (k + 1) (by omega) (by rw [hT]; show (mT A fr k).1 + 1 ≤ 5; omega) (by omega) _ _ _ ls hm hf hw (lv_sub hl [4, 5, 6, 2, 7, 1, 0] rfl)
                  · skip
                    have c_58 : (mT A fr k).2.2.1 = 0 := (nI_eq (a := (mT A fr k).2.2.1) (b := 0) (by omega) (by omega)).mp c_58
                    have hl0 : (mT A fr k).2.2.1 = 0 := c_58
                    refine lv_aload_n hx hb dX7_fault_109 rfl (lv_at hl 2 rfl) ?_
                    refine mw_get (C := RX7) (T := TX7) (N := 27) (v := .ref (a 26)) hx hb hts inX7_fault_X7 hown hC hw hm.1 rfl 26 (by decide) k_3 rfl dX7_fault_110 ?_
                    refine lv_iload hx hb dX7_fault_113 (lv_at hl 5 rfl) ?_
                    refine lv_iload hx hb dX7_fault_115 (lv_at hl 1 rfl) ?_
                    refine md_ast 26 (n := 3000) (v := A 3 (3000 * fr + (8 + k))) hx hb hC hw hm rfl (by decide) rfl (by omega) (by decide) dX7_fault_117 (fun M1 H locs hm hf1 hw => ?_)
                    have hf := hf.tr hf1
                    refine lv_iinc (v := nI ((mT A fr k).2.1 + 1)) (lv' := [(5, .int (nI ((mT A fr k).2.1 + 1))), (4, .int (nI ((mT A fr k).1 + 1))), (8, .int (nI (A 3 (3000 * fr + (8 + k))))), (0, .ref (h0)), (2, .int (nI (3000 * fr))), (3, .int (nI (A 2 fr))), (6, .int (nI ((mT A fr k).2.2.1))), (7, .int (nI (8 + k)))]) hx hb dX7_fault_118 hl (k := 5) rfl (by rw [show Int32.ofInt 1 = nI 1 by decide]; exact nI_add _ _) (by decide) rfl (fun ls hl => ?_)
                    refine lv_iload hx hb dX7_fault_121 (lv_at hl 1 rfl) ?_
                    refine lv_iconst (v := nI 5) hx hb dX7_fault_123 (by decide) ?_
                    refine lv_icmp_ne (tgt := 131) hx hb dX7_fault_124 (by decide) (fun c_70 => ?_) (fun c_70 => ?_)
                    · skip
                      have c_70 : (mT A fr k).1 + 1 ≠ 5 := fun h => c_70 ((nI_eq (a := (mT A fr k).1 + 1) (b := 5) (by omega) (by omega)).mpr h)
                      have h5 : ¬ (mT A fr k).1 + 1 = 5 := c_70
                      refine lv_iconst (v := nI 0) hx hb dX7_fault_131 (by decide) ?_
                      refine lv_istore (lv' := [(6, .int (nI (0))), (5, .int (nI ((mT A fr k).2.1 + 1))), (4, .int (nI ((mT A fr k).1 + 1))), (8, .int (nI (A 3 (3000 * fr + (8 + k))))), (0, .ref (h0)), (2, .int (nI (3000 * fr))), (3, .int (nI (A 2 fr))), (7, .int (nI (8 + k)))]) hx hb dX7_fault_132 hl (by decide) rfl (fun ls hl => ?_)
                      refine lv_iinc (v := nI (8 + k + 1)) (lv' := [(7, .int (nI (8 + k + 1))), (6, .int (nI (0))), (5, .int (nI ((mT A fr k).2.1 + 1))), (4, .int (nI ((mT A fr k).1 + 1))), (8, .int (nI (A 3 (3000 * fr + (8 + k))))), (0, .ref (h0)), (2, .int (nI (3000 * fr))), (3, .int (nI (A 2 fr)))]) hx hb dX7_fault_134 hl (k := 7) rfl (by rw [show Int32.ofInt 1 = nI 1 by decide]; exact nI_add _ _) (by decide) rfl (fun ls hl => ?_)
                      refine lv_goto (tgt := 59) hx hb dX7_fault_137 (by decide) ?_
                      have hT : mT A fr (k + 1) = ((mT A fr k).1 + 1, (mT A fr k).2.1 + 1, 0, va_up (mT A fr k).2.2.2 (mT A fr k).2.1 (A 3 (3000 * fr + (8 + k)))) := by rw [mT]; unfold fs1 fs2 lvl; simp [h6, hv1, hl0, ho6, h5]
                      have hA_71 : md_u ((va_up A 26 ((mT A fr k).2.2.2))) 26 ((mT A fr k).2.1) (A 3 (3000 * fr + (8 + k))) = va_up A 26 ((mT A fr (k + 1)).2.2.2) := by first | (rw [hT]; done) | (rw [hT, md_uw]; done) | simp only [hT, md_uw]
                      rw [hA_71] at hm
                      have hv_72 : (.int (nI ((mT A fr k).1 + 1)) : Value) = .int (nI ((mT A fr (k + 1)).1)) := by rw [hT]
                      rw [hv_72] at hl
                      have hv_73 : (.int (nI ((mT A fr k).2.1 + 1)) : Value) = .int (nI ((mT A fr (k + 1)).2.1)) := by rw [hT]
                      rw [hv_73] at hl
                      have hv_74 : (.int (nI (0)) : Value) = .int (nI ((mT A fr (k + 1)).2.2.1)) := by rw [hT]
                      rw [hv_74] at hl
                      have hv_75 : (.int (nI (8 + k + 1)) : Value) = .int (nI (8 + (k + 1))) := by first | rfl | simp_all
                      rw [hv_75] at hl
                      exact ih  (k + 1) (by omega) (by rw [hT]; show (mT A fr k).1 + 1 ≤ 5; omega) (by omega) _ _ _ ls hm hf hw (lv_sub hl [5, 6, 7, 3, 2, 1, 0] rfl)
                    · skip
                      have c_70 : (mT A fr k).1 + 1 = 5 := (nI_eq (a := (mT A fr k).1 + 1) (b := 5) (by omega) (by omega)).mp c_70
                      have h5 : (mT A fr k).1 + 1 = 5 := c_70
                      refine lv_iconst (v := nI 1) hx hb dX7_fault_127 (by decide) ?_
                      refine lv_goto (tgt := 132) hx hb dX7_fault_128 (by decide) ?_
                      refine lv_istore (lv' := [(6, .int (nI (1))), (5, .int (nI ((mT A fr k).2.1 + 1))), (4, .int (nI ((mT A fr k).1 + 1))), (8, .int (nI (A 3 (3000 * fr + (8 + k))))), (0, .ref (h0)), (2, .int (nI (3000 * fr))), (3, .int (nI (A 2 fr))), (7, .int (nI (8 + k)))]) hx hb dX7_fault_132 hl (by decide) rfl (fun ls hl => ?_)
                      refine lv_iinc (v := nI (8 + k + 1)) (lv' := [(7, .int (nI (8 + k + 1))), (6, .int (nI (1))), (5, .int (nI ((mT A fr k).2.1 + 1))), (4, .int (nI ((mT A fr k).1 + 1))), (8, .int (nI (A 3 (3000 * fr + (8 + k))))), (0, .ref (h0)), (2, .int (nI (3000 * fr))), (3, .int (nI (A 2 fr)))]) hx hb dX7_fault_134 hl (k := 7) rfl (by rw [show Int32.ofInt 1 = nI 1 by decide]; exact nI_add _ _) (by decide) rfl (fun ls hl => ?_)
                      refine lv_goto (tgt := 59) hx hb dX7_fault_137 (by decide) ?_
                      have hT : mT A fr (k + 1) = ((mT A fr k).1 + 1, (mT A fr k).2.1 + 1, 1, va_up (mT A fr k).2.2.2 (mT A fr k).2.1 (A 3 (3000 * fr + (8 + k)))) := by rw [mT]; unfold fs1 fs2 lvl; simp [h6, hv1, hl0, ho6, h5]
                      have hA_76 : md_u ((va_up A 26 ((mT A fr k).2.2.2))) 26 ((mT A fr k).2.1) (A 3 (3000 * fr + (8 + k))) = va_up A 26 ((mT A fr (k + 1)).2.2.2) := by first | (rw [hT]; done) | (rw [hT, md_uw]; done) | simp only [hT, md_uw]
                      rw [hA_76] at hm
                      have hv_77 : (.int (nI ((mT A fr k).1 + 1)) : Value) = .int (nI ((mT A fr (k + 1)).1)) := by rw [hT]
                      rw [hv_77] at hl
                      have hv_78 : (.int (nI ((mT A fr k).2.1 + 1)) : Value) = .int (nI ((mT A fr (k + 1)).2.1)) := by rw [hT]
                      rw [hv_78] at hl
                      have hv_79 : (.int (nI (1)) : Value) = .int (nI ((mT A fr (k + 1)).2.2.1)) := by rw [hT]
                      rw [hv_79] at hl
                      have hv_80 : (.int (nI (8 + k + 1)) : Value) = .int (nI (8 + (k + 1))) := by first | rfl | simp_all
                      rw [hv_80] at hl
                      exact ih  (k + 1) (by omega) (by rw [hT]; show (mT A fr k).1 + 1 ≤ 5; omega) (by omega) _ _ _ ls hm hf hw (lv_sub hl [5, 6, 7, 3, 2, 1, 0] rfl)
                · skip
                  have c_57 : (mT A fr k).1 + 1 = 6 := (nI_eq (a := (mT A fr k).1 + 1) (b := 6) (by omega) (by omega)).mp c_57
                  have ho6 : (mT A fr k).1 + 1 = 6 := c_57
                  have hT : mfT A fr = (6, (mT A fr k).2) := mT_hit h6 hv1 ho6 (by omega)
                  have hT6 : (mfT A fr).1 = 6 := by rw [hT]
                  refine lv_iconst (v := nI 2) hx hb dX7_fault_102 (by decide) ?_
                  have hA_81 : va_up A 26 ((mT A fr k).2.2.2) = mfA A fr := by unfold mfA; rw [if_pos hok, if_pos hT6, hT]
                  rw [hA_81] at hm
                  have h_82 : u = mfu A fr u := by unfold mfu; rw [if_pos hok, if_pos hT6]
                  rw [h_82] at hm
                  exact md_iret hx hb hr hlocks hw hm hf (by unfold mft; rw [if_pos hok, if_pos hT6]) dX7_fault_103
        have hA_83 : A = va_up A 26 ((mT A fr 0).2.2.2) := by exact va_upi rfl
        rw [hA_83] at hm
        have hv_84 : (.int (nI (0)) : Value) = .int (nI ((mT A fr 0).1)) := by first | rfl | simp_all
        have hv_85 : (.int (nI (0)) : Value) = .int (nI ((mT A fr 0).2.1)) := by first | rfl | simp_all
        have hv_86 : (.int (nI (0)) : Value) = .int (nI ((mT A fr 0).2.2.1)) := by first | rfl | simp_all
        have hv_87 : (.int (nI (8)) : Value) = .int (nI (8 + 0)) := by first | rfl | simp_all
        have hl : lv_has ls 9 [(7, .int (nI (8 + 0))), (6, .int (nI ((mT A fr 0).2.2.1))), (5, .int (nI ((mT A fr 0).2.1))), (4, .int (nI ((mT A fr 0).1))), (3, .int (nI (A 2 fr))), (2, .int (nI (3000 * fr))), (0, .ref (h0)), (1, .int (nI (fr)))] := by rw [← hv_84, ← hv_85, ← hv_86, ← hv_87]; exact hl
        exact lp_8 (A 2 fr - 0 + 1) 0 (by omega) (Nat.zero_le 5) (Nat.lt_succ_self _) _ _ _ ls hm hf hw (lv_sub hl [6, 5, 4, 3, 2, 1, 0] rfl)
      · skip
        have c_7 : ifl A (3000 * fr + A 2 fr - 8) 8 ≠ 126 := fun h => c_7 ((nI_eq (a := ifl A (3000 * fr + A 2 fr - 8) 8) (b := 126) (by omega) (by omega)).mpr h)
        refine lv_iconst (v := nI 1) hx hb dX7_fault_44 (by decide) ?_
        have hok : ¬ mf1 A fr := fun h => by obtain ⟨h1, h2, h3⟩ := h; omega
        have hA_88 : A = mfA A fr := by unfold mfA; rw [if_neg hok]
        rw [hA_88] at hm
        have h_89 : u = mfu A fr u := by unfold mfu; rw [if_neg hok]
        rw [h_89] at hm
        exact md_iret hx hb hr hlocks hw hm hf (by unfold mft; rw [if_neg hok]) dX7_fault_45
