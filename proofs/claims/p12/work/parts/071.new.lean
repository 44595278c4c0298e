/-! ===== constructors: Line, End, LinkPair ===== -/
theorem inX2_init_X2 : ∀ w ∈ wsX20, w ∈ wsX2_init := by decide +kernel
theorem inX2_init_X1 : ∀ w ∈ wsX10, w ∈ wsX2_init := by decide +kernel
def RM_X2_init : Room := { frames := 2, cells := 81, slots := 2000, locals := 35 }
set_option maxHeartbeats 4000000 in
set_option maxRecDepth 100000 in
theorem c_X2_init (l : Launch) (G : mw_G) (M : mw_M) (sz : Nat) (h0 : Nat) (e0 : M h0 = some (.inr (2, [.null, .int (0)])))   : Met l yX2_init wsX2_init RM_X2_init (mw_pre G M sz [.ref (h0)]) (mw_Qn G M sz (fun M9 => mw_kp M M9 h0 ∧ ∃ (fa : Nat) (fr : Nat → Option Nat) (ya wa : Nat → Nat), M9 h0 = some (.inr (2, [.ref fa, .int (nI (0))])) ∧ mw_nw M M9 fa (.inl (G.2 5, 40, .inr (.inr (.inr (.inr fr))))) ∧ fr_new G M M9 fr ya wa 40)) 81 2000 (mw_A M sz) := by
  refine Met.ofW (cc := cX2_init) (maxL := 2) (ret := none) (by decide) rfl ?_
  intro p e s m args below meth c s₁ B hml hv
  obtain ⟨rfl, rfl, hC, hw⟩ := mw_in hv
  have hx := B.exec
  have hb := B.bytes
  have hr := B.returns
  have hts := atoms_spec (ws := wsX2_init) B.pre
  have hown : s.vm.findClass RX2 = some m.cls := findClass_of_methodNamed B.named
  have hlocks := B.notSynchronized
  have hin : meth.name = "<init>" := (name_of_methodNamed B.named B.method).1
  have k_0 := hts (.methodLink RX2 3 objectInit) (by decide +kernel)
  have k_1 := hts (.instanceMethod objectInit) (by decide +kernel)
  have k_2 := hts (.code objectInit ⟨#[0xb1]⟩ 1 none) (by decide +kernel)
  have k_3 := hts (.classLink RX2 9 "LinkPair$Frame") (by decide +kernel)
  have k_4 := hts (.fieldLink RX2 11 "LinkPair$Line" "frames" "[LLinkPair$Frame;") (by decide +kernel)
  have k_5 := hts (.classLink RX2 9 RX1) (by decide +kernel)
  have k_6 := hts (.instantiable RX1 2) (by decide +kernel)
  have k_7 := hts (.initialized RX1) (by decide +kernel)
  have k_8 := hts (.instanceMethod yX1_init) (by decide +kernel)
  have hl := lv_entry ([.ref (h0)]) (n := 2) (Nat.le_of_ble_eq_true rfl)
  rw [lg_entry_eq]
  generalize (lg_sl ([.ref (h0)]) ++ List.replicate (2 - (lg_sl ([.ref (h0)])).length) Slot.unset).toArray = ls at hl ⊢
  have hl : lv_has ls 2 [(0, .ref (h0))] := hl
  refine mw_start (fun H locs hw => ?_) hw
  have hk0 : mw_kp M M h0 := mw_kp.rf
  refine lv_aload_n hx hb dX2_init_0 rfl (lv_at hl 0 rfl) ?_
  refine W.objInit hx hb hown k_0 k_1 k_2 rfl (by rw [hml]; exact hl.1) rfl dX2_init_1 (Nat.le_of_ble_eq_true rfl) (Nat.le_of_ble_eq_true rfl) ?_
  refine W.eq (g2 := F0 m 4 ls []) rfl ?_
  refine lv_aload_n hx hb dX2_init_4 rfl (lv_at hl 0 rfl) ?_
  refine lv_bipush (v := nI 40) hx hb dX2_init_5 (by decide) ?_
  refine mw_newF (N' := 40) hx hb hown k_3 hC hw (by decide +kernel) (by decide +kernel) (by decide +kernel) (Nat.le_of_ble_eq_true rfl) (Nat.le_of_ble_eq_true rfl) dX2_init_7 (fun H' hn hw => ?_)
  obtain ⟨q_1, eq_1⟩ : ∃ z, z = H.size := ⟨_, rfl⟩
  rw [← eq_1] at hw hn ⊢
  generalize H' = H at hw ⊢
  have hn_2 := hn
  have n_q_1_h0 : h0 ≠ q_1 := mw_nen e0 hn_2
  have f_hk0_q_1 : M q_1 = none := mw_kp.dn hk0 e0 hn_2
  obtain ⟨M_3, eM_3⟩ : ∃ z : mw_M, z = va_up M q_1 (some (.inl (G.2 5, 40, .inr (.inr (.inr (.inr (fun _ => none))))))) := ⟨_, rfl⟩
  rw [← eM_3] at hw
  have bM_3_h0 : M_3 h0 = some (.inr (2, [.null, .int (0)])) := by rw [eM_3]; exact mw_u1 n_q_1_h0 e0
  have bM_3_q_1 : M_3 q_1 = some (.inl (G.2 5, 40, .inr (.inr (.inr (.inr (fun _ => none)))))) := by rw [eM_3]; exact mw_u0
  have hk0 : mw_kp M M_3 h0 := by rw [eM_3]; exact hk0.new hn_2
  refine mw_putF (C := RX2) (T := TX2) (N := 2) hx hb hts inX2_init_X2 tyX2 tyX2_ok nmX2 hown hC hw bM_3_h0 rfl 0 (by decide) k_4 rfl hin rfl rfl rfl (Nat.le_of_ble_eq_true rfl) dX2_init_10 (fun H locs hw => ?_)
  have hw : mw_St G _ s (va_up _ h0 (some (.inr (2, [.ref (q_1), .int (0)])))) H locs := hw
  obtain ⟨M_4, eM_4⟩ : ∃ z : mw_M, z = va_up M_3 h0 (some (.inr (2, [.ref (q_1), .int (0)]))) := ⟨_, rfl⟩
  rw [← eM_4] at hw
  have bM_4_h0 : M_4 h0 = some (.inr (2, [.ref (q_1), .int (0)])) := by rw [eM_4]; exact mw_u0
  have bM_4_q_1 : M_4 q_1 = some (.inl (G.2 5, 40, .inr (.inr (.inr (.inr (fun _ => none)))))) := by rw [eM_4]; exact mw_u1 (Ne.symm n_q_1_h0) bM_3_q_1
  have hk0 : mw_kp M M_4 h0 := by rw [eM_4]; exact hk0.self
  refine lv_iconst (v := nI 0) hx hb dX2_init_13 (by decide) ?_
  refine lv_istore_n (lv' := [(1, .int (nI (0))), (0, .ref (h0))]) hx hb dX2_init_14 rfl hl (by decide) rfl (fun ls hl => ?_)
  have lp_1 : ∀ (n9 i : Nat) (M1 : mw_M) (fr : Nat → Option Nat) (ya wa : Nat → Nat), i ≤ 40 → 40 - i < n9 → mw_kp M M1 h0 → M1 h0 = some (.inr (2, [.ref (q_1), .int (0)])) → M1 q_1 = some (.inl (G.2 5, 40, .inr (.inr (.inr (.inr (fr)))))) → fr_new G M M1 fr ya wa i → ∀ (H : Heap) (locs : List Loc) (ls : Array Slot), mw_St G (mw_A M s.heap.size) s M1 H locs → lv_has ls 2 [(0, .ref (h0)), (1, .int (nI (i)))] → W p l e (headSpec wsX2_init RM_X2_init).room s m ([.ref (h0)] : List Value).toArray below meth c H locs (1 + 2 * i) (40 + 49 * i) (MQ below (mw_Qn G M s.heap.size (fun M9 => mw_kp M M9 h0 ∧ ∃ (fa : Nat) (fr : Nat → Option Nat) (ya wa : Nat → Nat), M9 h0 = some (.inr (2, [.ref fa, .int (nI (0))])) ∧ mw_nw M M9 fa (.inl (G.2 5, 40, .inr (.inr (.inr (.inr fr))))) ∧ fr_new G M M9 fr ya wa 40)) ([.ref (h0)] : List Value).toArray s 81 2000 (mw_A M s.heap.size)) (F0 m 15 ls []) := by
    intro n9
    induction n9 with
    | zero => intro i M1 fr ya wa h1 h9; exact absurd h9 (Nat.not_lt_zero _)
    | succ n9 ih =>
      intro i M1 fr ya wa hi h9 hk0 i0 i1 hfr H locs ls hw hl
      have hkf : mw_kp M1 M1 q_1 := mw_kp.rf
      refine lv_iload_n hx hb dX2_init_15 rfl (lv_at hl 1 rfl) ?_
      refine lv_bipush (v := nI 40) hx hb dX2_init_16 (by decide) ?_
      refine lv_icmp_ge (tgt := 40) hx hb dX2_init_18 (by decide) (fun c_5 => ?_) (fun c_5 => ?_)
      · skip
        have c_5 : i ≥ 40 := (nI_leI (a := 40) (b := i) (by omega) (by omega)).mp c_5
        obtain rfl : i = 40 := by omega
        exact mw_nret hx hb hr hlocks hw (⟨hk0, q_1, fr, ya, wa, i0, ⟨i1, f_hk0_q_1⟩, hfr⟩) dX2_init_40
      · skip
        have c_5 : i < 40 := Nat.not_le.mp (fun h => c_5 ((nI_leI (a := 40) (b := i) (by omega) (by omega)).mpr h))
        refine lv_aload_n hx hb dX2_init_21 rfl (lv_at hl 0 rfl) ?_
        refine mw_get (C := RX2) (T := TX2) (N := 2) (v := .ref (q_1)) hx hb hts inX2_init_X2 hown hC hw i0 rfl 0 (by decide) k_4 rfl dX2_init_22 ?_
        refine lv_iload_n hx hb dX2_init_25 rfl (lv_at hl 1 rfl) ?_
        refine mw_new (ci := 1) (C := RX1) (T := TX1) (N := 2) (fs := [.null, .int (0)]) hx hb hts inX2_init_X1 tyX1 tyX1_ok hown k_5 k_6 k_7 hC hw rfl (fun j hj => by rcases (show j = 0 ∨ j = 1 by omega) with rfl | rfl <;> rfl) (show 1 + 2 * i + 1 ≤ 81 by omega) (show 40 + 49 * i + 2 ≤ 2000 by omega) dX2_init_26 (fun H' hn hw => ?_)
        obtain ⟨q_6, eq_6⟩ : ∃ z, z = H.size := ⟨_, rfl⟩
        rw [← eq_6] at hw hn ⊢
        generalize H' = H at hw ⊢
        have hn_7 := hn
        have n_q_6_h0 : h0 ≠ q_6 := mw_nen i0 hn_7
        have n_q_6_q_1 : q_1 ≠ q_6 := mw_nen i1 hn_7
        have f_hk0_q_6 : M q_6 = none := mw_kp.dn hk0 i0 hn_7
        have f_hkf_q_6 : M1 q_6 = none := mw_kp.dn hkf i1 hn_7
        obtain ⟨M_8, eM_8⟩ : ∃ z : mw_M, z = va_up M1 q_6 (some (.inr (1, [.null, .int (0)]))) := ⟨_, rfl⟩
        rw [← eM_8] at hw
        have bM_8_h0 : M_8 h0 = some (.inr (2, [.ref (q_1), .int (0)])) := by rw [eM_8]; exact mw_u1 n_q_6_h0 i0
        have bM_8_q_1 : M_8 q_1 = some (.inl (G.2 5, 40, .inr (.inr (.inr (.inr (fr)))))) := by rw [eM_8]; exact mw_u1 n_q_6_q_1 i1
        have bM_8_q_6 : M_8 q_6 = some (.inr (1, [.null, .int (0)])) := by rw [eM_8]; exact mw_u0
        have hk0 : mw_kp M M_8 h0 := by rw [eM_8]; exact hk0.new hn_7
        have hkf : mw_kp M1 M_8 q_1 := by rw [eM_8]; exact hkf.new hn_7
        refine lv_dup hx hb dX2_init_29 rfl ?_
        refine mw_cn hC hw (va_runIN (As := []) (rest := [.ref (q_6), .int (nI (i)), .ref (q_1)]) ⟨hx, hb, hml, hown, hts⟩ (c_X1_init l G _ H.size q_6 bM_8_q_6 ) ⟨va_cnB 0 hts gX2_init_X1_init_n17 rfl rfl rfl (hC.1.2.2.1 (.methodLinkNest RX2 17 yX1_init "LinkPair") (by decide +kernel)) k_7 (by decide +kernel) ⟨Nat.le_of_ble_eq_true rfl, Nat.le_of_ble_eq_true rfl⟩, rfl, k_8⟩ (mw_preS hC hw) rfl rfl hl.1 rfl (lv_room (Nat.le_of_ble_eq_true rfl)) dX2_init_30 ⟨show _ + 1 ≤ 81 by omega, show _ + 47 ≤ 2000 by omega⟩) (fun P_9 H locs hz hP hw => ?_)
        obtain ⟨q_10, hn_11, eP_9⟩ := hP
        rw [eP_9] at hw
        have n_q_10_h0 : h0 ≠ q_10 := mw_nen bM_8_h0 hn_11
        have n_q_10_q_1 : q_1 ≠ q_10 := mw_nen bM_8_q_1 hn_11
        have n_q_10_q_6 : q_6 ≠ q_10 := mw_nen bM_8_q_6 hn_11
        have f_hk0_q_10 : M q_10 = none := mw_kp.dn hk0 bM_8_h0 hn_11
        have f_hkf_q_10 : M1 q_10 = none := mw_kp.dn hkf bM_8_q_1 hn_11
        obtain ⟨M_12, eM_12⟩ : ∃ z : mw_M, z = va_up M_8 q_10 (some (.inl (G.2 2, 47, .inr (.inl (fun _ => 0))))) := ⟨_, rfl⟩
        rw [← eM_12] at hw
        have bM_12_h0 : M_12 h0 = some (.inr (2, [.ref (q_1), .int (0)])) := by rw [eM_12]; exact mw_u1 n_q_10_h0 bM_8_h0
        have bM_12_q_1 : M_12 q_1 = some (.inl (G.2 5, 40, .inr (.inr (.inr (.inr (fr)))))) := by rw [eM_12]; exact mw_u1 n_q_10_q_1 bM_8_q_1
        have bM_12_q_6 : M_12 q_6 = some (.inr (1, [.null, .int (0)])) := by rw [eM_12]; exact mw_u1 n_q_10_q_6 bM_8_q_6
        have bM_12_q_10 : M_12 q_10 = some (.inl (G.2 2, 47, .inr (.inl (fun _ => 0)))) := by rw [eM_12]; exact mw_u0
        have hk0 : mw_kp M M_12 h0 := by rw [eM_12]; exact hk0.new hn_11
        have hkf : mw_kp M1 M_12 q_1 := by rw [eM_12]; exact hkf.new hn_11
        obtain ⟨M_13, eM_13⟩ : ∃ z : mw_M, z = va_up M_12 q_6 (some (.inr (1, [.ref (q_10), .int (nI (0))]))) := ⟨_, rfl⟩
        rw [← eM_13] at hw
        have bM_13_h0 : M_13 h0 = some (.inr (2, [.ref (q_1), .int (0)])) := by rw [eM_13]; exact mw_u1 n_q_6_h0 bM_12_h0
        have bM_13_q_1 : M_13 q_1 = some (.inl (G.2 5, 40, .inr (.inr (.inr (.inr (fr)))))) := by rw [eM_13]; exact mw_u1 n_q_6_q_1 bM_12_q_1
        have bM_13_q_6 : M_13 q_6 = some (.inr (1, [.ref (q_10), .int (nI (0))])) := by rw [eM_13]; exact mw_u0
        have bM_13_q_10 : M_13 q_10 = some (.inl (G.2 2, 47, .inr (.inl (fun _ => 0)))) := by rw [eM_13]; exact mw_u1 (Ne.symm n_q_10_q_6) bM_12_q_10
        have hk0 : mw_kp M M_13 h0 := by rw [eM_13]; exact hk0.fr f_hk0_q_6
        have hkf : mw_kp M1 M_13 q_1 := by rw [eM_13]; exact hkf.fr f_hkf_q_6
        refine mw_fastN (n := 40) (f := fr) (i := i) hx hb hC hw bM_13_q_1 bM_13_q_6 (by omega) (by decide) dX2_init_33 (fun H locs hw => ?_)
        obtain ⟨M_14, eM_14⟩ : ∃ z : mw_M, z = va_up M_13 q_1 (some (.inl (G.2 5, 40, .inr (.inr (.inr (.inr (va_up (fr) (i) (some (q_6))))))))) := ⟨_, rfl⟩
        rw [← eM_14] at hw
        have bM_14_h0 : M_14 h0 = some (.inr (2, [.ref (q_1), .int (0)])) := by rw [eM_14]; exact mw_u1 n_q_1_h0 bM_13_h0
        have bM_14_q_1 : M_14 q_1 = some (.inl (G.2 5, 40, .inr (.inr (.inr (.inr (va_up (fr) (i) (some (q_6)))))))) := by rw [eM_14]; exact mw_u0
        have bM_14_q_6 : M_14 q_6 = some (.inr (1, [.ref (q_10), .int (nI (0))])) := by rw [eM_14]; exact mw_u1 (Ne.symm n_q_6_q_1) bM_13_q_6
        have bM_14_q_10 : M_14 q_10 = some (.inl (G.2 2, 47, .inr (.inl (fun _ => 0)))) := by rw [eM_14]; exact mw_u1 (Ne.symm n_q_10_q_1) bM_13_q_10
        have hk0 : mw_kp M M_14 h0 := by rw [eM_14]; exact hk0.fr f_hk0_q_1
        have hkf : mw_kp M1 M_14 q_1 := by rw [eM_14]; exact hkf.self
        refine lv_iinc (v := nI (i + 1)) (lv' := [(1, .int (nI (i + 1))), (0, .ref (h0))]) hx hb dX2_init_34 hl (k := 1) rfl (by rw [show Int32.ofInt 1 = nI 1 by decide]; exact nI_add _ _) (by decide) rfl (fun ls hl => ?_)
        refine lv_goto (tgt := 15) hx hb dX2_init_37 (by decide) ?_
        refine W.widen (k := 1 + 2 * (i + 1)) (n := 40 + 49 * (i + 1)) (by omega) (by omega) ?_
        exact ih (i + 1) M_14 _ (va_up ya i q_6) (va_up wa i q_10) (by omega) (by omega) hk0 bM_14_h0 bM_14_q_1 (hfr.step i1 hkf f_hkf_q_6 f_hkf_q_10 ⟨bM_14_q_6, f_hk0_q_6⟩ ⟨bM_14_q_10, f_hk0_q_10⟩) _ _ ls hw (lv_sub hl [1, 0] rfl)
  exact lp_1 41 0 M_4 (fun _ => none) (fun _ => 0) (fun _ => 0) (by omega) (by omega) hk0 bM_4_h0 bM_4_q_1 fr_new.zero _ _ ls hw (lv_sub hl [1, 0] rfl)
theorem inX0_init_X2 : ∀ w ∈ wsX20, w ∈ wsX0_init := by decide +kernel
theorem inX0_init_X0 : ∀ w ∈ wsX00, w ∈ wsX0_init := by decide +kernel
theorem inX0_init_X3 : ∀ w ∈ wsX30, w ∈ wsX0_init := by decide +kernel
theorem inX0_init_X4 : ∀ w ∈ wsX40, w ∈ wsX0_init := by decide +kernel
def RM_X0_init : Room := { frames := 3, cells := 88, slots := 16035, locals := 56 }
set_option maxHeartbeats 4000000 in
set_option maxRecDepth 100000 in
theorem c_X0_init (l : Launch) (G : mw_G) (M : mw_M) (sz : Nat) (h0 : Nat) (e0 : M h0 = some (.inr (0, [.null, .null, .null, .int (0), .int (0), .int (0), .int (0), .int (0), .int (0), .int (0), .int (0), .int (0)])))   : Met l yX0_init wsX0_init RM_X0_init (mw_pre G M sz [.ref (h0)]) (mw_Qn G M sz (fun M9 => mw_kp M M9 h0 ∧ ∃ (li fa me la sa so ba sl : Nat) (fr : Nat → Option Nat) (ya wa : Nat → Nat), M9 h0 = some (en_obj li me so) ∧ en_new G M M9 li fa me la sa so ba sl fr ya wa)) 88 16035 (mw_A M sz) := by
  refine Met.ofW (cc := cX0_init) (maxL := 1) (ret := none) (by decide) rfl ?_
  intro p e s m args below meth c s₁ B hml hv
  obtain ⟨rfl, rfl, hC, hw⟩ := mw_in hv
  have hx := B.exec
  have hb := B.bytes
  have hr := B.returns
  have hts := atoms_spec (ws := wsX0_init) B.pre
  have hown : s.vm.findClass RX0 = some m.cls := findClass_of_methodNamed B.named
  have hlocks := B.notSynchronized
  have hin : meth.name = "<init>" := (name_of_methodNamed B.named B.method).1
  have k_0 := hts (.methodLink RX0 3 objectInit) (by decide +kernel)
  have k_1 := hts (.instanceMethod objectInit) (by decide +kernel)
  have k_2 := hts (.code objectInit ⟨#[0xb1]⟩ 1 none) (by decide +kernel)
  have k_3 := hts (.classLink RX0 9 RX2) (by decide +kernel)
  have k_4 := hts (.instantiable RX2 2) (by decide +kernel)
  have k_5 := hts (.initialized RX2) (by decide +kernel)
  have k_6 := hts (.instanceMethod yX2_init) (by decide +kernel)
  have k_7 := hts (.methodLink RX0 11 yX2_init) (by decide +kernel)
  have k_8 := hts (.fieldLink RX0 12 "LinkPair$End" "line" "LLinkPair$Line;") (by decide +kernel)
  have k_9 := hts (.classLink RX0 18 RX3) (by decide +kernel)
  have k_10 := hts (.instantiable RX3 6) (by decide +kernel)
  have k_11 := hts (.initialized RX3) (by decide +kernel)
  have k_12 := hts (.instanceMethod yX3_init) (by decide +kernel)
  have k_13 := hts (.fieldLink RX0 21 "LinkPair$End" "messages" "LLinkPair$Messages;") (by decide +kernel)
  have k_14 := hts (.classLink RX0 25 RX4) (by decide +kernel)
  have k_15 := hts (.instantiable RX4 3) (by decide +kernel)
  have k_16 := hts (.initialized RX4) (by decide +kernel)
  have k_17 := hts (.instanceMethod yX4_init) (by decide +kernel)
  have k_18 := hts (.fieldLink RX0 28 "LinkPair$End" "store" "LLinkPair$Store;") (by decide +kernel)
  have k_19 := hts (.fieldLink RX0 32 "LinkPair$End" "forwardIndicator" "I") (by decide +kernel)
  have k_20 := hts (.fieldLink RX0 36 "LinkPair$End" "backwardIndicator" "I") (by decide +kernel)
  have k_21 := hts (.fieldLink RX0 39 "LinkPair$End" "sentNumber" "I") (by decide +kernel)
  have k_22 := hts (.fieldLink RX0 42 "LinkPair$End" "takenNumber" "I") (by decide +kernel)
  have hl := lv_entry ([.ref (h0)]) (n := 1) (Nat.le_of_ble_eq_true rfl)
  rw [lg_entry_eq]
  generalize (lg_sl ([.ref (h0)]) ++ List.replicate (1 - (lg_sl ([.ref (h0)])).length) Slot.unset).toArray = ls at hl ⊢
  have hl : lv_has ls 1 [(0, .ref (h0))] := hl
  refine mw_start (fun H locs hw => ?_) hw
  have hk0 : mw_kp M M h0 := mw_kp.rf
  refine lv_aload_n hx hb dX0_init_0 rfl (lv_at hl 0 rfl) ?_
  refine W.objInit hx hb hown k_0 k_1 k_2 rfl (by rw [hml]; exact hl.1) rfl dX0_init_1 (Nat.le_of_ble_eq_true rfl) (Nat.le_of_ble_eq_true rfl) ?_
  refine W.eq (g2 := F0 m 4 ls []) rfl ?_
  refine lv_aload_n hx hb dX0_init_4 rfl (lv_at hl 0 rfl) ?_
  refine mw_new (ci := 2) (C := RX2) (T := TX2) (N := 2) (fs := [.null, .int (0)]) hx hb hts inX0_init_X2 tyX2 tyX2_ok hown k_3 k_4 k_5 hC hw rfl (fun j hj => by rcases (show j = 0 ∨ j = 1 by omega) with rfl | rfl <;> rfl) (Nat.le_of_ble_eq_true rfl) (Nat.le_of_ble_eq_true rfl) dX0_init_5 (fun H' hn hw => ?_)
  obtain ⟨q_1, eq_1⟩ : ∃ z, z = H.size := ⟨_, rfl⟩
  rw [← eq_1] at hw hn ⊢
  generalize H' = H at hw ⊢
  have hn_2 := hn
  have n_q_1_h0 : h0 ≠ q_1 := mw_nen e0 hn_2
  have f_hk0_q_1 : M q_1 = none := mw_kp.dn hk0 e0 hn_2
  obtain ⟨M_3, eM_3⟩ : ∃ z : mw_M, z = va_up M q_1 (some (.inr (2, [.null, .int (0)]))) := ⟨_, rfl⟩
  rw [← eM_3] at hw
  have bM_3_h0 : M_3 h0 = some (.inr (0, [.null, .null, .null, .int (0), .int (0), .int (0), .int (0), .int (0), .int (0), .int (0), .int (0), .int (0)])) := by rw [eM_3]; exact mw_u1 n_q_1_h0 e0
  have bM_3_q_1 : M_3 q_1 = some (.inr (2, [.null, .int (0)])) := by rw [eM_3]; exact mw_u0
  have hk0 : mw_kp M M_3 h0 := by rw [eM_3]; exact hk0.new hn_2
  refine lv_dup hx hb dX0_init_8 rfl ?_
  have hd_ch_5 : ∀ r, M_3 r = none → M r = none := fun r hr => mw_kp.dn hk0 bM_3_h0 hr
  refine mw_cn hC hw (va_runI (As := []) (rest := [.ref (q_1), .ref (h0)]) ⟨hx, hb, hml, hown, hts⟩ (c_X2_init l G _ H.size q_1 bM_3_q_1 ) (cwI 0 hts gX0_init_X2_init rfl rfl rfl k_5 k_7 k_6 rfl (by decide +kernel) ⟨Nat.le_of_ble_eq_true rfl, Nat.le_of_ble_eq_true rfl⟩) (mw_preS hC hw) rfl rfl hl.1 rfl (lv_room (Nat.le_of_ble_eq_true rfl)) dX0_init_9 ⟨Nat.le_of_ble_eq_true rfl, Nat.le_of_ble_eq_true rfl⟩) (fun M_4 H locs hz hP hw => ?_)
  obtain ⟨hkc, fa__6, fr__7, ya__8, wa__9, es_ch_5, er_ch_5⟩ := hP
  have bM_4_h0 : M_4 h0 = some (.inr (0, [.null, .null, .null, .int (0), .int (0), .int (0), .int (0), .int (0), .int (0), .int (0), .int (0), .int (0)])) := hkc h0 _ bM_3_h0 n_q_1_h0
  have bM_4_q_1 : M_4 q_1 = some (.inr (2, [.ref (fa__6), .int (nI (0))])) := es_ch_5
  have hk0 : mw_kp M M_4 h0 := hk0.tr f_hk0_q_1 hkc
  have kn_ch_5 : mw_kn M_3 M_4 M_4 := mw_kn.rf
  refine mw_putF (C := RX0) (T := TX0) (N := 12) hx hb hts inX0_init_X0 tyX0 tyX0_ok nmX0 hown hC hw bM_4_h0 rfl 0 (by decide) k_8 rfl hin rfl rfl rfl (Nat.le_of_ble_eq_true rfl) dX0_init_12 (fun H locs hw => ?_)
  have hw : mw_St G _ s (va_up _ h0 (some (.inr (0, [.ref (q_1), .null, .null, .int (0), .int (0), .int (0), .int (0), .int (0), .int (0), .int (0), .int (0), .int (0)])))) H locs := hw
  obtain ⟨M_10, eM_10⟩ : ∃ z : mw_M, z = va_up M_4 h0 (some (.inr (0, [.ref (q_1), .null, .null, .int (0), .int (0), .int (0), .int (0), .int (0), .int (0), .int (0), .int (0), .int (0)]))) := ⟨_, rfl⟩
  rw [← eM_10] at hw
  have bM_10_h0 : M_10 h0 = some (.inr (0, [.ref (q_1), .null, .null, .int (0), .int (0), .int (0), .int (0), .int (0), .int (0), .int (0), .int (0), .int (0)])) := by rw [eM_10]; exact mw_u0
  have bM_10_q_1 : M_10 q_1 = some (.inr (2, [.ref (fa__6), .int (nI (0))])) := by rw [eM_10]; exact mw_u1 (Ne.symm n_q_1_h0) bM_4_q_1
  have hk0 : mw_kp M M_10 h0 := by rw [eM_10]; exact hk0.self
  have kn_ch_5 : mw_kn M_3 M_4 M_10 := by rw [eM_10]; exact kn_ch_5.old bM_3_h0
  refine lv_aload_n hx hb dX0_init_15 rfl (lv_at hl 0 rfl) ?_
  refine mw_new (ci := 3) (C := RX3) (T := TX3) (N := 6) (fs := [.null, .null, .int (0), .int (0), .int (0), .int (0)]) hx hb hts inX0_init_X3 tyX3 tyX3_ok hown k_9 k_10 k_11 hC hw rfl (fun j hj => by rcases (show j = 0 ∨ j = 1 ∨ j = 2 ∨ j = 3 ∨ j = 4 ∨ j = 5 by omega) with rfl | rfl | rfl | rfl | rfl | rfl <;> rfl) (Nat.le_of_ble_eq_true rfl) (Nat.le_of_ble_eq_true rfl) dX0_init_16 (fun H' hn hw => ?_)
  obtain ⟨q_11, eq_11⟩ : ∃ z, z = H.size := ⟨_, rfl⟩
  rw [← eq_11] at hw hn ⊢
  generalize H' = H at hw ⊢
  have hn_12 := hn
  have n_q_11_h0 : h0 ≠ q_11 := mw_nen bM_10_h0 hn_12
  have n_q_11_q_1 : q_1 ≠ q_11 := mw_nen bM_10_q_1 hn_12
  have f_hk0_q_11 : M q_11 = none := mw_kp.dn hk0 bM_10_h0 hn_12
  have z_kn_ch_5_q_11 : ∀ x, M_4 q_11 = some x → M_3 q_11 = none → False := fun x h1 h2 => mw_sn (kn_ch_5 q_11 x h1 h2) hn_12
  obtain ⟨M_13, eM_13⟩ : ∃ z : mw_M, z = va_up M_10 q_11 (some (.inr (3, [.null, .null, .int (0), .int (0), .int (0), .int (0)]))) := ⟨_, rfl⟩
  rw [← eM_13] at hw
  have bM_13_h0 : M_13 h0 = some (.inr (0, [.ref (q_1), .null, .null, .int (0), .int (0), .int (0), .int (0), .int (0), .int (0), .int (0), .int (0), .int (0)])) := by rw [eM_13]; exact mw_u1 n_q_11_h0 bM_10_h0
  have bM_13_q_1 : M_13 q_1 = some (.inr (2, [.ref (fa__6), .int (nI (0))])) := by rw [eM_13]; exact mw_u1 n_q_11_q_1 bM_10_q_1
  have bM_13_q_11 : M_13 q_11 = some (.inr (3, [.null, .null, .int (0), .int (0), .int (0), .int (0)])) := by rw [eM_13]; exact mw_u0
  have hk0 : mw_kp M M_13 h0 := by rw [eM_13]; exact hk0.new hn_12
  have kn_ch_5 : mw_kn M_3 M_4 M_13 := by rw [eM_13]; exact kn_ch_5.new hn_12
  refine lv_dup hx hb dX0_init_19 rfl ?_
  refine mw_cn hC hw (va_runIN (As := []) (rest := [.ref (q_11), .ref (h0)]) ⟨hx, hb, hml, hown, hts⟩ (c_X3_init l G _ H.size q_11 bM_13_q_11 ) ⟨va_cnB 0 hts gX0_init_X3_init_n20 rfl rfl rfl (hC.1.2.2.1 (.methodLinkNest RX0 20 yX3_init "LinkPair") (by decide +kernel)) k_11 (by decide +kernel) ⟨Nat.le_of_ble_eq_true rfl, Nat.le_of_ble_eq_true rfl⟩, rfl, k_12⟩ (mw_preS hC hw) rfl rfl hl.1 rfl (lv_room (Nat.le_of_ble_eq_true rfl)) dX0_init_20 ⟨Nat.le_of_ble_eq_true rfl, Nat.le_of_ble_eq_true rfl⟩) (fun P_14 H locs hz hP hw => ?_)
  obtain ⟨q_15, q_16, hn_18, hn_19, u_17, eP_14⟩ := hP
  rw [eP_14] at hw
  have n_q_15_h0 : h0 ≠ q_15 := mw_nen bM_13_h0 hn_18
  have n_q_15_q_1 : q_1 ≠ q_15 := mw_nen bM_13_q_1 hn_18
  have n_q_15_q_11 : q_11 ≠ q_15 := mw_nen bM_13_q_11 hn_18
  have f_hk0_q_15 : M q_15 = none := mw_kp.dn hk0 bM_13_h0 hn_18
  have z_kn_ch_5_q_15 : ∀ x, M_4 q_15 = some x → M_3 q_15 = none → False := fun x h1 h2 => mw_sn (kn_ch_5 q_15 x h1 h2) hn_18
  obtain ⟨M_20, eM_20⟩ : ∃ z : mw_M, z = va_up M_13 q_15 (some (.inl (G.2 1, 187, .inl (fun j => nI ((fun _ => 0) j))))) := ⟨_, rfl⟩
  rw [← eM_20] at hw
  have bM_20_h0 : M_20 h0 = some (.inr (0, [.ref (q_1), .null, .null, .int (0), .int (0), .int (0), .int (0), .int (0), .int (0), .int (0), .int (0), .int (0)])) := by rw [eM_20]; exact mw_u1 n_q_15_h0 bM_13_h0
  have bM_20_q_1 : M_20 q_1 = some (.inr (2, [.ref (fa__6), .int (nI (0))])) := by rw [eM_20]; exact mw_u1 n_q_15_q_1 bM_13_q_1
  have bM_20_q_11 : M_20 q_11 = some (.inr (3, [.null, .null, .int (0), .int (0), .int (0), .int (0)])) := by rw [eM_20]; exact mw_u1 n_q_15_q_11 bM_13_q_11
  have bM_20_q_15 : M_20 q_15 = some (.inl (G.2 1, 187, .inl (fun j => nI ((fun _ => 0) j)))) := by rw [eM_20]; exact mw_u0
  have hk0 : mw_kp M M_20 h0 := by rw [eM_20]; exact hk0.new hn_18
  have kn_ch_5 : mw_kn M_3 M_4 M_20 := by rw [eM_20]; exact kn_ch_5.new hn_18
  have hn_21 : M_20 q_16 = none := by rw [eM_20]; exact mw_u1 (Ne.symm u_17) hn_19
  have n_q_16_h0 : h0 ≠ q_16 := mw_nen bM_20_h0 hn_21
  have n_q_16_q_1 : q_1 ≠ q_16 := mw_nen bM_20_q_1 hn_21
  have n_q_16_q_11 : q_11 ≠ q_16 := mw_nen bM_20_q_11 hn_21
  have n_q_16_q_15 : q_15 ≠ q_16 := mw_nen bM_20_q_15 hn_21
  have f_hk0_q_16 : M q_16 = none := mw_kp.dn hk0 bM_20_h0 hn_21
  have z_kn_ch_5_q_16 : ∀ x, M_4 q_16 = some x → M_3 q_16 = none → False := fun x h1 h2 => mw_sn (kn_ch_5 q_16 x h1 h2) hn_21
  obtain ⟨M_22, eM_22⟩ : ∃ z : mw_M, z = va_up M_20 q_16 (some (.inl (G.2 1, 187, .inl (fun j => nI ((fun _ => 0) j))))) := ⟨_, rfl⟩
  rw [← eM_22] at hw
  have bM_22_h0 : M_22 h0 = some (.inr (0, [.ref (q_1), .null, .null, .int (0), .int (0), .int (0), .int (0), .int (0), .int (0), .int (0), .int (0), .int (0)])) := by rw [eM_22]; exact mw_u1 n_q_16_h0 bM_20_h0
  have bM_22_q_1 : M_22 q_1 = some (.inr (2, [.ref (fa__6), .int (nI (0))])) := by rw [eM_22]; exact mw_u1 n_q_16_q_1 bM_20_q_1
  have bM_22_q_11 : M_22 q_11 = some (.inr (3, [.null, .null, .int (0), .int (0), .int (0), .int (0)])) := by rw [eM_22]; exact mw_u1 n_q_16_q_11 bM_20_q_11
  have bM_22_q_15 : M_22 q_15 = some (.inl (G.2 1, 187, .inl (fun j => nI ((fun _ => 0) j)))) := by rw [eM_22]; exact mw_u1 n_q_16_q_15 bM_20_q_15
  have bM_22_q_16 : M_22 q_16 = some (.inl (G.2 1, 187, .inl (fun j => nI ((fun _ => 0) j)))) := by rw [eM_22]; exact mw_u0
  have hk0 : mw_kp M M_22 h0 := by rw [eM_22]; exact hk0.new hn_21
  have kn_ch_5 : mw_kn M_3 M_4 M_22 := by rw [eM_22]; exact kn_ch_5.new hn_21
  obtain ⟨M_23, eM_23⟩ : ∃ z : mw_M, z = va_up M_22 q_11 (some (.inr (3, [.ref (q_15), .ref (q_16), .int (nI (0)), .int (nI (0)), .int (nI (0)), .int (nI (0))]))) := ⟨_, rfl⟩
  rw [← eM_23] at hw
  have bM_23_h0 : M_23 h0 = some (.inr (0, [.ref (q_1), .null, .null, .int (0), .int (0), .int (0), .int (0), .int (0), .int (0), .int (0), .int (0), .int (0)])) := by rw [eM_23]; exact mw_u1 n_q_11_h0 bM_22_h0
  have bM_23_q_1 : M_23 q_1 = some (.inr (2, [.ref (fa__6), .int (nI (0))])) := by rw [eM_23]; exact mw_u1 n_q_11_q_1 bM_22_q_1
  have bM_23_q_11 : M_23 q_11 = some (.inr (3, [.ref (q_15), .ref (q_16), .int (nI (0)), .int (nI (0)), .int (nI (0)), .int (nI (0))])) := by rw [eM_23]; exact mw_u0
  have bM_23_q_15 : M_23 q_15 = some (.inl (G.2 1, 187, .inl (fun j => nI ((fun _ => 0) j)))) := by rw [eM_23]; exact mw_u1 (Ne.symm n_q_15_q_11) bM_22_q_15
  have bM_23_q_16 : M_23 q_16 = some (.inl (G.2 1, 187, .inl (fun j => nI ((fun _ => 0) j)))) := by rw [eM_23]; exact mw_u1 (Ne.symm n_q_16_q_11) bM_22_q_16
  have hk0 : mw_kp M M_23 h0 := by rw [eM_23]; exact hk0.fr f_hk0_q_11
  have kn_ch_5 : mw_kn M_3 M_4 M_23 := by rw [eM_23]; exact kn_ch_5.far z_kn_ch_5_q_11
  refine mw_putF (C := RX0) (T := TX0) (N := 12) hx hb hts inX0_init_X0 tyX0 tyX0_ok nmX0 hown hC hw bM_23_h0 rfl 1 (by decide) k_13 rfl hin rfl rfl rfl (Nat.le_of_ble_eq_true rfl) dX0_init_23 (fun H locs hw => ?_)
  have hw : mw_St G _ s (va_up _ h0 (some (.inr (0, [.ref (q_1), .ref (q_11), .null, .int (0), .int (0), .int (0), .int (0), .int (0), .int (0), .int (0), .int (0), .int (0)])))) H locs := hw
  obtain ⟨M_24, eM_24⟩ : ∃ z : mw_M, z = va_up M_23 h0 (some (.inr (0, [.ref (q_1), .ref (q_11), .null, .int (0), .int (0), .int (0), .int (0), .int (0), .int (0), .int (0), .int (0), .int (0)]))) := ⟨_, rfl⟩
  rw [← eM_24] at hw
  have bM_24_h0 : M_24 h0 = some (.inr (0, [.ref (q_1), .ref (q_11), .null, .int (0), .int (0), .int (0), .int (0), .int (0), .int (0), .int (0), .int (0), .int (0)])) := by rw [eM_24]; exact mw_u0
  have bM_24_q_1 : M_24 q_1 = some (.inr (2, [.ref (fa__6), .int (nI (0))])) := by rw [eM_24]; exact mw_u1 (Ne.symm n_q_1_h0) bM_23_q_1
  have bM_24_q_11 : M_24 q_11 = some (.inr (3, [.ref (q_15), .ref (q_16), .int (nI (0)), .int (nI (0)), .int (nI (0)), .int (nI (0))])) := by rw [eM_24]; exact mw_u1 (Ne.symm n_q_11_h0) bM_23_q_11
  have bM_24_q_15 : M_24 q_15 = some (.inl (G.2 1, 187, .inl (fun j => nI ((fun _ => 0) j)))) := by rw [eM_24]; exact mw_u1 (Ne.symm n_q_15_h0) bM_23_q_15
  have bM_24_q_16 : M_24 q_16 = some (.inl (G.2 1, 187, .inl (fun j => nI ((fun _ => 0) j)))) := by rw [eM_24]; exact mw_u1 (Ne.symm n_q_16_h0) bM_23_q_16
  have hk0 : mw_kp M M_24 h0 := by rw [eM_24]; exact hk0.self
  have kn_ch_5 : mw_kn M_3 M_4 M_24 := by rw [eM_24]; exact kn_ch_5.old bM_3_h0
  refine lv_aload_n hx hb dX0_init_26 rfl (lv_at hl 0 rfl) ?_
  refine mw_new (ci := 4) (C := RX4) (T := TX4) (N := 3) (fs := [.null, .null, .int (0)]) hx hb hts inX0_init_X4 tyX4 tyX4_ok hown k_14 k_15 k_16 hC hw rfl (fun j hj => by rcases (show j = 0 ∨ j = 1 ∨ j = 2 by omega) with rfl | rfl | rfl <;> rfl) (Nat.le_of_ble_eq_true rfl) (Nat.le_of_ble_eq_true rfl) dX0_init_27 (fun H' hn hw => ?_)
  obtain ⟨q_25, eq_25⟩ : ∃ z, z = H.size := ⟨_, rfl⟩
  rw [← eq_25] at hw hn ⊢
  generalize H' = H at hw ⊢
  have hn_26 := hn
  have n_q_25_h0 : h0 ≠ q_25 := mw_nen bM_24_h0 hn_26
  have n_q_25_q_1 : q_1 ≠ q_25 := mw_nen bM_24_q_1 hn_26
  have n_q_25_q_11 : q_11 ≠ q_25 := mw_nen bM_24_q_11 hn_26
  have n_q_25_q_15 : q_15 ≠ q_25 := mw_nen bM_24_q_15 hn_26
  have n_q_25_q_16 : q_16 ≠ q_25 := mw_nen bM_24_q_16 hn_26
  have f_hk0_q_25 : M q_25 = none := mw_kp.dn hk0 bM_24_h0 hn_26
  have z_kn_ch_5_q_25 : ∀ x, M_4 q_25 = some x → M_3 q_25 = none → False := fun x h1 h2 => mw_sn (kn_ch_5 q_25 x h1 h2) hn_26
  obtain ⟨M_27, eM_27⟩ : ∃ z : mw_M, z = va_up M_24 q_25 (some (.inr (4, [.null, .null, .int (0)]))) := ⟨_, rfl⟩
  rw [← eM_27] at hw
  have bM_27_h0 : M_27 h0 = some (.inr (0, [.ref (q_1), .ref (q_11), .null, .int (0), .int (0), .int (0), .int (0), .int (0), .int (0), .int (0), .int (0), .int (0)])) := by rw [eM_27]; exact mw_u1 n_q_25_h0 bM_24_h0
  have bM_27_q_1 : M_27 q_1 = some (.inr (2, [.ref (fa__6), .int (nI (0))])) := by rw [eM_27]; exact mw_u1 n_q_25_q_1 bM_24_q_1
  have bM_27_q_11 : M_27 q_11 = some (.inr (3, [.ref (q_15), .ref (q_16), .int (nI (0)), .int (nI (0)), .int (nI (0)), .int (nI (0))])) := by rw [eM_27]; exact mw_u1 n_q_25_q_11 bM_24_q_11
  have bM_27_q_15 : M_27 q_15 = some (.inl (G.2 1, 187, .inl (fun j => nI ((fun _ => 0) j)))) := by rw [eM_27]; exact mw_u1 n_q_25_q_15 bM_24_q_15
  have bM_27_q_16 : M_27 q_16 = some (.inl (G.2 1, 187, .inl (fun j => nI ((fun _ => 0) j)))) := by rw [eM_27]; exact mw_u1 n_q_25_q_16 bM_24_q_16
  have bM_27_q_25 : M_27 q_25 = some (.inr (4, [.null, .null, .int (0)])) := by rw [eM_27]; exact mw_u0
  have hk0 : mw_kp M M_27 h0 := by rw [eM_27]; exact hk0.new hn_26
  have kn_ch_5 : mw_kn M_3 M_4 M_27 := by rw [eM_27]; exact kn_ch_5.new hn_26
  refine lv_dup hx hb dX0_init_30 rfl ?_
  refine mw_cn hC hw (va_runIN (As := []) (rest := [.ref (q_25), .ref (h0)]) ⟨hx, hb, hml, hown, hts⟩ (c_X4_init l G _ H.size q_25 bM_27_q_25 ) ⟨va_cnB 0 hts gX0_init_X4_init_n27 rfl rfl rfl (hC.1.2.2.1 (.methodLinkNest RX0 27 yX4_init "LinkPair") (by decide +kernel)) k_16 (by decide +kernel) ⟨Nat.le_of_ble_eq_true rfl, Nat.le_of_ble_eq_true rfl⟩, rfl, k_17⟩ (mw_preS hC hw) rfl rfl hl.1 rfl (lv_room (Nat.le_of_ble_eq_true rfl)) dX0_init_31 ⟨Nat.le_of_ble_eq_true rfl, Nat.le_of_ble_eq_true rfl⟩) (fun P_28 H locs hz hP hw => ?_)
  obtain ⟨q_29, q_30, hn_32, hn_33, u_31, eP_28⟩ := hP
  rw [eP_28] at hw
  have n_q_29_h0 : h0 ≠ q_29 := mw_nen bM_27_h0 hn_32
  have n_q_29_q_1 : q_1 ≠ q_29 := mw_nen bM_27_q_1 hn_32
  have n_q_29_q_11 : q_11 ≠ q_29 := mw_nen bM_27_q_11 hn_32
  have n_q_29_q_15 : q_15 ≠ q_29 := mw_nen bM_27_q_15 hn_32
  have n_q_29_q_16 : q_16 ≠ q_29 := mw_nen bM_27_q_16 hn_32
  have n_q_29_q_25 : q_25 ≠ q_29 := mw_nen bM_27_q_25 hn_32
  have f_hk0_q_29 : M q_29 = none := mw_kp.dn hk0 bM_27_h0 hn_32
  have z_kn_ch_5_q_29 : ∀ x, M_4 q_29 = some x → M_3 q_29 = none → False := fun x h1 h2 => mw_sn (kn_ch_5 q_29 x h1 h2) hn_32
  obtain ⟨M_34, eM_34⟩ : ∃ z : mw_M, z = va_up M_27 q_29 (some (.inl (G.2 0, 13600, .inl (fun j => sb_b ((fun _ => 0) j))))) := ⟨_, rfl⟩
  rw [← eM_34] at hw
  have bM_34_h0 : M_34 h0 = some (.inr (0, [.ref (q_1), .ref (q_11), .null, .int (0), .int (0), .int (0), .int (0), .int (0), .int (0), .int (0), .int (0), .int (0)])) := by rw [eM_34]; exact mw_u1 n_q_29_h0 bM_27_h0
  have bM_34_q_1 : M_34 q_1 = some (.inr (2, [.ref (fa__6), .int (nI (0))])) := by rw [eM_34]; exact mw_u1 n_q_29_q_1 bM_27_q_1
  have bM_34_q_11 : M_34 q_11 = some (.inr (3, [.ref (q_15), .ref (q_16), .int (nI (0)), .int (nI (0)), .int (nI (0)), .int (nI (0))])) := by rw [eM_34]; exact mw_u1 n_q_29_q_11 bM_27_q_11
  have bM_34_q_15 : M_34 q_15 = some (.inl (G.2 1, 187, .inl (fun j => nI ((fun _ => 0) j)))) := by rw [eM_34]; exact mw_u1 n_q_29_q_15 bM_27_q_15
  have bM_34_q_16 : M_34 q_16 = some (.inl (G.2 1, 187, .inl (fun j => nI ((fun _ => 0) j)))) := by rw [eM_34]; exact mw_u1 n_q_29_q_16 bM_27_q_16
  have bM_34_q_25 : M_34 q_25 = some (.inr (4, [.null, .null, .int (0)])) := by rw [eM_34]; exact mw_u1 n_q_29_q_25 bM_27_q_25
  have bM_34_q_29 : M_34 q_29 = some (.inl (G.2 0, 13600, .inl (fun j => sb_b ((fun _ => 0) j)))) := by rw [eM_34]; exact mw_u0
  have hk0 : mw_kp M M_34 h0 := by rw [eM_34]; exact hk0.new hn_32
  have kn_ch_5 : mw_kn M_3 M_4 M_34 := by rw [eM_34]; exact kn_ch_5.new hn_32
  have hn_35 : M_34 q_30 = none := by rw [eM_34]; exact mw_u1 (Ne.symm u_31) hn_33
  have n_q_30_h0 : h0 ≠ q_30 := mw_nen bM_34_h0 hn_35
  have n_q_30_q_1 : q_1 ≠ q_30 := mw_nen bM_34_q_1 hn_35
  have n_q_30_q_11 : q_11 ≠ q_30 := mw_nen bM_34_q_11 hn_35
  have n_q_30_q_15 : q_15 ≠ q_30 := mw_nen bM_34_q_15 hn_35
  have n_q_30_q_16 : q_16 ≠ q_30 := mw_nen bM_34_q_16 hn_35
  have n_q_30_q_25 : q_25 ≠ q_30 := mw_nen bM_34_q_25 hn_35
  have n_q_30_q_29 : q_29 ≠ q_30 := mw_nen bM_34_q_29 hn_35
  have f_hk0_q_30 : M q_30 = none := mw_kp.dn hk0 bM_34_h0 hn_35
  have z_kn_ch_5_q_30 : ∀ x, M_4 q_30 = some x → M_3 q_30 = none → False := fun x h1 h2 => mw_sn (kn_ch_5 q_30 x h1 h2) hn_35
  obtain ⟨M_36, eM_36⟩ : ∃ z : mw_M, z = va_up M_34 q_30 (some (.inl (G.2 1, 50, .inl (fun j => nI ((fun _ => 0) j))))) := ⟨_, rfl⟩
  rw [← eM_36] at hw
  have bM_36_h0 : M_36 h0 = some (.inr (0, [.ref (q_1), .ref (q_11), .null, .int (0), .int (0), .int (0), .int (0), .int (0), .int (0), .int (0), .int (0), .int (0)])) := by rw [eM_36]; exact mw_u1 n_q_30_h0 bM_34_h0
  have bM_36_q_1 : M_36 q_1 = some (.inr (2, [.ref (fa__6), .int (nI (0))])) := by rw [eM_36]; exact mw_u1 n_q_30_q_1 bM_34_q_1
  have bM_36_q_11 : M_36 q_11 = some (.inr (3, [.ref (q_15), .ref (q_16), .int (nI (0)), .int (nI (0)), .int (nI (0)), .int (nI (0))])) := by rw [eM_36]; exact mw_u1 n_q_30_q_11 bM_34_q_11
  have bM_36_q_15 : M_36 q_15 = some (.inl (G.2 1, 187, .inl (fun j => nI ((fun _ => 0) j)))) := by rw [eM_36]; exact mw_u1 n_q_30_q_15 bM_34_q_15
  have bM_36_q_16 : M_36 q_16 = some (.inl (G.2 1, 187, .inl (fun j => nI ((fun _ => 0) j)))) := by rw [eM_36]; exact mw_u1 n_q_30_q_16 bM_34_q_16
  have bM_36_q_25 : M_36 q_25 = some (.inr (4, [.null, .null, .int (0)])) := by rw [eM_36]; exact mw_u1 n_q_30_q_25 bM_34_q_25
  have bM_36_q_29 : M_36 q_29 = some (.inl (G.2 0, 13600, .inl (fun j => sb_b ((fun _ => 0) j)))) := by rw [eM_36]; exact mw_u1 n_q_30_q_29 bM_34_q_29
  have bM_36_q_30 : M_36 q_30 = some (.inl (G.2 1, 50, .inl (fun j => nI ((fun _ => 0) j)))) := by rw [eM_36]; exact mw_u0
  have hk0 : mw_kp M M_36 h0 := by rw [eM_36]; exact hk0.new hn_35
  have kn_ch_5 : mw_kn M_3 M_4 M_36 := by rw [eM_36]; exact kn_ch_5.new hn_35
  obtain ⟨M_37, eM_37⟩ : ∃ z : mw_M, z = va_up M_36 q_25 (some (.inr (4, [.ref (q_29), .ref (q_30), .int (nI (0))]))) := ⟨_, rfl⟩
  rw [← eM_37] at hw
  have bM_37_h0 : M_37 h0 = some (.inr (0, [.ref (q_1), .ref (q_11), .null, .int (0), .int (0), .int (0), .int (0), .int (0), .int (0), .int (0), .int (0), .int (0)])) := by rw [eM_37]; exact mw_u1 n_q_25_h0 bM_36_h0
  have bM_37_q_1 : M_37 q_1 = some (.inr (2, [.ref (fa__6), .int (nI (0))])) := by rw [eM_37]; exact mw_u1 n_q_25_q_1 bM_36_q_1
  have bM_37_q_11 : M_37 q_11 = some (.inr (3, [.ref (q_15), .ref (q_16), .int (nI (0)), .int (nI (0)), .int (nI (0)), .int (nI (0))])) := by rw [eM_37]; exact mw_u1 n_q_25_q_11 bM_36_q_11
  have bM_37_q_15 : M_37 q_15 = some (.inl (G.2 1, 187, .inl (fun j => nI ((fun _ => 0) j)))) := by rw [eM_37]; exact mw_u1 n_q_25_q_15 bM_36_q_15
  have bM_37_q_16 : M_37 q_16 = some (.inl (G.2 1, 187, .inl (fun j => nI ((fun _ => 0) j)))) := by rw [eM_37]; exact mw_u1 n_q_25_q_16 bM_36_q_16
  have bM_37_q_25 : M_37 q_25 = some (.inr (4, [.ref (q_29), .ref (q_30), .int (nI (0))])) := by rw [eM_37]; exact mw_u0
  have bM_37_q_29 : M_37 q_29 = some (.inl (G.2 0, 13600, .inl (fun j => sb_b ((fun _ => 0) j)))) := by rw [eM_37]; exact mw_u1 (Ne.symm n_q_29_q_25) bM_36_q_29
  have bM_37_q_30 : M_37 q_30 = some (.inl (G.2 1, 50, .inl (fun j => nI ((fun _ => 0) j)))) := by rw [eM_37]; exact mw_u1 (Ne.symm n_q_30_q_25) bM_36_q_30
  have hk0 : mw_kp M M_37 h0 := by rw [eM_37]; exact hk0.fr f_hk0_q_25
  have kn_ch_5 : mw_kn M_3 M_4 M_37 := by rw [eM_37]; exact kn_ch_5.far z_kn_ch_5_q_25
  refine mw_putF (C := RX0) (T := TX0) (N := 12) hx hb hts inX0_init_X0 tyX0 tyX0_ok nmX0 hown hC hw bM_37_h0 rfl 2 (by decide) k_18 rfl hin rfl rfl rfl (Nat.le_of_ble_eq_true rfl) dX0_init_34 (fun H locs hw => ?_)
  have hw : mw_St G _ s (va_up _ h0 (some (.inr (0, [.ref (q_1), .ref (q_11), .ref (q_25), .int (0), .int (0), .int (0), .int (0), .int (0), .int (0), .int (0), .int (0), .int (0)])))) H locs := hw
  obtain ⟨M_38, eM_38⟩ : ∃ z : mw_M, z = va_up M_37 h0 (some (.inr (0, [.ref (q_1), .ref (q_11), .ref (q_25), .int (0), .int (0), .int (0), .int (0), .int (0), .int (0), .int (0), .int (0), .int (0)]))) := ⟨_, rfl⟩
  rw [← eM_38] at hw
  have bM_38_h0 : M_38 h0 = some (.inr (0, [.ref (q_1), .ref (q_11), .ref (q_25), .int (0), .int (0), .int (0), .int (0), .int (0), .int (0), .int (0), .int (0), .int (0)])) := by rw [eM_38]; exact mw_u0
  have bM_38_q_1 : M_38 q_1 = some (.inr (2, [.ref (fa__6), .int (nI (0))])) := by rw [eM_38]; exact mw_u1 (Ne.symm n_q_1_h0) bM_37_q_1
  have bM_38_q_11 : M_38 q_11 = some (.inr (3, [.ref (q_15), .ref (q_16), .int (nI (0)), .int (nI (0)), .int (nI (0)), .int (nI (0))])) := by rw [eM_38]; exact mw_u1 (Ne.symm n_q_11_h0) bM_37_q_11
  have bM_38_q_15 : M_38 q_15 = some (.inl (G.2 1, 187, .inl (fun j => nI ((fun _ => 0) j)))) := by rw [eM_38]; exact mw_u1 (Ne.symm n_q_15_h0) bM_37_q_15
  have bM_38_q_16 : M_38 q_16 = some (.inl (G.2 1, 187, .inl (fun j => nI ((fun _ => 0) j)))) := by rw [eM_38]; exact mw_u1 (Ne.symm n_q_16_h0) bM_37_q_16
  have bM_38_q_25 : M_38 q_25 = some (.inr (4, [.ref (q_29), .ref (q_30), .int (nI (0))])) := by rw [eM_38]; exact mw_u1 (Ne.symm n_q_25_h0) bM_37_q_25
  have bM_38_q_29 : M_38 q_29 = some (.inl (G.2 0, 13600, .inl (fun j => sb_b ((fun _ => 0) j)))) := by rw [eM_38]; exact mw_u1 (Ne.symm n_q_29_h0) bM_37_q_29
  have bM_38_q_30 : M_38 q_30 = some (.inl (G.2 1, 50, .inl (fun j => nI ((fun _ => 0) j)))) := by rw [eM_38]; exact mw_u1 (Ne.symm n_q_30_h0) bM_37_q_30
  have hk0 : mw_kp M M_38 h0 := by rw [eM_38]; exact hk0.self
  have kn_ch_5 : mw_kn M_3 M_4 M_38 := by rw [eM_38]; exact kn_ch_5.old bM_3_h0
  refine lv_aload_n hx hb dX0_init_37 rfl (lv_at hl 0 rfl) ?_
  refine lv_iconst (v := nI 1) hx hb dX0_init_38 (by decide) ?_
  refine mw_put (C := RX0) (T := TX0) (N := 12) hx hb hts inX0_init_X0 tyX0 tyX0_ok nmX0 hown hC hw bM_38_h0 rfl 3 (by decide) k_19 rfl rfl rfl (Nat.le_of_ble_eq_true rfl) dX0_init_39 (fun H locs hw => ?_)
  have hw : mw_St G _ s (va_up _ h0 (some (.inr (0, [.ref (q_1), .ref (q_11), .ref (q_25), .int (nI (1)), .int (0), .int (0), .int (0), .int (0), .int (0), .int (0), .int (0), .int (0)])))) H locs := hw
  obtain ⟨M_39, eM_39⟩ : ∃ z : mw_M, z = va_up M_38 h0 (some (.inr (0, [.ref (q_1), .ref (q_11), .ref (q_25), .int (nI (1)), .int (0), .int (0), .int (0), .int (0), .int (0), .int (0), .int (0), .int (0)]))) := ⟨_, rfl⟩
  rw [← eM_39] at hw
  have bM_39_h0 : M_39 h0 = some (.inr (0, [.ref (q_1), .ref (q_11), .ref (q_25), .int (nI (1)), .int (0), .int (0), .int (0), .int (0), .int (0), .int (0), .int (0), .int (0)])) := by rw [eM_39]; exact mw_u0
  have bM_39_q_1 : M_39 q_1 = some (.inr (2, [.ref (fa__6), .int (nI (0))])) := by rw [eM_39]; exact mw_u1 (Ne.symm n_q_1_h0) bM_38_q_1
  have bM_39_q_11 : M_39 q_11 = some (.inr (3, [.ref (q_15), .ref (q_16), .int (nI (0)), .int (nI (0)), .int (nI (0)), .int (nI (0))])) := by rw [eM_39]; exact mw_u1 (Ne.symm n_q_11_h0) bM_38_q_11
  have bM_39_q_15 : M_39 q_15 = some (.inl (G.2 1, 187, .inl (fun j => nI ((fun _ => 0) j)))) := by rw [eM_39]; exact mw_u1 (Ne.symm n_q_15_h0) bM_38_q_15
  have bM_39_q_16 : M_39 q_16 = some (.inl (G.2 1, 187, .inl (fun j => nI ((fun _ => 0) j)))) := by rw [eM_39]; exact mw_u1 (Ne.symm n_q_16_h0) bM_38_q_16
  have bM_39_q_25 : M_39 q_25 = some (.inr (4, [.ref (q_29), .ref (q_30), .int (nI (0))])) := by rw [eM_39]; exact mw_u1 (Ne.symm n_q_25_h0) bM_38_q_25
  have bM_39_q_29 : M_39 q_29 = some (.inl (G.2 0, 13600, .inl (fun j => sb_b ((fun _ => 0) j)))) := by rw [eM_39]; exact mw_u1 (Ne.symm n_q_29_h0) bM_38_q_29
  have bM_39_q_30 : M_39 q_30 = some (.inl (G.2 1, 50, .inl (fun j => nI ((fun _ => 0) j)))) := by rw [eM_39]; exact mw_u1 (Ne.symm n_q_30_h0) bM_38_q_30
  have hk0 : mw_kp M M_39 h0 := by rw [eM_39]; exact hk0.self
  have kn_ch_5 : mw_kn M_3 M_4 M_39 := by rw [eM_39]; exact kn_ch_5.old bM_3_h0
  refine lv_aload_n hx hb dX0_init_42 rfl (lv_at hl 0 rfl) ?_
  refine lv_iconst (v := nI 1) hx hb dX0_init_43 (by decide) ?_
  refine mw_put (C := RX0) (T := TX0) (N := 12) hx hb hts inX0_init_X0 tyX0 tyX0_ok nmX0 hown hC hw bM_39_h0 rfl 4 (by decide) k_20 rfl rfl rfl (Nat.le_of_ble_eq_true rfl) dX0_init_44 (fun H locs hw => ?_)
  have hw : mw_St G _ s (va_up _ h0 (some (.inr (0, [.ref (q_1), .ref (q_11), .ref (q_25), .int (nI (1)), .int (nI (1)), .int (0), .int (0), .int (0), .int (0), .int (0), .int (0), .int (0)])))) H locs := hw
  obtain ⟨M_40, eM_40⟩ : ∃ z : mw_M, z = va_up M_39 h0 (some (.inr (0, [.ref (q_1), .ref (q_11), .ref (q_25), .int (nI (1)), .int (nI (1)), .int (0), .int (0), .int (0), .int (0), .int (0), .int (0), .int (0)]))) := ⟨_, rfl⟩
  rw [← eM_40] at hw
  have bM_40_h0 : M_40 h0 = some (.inr (0, [.ref (q_1), .ref (q_11), .ref (q_25), .int (nI (1)), .int (nI (1)), .int (0), .int (0), .int (0), .int (0), .int (0), .int (0), .int (0)])) := by rw [eM_40]; exact mw_u0
  have bM_40_q_1 : M_40 q_1 = some (.inr (2, [.ref (fa__6), .int (nI (0))])) := by rw [eM_40]; exact mw_u1 (Ne.symm n_q_1_h0) bM_39_q_1
  have bM_40_q_11 : M_40 q_11 = some (.inr (3, [.ref (q_15), .ref (q_16), .int (nI (0)), .int (nI (0)), .int (nI (0)), .int (nI (0))])) := by rw [eM_40]; exact mw_u1 (Ne.symm n_q_11_h0) bM_39_q_11
  have bM_40_q_15 : M_40 q_15 = some (.inl (G.2 1, 187, .inl (fun j => nI ((fun _ => 0) j)))) := by rw [eM_40]; exact mw_u1 (Ne.symm n_q_15_h0) bM_39_q_15
  have bM_40_q_16 : M_40 q_16 = some (.inl (G.2 1, 187, .inl (fun j => nI ((fun _ => 0) j)))) := by rw [eM_40]; exact mw_u1 (Ne.symm n_q_16_h0) bM_39_q_16
  have bM_40_q_25 : M_40 q_25 = some (.inr (4, [.ref (q_29), .ref (q_30), .int (nI (0))])) := by rw [eM_40]; exact mw_u1 (Ne.symm n_q_25_h0) bM_39_q_25
  have bM_40_q_29 : M_40 q_29 = some (.inl (G.2 0, 13600, .inl (fun j => sb_b ((fun _ => 0) j)))) := by rw [eM_40]; exact mw_u1 (Ne.symm n_q_29_h0) bM_39_q_29
  have bM_40_q_30 : M_40 q_30 = some (.inl (G.2 1, 50, .inl (fun j => nI ((fun _ => 0) j)))) := by rw [eM_40]; exact mw_u1 (Ne.symm n_q_30_h0) bM_39_q_30
  have hk0 : mw_kp M M_40 h0 := by rw [eM_40]; exact hk0.self
  have kn_ch_5 : mw_kn M_3 M_4 M_40 := by rw [eM_40]; exact kn_ch_5.old bM_3_h0
  refine lv_aload_n hx hb dX0_init_47 rfl (lv_at hl 0 rfl) ?_
  refine lv_bipush (v := nI 127) hx hb dX0_init_48 (by decide) ?_
  refine mw_put (C := RX0) (T := TX0) (N := 12) hx hb hts inX0_init_X0 tyX0 tyX0_ok nmX0 hown hC hw bM_40_h0 rfl 5 (by decide) k_21 rfl rfl rfl (Nat.le_of_ble_eq_true rfl) dX0_init_50 (fun H locs hw => ?_)
  have hw : mw_St G _ s (va_up _ h0 (some (.inr (0, [.ref (q_1), .ref (q_11), .ref (q_25), .int (nI (1)), .int (nI (1)), .int (nI (127)), .int (0), .int (0), .int (0), .int (0), .int (0), .int (0)])))) H locs := hw
  obtain ⟨M_41, eM_41⟩ : ∃ z : mw_M, z = va_up M_40 h0 (some (.inr (0, [.ref (q_1), .ref (q_11), .ref (q_25), .int (nI (1)), .int (nI (1)), .int (nI (127)), .int (0), .int (0), .int (0), .int (0), .int (0), .int (0)]))) := ⟨_, rfl⟩
  rw [← eM_41] at hw
  have bM_41_h0 : M_41 h0 = some (.inr (0, [.ref (q_1), .ref (q_11), .ref (q_25), .int (nI (1)), .int (nI (1)), .int (nI (127)), .int (0), .int (0), .int (0), .int (0), .int (0), .int (0)])) := by rw [eM_41]; exact mw_u0
  have bM_41_q_1 : M_41 q_1 = some (.inr (2, [.ref (fa__6), .int (nI (0))])) := by rw [eM_41]; exact mw_u1 (Ne.symm n_q_1_h0) bM_40_q_1
  have bM_41_q_11 : M_41 q_11 = some (.inr (3, [.ref (q_15), .ref (q_16), .int (nI (0)), .int (nI (0)), .int (nI (0)), .int (nI (0))])) := by rw [eM_41]; exact mw_u1 (Ne.symm n_q_11_h0) bM_40_q_11
  have bM_41_q_15 : M_41 q_15 = some (.inl (G.2 1, 187, .inl (fun j => nI ((fun _ => 0) j)))) := by rw [eM_41]; exact mw_u1 (Ne.symm n_q_15_h0) bM_40_q_15
  have bM_41_q_16 : M_41 q_16 = some (.inl (G.2 1, 187, .inl (fun j => nI ((fun _ => 0) j)))) := by rw [eM_41]; exact mw_u1 (Ne.symm n_q_16_h0) bM_40_q_16
  have bM_41_q_25 : M_41 q_25 = some (.inr (4, [.ref (q_29), .ref (q_30), .int (nI (0))])) := by rw [eM_41]; exact mw_u1 (Ne.symm n_q_25_h0) bM_40_q_25
  have bM_41_q_29 : M_41 q_29 = some (.inl (G.2 0, 13600, .inl (fun j => sb_b ((fun _ => 0) j)))) := by rw [eM_41]; exact mw_u1 (Ne.symm n_q_29_h0) bM_40_q_29
  have bM_41_q_30 : M_41 q_30 = some (.inl (G.2 1, 50, .inl (fun j => nI ((fun _ => 0) j)))) := by rw [eM_41]; exact mw_u1 (Ne.symm n_q_30_h0) bM_40_q_30
  have hk0 : mw_kp M M_41 h0 := by rw [eM_41]; exact hk0.self
  have kn_ch_5 : mw_kn M_3 M_4 M_41 := by rw [eM_41]; exact kn_ch_5.old bM_3_h0
  refine lv_aload_n hx hb dX0_init_53 rfl (lv_at hl 0 rfl) ?_
  refine lv_bipush (v := nI 127) hx hb dX0_init_54 (by decide) ?_
  refine mw_put (C := RX0) (T := TX0) (N := 12) hx hb hts inX0_init_X0 tyX0 tyX0_ok nmX0 hown hC hw bM_41_h0 rfl 6 (by decide) k_22 rfl rfl rfl (Nat.le_of_ble_eq_true rfl) dX0_init_56 (fun H locs hw => ?_)
  have hw : mw_St G _ s (va_up _ h0 (some (.inr (0, [.ref (q_1), .ref (q_11), .ref (q_25), .int (nI (1)), .int (nI (1)), .int (nI (127)), .int (nI (127)), .int (0), .int (0), .int (0), .int (0), .int (0)])))) H locs := hw
  obtain ⟨M_42, eM_42⟩ : ∃ z : mw_M, z = va_up M_41 h0 (some (.inr (0, [.ref (q_1), .ref (q_11), .ref (q_25), .int (nI (1)), .int (nI (1)), .int (nI (127)), .int (nI (127)), .int (0), .int (0), .int (0), .int (0), .int (0)]))) := ⟨_, rfl⟩
  rw [← eM_42] at hw
  have bM_42_h0 : M_42 h0 = some (.inr (0, [.ref (q_1), .ref (q_11), .ref (q_25), .int (nI (1)), .int (nI (1)), .int (nI (127)), .int (nI (127)), .int (0), .int (0), .int (0), .int (0), .int (0)])) := by rw [eM_42]; exact mw_u0
  have bM_42_q_1 : M_42 q_1 = some (.inr (2, [.ref (fa__6), .int (nI (0))])) := by rw [eM_42]; exact mw_u1 (Ne.symm n_q_1_h0) bM_41_q_1
  have bM_42_q_11 : M_42 q_11 = some (.inr (3, [.ref (q_15), .ref (q_16), .int (nI (0)), .int (nI (0)), .int (nI (0)), .int (nI (0))])) := by rw [eM_42]; exact mw_u1 (Ne.symm n_q_11_h0) bM_41_q_11
  have bM_42_q_15 : M_42 q_15 = some (.inl (G.2 1, 187, .inl (fun j => nI ((fun _ => 0) j)))) := by rw [eM_42]; exact mw_u1 (Ne.symm n_q_15_h0) bM_41_q_15
  have bM_42_q_16 : M_42 q_16 = some (.inl (G.2 1, 187, .inl (fun j => nI ((fun _ => 0) j)))) := by rw [eM_42]; exact mw_u1 (Ne.symm n_q_16_h0) bM_41_q_16
  have bM_42_q_25 : M_42 q_25 = some (.inr (4, [.ref (q_29), .ref (q_30), .int (nI (0))])) := by rw [eM_42]; exact mw_u1 (Ne.symm n_q_25_h0) bM_41_q_25
  have bM_42_q_29 : M_42 q_29 = some (.inl (G.2 0, 13600, .inl (fun j => sb_b ((fun _ => 0) j)))) := by rw [eM_42]; exact mw_u1 (Ne.symm n_q_29_h0) bM_41_q_29
  have bM_42_q_30 : M_42 q_30 = some (.inl (G.2 1, 50, .inl (fun j => nI ((fun _ => 0) j)))) := by rw [eM_42]; exact mw_u1 (Ne.symm n_q_30_h0) bM_41_q_30
  have hk0 : mw_kp M M_42 h0 := by rw [eM_42]; exact hk0.self
  have kn_ch_5 : mw_kn M_3 M_4 M_42 := by rw [eM_42]; exact kn_ch_5.old bM_3_h0
  exact mw_nret hx hb hr hlocks hw (⟨hk0, q_1, fa__6, q_11, q_15, q_16, q_25, q_29, q_30, fr__7, ya__8, wa__9, bM_42_h0, ⟨bM_42_q_1, f_hk0_q_1⟩, kn_ch_5.nw hd_ch_5 er_ch_5.1, er_ch_5.2.mono kn_ch_5 hd_ch_5, ⟨bM_42_q_11, f_hk0_q_11⟩, ⟨bM_42_q_15, f_hk0_q_15⟩, ⟨bM_42_q_16, f_hk0_q_16⟩, n_q_16_q_15, ⟨bM_42_q_25, f_hk0_q_25⟩, ⟨bM_42_q_29, f_hk0_q_29⟩, ⟨bM_42_q_30, f_hk0_q_30⟩⟩) dX0_init_59
theorem inX6_init_X0 : ∀ w ∈ wsX00, w ∈ wsX6_init := by decide +kernel
theorem inX6_init_X6 : ∀ w ∈ wsX60, w ∈ wsX6_init := by decide +kernel
theorem inX6_init_X5 : ∀ w ∈ wsX50, w ∈ wsX6_init := by decide +kernel
def RM_X6_init : Room := { frames := 4, cells := 181, slots := 32375, locals := 76 }
set_option maxHeartbeats 4000000 in
set_option maxRecDepth 100000 in
theorem c_X6_init (l : Launch) (G : mw_G) (M : mw_M) (sz : Nat) (h0 : Nat) (e0 : M h0 = some (.inr (6, [.null, .null])))   : Met l yX6_init wsX6_init RM_X6_init (mw_pre G M sz [.ref (h0)]) (mw_Qn G M sz (fun M9 => mw_kp M M9 h0 ∧ ∃ (ea hu ub : Nat) (en : Nat → Option Nat) (x0 x1 : Nat) (Mb : mw_M) (li0 fa0 me0 la0 sa0 so0 ba0 sl0 : Nat) (fr0 : Nat → Option Nat) (ya0 wa0 : Nat → Nat) (li1 fa1 me1 la1 sa1 so1 ba1 sl1 : Nat) (fr1 : Nat → Option Nat) (ya1 wa1 : Nat → Nat), M9 h0 = some (.inr (6, [.ref (ea), .ref (hu)])) ∧ mw_nw M M9 ea (.inl (G.2 4, 2, .inr (.inr (.inr (.inr en))))) ∧ en 0 = some x0 ∧ en 1 = some x1 ∧ x0 ≠ x1 ∧ mw_nw M M9 x0 (en_obj li0 me0 so0) ∧ mw_nw M M9 x1 (en_obj li1 me1 so1) ∧ mw_nw M M9 hu (.inr (5, [.ref ub, .int (nI (0))])) ∧ mw_nw M M9 ub (.inl (G.2 1, 277, .inl (fun j => nI ((fun _ => 0) j)))) ∧ (∀ q, Mb q = none → M q = none) ∧ en_new G M Mb li0 fa0 me0 la0 sa0 so0 ba0 sl0 fr0 ya0 wa0 ∧ en_new G M M9 li0 fa0 me0 la0 sa0 so0 ba0 sl0 fr0 ya0 wa0 ∧ en_new G Mb M9 li1 fa1 me1 la1 sa1 so1 ba1 sl1 fr1 ya1 wa1)) 181 32375 (mw_A M sz) := by
  refine Met.ofW (cc := cX6_init) (maxL := 1) (ret := none) (by decide) rfl ?_
  intro p e s m args below meth c s₁ B hml hv
  obtain ⟨rfl, rfl, hC, hw⟩ := mw_in hv
  have hx := B.exec
  have hb := B.bytes
  have hr := B.returns
  have hts := atoms_spec (ws := wsX6_init) B.pre
  have hown : s.vm.findClass RX6 = some m.cls := findClass_of_methodNamed B.named
  have hlocks := B.notSynchronized
  have hin : meth.name = "<init>" := (name_of_methodNamed B.named B.method).1
  have k_0 := hts (.methodLink RX6 3 objectInit) (by decide +kernel)
  have k_1 := hts (.instanceMethod objectInit) (by decide +kernel)
  have k_2 := hts (.code objectInit ⟨#[0xb1]⟩ 1 none) (by decide +kernel)
  have k_3 := hts (.classLink RX6 9 "LinkPair$End") (by decide +kernel)
  have k_4 := hts (.classLink RX6 9 RX0) (by decide +kernel)
  have k_5 := hts (.instantiable RX0 12) (by decide +kernel)
  have k_6 := hts (.initialized RX0) (by decide +kernel)
  have k_7 := hts (.instanceMethod yX0_init) (by decide +kernel)
  have k_8 := hts (.fieldLink RX6 12 "LinkPair" "ends" "[LLinkPair$End;") (by decide +kernel)
  have k_9 := hts (.classLink RX6 16 RX5) (by decide +kernel)
  have k_10 := hts (.instantiable RX5 2) (by decide +kernel)
  have k_11 := hts (.initialized RX5) (by decide +kernel)
  have k_12 := hts (.instanceMethod yX5_init) (by decide +kernel)
  have k_13 := hts (.fieldLink RX6 19 "LinkPair" "unit" "LLinkPair$Unit;") (by decide +kernel)
  have hl := lv_entry ([.ref (h0)]) (n := 1) (Nat.le_of_ble_eq_true rfl)
  rw [lg_entry_eq]
  generalize (lg_sl ([.ref (h0)]) ++ List.replicate (1 - (lg_sl ([.ref (h0)])).length) Slot.unset).toArray = ls at hl ⊢
  have hl : lv_has ls 1 [(0, .ref (h0))] := hl
  refine mw_start (fun H locs hw => ?_) hw
  have hk0 : mw_kp M M h0 := mw_kp.rf
  refine lv_aload_n hx hb dX6_init_0 rfl (lv_at hl 0 rfl) ?_
  refine W.objInit hx hb hown k_0 k_1 k_2 rfl (by rw [hml]; exact hl.1) rfl dX6_init_1 (Nat.le_of_ble_eq_true rfl) (Nat.le_of_ble_eq_true rfl) ?_
  refine W.eq (g2 := F0 m 4 ls []) rfl ?_
  refine lv_aload_n hx hb dX6_init_4 rfl (lv_at hl 0 rfl) ?_
  refine lv_iconst (v := nI 2) hx hb dX6_init_5 (by decide) ?_
  refine mw_newE (N' := 2) hx hb hown k_3 hC hw (by decide +kernel) (by decide +kernel) (by decide +kernel) (Nat.le_of_ble_eq_true rfl) (Nat.le_of_ble_eq_true rfl) dX6_init_6 (fun H' hn hw => ?_)
  obtain ⟨q_1, eq_1⟩ : ∃ z, z = H.size := ⟨_, rfl⟩
  rw [← eq_1] at hw hn ⊢
  generalize H' = H at hw ⊢
  have hn_2 := hn
  have n_q_1_h0 : h0 ≠ q_1 := mw_nen e0 hn_2
  have f_hk0_q_1 : M q_1 = none := mw_kp.dn hk0 e0 hn_2
  obtain ⟨M_3, eM_3⟩ : ∃ z : mw_M, z = va_up M q_1 (some (.inl (G.2 4, 2, .inr (.inr (.inr (.inr (fun _ => none))))))) := ⟨_, rfl⟩
  rw [← eM_3] at hw
  have bM_3_h0 : M_3 h0 = some (.inr (6, [.null, .null])) := by rw [eM_3]; exact mw_u1 n_q_1_h0 e0
  have bM_3_q_1 : M_3 q_1 = some (.inl (G.2 4, 2, .inr (.inr (.inr (.inr (fun _ => none)))))) := by rw [eM_3]; exact mw_u0
  have hk0 : mw_kp M M_3 h0 := by rw [eM_3]; exact hk0.new hn_2
  refine lv_dup hx hb dX6_init_9 rfl ?_
  refine lv_iconst (v := nI 0) hx hb dX6_init_10 (by decide) ?_
  refine mw_new (ci := 0) (C := RX0) (T := TX0) (N := 12) (fs := [.null, .null, .null, .int (0), .int (0), .int (0), .int (0), .int (0), .int (0), .int (0), .int (0), .int (0)]) hx hb hts inX6_init_X0 tyX0 tyX0_ok hown k_4 k_5 k_6 hC hw rfl (fun j hj => by rcases (show j = 0 ∨ j = 1 ∨ j = 2 ∨ j = 3 ∨ j = 4 ∨ j = 5 ∨ j = 6 ∨ j = 7 ∨ j = 8 ∨ j = 9 ∨ j = 10 ∨ j = 11 by omega) with rfl | rfl | rfl | rfl | rfl | rfl | rfl | rfl | rfl | rfl | rfl | rfl <;> rfl) (Nat.le_of_ble_eq_true rfl) (Nat.le_of_ble_eq_true rfl) dX6_init_11 (fun H' hn hw => ?_)
  obtain ⟨q_4, eq_4⟩ : ∃ z, z = H.size := ⟨_, rfl⟩
  rw [← eq_4] at hw hn ⊢
  generalize H' = H at hw ⊢
  have hn_5 := hn
  have n_q_4_h0 : h0 ≠ q_4 := mw_nen bM_3_h0 hn_5
  have n_q_4_q_1 : q_1 ≠ q_4 := mw_nen bM_3_q_1 hn_5
  have f_hk0_q_4 : M q_4 = none := mw_kp.dn hk0 bM_3_h0 hn_5
  obtain ⟨M_6, eM_6⟩ : ∃ z : mw_M, z = va_up M_3 q_4 (some (.inr (0, [.null, .null, .null, .int (0), .int (0), .int (0), .int (0), .int (0), .int (0), .int (0), .int (0), .int (0)]))) := ⟨_, rfl⟩
  rw [← eM_6] at hw
  have bM_6_h0 : M_6 h0 = some (.inr (6, [.null, .null])) := by rw [eM_6]; exact mw_u1 n_q_4_h0 bM_3_h0
  have bM_6_q_1 : M_6 q_1 = some (.inl (G.2 4, 2, .inr (.inr (.inr (.inr (fun _ => none)))))) := by rw [eM_6]; exact mw_u1 n_q_4_q_1 bM_3_q_1
  have bM_6_q_4 : M_6 q_4 = some (.inr (0, [.null, .null, .null, .int (0), .int (0), .int (0), .int (0), .int (0), .int (0), .int (0), .int (0), .int (0)])) := by rw [eM_6]; exact mw_u0
  have hk0 : mw_kp M M_6 h0 := by rw [eM_6]; exact hk0.new hn_5
  refine lv_dup hx hb dX6_init_14 rfl ?_
  have hd_ch_8 : ∀ r, M_6 r = none → M r = none := fun r hr => mw_kp.dn hk0 bM_6_h0 hr
  refine mw_cn hC hw (va_runIN (As := []) (rest := [.ref (q_4), .int (nI (0)), .ref (q_1), .ref (q_1), .ref (h0)]) ⟨hx, hb, hml, hown, hts⟩ (c_X0_init l G _ H.size q_4 bM_6_q_4 ) ⟨va_cnB 0 hts gX6_init_X0_init_n11 rfl rfl rfl (hC.1.2.2.1 (.methodLinkNest RX6 11 yX0_init "LinkPair") (by decide +kernel)) k_6 (by decide +kernel) ⟨Nat.le_of_ble_eq_true rfl, Nat.le_of_ble_eq_true rfl⟩, rfl, k_7⟩ (mw_preS hC hw) rfl rfl hl.1 rfl (lv_room (Nat.le_of_ble_eq_true rfl)) dX6_init_15 ⟨Nat.le_of_ble_eq_true rfl, Nat.le_of_ble_eq_true rfl⟩) (fun M_7 H locs hz hP hw => ?_)
  obtain ⟨hkc, li__9, fa__10, me__11, la__12, sa__13, so__14, ba__15, sl__16, fr__17, ya__18, wa__19, es_ch_8, er_ch_8⟩ := hP
  have bM_7_h0 : M_7 h0 = some (.inr (6, [.null, .null])) := hkc h0 _ bM_6_h0 n_q_4_h0
  have bM_7_q_1 : M_7 q_1 = some (.inl (G.2 4, 2, .inr (.inr (.inr (.inr (fun _ => none)))))) := hkc q_1 _ bM_6_q_1 n_q_4_q_1
  have bM_7_q_4 : M_7 q_4 = some (.inr (0, [.ref (li__9), .ref (me__11), .ref (so__14), .int (nI (1)), .int (nI (1)), .int (nI (127)), .int (nI (127)), .int (nI (0)), .int (nI (0)), .int (nI (b2n false)), .int (nI (b2n false)), .int (nI (b2n false))])) := es_ch_8
  have hk0 : mw_kp M M_7 h0 := hk0.tr f_hk0_q_4 hkc
  have kn_ch_8 : mw_kn M_6 M_7 M_7 := mw_kn.rf
  refine mw_eastN (n := 2) (f := fun _ => none) (i := 0) hx hb hC hw bM_7_q_1 bM_7_q_4 (by omega) (by decide) dX6_init_18 (fun H locs hw => ?_)
  obtain ⟨M_20, eM_20⟩ : ∃ z : mw_M, z = va_up M_7 q_1 (some (.inl (G.2 4, 2, .inr (.inr (.inr (.inr (va_up (fun _ => none) (0) (some (q_4))))))))) := ⟨_, rfl⟩
  rw [← eM_20] at hw
  have bM_20_h0 : M_20 h0 = some (.inr (6, [.null, .null])) := by rw [eM_20]; exact mw_u1 n_q_1_h0 bM_7_h0
  have bM_20_q_1 : M_20 q_1 = some (.inl (G.2 4, 2, .inr (.inr (.inr (.inr (va_up (fun _ => none) (0) (some (q_4)))))))) := by rw [eM_20]; exact mw_u0
  have bM_20_q_4 : M_20 q_4 = some (.inr (0, [.ref (li__9), .ref (me__11), .ref (so__14), .int (nI (1)), .int (nI (1)), .int (nI (127)), .int (nI (127)), .int (nI (0)), .int (nI (0)), .int (nI (b2n false)), .int (nI (b2n false)), .int (nI (b2n false))])) := by rw [eM_20]; exact mw_u1 (Ne.symm n_q_4_q_1) bM_7_q_4
  have hk0 : mw_kp M M_20 h0 := by rw [eM_20]; exact hk0.fr f_hk0_q_1
  have kn_ch_8 : mw_kn M_6 M_7 M_20 := by rw [eM_20]; exact kn_ch_8.old bM_6_q_1
  refine lv_dup hx hb dX6_init_19 rfl ?_
  refine lv_iconst (v := nI 1) hx hb dX6_init_20 (by decide) ?_
  refine mw_new (ci := 0) (C := RX0) (T := TX0) (N := 12) (fs := [.null, .null, .null, .int (0), .int (0), .int (0), .int (0), .int (0), .int (0), .int (0), .int (0), .int (0)]) hx hb hts inX6_init_X0 tyX0 tyX0_ok hown k_4 k_5 k_6 hC hw rfl (fun j hj => by rcases (show j = 0 ∨ j = 1 ∨ j = 2 ∨ j = 3 ∨ j = 4 ∨ j = 5 ∨ j = 6 ∨ j = 7 ∨ j = 8 ∨ j = 9 ∨ j = 10 ∨ j = 11 by omega) with rfl | rfl | rfl | rfl | rfl | rfl | rfl | rfl | rfl | rfl | rfl | rfl <;> rfl) (Nat.le_of_ble_eq_true rfl) (Nat.le_of_ble_eq_true rfl) dX6_init_21 (fun H' hn hw => ?_)
  obtain ⟨q_21, eq_21⟩ : ∃ z, z = H.size := ⟨_, rfl⟩
  rw [← eq_21] at hw hn ⊢
  generalize H' = H at hw ⊢
  have hn_22 := hn
  have n_q_21_h0 : h0 ≠ q_21 := mw_nen bM_20_h0 hn_22
  have n_q_21_q_1 : q_1 ≠ q_21 := mw_nen bM_20_q_1 hn_22
  have n_q_21_q_4 : q_4 ≠ q_21 := mw_nen bM_20_q_4 hn_22
  have f_hk0_q_21 : M q_21 = none := mw_kp.dn hk0 bM_20_h0 hn_22
  have z_kn_ch_8_q_21 : ∀ x, M_7 q_21 = some x → M_6 q_21 = none → False := fun x h1 h2 => mw_sn (kn_ch_8 q_21 x h1 h2) hn_22
  obtain ⟨M_23, eM_23⟩ : ∃ z : mw_M, z = va_up M_20 q_21 (some (.inr (0, [.null, .null, .null, .int (0), .int (0), .int (0), .int (0), .int (0), .int (0), .int (0), .int (0), .int (0)]))) := ⟨_, rfl⟩
  rw [← eM_23] at hw
  have bM_23_h0 : M_23 h0 = some (.inr (6, [.null, .null])) := by rw [eM_23]; exact mw_u1 n_q_21_h0 bM_20_h0
  have bM_23_q_1 : M_23 q_1 = some (.inl (G.2 4, 2, .inr (.inr (.inr (.inr (va_up (fun _ => none) (0) (some (q_4)))))))) := by rw [eM_23]; exact mw_u1 n_q_21_q_1 bM_20_q_1
  have bM_23_q_4 : M_23 q_4 = some (.inr (0, [.ref (li__9), .ref (me__11), .ref (so__14), .int (nI (1)), .int (nI (1)), .int (nI (127)), .int (nI (127)), .int (nI (0)), .int (nI (0)), .int (nI (b2n false)), .int (nI (b2n false)), .int (nI (b2n false))])) := by rw [eM_23]; exact mw_u1 n_q_21_q_4 bM_20_q_4
  have bM_23_q_21 : M_23 q_21 = some (.inr (0, [.null, .null, .null, .int (0), .int (0), .int (0), .int (0), .int (0), .int (0), .int (0), .int (0), .int (0)])) := by rw [eM_23]; exact mw_u0
  have hk0 : mw_kp M M_23 h0 := by rw [eM_23]; exact hk0.new hn_22
  have kn_ch_8 : mw_kn M_6 M_7 M_23 := by rw [eM_23]; exact kn_ch_8.new hn_22
  refine lv_dup hx hb dX6_init_24 rfl ?_
  have kx_0 := kn_ch_8
  have hd_ch_25 : ∀ r, M_23 r = none → M r = none := fun r hr => mw_kp.dn hk0 bM_23_h0 hr
  refine mw_cn hC hw (va_runIN (As := []) (rest := [.ref (q_21), .int (nI (1)), .ref (q_1), .ref (q_1), .ref (h0)]) ⟨hx, hb, hml, hown, hts⟩ (c_X0_init l G _ H.size q_21 bM_23_q_21 ) ⟨va_cnB 0 hts gX6_init_X0_init_n11 rfl rfl rfl (hC.1.2.2.1 (.methodLinkNest RX6 11 yX0_init "LinkPair") (by decide +kernel)) k_6 (by decide +kernel) ⟨Nat.le_of_ble_eq_true rfl, Nat.le_of_ble_eq_true rfl⟩, rfl, k_7⟩ (mw_preS hC hw) rfl rfl hl.1 rfl (lv_room (Nat.le_of_ble_eq_true rfl)) dX6_init_25 ⟨Nat.le_of_ble_eq_true rfl, Nat.le_of_ble_eq_true rfl⟩) (fun M_24 H locs hz hP hw => ?_)
  obtain ⟨hkc, li__26, fa__27, me__28, la__29, sa__30, so__31, ba__32, sl__33, fr__34, ya__35, wa__36, es_ch_25, er_ch_25⟩ := hP
  have bM_24_h0 : M_24 h0 = some (.inr (6, [.null, .null])) := hkc h0 _ bM_23_h0 n_q_21_h0
  have bM_24_q_1 : M_24 q_1 = some (.inl (G.2 4, 2, .inr (.inr (.inr (.inr (va_up (fun _ => none) (0) (some (q_4)))))))) := hkc q_1 _ bM_23_q_1 n_q_21_q_1
  have bM_24_q_4 : M_24 q_4 = some (.inr (0, [.ref (li__9), .ref (me__11), .ref (so__14), .int (nI (1)), .int (nI (1)), .int (nI (127)), .int (nI (127)), .int (nI (0)), .int (nI (0)), .int (nI (b2n false)), .int (nI (b2n false)), .int (nI (b2n false))])) := hkc q_4 _ bM_23_q_4 n_q_21_q_4
  have bM_24_q_21 : M_24 q_21 = some (.inr (0, [.ref (li__26), .ref (me__28), .ref (so__31), .int (nI (1)), .int (nI (1)), .int (nI (127)), .int (nI (127)), .int (nI (0)), .int (nI (0)), .int (nI (b2n false)), .int (nI (b2n false)), .int (nI (b2n false))])) := es_ch_25
  have hk0 : mw_kp M M_24 h0 := hk0.tr f_hk0_q_21 hkc
  have kn_ch_8 : mw_kn M_6 M_7 M_24 := kn_ch_8.tr z_kn_ch_8_q_21 hkc
  have kn_ch_25 : mw_kn M_23 M_24 M_24 := mw_kn.rf
  refine mw_eastN (n := 2) (f := va_up (fun _ => none) (0) (some (q_4))) (i := 1) hx hb hC hw bM_24_q_1 bM_24_q_21 (by omega) (by decide) dX6_init_28 (fun H locs hw => ?_)
  obtain ⟨M_37, eM_37⟩ : ∃ z : mw_M, z = va_up M_24 q_1 (some (.inl (G.2 4, 2, .inr (.inr (.inr (.inr (va_up (va_up (fun _ => none) (0) (some (q_4))) (1) (some (q_21))))))))) := ⟨_, rfl⟩
  rw [← eM_37] at hw
  have bM_37_h0 : M_37 h0 = some (.inr (6, [.null, .null])) := by rw [eM_37]; exact mw_u1 n_q_1_h0 bM_24_h0
  have bM_37_q_1 : M_37 q_1 = some (.inl (G.2 4, 2, .inr (.inr (.inr (.inr (va_up (va_up (fun _ => none) (0) (some (q_4))) (1) (some (q_21)))))))) := by rw [eM_37]; exact mw_u0
  have bM_37_q_4 : M_37 q_4 = some (.inr (0, [.ref (li__9), .ref (me__11), .ref (so__14), .int (nI (1)), .int (nI (1)), .int (nI (127)), .int (nI (127)), .int (nI (0)), .int (nI (0)), .int (nI (b2n false)), .int (nI (b2n false)), .int (nI (b2n false))])) := by rw [eM_37]; exact mw_u1 (Ne.symm n_q_4_q_1) bM_24_q_4
  have bM_37_q_21 : M_37 q_21 = some (.inr (0, [.ref (li__26), .ref (me__28), .ref (so__31), .int (nI (1)), .int (nI (1)), .int (nI (127)), .int (nI (127)), .int (nI (0)), .int (nI (0)), .int (nI (b2n false)), .int (nI (b2n false)), .int (nI (b2n false))])) := by rw [eM_37]; exact mw_u1 (Ne.symm n_q_21_q_1) bM_24_q_21
  have hk0 : mw_kp M M_37 h0 := by rw [eM_37]; exact hk0.fr f_hk0_q_1
  have kn_ch_8 : mw_kn M_6 M_7 M_37 := by rw [eM_37]; exact kn_ch_8.old bM_6_q_1
  have kn_ch_25 : mw_kn M_23 M_24 M_37 := by rw [eM_37]; exact kn_ch_25.old bM_23_q_1
  refine mw_putF (C := RX6) (T := TX6) (N := 2) hx hb hts inX6_init_X6 tyX6 tyX6_ok nmX6 hown hC hw bM_37_h0 rfl 0 (by decide) k_8 rfl hin rfl rfl rfl (Nat.le_of_ble_eq_true rfl) dX6_init_29 (fun H locs hw => ?_)
  have hw : mw_St G _ s (va_up _ h0 (some (.inr (6, [.ref (q_1), .null])))) H locs := hw
  obtain ⟨M_38, eM_38⟩ : ∃ z : mw_M, z = va_up M_37 h0 (some (.inr (6, [.ref (q_1), .null]))) := ⟨_, rfl⟩
  rw [← eM_38] at hw
  have bM_38_h0 : M_38 h0 = some (.inr (6, [.ref (q_1), .null])) := by rw [eM_38]; exact mw_u0
  have bM_38_q_1 : M_38 q_1 = some (.inl (G.2 4, 2, .inr (.inr (.inr (.inr (va_up (va_up (fun _ => none) (0) (some (q_4))) (1) (some (q_21)))))))) := by rw [eM_38]; exact mw_u1 (Ne.symm n_q_1_h0) bM_37_q_1
  have bM_38_q_4 : M_38 q_4 = some (.inr (0, [.ref (li__9), .ref (me__11), .ref (so__14), .int (nI (1)), .int (nI (1)), .int (nI (127)), .int (nI (127)), .int (nI (0)), .int (nI (0)), .int (nI (b2n false)), .int (nI (b2n false)), .int (nI (b2n false))])) := by rw [eM_38]; exact mw_u1 (Ne.symm n_q_4_h0) bM_37_q_4
  have bM_38_q_21 : M_38 q_21 = some (.inr (0, [.ref (li__26), .ref (me__28), .ref (so__31), .int (nI (1)), .int (nI (1)), .int (nI (127)), .int (nI (127)), .int (nI (0)), .int (nI (0)), .int (nI (b2n false)), .int (nI (b2n false)), .int (nI (b2n false))])) := by rw [eM_38]; exact mw_u1 (Ne.symm n_q_21_h0) bM_37_q_21
  have hk0 : mw_kp M M_38 h0 := by rw [eM_38]; exact hk0.self
  have kn_ch_8 : mw_kn M_6 M_7 M_38 := by rw [eM_38]; exact kn_ch_8.old bM_6_h0
  have kn_ch_25 : mw_kn M_23 M_24 M_38 := by rw [eM_38]; exact kn_ch_25.old bM_23_h0
  refine lv_aload_n hx hb dX6_init_32 rfl (lv_at hl 0 rfl) ?_
  refine mw_new (ci := 5) (C := RX5) (T := TX5) (N := 2) (fs := [.null, .int (0)]) hx hb hts inX6_init_X5 tyX5 tyX5_ok hown k_9 k_10 k_11 hC hw rfl (fun j hj => by rcases (show j = 0 ∨ j = 1 by omega) with rfl | rfl <;> rfl) (Nat.le_of_ble_eq_true rfl) (Nat.le_of_ble_eq_true rfl) dX6_init_33 (fun H' hn hw => ?_)
  obtain ⟨q_39, eq_39⟩ : ∃ z, z = H.size := ⟨_, rfl⟩
  rw [← eq_39] at hw hn ⊢
  generalize H' = H at hw ⊢
  have hn_40 := hn
  have n_q_39_h0 : h0 ≠ q_39 := mw_nen bM_38_h0 hn_40
  have n_q_39_q_1 : q_1 ≠ q_39 := mw_nen bM_38_q_1 hn_40
  have n_q_39_q_4 : q_4 ≠ q_39 := mw_nen bM_38_q_4 hn_40
  have n_q_39_q_21 : q_21 ≠ q_39 := mw_nen bM_38_q_21 hn_40
  have f_hk0_q_39 : M q_39 = none := mw_kp.dn hk0 bM_38_h0 hn_40
  have z_kn_ch_8_q_39 : ∀ x, M_7 q_39 = some x → M_6 q_39 = none → False := fun x h1 h2 => mw_sn (kn_ch_8 q_39 x h1 h2) hn_40
  have z_kn_ch_25_q_39 : ∀ x, M_24 q_39 = some x → M_23 q_39 = none → False := fun x h1 h2 => mw_sn (kn_ch_25 q_39 x h1 h2) hn_40
  obtain ⟨M_41, eM_41⟩ : ∃ z : mw_M, z = va_up M_38 q_39 (some (.inr (5, [.null, .int (0)]))) := ⟨_, rfl⟩
  rw [← eM_41] at hw
  have bM_41_h0 : M_41 h0 = some (.inr (6, [.ref (q_1), .null])) := by rw [eM_41]; exact mw_u1 n_q_39_h0 bM_38_h0
  have bM_41_q_1 : M_41 q_1 = some (.inl (G.2 4, 2, .inr (.inr (.inr (.inr (va_up (va_up (fun _ => none) (0) (some (q_4))) (1) (some (q_21)))))))) := by rw [eM_41]; exact mw_u1 n_q_39_q_1 bM_38_q_1
  have bM_41_q_4 : M_41 q_4 = some (.inr (0, [.ref (li__9), .ref (me__11), .ref (so__14), .int (nI (1)), .int (nI (1)), .int (nI (127)), .int (nI (127)), .int (nI (0)), .int (nI (0)), .int (nI (b2n false)), .int (nI (b2n false)), .int (nI (b2n false))])) := by rw [eM_41]; exact mw_u1 n_q_39_q_4 bM_38_q_4
  have bM_41_q_21 : M_41 q_21 = some (.inr (0, [.ref (li__26), .ref (me__28), .ref (so__31), .int (nI (1)), .int (nI (1)), .int (nI (127)), .int (nI (127)), .int (nI (0)), .int (nI (0)), .int (nI (b2n false)), .int (nI (b2n false)), .int (nI (b2n false))])) := by rw [eM_41]; exact mw_u1 n_q_39_q_21 bM_38_q_21
  have bM_41_q_39 : M_41 q_39 = some (.inr (5, [.null, .int (0)])) := by rw [eM_41]; exact mw_u0
  have hk0 : mw_kp M M_41 h0 := by rw [eM_41]; exact hk0.new hn_40
  have kn_ch_8 : mw_kn M_6 M_7 M_41 := by rw [eM_41]; exact kn_ch_8.new hn_40
  have kn_ch_25 : mw_kn M_23 M_24 M_41 := by rw [eM_41]; exact kn_ch_25.new hn_40
  refine lv_dup hx hb dX6_init_36 rfl ?_
  refine mw_cn hC hw (va_runIN (As := []) (rest := [.ref (q_39), .ref (h0)]) ⟨hx, hb, hml, hown, hts⟩ (c_X5_init l G _ H.size q_39 bM_41_q_39 ) ⟨va_cnB 0 hts gX6_init_X5_init_n18 rfl rfl rfl (hC.1.2.2.1 (.methodLinkNest RX6 18 yX5_init "LinkPair") (by decide +kernel)) k_11 (by decide +kernel) ⟨Nat.le_of_ble_eq_true rfl, Nat.le_of_ble_eq_true rfl⟩, rfl, k_12⟩ (mw_preS hC hw) rfl rfl hl.1 rfl (lv_room (Nat.le_of_ble_eq_true rfl)) dX6_init_37 ⟨Nat.le_of_ble_eq_true rfl, Nat.le_of_ble_eq_true rfl⟩) (fun P_42 H locs hz hP hw => ?_)
  obtain ⟨q_43, hn_44, eP_42⟩ := hP
  rw [eP_42] at hw
  have n_q_43_h0 : h0 ≠ q_43 := mw_nen bM_41_h0 hn_44
  have n_q_43_q_1 : q_1 ≠ q_43 := mw_nen bM_41_q_1 hn_44
  have n_q_43_q_4 : q_4 ≠ q_43 := mw_nen bM_41_q_4 hn_44
  have n_q_43_q_21 : q_21 ≠ q_43 := mw_nen bM_41_q_21 hn_44
  have n_q_43_q_39 : q_39 ≠ q_43 := mw_nen bM_41_q_39 hn_44
  have f_hk0_q_43 : M q_43 = none := mw_kp.dn hk0 bM_41_h0 hn_44
  have z_kn_ch_8_q_43 : ∀ x, M_7 q_43 = some x → M_6 q_43 = none → False := fun x h1 h2 => mw_sn (kn_ch_8 q_43 x h1 h2) hn_44
  have z_kn_ch_25_q_43 : ∀ x, M_24 q_43 = some x → M_23 q_43 = none → False := fun x h1 h2 => mw_sn (kn_ch_25 q_43 x h1 h2) hn_44
  obtain ⟨M_45, eM_45⟩ : ∃ z : mw_M, z = va_up M_41 q_43 (some (.inl (G.2 1, 277, .inl (fun j => nI ((fun _ => 0) j))))) := ⟨_, rfl⟩
  rw [← eM_45] at hw
  have bM_45_h0 : M_45 h0 = some (.inr (6, [.ref (q_1), .null])) := by rw [eM_45]; exact mw_u1 n_q_43_h0 bM_41_h0
  have bM_45_q_1 : M_45 q_1 = some (.inl (G.2 4, 2, .inr (.inr (.inr (.inr (va_up (va_up (fun _ => none) (0) (some (q_4))) (1) (some (q_21)))))))) := by rw [eM_45]; exact mw_u1 n_q_43_q_1 bM_41_q_1
  have bM_45_q_4 : M_45 q_4 = some (.inr (0, [.ref (li__9), .ref (me__11), .ref (so__14), .int (nI (1)), .int (nI (1)), .int (nI (127)), .int (nI (127)), .int (nI (0)), .int (nI (0)), .int (nI (b2n false)), .int (nI (b2n false)), .int (nI (b2n false))])) := by rw [eM_45]; exact mw_u1 n_q_43_q_4 bM_41_q_4
  have bM_45_q_21 : M_45 q_21 = some (.inr (0, [.ref (li__26), .ref (me__28), .ref (so__31), .int (nI (1)), .int (nI (1)), .int (nI (127)), .int (nI (127)), .int (nI (0)), .int (nI (0)), .int (nI (b2n false)), .int (nI (b2n false)), .int (nI (b2n false))])) := by rw [eM_45]; exact mw_u1 n_q_43_q_21 bM_41_q_21
  have bM_45_q_39 : M_45 q_39 = some (.inr (5, [.null, .int (0)])) := by rw [eM_45]; exact mw_u1 n_q_43_q_39 bM_41_q_39
  have bM_45_q_43 : M_45 q_43 = some (.inl (G.2 1, 277, .inl (fun j => nI ((fun _ => 0) j)))) := by rw [eM_45]; exact mw_u0
  have hk0 : mw_kp M M_45 h0 := by rw [eM_45]; exact hk0.new hn_44
  have kn_ch_8 : mw_kn M_6 M_7 M_45 := by rw [eM_45]; exact kn_ch_8.new hn_44
  have kn_ch_25 : mw_kn M_23 M_24 M_45 := by rw [eM_45]; exact kn_ch_25.new hn_44
  obtain ⟨M_46, eM_46⟩ : ∃ z : mw_M, z = va_up M_45 q_39 (some (.inr (5, [.ref (q_43), .int (nI (0))]))) := ⟨_, rfl⟩
  rw [← eM_46] at hw
  have bM_46_h0 : M_46 h0 = some (.inr (6, [.ref (q_1), .null])) := by rw [eM_46]; exact mw_u1 n_q_39_h0 bM_45_h0
  have bM_46_q_1 : M_46 q_1 = some (.inl (G.2 4, 2, .inr (.inr (.inr (.inr (va_up (va_up (fun _ => none) (0) (some (q_4))) (1) (some (q_21)))))))) := by rw [eM_46]; exact mw_u1 n_q_39_q_1 bM_45_q_1
  have bM_46_q_4 : M_46 q_4 = some (.inr (0, [.ref (li__9), .ref (me__11), .ref (so__14), .int (nI (1)), .int (nI (1)), .int (nI (127)), .int (nI (127)), .int (nI (0)), .int (nI (0)), .int (nI (b2n false)), .int (nI (b2n false)), .int (nI (b2n false))])) := by rw [eM_46]; exact mw_u1 n_q_39_q_4 bM_45_q_4
  have bM_46_q_21 : M_46 q_21 = some (.inr (0, [.ref (li__26), .ref (me__28), .ref (so__31), .int (nI (1)), .int (nI (1)), .int (nI (127)), .int (nI (127)), .int (nI (0)), .int (nI (0)), .int (nI (b2n false)), .int (nI (b2n false)), .int (nI (b2n false))])) := by rw [eM_46]; exact mw_u1 n_q_39_q_21 bM_45_q_21
  have bM_46_q_39 : M_46 q_39 = some (.inr (5, [.ref (q_43), .int (nI (0))])) := by rw [eM_46]; exact mw_u0
  have bM_46_q_43 : M_46 q_43 = some (.inl (G.2 1, 277, .inl (fun j => nI ((fun _ => 0) j)))) := by rw [eM_46]; exact mw_u1 (Ne.symm n_q_43_q_39) bM_45_q_43
  have hk0 : mw_kp M M_46 h0 := by rw [eM_46]; exact hk0.fr f_hk0_q_39
  have kn_ch_8 : mw_kn M_6 M_7 M_46 := by rw [eM_46]; exact kn_ch_8.far z_kn_ch_8_q_39
  have kn_ch_25 : mw_kn M_23 M_24 M_46 := by rw [eM_46]; exact kn_ch_25.far z_kn_ch_25_q_39
  refine mw_putF (C := RX6) (T := TX6) (N := 2) hx hb hts inX6_init_X6 tyX6 tyX6_ok nmX6 hown hC hw bM_46_h0 rfl 1 (by decide) k_13 rfl hin rfl rfl rfl (Nat.le_of_ble_eq_true rfl) dX6_init_40 (fun H locs hw => ?_)
  have hw : mw_St G _ s (va_up _ h0 (some (.inr (6, [.ref (q_1), .ref (q_39)])))) H locs := hw
  obtain ⟨M_47, eM_47⟩ : ∃ z : mw_M, z = va_up M_46 h0 (some (.inr (6, [.ref (q_1), .ref (q_39)]))) := ⟨_, rfl⟩
  rw [← eM_47] at hw
  have bM_47_h0 : M_47 h0 = some (.inr (6, [.ref (q_1), .ref (q_39)])) := by rw [eM_47]; exact mw_u0
  have bM_47_q_1 : M_47 q_1 = some (.inl (G.2 4, 2, .inr (.inr (.inr (.inr (va_up (va_up (fun _ => none) (0) (some (q_4))) (1) (some (q_21)))))))) := by rw [eM_47]; exact mw_u1 (Ne.symm n_q_1_h0) bM_46_q_1
  have bM_47_q_4 : M_47 q_4 = some (.inr (0, [.ref (li__9), .ref (me__11), .ref (so__14), .int (nI (1)), .int (nI (1)), .int (nI (127)), .int (nI (127)), .int (nI (0)), .int (nI (0)), .int (nI (b2n false)), .int (nI (b2n false)), .int (nI (b2n false))])) := by rw [eM_47]; exact mw_u1 (Ne.symm n_q_4_h0) bM_46_q_4
  have bM_47_q_21 : M_47 q_21 = some (.inr (0, [.ref (li__26), .ref (me__28), .ref (so__31), .int (nI (1)), .int (nI (1)), .int (nI (127)), .int (nI (127)), .int (nI (0)), .int (nI (0)), .int (nI (b2n false)), .int (nI (b2n false)), .int (nI (b2n false))])) := by rw [eM_47]; exact mw_u1 (Ne.symm n_q_21_h0) bM_46_q_21
  have bM_47_q_39 : M_47 q_39 = some (.inr (5, [.ref (q_43), .int (nI (0))])) := by rw [eM_47]; exact mw_u1 (Ne.symm n_q_39_h0) bM_46_q_39
  have bM_47_q_43 : M_47 q_43 = some (.inl (G.2 1, 277, .inl (fun j => nI ((fun _ => 0) j)))) := by rw [eM_47]; exact mw_u1 (Ne.symm n_q_43_h0) bM_46_q_43
  have hk0 : mw_kp M M_47 h0 := by rw [eM_47]; exact hk0.self
  have kn_ch_8 : mw_kn M_6 M_7 M_47 := by rw [eM_47]; exact kn_ch_8.old bM_6_h0
  have kn_ch_25 : mw_kn M_23 M_24 M_47 := by rw [eM_47]; exact kn_ch_25.old bM_23_h0
  exact mw_nret hx hb hr hlocks hw (⟨hk0, q_1, q_39, q_43, _, q_4, q_21, M_23, li__9, fa__10, me__11, la__12, sa__13, so__14, ba__15, sl__16, fr__17, ya__18, wa__19, li__26, fa__27, me__28, la__29, sa__30, so__31, ba__32, sl__33, fr__34, ya__35, wa__36, bM_47_h0, ⟨bM_47_q_1, f_hk0_q_1⟩, rfl, rfl, n_q_21_q_4, ⟨bM_47_q_4, f_hk0_q_4⟩, ⟨bM_47_q_21, f_hk0_q_21⟩, ⟨bM_47_q_39, f_hk0_q_39⟩, ⟨bM_47_q_43, f_hk0_q_43⟩, hd_ch_25, er_ch_8.mono kx_0 hd_ch_8, er_ch_8.mono kn_ch_8 hd_ch_8, er_ch_25.mono kn_ch_25 (fun _ h => h)⟩) dX6_init_43
