/-! ===== constructors: LinkPairModel ===== -/
theorem inX7_init_X7 : ∀ w ∈ wsX70, w ∈ wsX7_init := by decide +kernel
def RM_X7_init : Room := { frames := 1, cells := 25, slots := 271690, locals := 21 }
set_option maxHeartbeats 4000000 in
set_option maxRecDepth 100000 in
theorem c_X7_init (l : Launch) (G : mw_G) (M : mw_M) (sz : Nat) (h0 : Nat) (e0 : M h0 = some (.inr (7, [.int (0), .null, .null, .null, .null, .null, .null, .null, .null, .null, .null, .null, .null, .null, .null, .null, .null, .null, .null, .null, .null, .null, .null, .null, .null, .int (0), .null])))   : Met l yX7_init wsX7_init RM_X7_init (mw_pre G M sz [.ref (h0)]) (mw_Qn G M sz (fun M9 => mw_kp M M9 h0 ∧ ∃ a, md_at G M9 h0 a 0 0 (md_bg (md_bg (fun _ _ => 0) 0) 1) ∧ ∀ k, md_ok k = true → M (a k) = none)) 25 271690 (mw_A M sz) := by
  refine Met.ofW (cc := cX7_init) (maxL := 1) (ret := none) (by decide) rfl ?_
  intro p e s m args below meth c s₁ B hml hv
  obtain ⟨rfl, rfl, hC, hw⟩ := mw_in hv
  have hx := B.exec
  have hb := B.bytes
  have hr := B.returns
  have hts := atoms_spec (ws := wsX7_init) B.pre
  have hown : s.vm.findClass RX7 = some m.cls := findClass_of_methodNamed B.named
  have hlocks := B.notSynchronized
  have hin : meth.name = "<init>" := (name_of_methodNamed B.named B.method).1
  have k_0 := hts (.methodLink RX7 1 objectInit) (by decide +kernel)
  have k_1 := hts (.instanceMethod objectInit) (by decide +kernel)
  have k_2 := hts (.code objectInit ⟨#[0xb1]⟩ 1 none) (by decide +kernel)
  have k_3 := hts (.arrayClass .int) (by decide +kernel)
  have k_4 := hts (.fieldLink RX7 7 "LinkPairModel" "frames" "[I") (by decide +kernel)
  have k_5 := hts (.fieldLink RX7 13 "LinkPairModel" "lengths" "[I") (by decide +kernel)
  have k_6 := hts (.constant RX7 16 (240000)) (by decide +kernel)
  have k_7 := hts (.fieldLink RX7 17 "LinkPairModel" "bits" "[I") (by decide +kernel)
  have k_8 := hts (.fieldLink RX7 20 "LinkPairModel" "fib" "[I") (by decide +kernel)
  have k_9 := hts (.fieldLink RX7 23 "LinkPairModel" "bib" "[I") (by decide +kernel)
  have k_10 := hts (.fieldLink RX7 26 "LinkPairModel" "sentLatest" "[I") (by decide +kernel)
  have k_11 := hts (.fieldLink RX7 29 "LinkPairModel" "takenLatest" "[I") (by decide +kernel)
  have k_12 := hts (.fieldLink RX7 32 "LinkPairModel" "toldLatest" "[I") (by decide +kernel)
  have k_13 := hts (.fieldLink RX7 35 "LinkPairModel" "waits" "[I") (by decide +kernel)
  have k_14 := hts (.fieldLink RX7 38 "LinkPairModel" "waitLength" "[I") (by decide +kernel)
  have k_15 := hts (.fieldLink RX7 41 "LinkPairModel" "waitSeed" "[I") (by decide +kernel)
  have k_16 := hts (.fieldLink RX7 44 "LinkPairModel" "open" "[I") (by decide +kernel)
  have k_17 := hts (.fieldLink RX7 47 "LinkPairModel" "openNumber" "[I") (by decide +kernel)
  have k_18 := hts (.fieldLink RX7 50 "LinkPairModel" "openLength" "[I") (by decide +kernel)
  have k_19 := hts (.fieldLink RX7 53 "LinkPairModel" "openSeed" "[I") (by decide +kernel)
  have k_20 := hts (.fieldLink RX7 56 "LinkPairModel" "again" "[I") (by decide +kernel)
  have k_21 := hts (.fieldLink RX7 59 "LinkPairModel" "errors" "[I") (by decide +kernel)
  have k_22 := hts (.fieldLink RX7 62 "LinkPairModel" "units" "[I") (by decide +kernel)
  have k_23 := hts (.fieldLink RX7 65 "LinkPairModel" "abnormal" "[I") (by decide +kernel)
  have k_24 := hts (.arrayClass .boolean) (by decide +kernel)
  have k_25 := hts (.fieldLink RX7 68 "LinkPairModel" "failed" "[Z") (by decide +kernel)
  have k_26 := hts (.fieldLink RX7 72 "LinkPairModel" "takenCount" "[I") (by decide +kernel)
  have k_27 := hts (.fieldLink RX7 75 "LinkPairModel" "takenLength" "[I") (by decide +kernel)
  have k_28 := hts (.fieldLink RX7 78 "LinkPairModel" "takenBytes" "[I") (by decide +kernel)
  have k_29 := hts (.fieldLink RX7 81 "LinkPairModel" "unit" "[I") (by decide +kernel)
  have k_30 := hts (.fieldLink RX7 84 "LinkPairModel" "plain" "[I") (by decide +kernel)
  have hl := lv_entry ([.ref (h0)]) (n := 1) (Nat.le_of_ble_eq_true rfl)
  rw [lg_entry_eq]
  generalize (lg_sl ([.ref (h0)]) ++ List.replicate (1 - (lg_sl ([.ref (h0)])).length) Slot.unset).toArray = ls at hl ⊢
  have hl : lv_has ls 1 [(0, .ref (h0))] := hl
  refine mw_start (fun H locs hw => ?_) hw
  have hk : mw_kp M M h0 := mw_kp.rf
  have hp : md_pt G M M [] := md_pt.nil
  refine lv_aload_n hx hb dX7_init_0 rfl (lv_at hl 0 rfl) ?_
  refine W.objInit hx hb hown k_0 k_1 k_2 rfl (by rw [hml]; exact hl.1) rfl dX7_init_1 (Nat.le_of_ble_eq_true rfl) (Nat.le_of_ble_eq_true rfl) ?_
  refine W.eq (g2 := F0 m 4 ls []) rfl ?_
  refine lv_aload_n hx hb dX7_init_4 rfl (lv_at hl 0 rfl) ?_
  refine lv_iconst (v := nI 2) hx hb dX7_init_5 (by decide) ?_
  refine mw_newa (atype := .int) (ty := .int) (a0 := (2, .inl (fun _ => 0))) (N' := 2) hx hb k_3 rfl hC hw 1 rfl (fun C h => by cases h) (fun cA => mw_ha_i cA _) (by decide +kernel) (by decide +kernel) (by decide +kernel) (Nat.le_of_ble_eq_true rfl) (Nat.le_of_ble_eq_true rfl) dX7_init_6 (fun H' hn hw => ?_)
  obtain ⟨q_1, eq_1⟩ : ∃ z, z = H.size := ⟨_, rfl⟩
  rw [← eq_1] at hw hn ⊢
  generalize H' = H at hw ⊢
  refine mw_putF (C := RX7) (T := TX7) (N := 27) hx hb hts inX7_init_X7 tyX7 tyX7_ok nmX7 hown hC hw (mw_u1 (mw_nen e0 hn) e0) rfl 1 (by decide) k_4 rfl hin rfl rfl rfl (Nat.le_of_ble_eq_true rfl) dX7_init_8 (fun H locs hw => ?_)
  have hw : mw_St G _ s (va_up _ h0 (some (.inr (7, [.int (0), .ref (q_1), .null, .null, .null, .null, .null, .null, .null, .null, .null, .null, .null, .null, .null, .null, .null, .null, .null, .null, .null, .null, .null, .null, .null, .int (0), .null])))) H locs := hw
  refine md_step 1 hk hp e0 ⟨_, rfl⟩ hn hw (fun M1 hk hp e0 hw => ?_)
  have e0 : M1 h0 = some (.inr (7, [.int (0), .ref (q_1), .null, .null, .null, .null, .null, .null, .null, .null, .null, .null, .null, .null, .null, .null, .null, .null, .null, .null, .null, .null, .null, .null, .null, .int (0), .null])) := e0
  refine lv_aload_n hx hb dX7_init_11 rfl (lv_at hl 0 rfl) ?_
  refine lv_bipush (v := nI 80) hx hb dX7_init_12 (by decide) ?_
  refine mw_newa (atype := .int) (ty := .int) (a0 := (80, .inl (fun _ => 0))) (N' := 80) hx hb k_3 rfl hC hw 1 rfl (fun C h => by cases h) (fun cA => mw_ha_i cA _) (by decide +kernel) (by decide +kernel) (by decide +kernel) (Nat.le_of_ble_eq_true rfl) (Nat.le_of_ble_eq_true rfl) dX7_init_14 (fun H' hn hw => ?_)
  obtain ⟨q_2, eq_2⟩ : ∃ z, z = H.size := ⟨_, rfl⟩
  rw [← eq_2] at hw hn ⊢
  generalize H' = H at hw ⊢
  refine mw_putF (C := RX7) (T := TX7) (N := 27) hx hb hts inX7_init_X7 tyX7 tyX7_ok nmX7 hown hC hw (mw_u1 (mw_nen e0 hn) e0) rfl 2 (by decide) k_5 rfl hin rfl rfl rfl (Nat.le_of_ble_eq_true rfl) dX7_init_16 (fun H locs hw => ?_)
  have hw : mw_St G _ s (va_up _ h0 (some (.inr (7, [.int (0), .ref (q_1), .ref (q_2), .null, .null, .null, .null, .null, .null, .null, .null, .null, .null, .null, .null, .null, .null, .null, .null, .null, .null, .null, .null, .null, .null, .int (0), .null])))) H locs := hw
  refine md_step 2 hk hp e0 ⟨_, rfl⟩ hn hw (fun M1 hk hp e0 hw => ?_)
  have e0 : M1 h0 = some (.inr (7, [.int (0), .ref (q_1), .ref (q_2), .null, .null, .null, .null, .null, .null, .null, .null, .null, .null, .null, .null, .null, .null, .null, .null, .null, .null, .null, .null, .null, .null, .int (0), .null])) := e0
  refine lv_aload_n hx hb dX7_init_19 rfl (lv_at hl 0 rfl) ?_
  refine lv_ldc hx hb hown k_6 dX7_init_20 ?_
  refine mw_ti (show (240000 : Int32) = nI 240000 by decide) ?_
  refine mw_newa (atype := .int) (ty := .int) (a0 := (240000, .inl (fun _ => 0))) (N' := 240000) hx hb k_3 rfl hC hw 1 rfl (fun C h => by cases h) (fun cA => mw_ha_i cA _) (by decide +kernel) (by decide +kernel) (by decide +kernel) (Nat.le_of_ble_eq_true rfl) (Nat.le_of_ble_eq_true rfl) dX7_init_22 (fun H' hn hw => ?_)
  obtain ⟨q_3, eq_3⟩ : ∃ z, z = H.size := ⟨_, rfl⟩
  rw [← eq_3] at hw hn ⊢
  generalize H' = H at hw ⊢
  refine mw_putF (C := RX7) (T := TX7) (N := 27) hx hb hts inX7_init_X7 tyX7 tyX7_ok nmX7 hown hC hw (mw_u1 (mw_nen e0 hn) e0) rfl 3 (by decide) k_7 rfl hin rfl rfl rfl (Nat.le_of_ble_eq_true rfl) dX7_init_24 (fun H locs hw => ?_)
  have hw : mw_St G _ s (va_up _ h0 (some (.inr (7, [.int (0), .ref (q_1), .ref (q_2), .ref (q_3), .null, .null, .null, .null, .null, .null, .null, .null, .null, .null, .null, .null, .null, .null, .null, .null, .null, .null, .null, .null, .null, .int (0), .null])))) H locs := hw
  refine md_step 3 hk hp e0 ⟨_, rfl⟩ hn hw (fun M1 hk hp e0 hw => ?_)
  have e0 : M1 h0 = some (.inr (7, [.int (0), .ref (q_1), .ref (q_2), .ref (q_3), .null, .null, .null, .null, .null, .null, .null, .null, .null, .null, .null, .null, .null, .null, .null, .null, .null, .null, .null, .null, .null, .int (0), .null])) := e0
  refine lv_aload_n hx hb dX7_init_27 rfl (lv_at hl 0 rfl) ?_
  refine lv_iconst (v := nI 2) hx hb dX7_init_28 (by decide) ?_
  refine mw_newa (atype := .int) (ty := .int) (a0 := (2, .inl (fun _ => 0))) (N' := 2) hx hb k_3 rfl hC hw 1 rfl (fun C h => by cases h) (fun cA => mw_ha_i cA _) (by decide +kernel) (by decide +kernel) (by decide +kernel) (Nat.le_of_ble_eq_true rfl) (Nat.le_of_ble_eq_true rfl) dX7_init_29 (fun H' hn hw => ?_)
  obtain ⟨q_4, eq_4⟩ : ∃ z, z = H.size := ⟨_, rfl⟩
  rw [← eq_4] at hw hn ⊢
  generalize H' = H at hw ⊢
  refine mw_putF (C := RX7) (T := TX7) (N := 27) hx hb hts inX7_init_X7 tyX7 tyX7_ok nmX7 hown hC hw (mw_u1 (mw_nen e0 hn) e0) rfl 4 (by decide) k_8 rfl hin rfl rfl rfl (Nat.le_of_ble_eq_true rfl) dX7_init_31 (fun H locs hw => ?_)
  have hw : mw_St G _ s (va_up _ h0 (some (.inr (7, [.int (0), .ref (q_1), .ref (q_2), .ref (q_3), .ref (q_4), .null, .null, .null, .null, .null, .null, .null, .null, .null, .null, .null, .null, .null, .null, .null, .null, .null, .null, .null, .null, .int (0), .null])))) H locs := hw
  refine md_step 4 hk hp e0 ⟨_, rfl⟩ hn hw (fun M1 hk hp e0 hw => ?_)
  have e0 : M1 h0 = some (.inr (7, [.int (0), .ref (q_1), .ref (q_2), .ref (q_3), .ref (q_4), .null, .null, .null, .null, .null, .null, .null, .null, .null, .null, .null, .null, .null, .null, .null, .null, .null, .null, .null, .null, .int (0), .null])) := e0
  refine lv_aload_n hx hb dX7_init_34 rfl (lv_at hl 0 rfl) ?_
  refine lv_iconst (v := nI 2) hx hb dX7_init_35 (by decide) ?_
  refine mw_newa (atype := .int) (ty := .int) (a0 := (2, .inl (fun _ => 0))) (N' := 2) hx hb k_3 rfl hC hw 1 rfl (fun C h => by cases h) (fun cA => mw_ha_i cA _) (by decide +kernel) (by decide +kernel) (by decide +kernel) (Nat.le_of_ble_eq_true rfl) (Nat.le_of_ble_eq_true rfl) dX7_init_36 (fun H' hn hw => ?_)
  obtain ⟨q_5, eq_5⟩ : ∃ z, z = H.size := ⟨_, rfl⟩
  rw [← eq_5] at hw hn ⊢
  generalize H' = H at hw ⊢
  refine mw_putF (C := RX7) (T := TX7) (N := 27) hx hb hts inX7_init_X7 tyX7 tyX7_ok nmX7 hown hC hw (mw_u1 (mw_nen e0 hn) e0) rfl 5 (by decide) k_9 rfl hin rfl rfl rfl (Nat.le_of_ble_eq_true rfl) dX7_init_38 (fun H locs hw => ?_)
  have hw : mw_St G _ s (va_up _ h0 (some (.inr (7, [.int (0), .ref (q_1), .ref (q_2), .ref (q_3), .ref (q_4), .ref (q_5), .null, .null, .null, .null, .null, .null, .null, .null, .null, .null, .null, .null, .null, .null, .null, .null, .null, .null, .null, .int (0), .null])))) H locs := hw
  refine md_step 5 hk hp e0 ⟨_, rfl⟩ hn hw (fun M1 hk hp e0 hw => ?_)
  have e0 : M1 h0 = some (.inr (7, [.int (0), .ref (q_1), .ref (q_2), .ref (q_3), .ref (q_4), .ref (q_5), .null, .null, .null, .null, .null, .null, .null, .null, .null, .null, .null, .null, .null, .null, .null, .null, .null, .null, .null, .int (0), .null])) := e0
  refine lv_aload_n hx hb dX7_init_41 rfl (lv_at hl 0 rfl) ?_
  refine lv_iconst (v := nI 2) hx hb dX7_init_42 (by decide) ?_
  refine mw_newa (atype := .int) (ty := .int) (a0 := (2, .inl (fun _ => 0))) (N' := 2) hx hb k_3 rfl hC hw 1 rfl (fun C h => by cases h) (fun cA => mw_ha_i cA _) (by decide +kernel) (by decide +kernel) (by decide +kernel) (Nat.le_of_ble_eq_true rfl) (Nat.le_of_ble_eq_true rfl) dX7_init_43 (fun H' hn hw => ?_)
  obtain ⟨q_6, eq_6⟩ : ∃ z, z = H.size := ⟨_, rfl⟩
  rw [← eq_6] at hw hn ⊢
  generalize H' = H at hw ⊢
  refine mw_putF (C := RX7) (T := TX7) (N := 27) hx hb hts inX7_init_X7 tyX7 tyX7_ok nmX7 hown hC hw (mw_u1 (mw_nen e0 hn) e0) rfl 6 (by decide) k_10 rfl hin rfl rfl rfl (Nat.le_of_ble_eq_true rfl) dX7_init_45 (fun H locs hw => ?_)
  have hw : mw_St G _ s (va_up _ h0 (some (.inr (7, [.int (0), .ref (q_1), .ref (q_2), .ref (q_3), .ref (q_4), .ref (q_5), .ref (q_6), .null, .null, .null, .null, .null, .null, .null, .null, .null, .null, .null, .null, .null, .null, .null, .null, .null, .null, .int (0), .null])))) H locs := hw
  refine md_step 6 hk hp e0 ⟨_, rfl⟩ hn hw (fun M1 hk hp e0 hw => ?_)
  have e0 : M1 h0 = some (.inr (7, [.int (0), .ref (q_1), .ref (q_2), .ref (q_3), .ref (q_4), .ref (q_5), .ref (q_6), .null, .null, .null, .null, .null, .null, .null, .null, .null, .null, .null, .null, .null, .null, .null, .null, .null, .null, .int (0), .null])) := e0
  refine lv_aload_n hx hb dX7_init_48 rfl (lv_at hl 0 rfl) ?_
  refine lv_iconst (v := nI 2) hx hb dX7_init_49 (by decide) ?_
  refine mw_newa (atype := .int) (ty := .int) (a0 := (2, .inl (fun _ => 0))) (N' := 2) hx hb k_3 rfl hC hw 1 rfl (fun C h => by cases h) (fun cA => mw_ha_i cA _) (by decide +kernel) (by decide +kernel) (by decide +kernel) (Nat.le_of_ble_eq_true rfl) (Nat.le_of_ble_eq_true rfl) dX7_init_50 (fun H' hn hw => ?_)
  obtain ⟨q_7, eq_7⟩ : ∃ z, z = H.size := ⟨_, rfl⟩
  rw [← eq_7] at hw hn ⊢
  generalize H' = H at hw ⊢
  refine mw_putF (C := RX7) (T := TX7) (N := 27) hx hb hts inX7_init_X7 tyX7 tyX7_ok nmX7 hown hC hw (mw_u1 (mw_nen e0 hn) e0) rfl 7 (by decide) k_11 rfl hin rfl rfl rfl (Nat.le_of_ble_eq_true rfl) dX7_init_52 (fun H locs hw => ?_)
  have hw : mw_St G _ s (va_up _ h0 (some (.inr (7, [.int (0), .ref (q_1), .ref (q_2), .ref (q_3), .ref (q_4), .ref (q_5), .ref (q_6), .ref (q_7), .null, .null, .null, .null, .null, .null, .null, .null, .null, .null, .null, .null, .null, .null, .null, .null, .null, .int (0), .null])))) H locs := hw
  refine md_step 7 hk hp e0 ⟨_, rfl⟩ hn hw (fun M1 hk hp e0 hw => ?_)
  have e0 : M1 h0 = some (.inr (7, [.int (0), .ref (q_1), .ref (q_2), .ref (q_3), .ref (q_4), .ref (q_5), .ref (q_6), .ref (q_7), .null, .null, .null, .null, .null, .null, .null, .null, .null, .null, .null, .null, .null, .null, .null, .null, .null, .int (0), .null])) := e0
  refine lv_aload_n hx hb dX7_init_55 rfl (lv_at hl 0 rfl) ?_
  refine lv_iconst (v := nI 2) hx hb dX7_init_56 (by decide) ?_
  refine mw_newa (atype := .int) (ty := .int) (a0 := (2, .inl (fun _ => 0))) (N' := 2) hx hb k_3 rfl hC hw 1 rfl (fun C h => by cases h) (fun cA => mw_ha_i cA _) (by decide +kernel) (by decide +kernel) (by decide +kernel) (Nat.le_of_ble_eq_true rfl) (Nat.le_of_ble_eq_true rfl) dX7_init_57 (fun H' hn hw => ?_)
  obtain ⟨q_8, eq_8⟩ : ∃ z, z = H.size := ⟨_, rfl⟩
  rw [← eq_8] at hw hn ⊢
  generalize H' = H at hw ⊢
  refine mw_putF (C := RX7) (T := TX7) (N := 27) hx hb hts inX7_init_X7 tyX7 tyX7_ok nmX7 hown hC hw (mw_u1 (mw_nen e0 hn) e0) rfl 8 (by decide) k_12 rfl hin rfl rfl rfl (Nat.le_of_ble_eq_true rfl) dX7_init_59 (fun H locs hw => ?_)
  have hw : mw_St G _ s (va_up _ h0 (some (.inr (7, [.int (0), .ref (q_1), .ref (q_2), .ref (q_3), .ref (q_4), .ref (q_5), .ref (q_6), .ref (q_7), .ref (q_8), .null, .null, .null, .null, .null, .null, .null, .null, .null, .null, .null, .null, .null, .null, .null, .null, .int (0), .null])))) H locs := hw
  refine md_step 8 hk hp e0 ⟨_, rfl⟩ hn hw (fun M1 hk hp e0 hw => ?_)
  have e0 : M1 h0 = some (.inr (7, [.int (0), .ref (q_1), .ref (q_2), .ref (q_3), .ref (q_4), .ref (q_5), .ref (q_6), .ref (q_7), .ref (q_8), .null, .null, .null, .null, .null, .null, .null, .null, .null, .null, .null, .null, .null, .null, .null, .null, .int (0), .null])) := e0
  refine lv_aload_n hx hb dX7_init_62 rfl (lv_at hl 0 rfl) ?_
  refine lv_iconst (v := nI 2) hx hb dX7_init_63 (by decide) ?_
  refine mw_newa (atype := .int) (ty := .int) (a0 := (2, .inl (fun _ => 0))) (N' := 2) hx hb k_3 rfl hC hw 1 rfl (fun C h => by cases h) (fun cA => mw_ha_i cA _) (by decide +kernel) (by decide +kernel) (by decide +kernel) (Nat.le_of_ble_eq_true rfl) (Nat.le_of_ble_eq_true rfl) dX7_init_64 (fun H' hn hw => ?_)
  obtain ⟨q_9, eq_9⟩ : ∃ z, z = H.size := ⟨_, rfl⟩
  rw [← eq_9] at hw hn ⊢
  generalize H' = H at hw ⊢
  refine mw_putF (C := RX7) (T := TX7) (N := 27) hx hb hts inX7_init_X7 tyX7 tyX7_ok nmX7 hown hC hw (mw_u1 (mw_nen e0 hn) e0) rfl 9 (by decide) k_13 rfl hin rfl rfl rfl (Nat.le_of_ble_eq_true rfl) dX7_init_66 (fun H locs hw => ?_)
  have hw : mw_St G _ s (va_up _ h0 (some (.inr (7, [.int (0), .ref (q_1), .ref (q_2), .ref (q_3), .ref (q_4), .ref (q_5), .ref (q_6), .ref (q_7), .ref (q_8), .ref (q_9), .null, .null, .null, .null, .null, .null, .null, .null, .null, .null, .null, .null, .null, .null, .null, .int (0), .null])))) H locs := hw
  refine md_step 9 hk hp e0 ⟨_, rfl⟩ hn hw (fun M1 hk hp e0 hw => ?_)
  have e0 : M1 h0 = some (.inr (7, [.int (0), .ref (q_1), .ref (q_2), .ref (q_3), .ref (q_4), .ref (q_5), .ref (q_6), .ref (q_7), .ref (q_8), .ref (q_9), .null, .null, .null, .null, .null, .null, .null, .null, .null, .null, .null, .null, .null, .null, .null, .int (0), .null])) := e0
  refine lv_aload_n hx hb dX7_init_69 rfl (lv_at hl 0 rfl) ?_
  refine lv_bipush (v := nI 120) hx hb dX7_init_70 (by decide) ?_
  refine mw_newa (atype := .int) (ty := .int) (a0 := (120, .inl (fun _ => 0))) (N' := 120) hx hb k_3 rfl hC hw 1 rfl (fun C h => by cases h) (fun cA => mw_ha_i cA _) (by decide +kernel) (by decide +kernel) (by decide +kernel) (Nat.le_of_ble_eq_true rfl) (Nat.le_of_ble_eq_true rfl) dX7_init_72 (fun H' hn hw => ?_)
  obtain ⟨q_10, eq_10⟩ : ∃ z, z = H.size := ⟨_, rfl⟩
  rw [← eq_10] at hw hn ⊢
  generalize H' = H at hw ⊢
  refine mw_putF (C := RX7) (T := TX7) (N := 27) hx hb hts inX7_init_X7 tyX7 tyX7_ok nmX7 hown hC hw (mw_u1 (mw_nen e0 hn) e0) rfl 10 (by decide) k_14 rfl hin rfl rfl rfl (Nat.le_of_ble_eq_true rfl) dX7_init_74 (fun H locs hw => ?_)
  have hw : mw_St G _ s (va_up _ h0 (some (.inr (7, [.int (0), .ref (q_1), .ref (q_2), .ref (q_3), .ref (q_4), .ref (q_5), .ref (q_6), .ref (q_7), .ref (q_8), .ref (q_9), .ref (q_10), .null, .null, .null, .null, .null, .null, .null, .null, .null, .null, .null, .null, .null, .null, .int (0), .null])))) H locs := hw
  refine md_step 10 hk hp e0 ⟨_, rfl⟩ hn hw (fun M1 hk hp e0 hw => ?_)
  have e0 : M1 h0 = some (.inr (7, [.int (0), .ref (q_1), .ref (q_2), .ref (q_3), .ref (q_4), .ref (q_5), .ref (q_6), .ref (q_7), .ref (q_8), .ref (q_9), .ref (q_10), .null, .null, .null, .null, .null, .null, .null, .null, .null, .null, .null, .null, .null, .null, .int (0), .null])) := e0
  refine lv_aload_n hx hb dX7_init_77 rfl (lv_at hl 0 rfl) ?_
  refine lv_bipush (v := nI 120) hx hb dX7_init_78 (by decide) ?_
  refine mw_newa (atype := .int) (ty := .int) (a0 := (120, .inl (fun _ => 0))) (N' := 120) hx hb k_3 rfl hC hw 1 rfl (fun C h => by cases h) (fun cA => mw_ha_i cA _) (by decide +kernel) (by decide +kernel) (by decide +kernel) (Nat.le_of_ble_eq_true rfl) (Nat.le_of_ble_eq_true rfl) dX7_init_80 (fun H' hn hw => ?_)
  obtain ⟨q_11, eq_11⟩ : ∃ z, z = H.size := ⟨_, rfl⟩
  rw [← eq_11] at hw hn ⊢
  generalize H' = H at hw ⊢
  refine mw_putF (C := RX7) (T := TX7) (N := 27) hx hb hts inX7_init_X7 tyX7 tyX7_ok nmX7 hown hC hw (mw_u1 (mw_nen e0 hn) e0) rfl 11 (by decide) k_15 rfl hin rfl rfl rfl (Nat.le_of_ble_eq_true rfl) dX7_init_82 (fun H locs hw => ?_)
  have hw : mw_St G _ s (va_up _ h0 (some (.inr (7, [.int (0), .ref (q_1), .ref (q_2), .ref (q_3), .ref (q_4), .ref (q_5), .ref (q_6), .ref (q_7), .ref (q_8), .ref (q_9), .ref (q_10), .ref (q_11), .null, .null, .null, .null, .null, .null, .null, .null, .null, .null, .null, .null, .null, .int (0), .null])))) H locs := hw
  refine md_step 11 hk hp e0 ⟨_, rfl⟩ hn hw (fun M1 hk hp e0 hw => ?_)
  have e0 : M1 h0 = some (.inr (7, [.int (0), .ref (q_1), .ref (q_2), .ref (q_3), .ref (q_4), .ref (q_5), .ref (q_6), .ref (q_7), .ref (q_8), .ref (q_9), .ref (q_10), .ref (q_11), .null, .null, .null, .null, .null, .null, .null, .null, .null, .null, .null, .null, .null, .int (0), .null])) := e0
  refine lv_aload_n hx hb dX7_init_85 rfl (lv_at hl 0 rfl) ?_
  refine lv_iconst (v := nI 2) hx hb dX7_init_86 (by decide) ?_
  refine mw_newa (atype := .int) (ty := .int) (a0 := (2, .inl (fun _ => 0))) (N' := 2) hx hb k_3 rfl hC hw 1 rfl (fun C h => by cases h) (fun cA => mw_ha_i cA _) (by decide +kernel) (by decide +kernel) (by decide +kernel) (Nat.le_of_ble_eq_true rfl) (Nat.le_of_ble_eq_true rfl) dX7_init_87 (fun H' hn hw => ?_)
  obtain ⟨q_12, eq_12⟩ : ∃ z, z = H.size := ⟨_, rfl⟩
  rw [← eq_12] at hw hn ⊢
  generalize H' = H at hw ⊢
  refine mw_putF (C := RX7) (T := TX7) (N := 27) hx hb hts inX7_init_X7 tyX7 tyX7_ok nmX7 hown hC hw (mw_u1 (mw_nen e0 hn) e0) rfl 12 (by decide) k_16 rfl hin rfl rfl rfl (Nat.le_of_ble_eq_true rfl) dX7_init_89 (fun H locs hw => ?_)
  have hw : mw_St G _ s (va_up _ h0 (some (.inr (7, [.int (0), .ref (q_1), .ref (q_2), .ref (q_3), .ref (q_4), .ref (q_5), .ref (q_6), .ref (q_7), .ref (q_8), .ref (q_9), .ref (q_10), .ref (q_11), .ref (q_12), .null, .null, .null, .null, .null, .null, .null, .null, .null, .null, .null, .null, .int (0), .null])))) H locs := hw
  refine md_step 12 hk hp e0 ⟨_, rfl⟩ hn hw (fun M1 hk hp e0 hw => ?_)
  have e0 : M1 h0 = some (.inr (7, [.int (0), .ref (q_1), .ref (q_2), .ref (q_3), .ref (q_4), .ref (q_5), .ref (q_6), .ref (q_7), .ref (q_8), .ref (q_9), .ref (q_10), .ref (q_11), .ref (q_12), .null, .null, .null, .null, .null, .null, .null, .null, .null, .null, .null, .null, .int (0), .null])) := e0
  refine lv_aload_n hx hb dX7_init_92 rfl (lv_at hl 0 rfl) ?_
  refine lv_sipush (v := nI 254) hx hb dX7_init_93 (by decide) ?_
  refine mw_newa (atype := .int) (ty := .int) (a0 := (254, .inl (fun _ => 0))) (N' := 254) hx hb k_3 rfl hC hw 1 rfl (fun C h => by cases h) (fun cA => mw_ha_i cA _) (by decide +kernel) (by decide +kernel) (by decide +kernel) (Nat.le_of_ble_eq_true rfl) (Nat.le_of_ble_eq_true rfl) dX7_init_96 (fun H' hn hw => ?_)
  obtain ⟨q_13, eq_13⟩ : ∃ z, z = H.size := ⟨_, rfl⟩
  rw [← eq_13] at hw hn ⊢
  generalize H' = H at hw ⊢
  refine mw_putF (C := RX7) (T := TX7) (N := 27) hx hb hts inX7_init_X7 tyX7 tyX7_ok nmX7 hown hC hw (mw_u1 (mw_nen e0 hn) e0) rfl 13 (by decide) k_17 rfl hin rfl rfl rfl (Nat.le_of_ble_eq_true rfl) dX7_init_98 (fun H locs hw => ?_)
  have hw : mw_St G _ s (va_up _ h0 (some (.inr (7, [.int (0), .ref (q_1), .ref (q_2), .ref (q_3), .ref (q_4), .ref (q_5), .ref (q_6), .ref (q_7), .ref (q_8), .ref (q_9), .ref (q_10), .ref (q_11), .ref (q_12), .ref (q_13), .null, .null, .null, .null, .null, .null, .null, .null, .null, .null, .null, .int (0), .null])))) H locs := hw
  refine md_step 13 hk hp e0 ⟨_, rfl⟩ hn hw (fun M1 hk hp e0 hw => ?_)
  have e0 : M1 h0 = some (.inr (7, [.int (0), .ref (q_1), .ref (q_2), .ref (q_3), .ref (q_4), .ref (q_5), .ref (q_6), .ref (q_7), .ref (q_8), .ref (q_9), .ref (q_10), .ref (q_11), .ref (q_12), .ref (q_13), .null, .null, .null, .null, .null, .null, .null, .null, .null, .null, .null, .int (0), .null])) := e0
  refine lv_aload_n hx hb dX7_init_101 rfl (lv_at hl 0 rfl) ?_
  refine lv_sipush (v := nI 254) hx hb dX7_init_102 (by decide) ?_
  refine mw_newa (atype := .int) (ty := .int) (a0 := (254, .inl (fun _ => 0))) (N' := 254) hx hb k_3 rfl hC hw 1 rfl (fun C h => by cases h) (fun cA => mw_ha_i cA _) (by decide +kernel) (by decide +kernel) (by decide +kernel) (Nat.le_of_ble_eq_true rfl) (Nat.le_of_ble_eq_true rfl) dX7_init_105 (fun H' hn hw => ?_)
  obtain ⟨q_14, eq_14⟩ : ∃ z, z = H.size := ⟨_, rfl⟩
  rw [← eq_14] at hw hn ⊢
  generalize H' = H at hw ⊢
  refine mw_putF (C := RX7) (T := TX7) (N := 27) hx hb hts inX7_init_X7 tyX7 tyX7_ok nmX7 hown hC hw (mw_u1 (mw_nen e0 hn) e0) rfl 14 (by decide) k_18 rfl hin rfl rfl rfl (Nat.le_of_ble_eq_true rfl) dX7_init_107 (fun H locs hw => ?_)
  have hw : mw_St G _ s (va_up _ h0 (some (.inr (7, [.int (0), .ref (q_1), .ref (q_2), .ref (q_3), .ref (q_4), .ref (q_5), .ref (q_6), .ref (q_7), .ref (q_8), .ref (q_9), .ref (q_10), .ref (q_11), .ref (q_12), .ref (q_13), .ref (q_14), .null, .null, .null, .null, .null, .null, .null, .null, .null, .null, .int (0), .null])))) H locs := hw
  refine md_step 14 hk hp e0 ⟨_, rfl⟩ hn hw (fun M1 hk hp e0 hw => ?_)
  have e0 : M1 h0 = some (.inr (7, [.int (0), .ref (q_1), .ref (q_2), .ref (q_3), .ref (q_4), .ref (q_5), .ref (q_6), .ref (q_7), .ref (q_8), .ref (q_9), .ref (q_10), .ref (q_11), .ref (q_12), .ref (q_13), .ref (q_14), .null, .null, .null, .null, .null, .null, .null, .null, .null, .null, .int (0), .null])) := e0
  refine lv_aload_n hx hb dX7_init_110 rfl (lv_at hl 0 rfl) ?_
  refine lv_sipush (v := nI 254) hx hb dX7_init_111 (by decide) ?_
  refine mw_newa (atype := .int) (ty := .int) (a0 := (254, .inl (fun _ => 0))) (N' := 254) hx hb k_3 rfl hC hw 1 rfl (fun C h => by cases h) (fun cA => mw_ha_i cA _) (by decide +kernel) (by decide +kernel) (by decide +kernel) (Nat.le_of_ble_eq_true rfl) (Nat.le_of_ble_eq_true rfl) dX7_init_114 (fun H' hn hw => ?_)
  obtain ⟨q_15, eq_15⟩ : ∃ z, z = H.size := ⟨_, rfl⟩
  rw [← eq_15] at hw hn ⊢
  generalize H' = H at hw ⊢
  refine mw_putF (C := RX7) (T := TX7) (N := 27) hx hb hts inX7_init_X7 tyX7 tyX7_ok nmX7 hown hC hw (mw_u1 (mw_nen e0 hn) e0) rfl 15 (by decide) k_19 rfl hin rfl rfl rfl (Nat.le_of_ble_eq_true rfl) dX7_init_116 (fun H locs hw => ?_)
  have hw : mw_St G _ s (va_up _ h0 (some (.inr (7, [.int (0), .ref (q_1), .ref (q_2), .ref (q_3), .ref (q_4), .ref (q_5), .ref (q_6), .ref (q_7), .ref (q_8), .ref (q_9), .ref (q_10), .ref (q_11), .ref (q_12), .ref (q_13), .ref (q_14), .ref (q_15), .null, .null, .null, .null, .null, .null, .null, .null, .null, .int (0), .null])))) H locs := hw
  refine md_step 15 hk hp e0 ⟨_, rfl⟩ hn hw (fun M1 hk hp e0 hw => ?_)
  have e0 : M1 h0 = some (.inr (7, [.int (0), .ref (q_1), .ref (q_2), .ref (q_3), .ref (q_4), .ref (q_5), .ref (q_6), .ref (q_7), .ref (q_8), .ref (q_9), .ref (q_10), .ref (q_11), .ref (q_12), .ref (q_13), .ref (q_14), .ref (q_15), .null, .null, .null, .null, .null, .null, .null, .null, .null, .int (0), .null])) := e0
  refine lv_aload_n hx hb dX7_init_119 rfl (lv_at hl 0 rfl) ?_
  refine lv_iconst (v := nI 2) hx hb dX7_init_120 (by decide) ?_
  refine mw_newa (atype := .int) (ty := .int) (a0 := (2, .inl (fun _ => 0))) (N' := 2) hx hb k_3 rfl hC hw 1 rfl (fun C h => by cases h) (fun cA => mw_ha_i cA _) (by decide +kernel) (by decide +kernel) (by decide +kernel) (Nat.le_of_ble_eq_true rfl) (Nat.le_of_ble_eq_true rfl) dX7_init_121 (fun H' hn hw => ?_)
  obtain ⟨q_16, eq_16⟩ : ∃ z, z = H.size := ⟨_, rfl⟩
  rw [← eq_16] at hw hn ⊢
  generalize H' = H at hw ⊢
  refine mw_putF (C := RX7) (T := TX7) (N := 27) hx hb hts inX7_init_X7 tyX7 tyX7_ok nmX7 hown hC hw (mw_u1 (mw_nen e0 hn) e0) rfl 16 (by decide) k_20 rfl hin rfl rfl rfl (Nat.le_of_ble_eq_true rfl) dX7_init_123 (fun H locs hw => ?_)
  have hw : mw_St G _ s (va_up _ h0 (some (.inr (7, [.int (0), .ref (q_1), .ref (q_2), .ref (q_3), .ref (q_4), .ref (q_5), .ref (q_6), .ref (q_7), .ref (q_8), .ref (q_9), .ref (q_10), .ref (q_11), .ref (q_12), .ref (q_13), .ref (q_14), .ref (q_15), .ref (q_16), .null, .null, .null, .null, .null, .null, .null, .null, .int (0), .null])))) H locs := hw
  refine md_step 16 hk hp e0 ⟨_, rfl⟩ hn hw (fun M1 hk hp e0 hw => ?_)
  have e0 : M1 h0 = some (.inr (7, [.int (0), .ref (q_1), .ref (q_2), .ref (q_3), .ref (q_4), .ref (q_5), .ref (q_6), .ref (q_7), .ref (q_8), .ref (q_9), .ref (q_10), .ref (q_11), .ref (q_12), .ref (q_13), .ref (q_14), .ref (q_15), .ref (q_16), .null, .null, .null, .null, .null, .null, .null, .null, .int (0), .null])) := e0
  refine lv_aload_n hx hb dX7_init_126 rfl (lv_at hl 0 rfl) ?_
  refine lv_iconst (v := nI 2) hx hb dX7_init_127 (by decide) ?_
  refine mw_newa (atype := .int) (ty := .int) (a0 := (2, .inl (fun _ => 0))) (N' := 2) hx hb k_3 rfl hC hw 1 rfl (fun C h => by cases h) (fun cA => mw_ha_i cA _) (by decide +kernel) (by decide +kernel) (by decide +kernel) (Nat.le_of_ble_eq_true rfl) (Nat.le_of_ble_eq_true rfl) dX7_init_128 (fun H' hn hw => ?_)
  obtain ⟨q_17, eq_17⟩ : ∃ z, z = H.size := ⟨_, rfl⟩
  rw [← eq_17] at hw hn ⊢
  generalize H' = H at hw ⊢
  refine mw_putF (C := RX7) (T := TX7) (N := 27) hx hb hts inX7_init_X7 tyX7 tyX7_ok nmX7 hown hC hw (mw_u1 (mw_nen e0 hn) e0) rfl 17 (by decide) k_21 rfl hin rfl rfl rfl (Nat.le_of_ble_eq_true rfl) dX7_init_130 (fun H locs hw => ?_)
  have hw : mw_St G _ s (va_up _ h0 (some (.inr (7, [.int (0), .ref (q_1), .ref (q_2), .ref (q_3), .ref (q_4), .ref (q_5), .ref (q_6), .ref (q_7), .ref (q_8), .ref (q_9), .ref (q_10), .ref (q_11), .ref (q_12), .ref (q_13), .ref (q_14), .ref (q_15), .ref (q_16), .ref (q_17), .null, .null, .null, .null, .null, .null, .null, .int (0), .null])))) H locs := hw
  refine md_step 17 hk hp e0 ⟨_, rfl⟩ hn hw (fun M1 hk hp e0 hw => ?_)
  have e0 : M1 h0 = some (.inr (7, [.int (0), .ref (q_1), .ref (q_2), .ref (q_3), .ref (q_4), .ref (q_5), .ref (q_6), .ref (q_7), .ref (q_8), .ref (q_9), .ref (q_10), .ref (q_11), .ref (q_12), .ref (q_13), .ref (q_14), .ref (q_15), .ref (q_16), .ref (q_17), .null, .null, .null, .null, .null, .null, .null, .int (0), .null])) := e0
  refine lv_aload_n hx hb dX7_init_133 rfl (lv_at hl 0 rfl) ?_
  refine lv_iconst (v := nI 2) hx hb dX7_init_134 (by decide) ?_
  refine mw_newa (atype := .int) (ty := .int) (a0 := (2, .inl (fun _ => 0))) (N' := 2) hx hb k_3 rfl hC hw 1 rfl (fun C h => by cases h) (fun cA => mw_ha_i cA _) (by decide +kernel) (by decide +kernel) (by decide +kernel) (Nat.le_of_ble_eq_true rfl) (Nat.le_of_ble_eq_true rfl) dX7_init_135 (fun H' hn hw => ?_)
  obtain ⟨q_18, eq_18⟩ : ∃ z, z = H.size := ⟨_, rfl⟩
  rw [← eq_18] at hw hn ⊢
  generalize H' = H at hw ⊢
  refine mw_putF (C := RX7) (T := TX7) (N := 27) hx hb hts inX7_init_X7 tyX7 tyX7_ok nmX7 hown hC hw (mw_u1 (mw_nen e0 hn) e0) rfl 18 (by decide) k_22 rfl hin rfl rfl rfl (Nat.le_of_ble_eq_true rfl) dX7_init_137 (fun H locs hw => ?_)
  have hw : mw_St G _ s (va_up _ h0 (some (.inr (7, [.int (0), .ref (q_1), .ref (q_2), .ref (q_3), .ref (q_4), .ref (q_5), .ref (q_6), .ref (q_7), .ref (q_8), .ref (q_9), .ref (q_10), .ref (q_11), .ref (q_12), .ref (q_13), .ref (q_14), .ref (q_15), .ref (q_16), .ref (q_17), .ref (q_18), .null, .null, .null, .null, .null, .null, .int (0), .null])))) H locs := hw
  refine md_step 18 hk hp e0 ⟨_, rfl⟩ hn hw (fun M1 hk hp e0 hw => ?_)
  have e0 : M1 h0 = some (.inr (7, [.int (0), .ref (q_1), .ref (q_2), .ref (q_3), .ref (q_4), .ref (q_5), .ref (q_6), .ref (q_7), .ref (q_8), .ref (q_9), .ref (q_10), .ref (q_11), .ref (q_12), .ref (q_13), .ref (q_14), .ref (q_15), .ref (q_16), .ref (q_17), .ref (q_18), .null, .null, .null, .null, .null, .null, .int (0), .null])) := e0
  refine lv_aload_n hx hb dX7_init_140 rfl (lv_at hl 0 rfl) ?_
  refine lv_iconst (v := nI 2) hx hb dX7_init_141 (by decide) ?_
  refine mw_newa (atype := .int) (ty := .int) (a0 := (2, .inl (fun _ => 0))) (N' := 2) hx hb k_3 rfl hC hw 1 rfl (fun C h => by cases h) (fun cA => mw_ha_i cA _) (by decide +kernel) (by decide +kernel) (by decide +kernel) (Nat.le_of_ble_eq_true rfl) (Nat.le_of_ble_eq_true rfl) dX7_init_142 (fun H' hn hw => ?_)
  obtain ⟨q_19, eq_19⟩ : ∃ z, z = H.size := ⟨_, rfl⟩
  rw [← eq_19] at hw hn ⊢
  generalize H' = H at hw ⊢
  refine mw_putF (C := RX7) (T := TX7) (N := 27) hx hb hts inX7_init_X7 tyX7 tyX7_ok nmX7 hown hC hw (mw_u1 (mw_nen e0 hn) e0) rfl 19 (by decide) k_23 rfl hin rfl rfl rfl (Nat.le_of_ble_eq_true rfl) dX7_init_144 (fun H locs hw => ?_)
  have hw : mw_St G _ s (va_up _ h0 (some (.inr (7, [.int (0), .ref (q_1), .ref (q_2), .ref (q_3), .ref (q_4), .ref (q_5), .ref (q_6), .ref (q_7), .ref (q_8), .ref (q_9), .ref (q_10), .ref (q_11), .ref (q_12), .ref (q_13), .ref (q_14), .ref (q_15), .ref (q_16), .ref (q_17), .ref (q_18), .ref (q_19), .null, .null, .null, .null, .null, .int (0), .null])))) H locs := hw
  refine md_step 19 hk hp e0 ⟨_, rfl⟩ hn hw (fun M1 hk hp e0 hw => ?_)
  have e0 : M1 h0 = some (.inr (7, [.int (0), .ref (q_1), .ref (q_2), .ref (q_3), .ref (q_4), .ref (q_5), .ref (q_6), .ref (q_7), .ref (q_8), .ref (q_9), .ref (q_10), .ref (q_11), .ref (q_12), .ref (q_13), .ref (q_14), .ref (q_15), .ref (q_16), .ref (q_17), .ref (q_18), .ref (q_19), .null, .null, .null, .null, .null, .int (0), .null])) := e0
  refine lv_aload_n hx hb dX7_init_147 rfl (lv_at hl 0 rfl) ?_
  refine lv_iconst (v := nI 2) hx hb dX7_init_148 (by decide) ?_
  refine mw_newa (atype := .boolean) (ty := .boolean) (a0 := (2, .inl (fun _ => 0))) (N' := 2) hx hb k_24 rfl hC hw 3 rfl (fun C h => by cases h) (fun cA => mw_ha_z cA _) (by decide +kernel) (by decide +kernel) (by decide +kernel) (Nat.le_of_ble_eq_true rfl) (Nat.le_of_ble_eq_true rfl) dX7_init_149 (fun H' hn hw => ?_)
  obtain ⟨q_20, eq_20⟩ : ∃ z, z = H.size := ⟨_, rfl⟩
  rw [← eq_20] at hw hn ⊢
  generalize H' = H at hw ⊢
  refine mw_putF (C := RX7) (T := TX7) (N := 27) hx hb hts inX7_init_X7 tyX7 tyX7_ok nmX7 hown hC hw (mw_u1 (mw_nen e0 hn) e0) rfl 20 (by decide) k_25 rfl hin rfl rfl rfl (Nat.le_of_ble_eq_true rfl) dX7_init_151 (fun H locs hw => ?_)
  have hw : mw_St G _ s (va_up _ h0 (some (.inr (7, [.int (0), .ref (q_1), .ref (q_2), .ref (q_3), .ref (q_4), .ref (q_5), .ref (q_6), .ref (q_7), .ref (q_8), .ref (q_9), .ref (q_10), .ref (q_11), .ref (q_12), .ref (q_13), .ref (q_14), .ref (q_15), .ref (q_16), .ref (q_17), .ref (q_18), .ref (q_19), .ref (q_20), .null, .null, .null, .null, .int (0), .null])))) H locs := hw
  refine md_step 20 hk hp e0 ⟨_, rfl⟩ hn hw (fun M1 hk hp e0 hw => ?_)
  have e0 : M1 h0 = some (.inr (7, [.int (0), .ref (q_1), .ref (q_2), .ref (q_3), .ref (q_4), .ref (q_5), .ref (q_6), .ref (q_7), .ref (q_8), .ref (q_9), .ref (q_10), .ref (q_11), .ref (q_12), .ref (q_13), .ref (q_14), .ref (q_15), .ref (q_16), .ref (q_17), .ref (q_18), .ref (q_19), .ref (q_20), .null, .null, .null, .null, .int (0), .null])) := e0
  refine lv_aload_n hx hb dX7_init_154 rfl (lv_at hl 0 rfl) ?_
  refine lv_iconst (v := nI 2) hx hb dX7_init_155 (by decide) ?_
  refine mw_newa (atype := .int) (ty := .int) (a0 := (2, .inl (fun _ => 0))) (N' := 2) hx hb k_3 rfl hC hw 1 rfl (fun C h => by cases h) (fun cA => mw_ha_i cA _) (by decide +kernel) (by decide +kernel) (by decide +kernel) (Nat.le_of_ble_eq_true rfl) (Nat.le_of_ble_eq_true rfl) dX7_init_156 (fun H' hn hw => ?_)
  obtain ⟨q_21, eq_21⟩ : ∃ z, z = H.size := ⟨_, rfl⟩
  rw [← eq_21] at hw hn ⊢
  generalize H' = H at hw ⊢
  refine mw_putF (C := RX7) (T := TX7) (N := 27) hx hb hts inX7_init_X7 tyX7 tyX7_ok nmX7 hown hC hw (mw_u1 (mw_nen e0 hn) e0) rfl 21 (by decide) k_26 rfl hin rfl rfl rfl (Nat.le_of_ble_eq_true rfl) dX7_init_158 (fun H locs hw => ?_)
  have hw : mw_St G _ s (va_up _ h0 (some (.inr (7, [.int (0), .ref (q_1), .ref (q_2), .ref (q_3), .ref (q_4), .ref (q_5), .ref (q_6), .ref (q_7), .ref (q_8), .ref (q_9), .ref (q_10), .ref (q_11), .ref (q_12), .ref (q_13), .ref (q_14), .ref (q_15), .ref (q_16), .ref (q_17), .ref (q_18), .ref (q_19), .ref (q_20), .ref (q_21), .null, .null, .null, .int (0), .null])))) H locs := hw
  refine md_step 21 hk hp e0 ⟨_, rfl⟩ hn hw (fun M1 hk hp e0 hw => ?_)
  have e0 : M1 h0 = some (.inr (7, [.int (0), .ref (q_1), .ref (q_2), .ref (q_3), .ref (q_4), .ref (q_5), .ref (q_6), .ref (q_7), .ref (q_8), .ref (q_9), .ref (q_10), .ref (q_11), .ref (q_12), .ref (q_13), .ref (q_14), .ref (q_15), .ref (q_16), .ref (q_17), .ref (q_18), .ref (q_19), .ref (q_20), .ref (q_21), .null, .null, .null, .int (0), .null])) := e0
  refine lv_aload_n hx hb dX7_init_161 rfl (lv_at hl 0 rfl) ?_
  refine lv_bipush (v := nI 100) hx hb dX7_init_162 (by decide) ?_
  refine mw_newa (atype := .int) (ty := .int) (a0 := (100, .inl (fun _ => 0))) (N' := 100) hx hb k_3 rfl hC hw 1 rfl (fun C h => by cases h) (fun cA => mw_ha_i cA _) (by decide +kernel) (by decide +kernel) (by decide +kernel) (Nat.le_of_ble_eq_true rfl) (Nat.le_of_ble_eq_true rfl) dX7_init_164 (fun H' hn hw => ?_)
  obtain ⟨q_22, eq_22⟩ : ∃ z, z = H.size := ⟨_, rfl⟩
  rw [← eq_22] at hw hn ⊢
  generalize H' = H at hw ⊢
  refine mw_putF (C := RX7) (T := TX7) (N := 27) hx hb hts inX7_init_X7 tyX7 tyX7_ok nmX7 hown hC hw (mw_u1 (mw_nen e0 hn) e0) rfl 22 (by decide) k_27 rfl hin rfl rfl rfl (Nat.le_of_ble_eq_true rfl) dX7_init_166 (fun H locs hw => ?_)
  have hw : mw_St G _ s (va_up _ h0 (some (.inr (7, [.int (0), .ref (q_1), .ref (q_2), .ref (q_3), .ref (q_4), .ref (q_5), .ref (q_6), .ref (q_7), .ref (q_8), .ref (q_9), .ref (q_10), .ref (q_11), .ref (q_12), .ref (q_13), .ref (q_14), .ref (q_15), .ref (q_16), .ref (q_17), .ref (q_18), .ref (q_19), .ref (q_20), .ref (q_21), .ref (q_22), .null, .null, .int (0), .null])))) H locs := hw
  refine md_step 22 hk hp e0 ⟨_, rfl⟩ hn hw (fun M1 hk hp e0 hw => ?_)
  have e0 : M1 h0 = some (.inr (7, [.int (0), .ref (q_1), .ref (q_2), .ref (q_3), .ref (q_4), .ref (q_5), .ref (q_6), .ref (q_7), .ref (q_8), .ref (q_9), .ref (q_10), .ref (q_11), .ref (q_12), .ref (q_13), .ref (q_14), .ref (q_15), .ref (q_16), .ref (q_17), .ref (q_18), .ref (q_19), .ref (q_20), .ref (q_21), .ref (q_22), .null, .null, .int (0), .null])) := e0
  refine lv_aload_n hx hb dX7_init_169 rfl (lv_at hl 0 rfl) ?_
  refine lv_sipush (v := nI 27200) hx hb dX7_init_170 (by decide) ?_
  refine mw_newa (atype := .int) (ty := .int) (a0 := (27200, .inl (fun _ => 0))) (N' := 27200) hx hb k_3 rfl hC hw 1 rfl (fun C h => by cases h) (fun cA => mw_ha_i cA _) (by decide +kernel) (by decide +kernel) (by decide +kernel) (Nat.le_of_ble_eq_true rfl) (Nat.le_of_ble_eq_true rfl) dX7_init_173 (fun H' hn hw => ?_)
  obtain ⟨q_23, eq_23⟩ : ∃ z, z = H.size := ⟨_, rfl⟩
  rw [← eq_23] at hw hn ⊢
  generalize H' = H at hw ⊢
  refine mw_putF (C := RX7) (T := TX7) (N := 27) hx hb hts inX7_init_X7 tyX7 tyX7_ok nmX7 hown hC hw (mw_u1 (mw_nen e0 hn) e0) rfl 23 (by decide) k_28 rfl hin rfl rfl rfl (Nat.le_of_ble_eq_true rfl) dX7_init_175 (fun H locs hw => ?_)
  have hw : mw_St G _ s (va_up _ h0 (some (.inr (7, [.int (0), .ref (q_1), .ref (q_2), .ref (q_3), .ref (q_4), .ref (q_5), .ref (q_6), .ref (q_7), .ref (q_8), .ref (q_9), .ref (q_10), .ref (q_11), .ref (q_12), .ref (q_13), .ref (q_14), .ref (q_15), .ref (q_16), .ref (q_17), .ref (q_18), .ref (q_19), .ref (q_20), .ref (q_21), .ref (q_22), .ref (q_23), .null, .int (0), .null])))) H locs := hw
  refine md_step 23 hk hp e0 ⟨_, rfl⟩ hn hw (fun M1 hk hp e0 hw => ?_)
  have e0 : M1 h0 = some (.inr (7, [.int (0), .ref (q_1), .ref (q_2), .ref (q_3), .ref (q_4), .ref (q_5), .ref (q_6), .ref (q_7), .ref (q_8), .ref (q_9), .ref (q_10), .ref (q_11), .ref (q_12), .ref (q_13), .ref (q_14), .ref (q_15), .ref (q_16), .ref (q_17), .ref (q_18), .ref (q_19), .ref (q_20), .ref (q_21), .ref (q_22), .ref (q_23), .null, .int (0), .null])) := e0
  refine lv_aload_n hx hb dX7_init_178 rfl (lv_at hl 0 rfl) ?_
  refine lv_sipush (v := nI 280) hx hb dX7_init_179 (by decide) ?_
  refine mw_newa (atype := .int) (ty := .int) (a0 := (280, .inl (fun _ => 0))) (N' := 280) hx hb k_3 rfl hC hw 1 rfl (fun C h => by cases h) (fun cA => mw_ha_i cA _) (by decide +kernel) (by decide +kernel) (by decide +kernel) (Nat.le_of_ble_eq_true rfl) (Nat.le_of_ble_eq_true rfl) dX7_init_182 (fun H' hn hw => ?_)
  obtain ⟨q_24, eq_24⟩ : ∃ z, z = H.size := ⟨_, rfl⟩
  rw [← eq_24] at hw hn ⊢
  generalize H' = H at hw ⊢
  refine mw_putF (C := RX7) (T := TX7) (N := 27) hx hb hts inX7_init_X7 tyX7 tyX7_ok nmX7 hown hC hw (mw_u1 (mw_nen e0 hn) e0) rfl 24 (by decide) k_29 rfl hin rfl rfl rfl (Nat.le_of_ble_eq_true rfl) dX7_init_184 (fun H locs hw => ?_)
  have hw : mw_St G _ s (va_up _ h0 (some (.inr (7, [.int (0), .ref (q_1), .ref (q_2), .ref (q_3), .ref (q_4), .ref (q_5), .ref (q_6), .ref (q_7), .ref (q_8), .ref (q_9), .ref (q_10), .ref (q_11), .ref (q_12), .ref (q_13), .ref (q_14), .ref (q_15), .ref (q_16), .ref (q_17), .ref (q_18), .ref (q_19), .ref (q_20), .ref (q_21), .ref (q_22), .ref (q_23), .ref (q_24), .int (0), .null])))) H locs := hw
  refine md_step 24 hk hp e0 ⟨_, rfl⟩ hn hw (fun M1 hk hp e0 hw => ?_)
  have e0 : M1 h0 = some (.inr (7, [.int (0), .ref (q_1), .ref (q_2), .ref (q_3), .ref (q_4), .ref (q_5), .ref (q_6), .ref (q_7), .ref (q_8), .ref (q_9), .ref (q_10), .ref (q_11), .ref (q_12), .ref (q_13), .ref (q_14), .ref (q_15), .ref (q_16), .ref (q_17), .ref (q_18), .ref (q_19), .ref (q_20), .ref (q_21), .ref (q_22), .ref (q_23), .ref (q_24), .int (0), .null])) := e0
  refine lv_aload_n hx hb dX7_init_187 rfl (lv_at hl 0 rfl) ?_
  refine lv_sipush (v := nI 3000) hx hb dX7_init_188 (by decide) ?_
  refine mw_newa (atype := .int) (ty := .int) (a0 := (3000, .inl (fun _ => 0))) (N' := 3000) hx hb k_3 rfl hC hw 1 rfl (fun C h => by cases h) (fun cA => mw_ha_i cA _) (by decide +kernel) (by decide +kernel) (by decide +kernel) (Nat.le_of_ble_eq_true rfl) (Nat.le_of_ble_eq_true rfl) dX7_init_191 (fun H' hn hw => ?_)
  obtain ⟨q_25, eq_25⟩ : ∃ z, z = H.size := ⟨_, rfl⟩
  rw [← eq_25] at hw hn ⊢
  generalize H' = H at hw ⊢
  refine mw_putF (C := RX7) (T := TX7) (N := 27) hx hb hts inX7_init_X7 tyX7 tyX7_ok nmX7 hown hC hw (mw_u1 (mw_nen e0 hn) e0) rfl 26 (by decide) k_30 rfl hin rfl rfl rfl (Nat.le_of_ble_eq_true rfl) dX7_init_193 (fun H locs hw => ?_)
  have hw : mw_St G _ s (va_up _ h0 (some (.inr (7, [.int (0), .ref (q_1), .ref (q_2), .ref (q_3), .ref (q_4), .ref (q_5), .ref (q_6), .ref (q_7), .ref (q_8), .ref (q_9), .ref (q_10), .ref (q_11), .ref (q_12), .ref (q_13), .ref (q_14), .ref (q_15), .ref (q_16), .ref (q_17), .ref (q_18), .ref (q_19), .ref (q_20), .ref (q_21), .ref (q_22), .ref (q_23), .ref (q_24), .int (0), .ref (q_25)])))) H locs := hw
  refine md_step 26 hk hp e0 ⟨_, rfl⟩ hn hw (fun M1 hk hp e0 hw => ?_)
  have e0 : M1 h0 = some (.inr (7, [.int (0), .ref (q_1), .ref (q_2), .ref (q_3), .ref (q_4), .ref (q_5), .ref (q_6), .ref (q_7), .ref (q_8), .ref (q_9), .ref (q_10), .ref (q_11), .ref (q_12), .ref (q_13), .ref (q_14), .ref (q_15), .ref (q_16), .ref (q_17), .ref (q_18), .ref (q_19), .ref (q_20), .ref (q_21), .ref (q_22), .ref (q_23), .ref (q_24), .int (0), .ref (q_25)])) := e0
  refine lv_aload_n hx hb dX7_init_196 rfl (lv_at hl 0 rfl) ?_
  refine lv_iconst (v := nI 0) hx hb dX7_init_197 (by decide) ?_
  obtain ⟨hm, ha⟩ := md_mk (a := md_fn [(26, q_25), (24, q_24), (23, q_23), (22, q_22), (21, q_21), (20, q_20), (19, q_19), (18, q_18), (17, q_17), (16, q_16), (15, q_15), (14, q_14), (13, q_13), (12, q_12), (11, q_11), (10, q_10), (9, q_9), (8, q_8), (7, q_7), (6, q_6), (5, q_5), (4, q_4), (3, q_3), (2, q_2), (1, q_1)]) (c := 0) (u := 0) hp (fun k hk => md_fn_mem (md_all hk)) e0
  generalize md_fn [(26, q_25), (24, q_24), (23, q_23), (22, q_22), (21, q_21), (20, q_20), (19, q_19), (18, q_18), (17, q_17), (16, q_16), (15, q_15), (14, q_14), (13, q_13), (12, q_12), (11, q_11), (10, q_10), (9, q_9), (8, q_8), (7, q_7), (6, q_6), (5, q_5), (4, q_4), (3, q_3), (2, q_2), (1, q_1)] = a at hm ha
  obtain ⟨A0, eA0⟩ : ∃ z, z = (fun _ _ => 0 : md_S) := ⟨_, rfl⟩
  rw [← eA0] at hm
  refine md_cv hC hw (va_runV (As := [.int (nI (0))]) (rest := []) ⟨hx, hb, hml, hown, hts⟩ (c_X7_begin l G _ H.size h0 a 0 0 A0 0 hm (by omega)) (cwV 1 hts gX7_init_X7_begin rfl rfl rfl (by decide +kernel) ⟨Nat.le_of_ble_eq_true rfl, Nat.le_of_ble_eq_true rfl⟩) (mw_preV (ci := 7) hC hw rfl hm.1) rfl rfl hl.1 rfl (lv_room (Nat.le_of_ble_eq_true rfl)) dX7_init_198 ⟨Nat.le_of_ble_eq_true rfl, Nat.le_of_ble_eq_true rfl⟩) (fun M1 H locs hm hf hw => ?_)
  have hk := md_kp hk ha hf
  have hm : md_at G M1 h0 a 0 0 (md_bg A0 0) := hm
  refine lv_aload_n hx hb dX7_init_201 rfl (lv_at hl 0 rfl) ?_
  refine lv_iconst (v := nI 1) hx hb dX7_init_202 (by decide) ?_
  refine md_cv hC hw (va_runV (As := [.int (nI (1))]) (rest := []) ⟨hx, hb, hml, hown, hts⟩ (c_X7_begin l G _ H.size h0 a 0 0 (md_bg A0 0) 1 hm (by omega)) (cwV 1 hts gX7_init_X7_begin rfl rfl rfl (by decide +kernel) ⟨Nat.le_of_ble_eq_true rfl, Nat.le_of_ble_eq_true rfl⟩) (mw_preV (ci := 7) hC hw rfl hm.1) rfl rfl hl.1 rfl (lv_room (Nat.le_of_ble_eq_true rfl)) dX7_init_203 ⟨Nat.le_of_ble_eq_true rfl, Nat.le_of_ble_eq_true rfl⟩) (fun M1 H locs hm hf hw => ?_)
  have hk := md_kp hk ha hf
  have hm : md_at G M1 h0 a 0 0 (md_bg (md_bg A0 0) 1) := hm
  exact mw_nret hx hb hr hlocks hw ⟨hk, a, by rw [← eA0]; exact hm, ha⟩ dX7_init_206
