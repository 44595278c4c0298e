/-! ===== the law's start ===== -/
set_option maxHeartbeats 4000000 in
set_option maxRecDepth 100000 in
theorem lw_begin {p : Program} {e : Env} {s : State} {m : MethodId} {below : List Frame} {meth : Method} {c : Code} (l : Launch) {b L : Nat} {xs : Nat → Int32}  {Q : State → Prop} (C0 : lw_At p s m meth c b L xs) (kk : ∀ (G : mw_G) (M Mx Mb : mw_M) (H : Heap) (locs : List Loc) (ls : Array Slot) (x mh o ea hu ub x0 x1 : Nat) (en : Nat → Option Nat) (a : Nat → Nat) (li0 fa0 me0 la0 sa0 so0 ba0 sl0 li1 fa1 me1 la1 sa1 so1 ba1 sl1 : Nat) (fr0 fr1 : Nat → Option Nat) (ya0 wa0 ya1 wa1 : Nat → Nat), mw_C G (lw_A s) s → mw_St G (lw_A s) s M H locs → lv_has ls 7 [(0, .ref (b)), (1, .ref (x)), (2, .ref (mh)), (3, .ref (o)), (4, .int (nI (0)))] → M x = some (.inr (6, [.ref (ea), .ref (hu)])) → M ea = some (.inl (G.2 4, 2, .inr (.inr (.inr (.inr en))))) → en 0 = some x0 → en 1 = some x1 → x0 ≠ x1 → M x0 = some (en_obj li0 me0 so0) → M x1 = some (en_obj li1 me1 so1) → M hu = some (.inr (5, [.ref ub, .int (nI (0))])) → M ub = some (.inl (G.2 1, 277, .inl (fun j => nI ((fun _ => 0) j)))) → en_new G Mx Mb li0 fa0 me0 la0 sa0 so0 ba0 sl0 fr0 ya0 wa0 → en_new G Mx M li0 fa0 me0 la0 sa0 so0 ba0 sl0 fr0 ya0 wa0 → en_new G Mb M li1 fa1 me1 la1 sa1 so1 ba1 sl1 fr1 ya1 wa1 → md_at G M mh a 0 0 (md_bg (md_bg (fun _ _ => 0) 0) 1) → M o = some (.inl (G.2 2, 1, .inr (.inl (fun _ => 0)))) → W p l e room_1 s m #[Value.ref b] below meth c H locs 209 304095 Q (F0 m 23 ls [])) : W p l e room_1 s m #[Value.ref b] below meth c s.heap [] 0 0 Q (entryFrame m ([Value.ref b] : List Value).toArray 7) := by
  obtain ⟨G, hC⟩ := lw_world C0
  obtain ⟨hx, hb, hr, hml, hown, hts, hX, hbl, hlocks, hgv⟩ := id C0
  have hw : mw_St G (lw_A s) s (fun _ => none) s.heap [] := ⟨fun q x h => (by cases h), fun q x h => (by cases h), va_S.rf⟩
  have hl := lv_entry ([.ref b]) (n := 7) (Nat.le_of_ble_eq_true rfl)
  rw [lg_entry_eq]
  generalize (lg_sl ([.ref b]) ++ List.replicate (7 - (lg_sl ([.ref b])).length) Slot.unset).toArray = ls at hl ⊢
  have hl : lv_has ls 7 [(0, .ref (b))] := hl
  obtain ⟨M0, eM0⟩ : ∃ z : mw_M, z = fun _ => none := ⟨_, rfl⟩
  rw [← eM0] at hw
  refine mw_start (fun H locs hw => ?_) hw
  refine mw_new (ci := 6) (C := RX6) (T := TX6) (N := 2) (fs := [.null, .null]) hx hb hts (fun w h => (gt_wsX60 w h).1) tyX6 tyX6_ok hown (hts (.classLink RL 8 RX6) (by decide +kernel)) (hts (.instantiable RX6 2) (by decide +kernel)) (hts (.initialized RX6) (by decide +kernel)) hC hw rfl (fun j hj => by rcases (show j = 0 ∨ j = 1 by omega) with rfl | rfl <;> rfl) (Nat.le_of_ble_eq_true rfl) (Nat.le_of_ble_eq_true rfl) dL_law_0 (fun H' hn hw => ?_)
  obtain ⟨x, ex⟩ : ∃ z, z = H.size := ⟨_, rfl⟩
  rw [← ex] at hw hn ⊢
  generalize H' = H at hw ⊢
  obtain ⟨Mx, eMx⟩ : ∃ z : mw_M, z = va_up M0 x (some (.inr (6, [.null, .null]))) := ⟨_, rfl⟩
  rw [← eMx] at hw
  have bx : Mx x = some (.inr (6, [.null, .null])) := by rw [eMx]; exact mw_u0
  refine lv_dup hx hb dL_law_3 rfl ?_
  refine mw_cn hC hw (va_runI (As := []) (rest := [.ref (x)]) ⟨hx, hb, hml, hown, hts⟩ (c_X6_init l G _ H.size x bx) (cwI 0 hts gt_wsX6_init rfl rfl rfl (hts (.initialized RX6) (by decide +kernel)) (hts (.methodLink RL 52 yX6_init) (by decide +kernel)) (hts (.instanceMethod yX6_init) (by decide +kernel)) rfl (by decide +kernel) ⟨Nat.le_of_ble_eq_true rfl, Nat.le_of_ble_eq_true rfl⟩) (mw_preS hC hw) rfl rfl hl.1 rfl (lv_room (Nat.le_of_ble_eq_true rfl)) dL_law_4 ⟨Nat.le_of_ble_eq_true rfl, Nat.le_of_ble_eq_true rfl⟩) (fun M1 H locs hz hP hw => ?_)
  obtain ⟨hk1, ea, hu, ub, en, x0, x1, Mb, li0, fa0, me0, la0, sa0, so0, ba0, sl0, fr0, ya0, wa0, li1, fa1, me1, la1, sa1, so1, ba1, sl1, fr1, ya1, wa1, f1, f2, f3, f4, f5, f6, f7, f8, f9, f10, f11, f12, f13⟩ := hP
  refine lv_astore_n (lv' := [(1, .ref (x)), (0, .ref (b))]) hx hb dL_law_7 rfl hl (by decide) rfl (fun ls hl => ?_)
  refine mw_new (ci := 7) (C := RX7) (T := TX7) (N := 27) (fs := [.int (0), .null, .null, .null, .null, .null, .null, .null, .null, .null, .null, .null, .null, .null, .null, .null, .null, .null, .null, .null, .null, .null, .null, .null, .null, .int (0), .null]) hx hb hts (fun w h => (gt_wsX70 w h).1) tyX7 tyX7_ok hown (hts (.classLink RL 53 RX7) (by decide +kernel)) (hts (.instantiable RX7 27) (by decide +kernel)) (hts (.initialized RX7) (by decide +kernel)) hC hw rfl (fun j hj => by rcases (show j = 0 ∨ j = 1 ∨ j = 2 ∨ j = 3 ∨ j = 4 ∨ j = 5 ∨ j = 6 ∨ j = 7 ∨ j = 8 ∨ j = 9 ∨ j = 10 ∨ j = 11 ∨ j = 12 ∨ j = 13 ∨ j = 14 ∨ j = 15 ∨ j = 16 ∨ j = 17 ∨ j = 18 ∨ j = 19 ∨ j = 20 ∨ j = 21 ∨ j = 22 ∨ j = 23 ∨ j = 24 ∨ j = 25 ∨ j = 26 by omega) with rfl | rfl | rfl | rfl | rfl | rfl | rfl | rfl | rfl | rfl | rfl | rfl | rfl | rfl | rfl | rfl | rfl | rfl | rfl | rfl | rfl | rfl | rfl | rfl | rfl | rfl | rfl <;> rfl) (Nat.le_of_ble_eq_true rfl) (Nat.le_of_ble_eq_true rfl) dL_law_8 (fun H' hn2 hw => ?_)
  obtain ⟨mh, emh⟩ : ∃ z, z = H.size := ⟨_, rfl⟩
  rw [← emh] at hw hn2 ⊢
  generalize H' = H at hw ⊢
  obtain ⟨M2, eM2⟩ : ∃ z : mw_M, z = va_up M1 mh (some (.inr (7, [.int (0), .null, .null, .null, .null, .null, .null, .null, .null, .null, .null, .null, .null, .null, .null, .null, .null, .null, .null, .null, .null, .null, .null, .null, .null, .int (0), .null]))) := ⟨_, rfl⟩
  rw [← eM2] at hw
  have bm : M2 mh = some (.inr (7, [.int (0), .null, .null, .null, .null, .null, .null, .null, .null, .null, .null, .null, .null, .null, .null, .null, .null, .null, .null, .null, .null, .null, .null, .null, .null, .int (0), .null])) := by rw [eM2]; exact mw_u0
  have g12 : ∀ q y, M1 q = some y → M2 q = some y ∧ q ≠ mh := fun q y h => ⟨by rw [eM2]; exact mw_u1 (mw_nen h hn2) h, mw_nen h hn2⟩
  refine lv_dup hx hb dL_law_11 rfl ?_
  refine mw_cn hC hw (va_runI (As := []) (rest := [.ref (mh)]) ⟨hx, hb, hml, hown, hts⟩ (c_X7_init l G _ H.size mh bm) (cwI 0 hts gt_wsX7_init rfl rfl rfl (hts (.initialized RX7) (by decide +kernel)) (hts (.methodLink RL 55 yX7_init) (by decide +kernel)) (hts (.instanceMethod yX7_init) (by decide +kernel)) rfl (by decide +kernel) ⟨Nat.le_of_ble_eq_true rfl, Nat.le_of_ble_eq_true rfl⟩) (mw_preS hC hw) rfl rfl hl.1 rfl (lv_room (Nat.le_of_ble_eq_true rfl)) dL_law_12 ⟨Nat.le_of_ble_eq_true rfl, Nat.le_of_ble_eq_true rfl⟩) (fun M3 H locs hz hP hw => ?_)
  obtain ⟨hk3, a, hm3, hna⟩ := hP
  have g13 : ∀ q y, M1 q = some y → M3 q = some y := fun q y h => hk3 q y (g12 q y h).1 (g12 q y h).2
  refine lv_astore_n (lv' := [(2, .ref (mh)), (1, .ref (x)), (0, .ref (b))]) hx hb dL_law_15 rfl hl (by decide) rfl (fun ls hl => ?_)
  refine lv_iconst (v := nI 1) hx hb dL_law_16 (by decide) ?_
  refine mw_newa (atype := .long) (ty := .long) (a0 := (1, .inr (.inl (fun _ => 0)))) (N' := 1) hx hb (hts (.arrayClass .long) (by decide +kernel)) rfl hC hw 2 rfl (fun C h => by cases h) (fun cA => mw_ha_l cA _) (by decide +kernel) (by decide +kernel) (by decide +kernel) (Nat.le_of_ble_eq_true rfl) (Nat.le_of_ble_eq_true rfl) dL_law_17 (fun H' hn3 hw => ?_)
  obtain ⟨o, eo⟩ : ∃ z, z = H.size := ⟨_, rfl⟩
  rw [← eo] at hw hn3 ⊢
  generalize H' = H at hw ⊢
  obtain ⟨M4, eM4⟩ : ∃ z : mw_M, z = va_up M3 o (some (.inl (G.2 2, 1, .inr (.inl (fun _ => 0))))) := ⟨_, rfl⟩
  rw [← eM4] at hw
  have bo : M4 o = some (.inl (G.2 2, 1, .inr (.inl (fun _ => 0)))) := by rw [eM4]; exact mw_u0
  have g34 : ∀ q y, M3 q = some y → M4 q = some y := fun q y h => by rw [eM4]; exact mw_u1 (mw_nen h hn3) h
  have g : ∀ q y, M1 q = some y → M4 q = some y := fun q y h => g34 q y (g13 q y h)
  have hm4 : md_at G M4 mh a 0 0 (md_bg (md_bg (fun _ _ => 0) 0) 1) := ⟨g34 _ _ hm3.1, fun k hk => g34 _ _ (hm3.2.1 k hk), hm3.2.2⟩
  refine lv_astore_n (lv' := [(3, .ref (o)), (2, .ref (mh)), (1, .ref (x)), (0, .ref (b))]) hx hb dL_law_19 rfl hl (by decide) rfl (fun ls hl => ?_)
  refine lv_iconst (v := nI 0) hx hb dL_law_20 (by decide) ?_
  refine lv_istore (lv' := [(4, .int (nI (0))), (3, .ref (o)), (2, .ref (mh)), (1, .ref (x)), (0, .ref (b))]) hx hb dL_law_21 hl (by decide) rfl (fun ls hl => ?_)
  exact kk G M4 Mx Mb H locs ls x mh o ea hu ub x0 x1 en a li0 fa0 me0 la0 sa0 so0 ba0 sl0 li1 fa1 me1 la1 sa1 so1 ba1 sl1 fr0 fr1 ya0 wa0 ya1 wa1 hC hw (lv_sub hl [4, 3, 2, 1, 0] rfl) (g _ _ f1) (g _ _ f2.1) f3 f4 f5 (g _ _ f6.1) (g _ _ f7.1) (g _ _ f8.1) (g _ _ f9.1) f11 (f12.mono (fun q y h _ => g q y h) (fun q h => h)) (f13.mono (fun q y h _ => g q y h) (fun q h => h)) hm4 bo
