/-! ===== the law's head ===== -/
theorem lw_gt {L i : Nat} (hL : L ≤ 4096) (hi : i ≤ 8192) : nI L - nI 6 < nI i ↔ L < i + 6 := by
  rw [Int32.lt_iff_toInt_lt, pk_sub_toInt (by omega) (by omega), show (nI i).toInt = (i : Int) from Int32.toInt_ofNat_of_lt (by omega)]
  omega
theorem lw_and (x : Int32) : ∃ n, n < 16 ∧ x &&& nI 15 = nI n := by
  have h : x = nI x.toBitVec.toNat := by
    apply Int32.toBitVec_inj.mp
    show x.toBitVec = BitVec.ofNat 32 x.toBitVec.toNat
    rw [BitVec.ofNat_toNat]
    simp
  refine ⟨x.toBitVec.toNat % 2 ^ 4, Nat.mod_lt _ (by decide), ?_⟩
  conv => lhs; rw [h]
  exact pk_andN x.toBitVec.isLt 4 (by decide)
set_option maxHeartbeats 4000000 in
theorem lw_out {p : Program} {e : Env} {s : State} {m : MethodId} {below : List Frame} {meth : Method} {c : Code} (l : Launch) {b L : Nat} {xs : Nat → Int32} {G : mw_G} (C0 : lw_At p s m meth c b L xs) (hL : L ≤ 4096) {i : Nat} (hi : i ≤ 8192) (hLi : L < i + 6) {cl sl : Nat} (hcl : cl ≤ 601024) (hsl : sl ≤ 7293034) {x mh o : Nat} {M : mw_M} {H : Heap} {locs : List Loc} {ls : Array Slot} (hw : mw_St G (lw_A s) s M H locs) (hl : lv_has ls 7 [(0, .ref (b)), (1, .ref (x)), (2, .ref (mh)), (3, .ref (o)), (4, .int (nI (i)))]) : W p l e room_1 s m #[Value.ref b] below meth c H locs cl sl (lw_Z below #[Value.ref b] s) (F0 m 23 ls []) := by
  obtain ⟨hx, hb, hr, hml, hown, hts, hX, hbl, hlocks, hgv⟩ := C0
  have hbA : ¬ lw_A s b := Nat.not_le.mpr hbl
  refine lv_iload hx hb dL_law_23 (lv_at hl 4 rfl) ?_
  refine lv_aload_n hx hb dL_law_25 rfl (lv_at hl 0 rfl) ?_
  refine va_slen hx hb hX hbl hbA hw.2.2 dL_law_26 ?_
  refine lv_bipush (v := nI 6) hx hb dL_law_27 (by decide) ?_
  refine lv_isub hx hb dL_law_29 ?_
  refine lv_icmp_gt (tgt := 670) hx hb dL_law_30 (by decide) (fun h => ?_) (fun h => absurd ((lw_gt hL hi).mpr hLi) h)
  refine lv_iconst (v := 1) hx hb dL_law_670 (by decide) ?_
  refine va_forget (fun q hq => hw.2.2.2.2 q hq) ?_
  refine W.widen (k := 601024) (n := 7293034) hcl hsl ?_
  exact lw_ret hx hb hr hlocks dL_law_671
set_option maxHeartbeats 4000000 in
theorem lw_go {p : Program} {e : Env} {s : State} {m : MethodId} {below : List Frame} {meth : Method} {c : Code} (l : Launch) {b L : Nat} {xs : Nat → Int32} {G : mw_G} {Q : State → Prop} (C0 : lw_At p s m meth c b L xs) (hL : L ≤ 4096) {i : Nat} (hLi : i + 6 ≤ L) {cl sl : Nat} {x mh o : Nat} {M : mw_M} {H : Heap} {locs : List Loc} {ls : Array Slot} (hw : mw_St G (lw_A s) s M H locs) (hl : lv_has ls 7 [(0, .ref (b)), (1, .ref (x)), (2, .ref (mh)), (3, .ref (o)), (4, .int (nI (i)))])
    (k0 : W p l e room_1 s m #[Value.ref b] below meth c H locs cl sl Q (F0 m 100 ls []))
    (k1 : W p l e room_1 s m #[Value.ref b] below meth c H locs cl sl Q (F0 m 152 ls []))
    (k2 : W p l e room_1 s m #[Value.ref b] below meth c H locs cl sl Q (F0 m 180 ls []))
    (k3 : W p l e room_1 s m #[Value.ref b] below meth c H locs cl sl Q (F0 m 208 ls []))
    (k4 : W p l e room_1 s m #[Value.ref b] below meth c H locs cl sl Q (F0 m 260 ls []))
    (k5 : W p l e room_1 s m #[Value.ref b] below meth c H locs cl sl Q (F0 m 300 ls []))
    (k6 : W p l e room_1 s m #[Value.ref b] below meth c H locs cl sl Q (F0 m 412 ls []))
    (k7 : W p l e room_1 s m #[Value.ref b] below meth c H locs cl sl Q (F0 m 464 ls []))
    (k8 : W p l e room_1 s m #[Value.ref b] below meth c H locs cl sl Q (F0 m 516 ls []))
    (k9 : W p l e room_1 s m #[Value.ref b] below meth c H locs cl sl Q (F0 m 588 ls []))
    (k10 : W p l e room_1 s m #[Value.ref b] below meth c H locs cl sl Q (F0 m 628 ls []))
    (kd : W p l e room_1 s m #[Value.ref b] below meth c H locs cl sl Q (F0 m 664 ls [])) : W p l e room_1 s m #[Value.ref b] below meth c H locs cl sl Q (F0 m 23 ls []) := by
  obtain ⟨hx, hb, hr, hml, hown, hts, hX, hbl, hlocks, hgv⟩ := C0
  have hbA : ¬ lw_A s b := Nat.not_le.mpr hbl
  refine lv_iload hx hb dL_law_23 (lv_at hl 4 rfl) ?_
  refine lv_aload_n hx hb dL_law_25 rfl (lv_at hl 0 rfl) ?_
  refine va_slen hx hb hX hbl hbA hw.2.2 dL_law_26 ?_
  refine lv_bipush (v := nI 6) hx hb dL_law_27 (by decide) ?_
  refine lv_isub hx hb dL_law_29 ?_
  refine lv_icmp_gt (tgt := 670) hx hb dL_law_30 (by decide) (fun h => absurd ((lw_gt hL (by omega)).mp h) (by omega)) (fun h => ?_)
  refine lv_aload_n hx hb dL_law_33 rfl (lv_at hl 0 rfl) ?_
  refine lv_iload hx hb dL_law_34 (lv_at hl 4 rfl) ?_
  refine mw_sld hx hb hX hbl hbA hw (i := i) (by omega) (by omega) dL_law_36 ?_
  refine lv_bipush (v := nI 15) hx hb dL_law_37 (by decide) ?_
  refine lv_iand hx hb dL_law_39 ?_
  obtain ⟨n, hn, en⟩ := lw_and (xs i)
  refine mw_ti (v' := nI n) en ?_
  rcases (show n = 0 ∨ n = 1 ∨ n = 2 ∨ n = 3 ∨ n = 4 ∨ n = 5 ∨ n = 6 ∨ n = 7 ∨ n = 8 ∨ n = 9 ∨ n = 10 ∨ n = 11 ∨ n = 12 ∨ n = 13 ∨ n = 14 ∨ n = 15 by omega) with rfl | rfl | rfl | rfl | rfl | rfl | rfl | rfl | rfl | rfl | rfl | rfl | rfl | rfl | rfl | rfl
  · exact lv_tableIn (off := 60) (tgt := 100) hx hb dL_law_40 (by decide) (by decide) (by decide) (by decide) k0
  · exact lv_tableIn (off := 112) (tgt := 152) hx hb dL_law_40 (by decide) (by decide) (by decide) (by decide) k1
  · exact lv_tableIn (off := 140) (tgt := 180) hx hb dL_law_40 (by decide) (by decide) (by decide) (by decide) k2
  · exact lv_tableIn (off := 168) (tgt := 208) hx hb dL_law_40 (by decide) (by decide) (by decide) (by decide) k3
  · exact lv_tableIn (off := 220) (tgt := 260) hx hb dL_law_40 (by decide) (by decide) (by decide) (by decide) k4
  · exact lv_tableIn (off := 260) (tgt := 300) hx hb dL_law_40 (by decide) (by decide) (by decide) (by decide) k5
  · exact lv_tableIn (off := 372) (tgt := 412) hx hb dL_law_40 (by decide) (by decide) (by decide) (by decide) k6
  · exact lv_tableIn (off := 424) (tgt := 464) hx hb dL_law_40 (by decide) (by decide) (by decide) (by decide) k7
  · exact lv_tableIn (off := 476) (tgt := 516) hx hb dL_law_40 (by decide) (by decide) (by decide) (by decide) k8
  · exact lv_tableIn (off := 548) (tgt := 588) hx hb dL_law_40 (by decide) (by decide) (by decide) (by decide) k9
  · exact lv_tableIn (off := 588) (tgt := 628) hx hb dL_law_40 (by decide) (by decide) (by decide) (by decide) k10
  · exact lv_tableOut (tgt := 664) hx hb dL_law_40 (Or.inr (by decide)) (by decide) kd
  · exact lv_tableOut (tgt := 664) hx hb dL_law_40 (Or.inr (by decide)) (by decide) kd
  · exact lv_tableOut (tgt := 664) hx hb dL_law_40 (Or.inr (by decide)) (by decide) kd
  · exact lv_tableOut (tgt := 664) hx hb dL_law_40 (Or.inr (by decide)) (by decide) kd
  · exact lv_tableOut (tgt := 664) hx hb dL_law_40 (Or.inr (by decide)) (by decide) kd
set_option maxHeartbeats 4000000 in
theorem lw_next {p : Program} {e : Env} {s : State} {m : MethodId} {below : List Frame} {meth : Method} {c : Code} (l : Launch) {b L : Nat} {xs : Nat → Int32} {G : mw_G} {Q : State → Prop} (C0 : lw_At p s m meth c b L xs) {i : Nat} {cl sl : Nat} {x mh o : Nat} {H : Heap} {locs : List Loc} {ls : Array Slot} (hl : lv_has ls 7 [(0, .ref (b)), (1, .ref (x)), (2, .ref (mh)), (3, .ref (o)), (4, .int (nI (i)))]) (kk : ∀ ls : Array Slot, lv_has ls 7 [(0, .ref (b)), (1, .ref (x)), (2, .ref (mh)), (3, .ref (o)), (4, .int (nI (i + 6)))] → W p l e room_1 s m #[Value.ref b] below meth c H locs cl sl Q (F0 m 23 ls [])) : W p l e room_1 s m #[Value.ref b] below meth c H locs cl sl Q (F0 m 664 ls []) := by
  obtain ⟨hx, hb, hr, hml, hown, hts, hX, hbl, hlocks, hgv⟩ := C0
  refine lv_iinc (v := nI (i + 6)) (lv' := [(4, .int (nI (i + 6))), (0, .ref (b)), (1, .ref (x)), (2, .ref (mh)), (3, .ref (o))]) hx hb dL_law_664 hl (k := 4) rfl (by rw [show Int32.ofInt 6 = nI 6 by decide]; exact nI_add _ _) (by decide) rfl (fun ls hl => ?_)
  refine lv_goto (tgt := 23) hx hb dL_law_667 (by decide) ?_
  exact kk ls (lv_sub hl [1, 2, 3, 4, 0] rfl)
