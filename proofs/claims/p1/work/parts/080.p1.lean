/-! ===== p1: the law ===== -/
set_option maxHeartbeats 4000000 in
theorem whole_start {p : Program} {e : Env} {s : State} {m : MethodId} {below : List Frame} {meth : Method} {c : Code} (l : Launch) (hlt : l.stackTraces = false) {b L : Nat} {xs : Nat → Int32} (hL : L ≤ 6) (C0 : lw_At p s m meth c b L xs) : W p l e room_1 s m #[Value.ref b] below meth c s.heap [] 0 0 (lw_Z below #[Value.ref b] s) (entryFrame m ([Value.ref b] : List Value).toArray 7) := by
  refine lw_begin l C0 (fun G M Mx Mb H locs ls x mh o ea hu ub x0 x1 en a li0 fa0 me0 la0 sa0 so0 ba0 sl0 li1 fa1 me1 la1 sa1 so1 ba1 sl1 fr0 fr1 ya0 wa0 ya1 wa1 hC hw hl f1 f2 f3 f4 f5 f6 f7 f8 f9 n00 n0 n1 hmd eo => ?_)
  have hF : ∀ ed, ed ≤ 1 → fend G M x ed := by
    intro ed hed
    rcases (show ed = 0 ∨ ed = 1 by omega) with rfl | rfl
    · exact ⟨ea, hu, ub, en, x0, li0, fa0, me0, la0, sa0, so0, ba0, sl0, ya0 0, wa0 0, x1, li1, fa1, me1, so1, fr0, f1, f2, f3, f4, f6, n0.1.1, n0.2.1.1, (n0.2.2.1.1 0 (by omega)).1, (n0.2.2.1.1 0 (by omega)).2.1.1, (n0.2.2.1.1 0 (by omega)).2.2.1, n0.2.2.2.1.1, n0.2.2.2.2.1.1, n0.2.2.2.2.2.1.1, n0.2.2.2.2.2.2.1, n0.2.2.2.2.2.2.2.1.1, f8, f9, f7, n1.1.1⟩
    · exact ⟨ea, hu, ub, en, x1, li1, fa1, me1, la1, sa1, so1, ba1, sl1, ya1 0, wa1 0, x0, li0, fa0, me0, so0, fr1, f1, f2, f4, f3, f7, n1.1.1, n1.2.1.1, (n1.2.2.1.1 0 (by omega)).1, (n1.2.2.1.1 0 (by omega)).2.1.1, (n1.2.2.1.1 0 (by omega)).2.2.1, n1.2.2.2.1.1, n1.2.2.2.2.1.1, n1.2.2.2.2.2.1.1, n1.2.2.2.2.2.2.1, n1.2.2.2.2.2.2.2.1.1, f8, f9, f6, n0.1.1⟩
  by_cases h6 : L < 0 + 6
  · exact lw_out l C0 (by omega) (by omega) h6 (Nat.le_of_ble_eq_true rfl) (Nat.le_of_ble_eq_true rfl) hw hl
  · have kk : ∀ (M2 : mw_M) (H : Heap) (locs : List Loc) (ls : Array Slot), mw_St G (lw_A s) s M2 H locs → lv_has ls 7 [(0, .ref (b)), (1, .ref (x)), (2, .ref (mh)), (3, .ref (o)), (4, .int (nI (0)))] → W p l e room_1 s m #[Value.ref b] below meth c H locs (209 + 1) (304095 + 6) (lw_Z below #[Value.ref b] s) (F0 m 944 ls []) := fun M2 H locs ls hw hl => lw_next (G := G) l C0 hl (fun ls hl => lw_out l C0 (by omega) (by omega) (by omega) (Nat.le_of_ble_eq_true rfl) (Nat.le_of_ble_eq_true rfl) hw hl)
    have hi : 0 + 6 ≤ L := by omega
    refine lw_go l C0 (by omega) hi hw hl ?_ ?_ ?_ ?_ ?_ ?_ ?_ ?_ ?_ ?_ ?_ ?_
    · exact p1_put l hlt C0 (by omega) hC hi (Nat.le_of_ble_eq_true rfl) (Nat.le_of_ble_eq_true rfl) hw hl hF hmd eo kk
    · exact p1_send l hlt C0 (by omega) hC hi (Nat.le_of_ble_eq_true rfl) (Nat.le_of_ble_eq_true rfl) hw hl hF hmd eo kk
    · exact p1_take l hlt C0 (by omega) hC hi (Nat.le_of_ble_eq_true rfl) (Nat.le_of_ble_eq_true rfl) hw hl hF hmd eo kk
    · exact p1_flip l hlt C0 (by omega) hC hi (Nat.le_of_ble_eq_true rfl) (Nat.le_of_ble_eq_true rfl) hw hl hF hmd eo kk
    · exact p1_drop l hlt C0 (by omega) hC hi (Nat.le_of_ble_eq_true rfl) (Nat.le_of_ble_eq_true rfl) hw hl hF hmd eo kk
    · by_cases hz : xs (0 + 5) = 0
      · exact p1_bits_0 l hlt C0 (by omega) hC hi hz (Nat.le_of_ble_eq_true rfl) (Nat.le_of_ble_eq_true rfl) hw hl hF hmd eo kk
      · exact p1_bits_1 l hlt C0 (by omega) hC hi hz (Nat.le_of_ble_eq_true rfl) (Nat.le_of_ble_eq_true rfl) hw hl hF hmd eo kk
    · exact p1_bit l hlt C0 (by omega) hC hi (Nat.le_of_ble_eq_true rfl) (Nat.le_of_ble_eq_true rfl) hw hl hF hmd eo kk
    · exact p1_taken l hlt C0 (by omega) hC hi (Nat.le_of_ble_eq_true rfl) (Nat.le_of_ble_eq_true rfl) hw hl hF hmd eo kk
    · exact p1_check l hlt C0 (by omega) hC hi (Nat.le_of_ble_eq_true rfl) (Nat.le_of_ble_eq_true rfl) hw hl hF hmd eo kk
    · exact p1_about l hlt C0 (by omega) hC hi (Nat.le_of_ble_eq_true rfl) (Nat.le_of_ble_eq_true rfl) hw hl hF hmd eo kk
    · exact p1_restart l hlt C0 (by omega) hC hi (Nat.le_of_ble_eq_true rfl) (Nat.le_of_ble_eq_true rfl) hw hl hF hmd eo kk
    · exact W.widen (k := 209 + 1) (n := 304095 + 6) (by omega) (by omega) (kk M H locs ls hw hl)
