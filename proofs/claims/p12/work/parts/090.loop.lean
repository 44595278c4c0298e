/-! ===== the law's loop ===== -/
theorem Inv.more {G : mw_G} {M : mw_M} {x mh o N : Nat} {a : Nat → Nat} (h : Inv G M x mh o a N) : Inv G M x mh o a (N + 1) := by
  obtain ⟨mco, u, A, ad, en, v, bb, w, q, f, fr, c9, g, ov, hcw, hx, hmd, eo, hg, hu, hR, hE⟩ := h
  exact ⟨mco, u, A, ad, en, v, bb, w, q, f, fr, c9, g, ov, hcw, hx, hmd, eo, hg, hu, hR, fun e he => (hE e he).idle⟩
set_option maxHeartbeats 4000000 in
theorem law_loop {p : Program} {e : Env} {s : State} {m : MethodId} {below : List Frame} {meth : Method} {c : Code} (l : Launch) (hlt : l.stackTraces = false) {b L : Nat} {xs : Nat → Int32} {G : mw_G} (C0 : lw_At p s m meth c b L xs) (hL : L ≤ 3072) (hC : mw_C G (lw_A s) s) {x mh o : Nat} {a : Nat → Nat} : ∀ (n N : Nat) (M : mw_M) (H : Heap) (locs : List Loc) (ls : Array Slot), L ≤ 6 * N + 6 * n → N ≤ 512 → Inv G M x mh o a N → mw_St G (lw_A s) s M H locs → lv_has ls 7 [(0, .ref (b)), (1, .ref (x)), (2, .ref (mh)), (3, .ref (o)), (4, .int (nI (6 * N)))] → W p l e room_1 s m #[Value.ref b] below meth c H locs (209 + N) (304095 + 6 * N) (lw_Z below #[Value.ref b] s) (F0 m 23 ls []) := by
  intro n
  induction n with
  | zero =>
    intro N M H locs ls hn hNb hI hw hl
    exact lw_out l C0 (by omega) (by omega) (by omega) (show 209 + N ≤ 601024 by omega) (show 304095 + 6 * N ≤ 7293034 by omega) hw hl
  | succ n ih =>
    intro N M H locs ls hn hNb hI hw hl
    by_cases h6 : L < 6 * N + 6
    · exact lw_out l C0 (by omega) (by omega) h6 (show 209 + N ≤ 601024 by omega) (show 304095 + 6 * N ≤ 7293034 by omega) hw hl
    · have hi : 6 * N + 6 ≤ L := by omega
      have hcl : 209 + N + 1 ≤ 601024 := by omega
      have hsl : 304095 + 6 * N + 6 ≤ 7293034 := by omega
      have hN6 : N ≤ 600 := by omega
      have kk : ∀ (M2 : mw_M) (H : Heap) (locs : List Loc) (ls : Array Slot), Inv G M2 x mh o a (N + 1) → mw_St G (lw_A s) s M2 H locs → lv_has ls 7 [(0, .ref (b)), (1, .ref (x)), (2, .ref (mh)), (3, .ref (o)), (4, .int (nI (6 * N)))] → W p l e room_1 s m #[Value.ref b] below meth c H locs (209 + N + 1) (304095 + 6 * N + 6) (lw_Z below #[Value.ref b] s) (F0 m 664 ls []) := by
        intro M2 H locs ls hI2 hw hl
        refine lw_next (G := G) l C0 hl (fun ls hl => ?_)
        refine W.widen (k := 209 + (N + 1)) (n := 304095 + 6 * (N + 1)) (by omega) (by omega) ?_
        refine ih (N + 1) M2 H locs ls (by omega) (by omega) hI2 hw ?_
        rw [show 6 * (N + 1) = 6 * N + 6 by omega]
        exact hl
      refine lw_go l C0 (by omega) hi hw hl ?_ ?_ ?_ ?_ ?_ ?_ ?_ ?_ ?_ ?_ ?_ ?_
      · exact st_put l hlt C0 (by omega) hC hi hcl hsl hw hl hN6 hI kk
      · exact st_send l hlt C0 (by omega) hC hi hcl hsl hw hl hN6 hI kk
      · exact st_take l hlt C0 (by omega) hC hi hcl hsl hw hl hN6 hI kk
      · exact st_flip l hlt C0 (by omega) hC hi hcl hsl hw hl hN6 hI kk
      · exact st_drop l hlt C0 (by omega) hC hi hcl hsl hw hl hN6 hI kk
      · by_cases hz : xs (6 * N + 5) = 0
        · exact st_bits_0 l hlt C0 (by omega) hC hi hz hcl hsl hw hl hN6 hI kk
        · exact st_bits_1 l hlt C0 (by omega) hC hi hz hcl hsl hw hl hN6 hI kk
      · exact st_bit l hlt C0 (by omega) hC hi hcl hsl hw hl hN6 hI kk
      · exact st_taken l hlt C0 (by omega) hC hi hcl hsl hw hl hN6 hI kk
      · exact st_check l hlt C0 (by omega) hC hi hcl hsl hw hl hN6 hI kk
      · exact st_about l hlt C0 (by omega) hC hi hcl hsl hw hl hN6 hI kk
      · exact st_restart l hlt C0 (by omega) hC hi hcl hsl hw hl hN6 hI kk
      · exact W.widen (k := 209 + N + 1) (n := 304095 + 6 * N + 6) (by omega) (by omega) (kk M H locs ls hI.more hw hl)
set_option maxHeartbeats 4000000 in
theorem whole_start {p : Program} {e : Env} {s : State} {m : MethodId} {below : List Frame} {meth : Method} {c : Code} (l : Launch) (hlt : l.stackTraces = false) {b L : Nat} {xs : Nat → Int32} (hL : L ≤ 3072) (C0 : lw_At p s m meth c b L xs) : W p l e room_1 s m #[Value.ref b] below meth c s.heap [] 0 0 (lw_Z below #[Value.ref b] s) (entryFrame m ([Value.ref b] : List Value).toArray 7) := by
  refine lw_begin l C0 (fun G M Mx Mb H locs ls x mh o ea hu ub x0 x1 en a li0 fa0 me0 la0 sa0 so0 ba0 sl0 li1 fa1 me1 la1 sa1 so1 ba1 sl1 fr0 fr1 ya0 wa0 ya1 wa1 hC hw hl f1 f2 f3 f4 f5 f6 f7 f8 f9 n00 n0 n1 hmd eo => ?_)
  exact law_loop l hlt C0 hL hC 512 0 M H locs ls (by omega) (by omega) (inv0 f1 f2 f3 f4 f5 f6 f7 f8 f9 n00 n0 n1 hmd eo) hw hl
