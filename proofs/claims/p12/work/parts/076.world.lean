/-! ===== the law's entry: the world ===== -/
theorem lw_arrP {args : Array Value} {s : State} {ty : FieldType} (hp : ∀ C, ty ≠ .object C) (h : (Cond.arrayClass ty).before args s = true) : ∃ cA : ClassId, ArrOfT s cA ty ∧ va_RA s cA ty := by
  obtain ⟨c, k, comp, h1, h2, h3⟩ := Cond.arrayClass_spec h
  refine ⟨c, fun n z => ⟨fun k h => (by cases h), k, h2, comp, h3⟩, ?_⟩
  cases ty <;> first | exact h1 | exact absurd rfl (hp _)
theorem lw_arrO {s : State} {C : String} (h : va_AO C s) : ∃ cA : ClassId, ArrOfT s cA (.object C) ∧ va_RA s cA (.object C) := by
  obtain ⟨comp, c, k, h1, h2, h3, h4, h5⟩ := Cond.arrayOver_spec h
  exact ⟨c, fun n z => ⟨fun k h => (by cases h), k, h3, comp, h4⟩, k, comp, h3, h4, h1, h5⟩
set_option maxHeartbeats 4000000 in
theorem lw_world {p : Program} {s : State} {m : MethodId} {meth : Method} {c : Code} {b L : Nat} {xs : Nat → Int32} (C0 : lw_At p s m meth c b L xs) : ∃ G : mw_G, mw_C G (lw_A s) s := by
  obtain ⟨hx, hb, hr, hml, hown, hts, hX, hbl, hlocks, hgv⟩ := id C0
  have hg := flat_of_before _ hgv
  obtain ⟨c0, i0, k0⟩ := u_known (C := RX0) (T := TX0) (N := 12) (n := 12) hts (fun w h => (gt_wsX00 w h).1) (hts (.instantiable RX0 12) (by decide +kernel))
  obtain ⟨c1, i1, k1⟩ := u_known (C := RX1) (T := TX1) (N := 2) (n := 2) hts (fun w h => (gt_wsX10 w h).1) (hts (.instantiable RX1 2) (by decide +kernel))
  obtain ⟨c2, i2, k2⟩ := u_known (C := RX2) (T := TX2) (N := 2) (n := 2) hts (fun w h => (gt_wsX20 w h).1) (hts (.instantiable RX2 2) (by decide +kernel))
  obtain ⟨c3, i3, k3⟩ := u_known (C := RX3) (T := TX3) (N := 6) (n := 6) hts (fun w h => (gt_wsX30 w h).1) (hts (.instantiable RX3 6) (by decide +kernel))
  obtain ⟨c4, i4, k4⟩ := u_known (C := RX4) (T := TX4) (N := 3) (n := 3) hts (fun w h => (gt_wsX40 w h).1) (hts (.instantiable RX4 3) (by decide +kernel))
  obtain ⟨c5, i5, k5⟩ := u_known (C := RX5) (T := TX5) (N := 2) (n := 2) hts (fun w h => (gt_wsX50 w h).1) (hts (.instantiable RX5 2) (by decide +kernel))
  obtain ⟨c6, i6, k6⟩ := u_known (C := RX6) (T := TX6) (N := 2) (n := 2) hts (fun w h => (gt_wsX60 w h).1) (hts (.instantiable RX6 2) (by decide +kernel))
  obtain ⟨c7, i7, k7⟩ := u_known (C := RX7) (T := TX7) (N := 27) (n := 27) hts (fun w h => (gt_wsX70 w h).1) (hts (.instantiable RX7 27) (by decide +kernel))
  have hE : va_AO "LinkPair$End" s := va_AO.of (hts (.arrayOver (.object "LinkPair$End")) (by decide +kernel))
  have hFr : va_AO "LinkPair$Frame" s := va_AO.of (hts (.arrayOver (.object "LinkPair$Frame")) (by decide +kernel))
  obtain ⟨t0, a0⟩ := lw_arrP (fun C h => by cases h) (hts (.arrayClass .byte) (by decide +kernel))
  obtain ⟨t1, a1⟩ := lw_arrP (fun C h => by cases h) (hts (.arrayClass .int) (by decide +kernel))
  obtain ⟨t2, a2⟩ := lw_arrP (fun C h => by cases h) (hts (.arrayClass .long) (by decide +kernel))
  obtain ⟨t3, a3⟩ := lw_arrP (fun C h => by cases h) (hts (.arrayClass .boolean) (by decide +kernel))
  obtain ⟨t4, a4⟩ := lw_arrO hE
  obtain ⟨t5, a5⟩ := lw_arrO hFr
  refine ⟨((fun k => [c0, c1, c2, c3, c4, c5, c6, c7].getD k c0, fun k => [i0, i1, i2, i3, i4, i5, i6, i7].getD k i0), fun k => [t0, t1, t2, t3, t4, t5].getD k t0), ⟨⟨?_, ?_⟩, ?_, ?_, hE, hFr, ?_, ?_⟩, ⟨?_, ?_⟩, fun q h => h⟩
  · intro k q hq
    match k, hq with
    | 0, hq => cases hq; exact k0
    | 1, hq => cases hq; exact k1
    | 2, hq => cases hq; exact k2
    | 3, hq => cases hq; exact k3
    | 4, hq => cases hq; exact k4
    | 5, hq => cases hq; exact k5
    | 6, hq => cases hq; exact k6
    | 7, hq => cases hq; exact k7
    | k + 8, hq => simp [vwCl] at hq
  · intro k q hq
    match k, hq with
    | 0, hq => cases hq; exact a0
    | 1, hq => cases hq; exact a1
    | 2, hq => cases hq; exact a2
    | 3, hq => cases hq; exact a3
    | 4, hq => cases hq; exact a4
    | 5, hq => cases hq; exact a5
    | k + 6, hq => simp [mw_tys] at hq
  · exact fun w hw => va_Nw.of (by obtain ⟨a, i, b, n, d, g, rfl⟩ := mw_nestF_form w hw; rfl) (hts w (mw_nestF_in w hw))
  · exact fun w hw => va_Nw.of (by obtain ⟨a, i, x, g, rfl⟩ := mw_nestM_form w hw; rfl) (hts w (mw_nestM_in w hw))
  · exact fun w hw => va_Nw.of (mw_xw_ot w hw) (hts w (mw_xw_in w hw))
  · exact va_Nc.of (hg (.not (.castable "java/lang/IllegalStateException" "java/lang/IllegalArgumentException")) (by decide +kernel))
  · exact vx_Zqof (hts (.laysStatic Bundle.tN "UNASSIGNED_STACK" Bundle.steD) (by decide +kernel)) (hts (.initialized Bundle.tN) (by decide +kernel)) (hg (.isRef (.static Bundle.tN "UNASSIGNED_STACK" Bundle.steD)) (by decide +kernel)) (fun a h1 h2 => absurd h1 (Nat.not_lt.mpr h2))
  · exact vx_Zqof (hts (.laysStatic Bundle.tN "SUPPRESSED_SENTINEL" Bundle.listD) (by decide +kernel)) (hts (.initialized Bundle.tN) (by decide +kernel)) (hg (.isRef (.static Bundle.tN "SUPPRESSED_SENTINEL" Bundle.listD)) (by decide +kernel)) (fun a h1 h2 => absurd h1 (Nat.not_lt.mpr h2))
