/-! ===== the law's pieces ===== -/
def lw_A (s : State) : Nat → Prop := fun q => s.heap.size ≤ q
def lw_w (xs : Nat → Int32) (j : Nat) : Int64 := ((xs j).toInt64 <<< ((nI 32).toInt64 &&& 63)) ||| ((xs (j + 1)).toInt64 &&& 4294967295)
theorem mw_sld {p : Program} {l : Launch} {e : Env} {R : Room} {s : State} {m : MethodId} {args : Array Value} {below : List Frame} {meth : Method} {c : Code} {H : Heap} {locs : List Loc} {cells slots : Nat} {Q : State → Prop} {cc : ByteArray} {pc : Nat} {ls : Array Slot} {rest : List Value} {G : mw_G} {A : Nat → Prop} {M : mw_M} (hexec : p.tables.exec = Jvm.exec) (hb : c.code = cc) {b L : Nat} {xs : Nat → Int32} (hX : va_X b L xs s s.heap) (hbl : b < s.heap.size) (hbA : ¬ A b) (hw : mw_St G A s M H locs) {i : Nat} (hi : i < L) (hL : L < 2 ^ 31) (hdg : decode cc pc = .ok (.iaload, 1))
    (kk : W p l e R s m args below meth c H locs cells slots Q (F0 m (pc + 1) ls (.int (xs i) :: rest))) : W p l e R s m args below meth c H locs cells slots Q (F0 m pc ls (.int (nI i) :: .ref b :: rest)) := by
  refine va_sld hexec hb hX hbl hbA hw.2.2 (vp_in_nI hi hL) hdg ?_
  rw [nI_clamp (by omega)]
  exact kk
set_option maxHeartbeats 4000000 in
set_option maxRecDepth 100000 in
theorem lp_put {p : Program} {e : Env} {s : State} {m : MethodId} {below : List Frame} {meth : Method} {c : Code} (l : Launch) {b L : Nat} {xs : Nat → Int32} {G : mw_G} {Q : State → Prop} (C0 : lw_At p s m meth c b L xs) (hL : L ≤ 4096) (hC : mw_C G (lw_A s) s) {i : Nat} (hi : i + 6 ≤ L) {cl sl : Nat} (hcl : cl + 1 ≤ 601024) (hsl : sl + 6 ≤ 7293034) {x mh o : Nat} {M M1 : mw_M} {H : Heap} {locs : List Loc} {ls : Array Slot} (hw : mw_St G (lw_A s) s M H locs) (hl : lv_has ls 7 [(0, .ref (b)), (1, .ref (x)), (2, .ref (mh)), (3, .ref (o)), (4, .int (nI (i)))])
    {rmh : Room} {mc ms k : Nat} (hrc : rmh.cells = mc) (hrs : rmh.slots = ms) (hF : rmh.frames ≤ 10) (hLo : rmh.locals ≤ 245) (hmc : mc ≤ 1) (hms : ms ≤ 6) (hk : k ≤ 2) (hc : ∀ sz, Met l yL_put wsL_put rmh (mw_pre G M sz [.ref (x), .int (xs (i + 1)), .int (xs (i + 2)), .int (xs (i + 3)), .ref (o)]) (mw_Qi G M sz (nI (k)) M1) mc ms (mw_A M sz))
    {a : Nat → Nat} {c1 u1 u2 : Nat} {A1 A2 : md_S} (hmd : md_at G M1 mh a c1 u1 A1) {r : Int32} {k2 : Nat} {rm2 : Room} (hrc2 : rm2.cells = 0) (hrs2 : rm2.slots = 0) (hF2 : rm2.frames ≤ 10) (hLo2 : rm2.locals ≤ 245) (hm : ∀ sz, Met l yX7_put wsX7_put rm2 (mw_pre G M1 sz [.ref (mh), .int (xs (i + 1)), .int (xs (i + 2)), .int (xs (i + 3))]) (md_Qi G M1 sz mh a r k2 u2 A2) 0 0 (mw_A M1 sz))
    (kk : ∀ (M2 : mw_M) (H : Heap) (locs : List Loc) (ls : Array Slot), md_at G M2 mh a k2 u2 A2 → md_fr mh a M1 M2 → mw_St G (lw_A s) s M2 H locs → lv_has ls 7 [(0, .ref (b)), (1, .ref (x)), (2, .ref (mh)), (3, .ref (o)), (4, .int (nI (i)))] → W p l e room_1 s m #[Value.ref b] below meth c H locs (cl + 1) (sl + 6) Q (F0 m 664 ls [])) : W p l e room_1 s m #[Value.ref b] below meth c H locs cl sl Q (F0 m 100 ls []) := by
  obtain ⟨hx, hb, hr, hml, hown, hts, hX, hbl, hlocks, hgv⟩ := C0
  have hbA : ¬ lw_A s b := Nat.not_le.mpr hbl
  refine lv_aload_n hx hb dL_law_100 rfl (lv_at hl 1 rfl) ?_
  refine lv_aload_n hx hb dL_law_101 rfl (lv_at hl 0 rfl) ?_
  refine lv_iload hx hb dL_law_102 (lv_at hl 4 rfl) ?_
  refine lv_iconst (v := nI 1) hx hb dL_law_104 (by decide) ?_
  refine lv_iadd hx hb dL_law_105 ?_
  refine mw_ti (v' := nI (i + 1)) (nI_add _ _) ?_
  refine mw_sld hx hb hX hbl hbA hw (i := i + 1) (by omega) (by omega) dL_law_106 ?_
  refine lv_aload_n hx hb dL_law_107 rfl (lv_at hl 0 rfl) ?_
  refine lv_iload hx hb dL_law_108 (lv_at hl 4 rfl) ?_
  refine lv_iconst (v := nI 2) hx hb dL_law_110 (by decide) ?_
  refine lv_iadd hx hb dL_law_111 ?_
  refine mw_ti (v' := nI (i + 2)) (nI_add _ _) ?_
  refine mw_sld hx hb hX hbl hbA hw (i := i + 2) (by omega) (by omega) dL_law_112 ?_
  refine lv_aload_n hx hb dL_law_113 rfl (lv_at hl 0 rfl) ?_
  refine lv_iload hx hb dL_law_114 (lv_at hl 4 rfl) ?_
  refine lv_iconst (v := nI 3) hx hb dL_law_116 (by decide) ?_
  refine lv_iadd hx hb dL_law_117 ?_
  refine mw_ti (v' := nI (i + 3)) (nI_add _ _) ?_
  refine mw_sld hx hb hX hbl hbA hw (i := i + 3) (by omega) (by omega) dL_law_118 ?_
  refine lv_aload_n hx hb dL_law_119 rfl (lv_at hl 3 rfl) ?_
  refine mw_ci hC hw (vx_runSW (As := [.ref (x), .int (xs (i + 1)), .int (xs (i + 2)), .int (xs (i + 3)), .ref (o)]) (rest := []) ⟨hx, hb, hml, hown, hts⟩ (hc H.size) (vx_cwSW 5 hts gw_L_put rfl hrc hrs (by decide +kernel) ⟨show rmh.frames + 1 ≤ 12 by omega, show 8 + (6 + 11) + rmh.locals ≤ 428 by omega⟩) (mw_preS hC hw) rfl rfl hl.1 rfl (lv_room (Nat.le_of_ble_eq_true rfl)) dL_law_120 ⟨show cl + mc ≤ 601024 by omega, show sl + ms ≤ 7293034 by omega⟩) (fun H locs hz9 hw => ?_)
  refine lv_istore (lv' := [(5, .int (nI (k))), (0, .ref (b)), (1, .ref (x)), (2, .ref (mh)), (3, .ref (o)), (4, .int (nI (i)))]) hx hb dL_law_123 hl (by decide) rfl (fun ls hl => ?_)
  refine lv_aload_n hx hb dL_law_125 rfl (lv_at hl 3 rfl) ?_
  refine lv_aload_n hx hb dL_law_126 rfl (lv_at hl 1 rfl) ?_
  refine lv_iload hx hb dL_law_127 (lv_at hl 5 rfl) ?_
  refine lv_iconst (v := nI 1) hx hb dL_law_129 (by decide) ?_
  refine lv_iadd hx hb dL_law_130 ?_
  refine mw_ti (v' := nI (i + 1)) (nI_add _ _) ?_
  refine mw_sld hx hb hX hbl hbA hw (i := i + 1) (by omega) (by omega) dL_law_131 ?_
  refine lv_aload_n hx hb dL_law_132 rfl (lv_at hl 1 rfl) ?_
  refine lv_iload hx hb dL_law_133 (lv_at hl 5 rfl) ?_
  refine lv_iconst (v := nI 2) hx hb dL_law_135 (by decide) ?_
  refine lv_iadd hx hb dL_law_136 ?_
  refine mw_ti (v' := nI (i + 2)) (nI_add _ _) ?_
  refine mw_sld hx hb hX hbl hbA hw (i := i + 2) (by omega) (by omega) dL_law_137 ?_
  refine lv_aload_n hx hb dL_law_138 rfl (lv_at hl 1 rfl) ?_
  refine lv_iload hx hb dL_law_139 (lv_at hl 5 rfl) ?_
  refine lv_iconst (v := nI 3) hx hb dL_law_141 (by decide) ?_
  refine lv_iadd hx hb dL_law_142 ?_
  refine mw_ti (v' := nI (i + 3)) (nI_add _ _) ?_
  refine mw_sld hx hb hX hbl hbA hw (i := i + 3) (by omega) (by omega) dL_law_143 ?_
  refine md_ci hC hw (va_runV (As := [.int (xs (i + 1)), .int (xs (i + 2)), .int (xs (i + 3))]) (rest := []) ⟨hx, hb, hml, hown, hts⟩ (hm H.size) (cwV 3 hts gw_X7_put rfl hrc2 hrs2 (by decide +kernel) ⟨show rm2.frames + 1 ≤ 12 by omega, show 8 + (5 + 11) + rm2.locals ≤ 428 by omega⟩) (mw_preV (ci := 7) hC hw rfl hmd.1) rfl rfl hl.1 rfl (lv_room (Nat.le_of_ble_eq_true rfl)) dL_law_144 ⟨show cl + mc + 0 ≤ 601024 by omega, show sl + ms + 0 ≤ 7293034 by omega⟩) (fun M2 H locs hm2 hf2 hw => ?_)
  refine lv_istore (lv' := [(6, .int (r)), (5, .int (nI (k))), (0, .ref (b)), (1, .ref (x)), (2, .ref (mh)), (3, .ref (o)), (4, .int (nI (i)))]) hx hb dL_law_147 hl (by decide) rfl (fun ls hl => ?_)
  refine lv_goto (tgt := 664) hx hb dL_law_149 (by decide) ?_
  refine W.widen (k := cl + 1) (n := sl + 6) (show cl + mc + 0 ≤ cl + 1 by omega) (show sl + ms + 0 ≤ sl + 6 by omega) ?_
  exact kk M2 H locs ls hm2 hf2 hw (lv_sub hl [2, 3, 4, 5, 6] rfl)
set_option maxHeartbeats 4000000 in
set_option maxRecDepth 100000 in
theorem lp_send {p : Program} {e : Env} {s : State} {m : MethodId} {below : List Frame} {meth : Method} {c : Code} (l : Launch) {b L : Nat} {xs : Nat → Int32} {G : mw_G} {Q : State → Prop} (C0 : lw_At p s m meth c b L xs) (hL : L ≤ 4096) (hC : mw_C G (lw_A s) s) {i : Nat} (hi : i + 6 ≤ L) {cl sl : Nat} (hcl : cl + 1 ≤ 601024) (hsl : sl + 6 ≤ 7293034) {x mh o : Nat} {M M1 : mw_M} {H : Heap} {locs : List Loc} {ls : Array Slot} (hw : mw_St G (lw_A s) s M H locs) (hl : lv_has ls 7 [(0, .ref (b)), (1, .ref (x)), (2, .ref (mh)), (3, .ref (o)), (4, .int (nI (i)))])
    {rmh : Room} {mc ms k : Nat} (hrc : rmh.cells = mc) (hrs : rmh.slots = ms) (hF : rmh.frames ≤ 10) (hLo : rmh.locals ≤ 245) (hmc : mc ≤ 1) (hms : ms ≤ 6) (hk : k ≤ 2) (hc : ∀ sz, Met l yL_send wsL_send rmh (mw_pre G M sz [.ref (x), .int (xs (i + 1)), .ref (o)]) (mw_Qi G M sz (nI (k)) M1) mc ms (mw_A M sz))
    {a : Nat → Nat} {c1 u1 u2 : Nat} {A1 A2 : md_S} (hmd : md_at G M1 mh a c1 u1 A1) {r : Int32} {k2 : Nat} {rm2 : Room} (hrc2 : rm2.cells = 0) (hrs2 : rm2.slots = 0) (hF2 : rm2.frames ≤ 10) (hLo2 : rm2.locals ≤ 245) (hm : ∀ sz, Met l yX7_send wsX7_send rm2 (mw_pre G M1 sz [.ref (mh), .int (xs (i + 1))]) (md_Qi G M1 sz mh a r k2 u2 A2) 0 0 (mw_A M1 sz))
    (kk : ∀ (M2 : mw_M) (H : Heap) (locs : List Loc) (ls : Array Slot), md_at G M2 mh a k2 u2 A2 → md_fr mh a M1 M2 → mw_St G (lw_A s) s M2 H locs → lv_has ls 7 [(0, .ref (b)), (1, .ref (x)), (2, .ref (mh)), (3, .ref (o)), (4, .int (nI (i)))] → W p l e room_1 s m #[Value.ref b] below meth c H locs (cl + 1) (sl + 6) Q (F0 m 664 ls [])) : W p l e room_1 s m #[Value.ref b] below meth c H locs cl sl Q (F0 m 152 ls []) := by
  obtain ⟨hx, hb, hr, hml, hown, hts, hX, hbl, hlocks, hgv⟩ := C0
  have hbA : ¬ lw_A s b := Nat.not_le.mpr hbl
  refine lv_aload_n hx hb dL_law_152 rfl (lv_at hl 1 rfl) ?_
  refine lv_aload_n hx hb dL_law_153 rfl (lv_at hl 0 rfl) ?_
  refine lv_iload hx hb dL_law_154 (lv_at hl 4 rfl) ?_
  refine lv_iconst (v := nI 1) hx hb dL_law_156 (by decide) ?_
  refine lv_iadd hx hb dL_law_157 ?_
  refine mw_ti (v' := nI (i + 1)) (nI_add _ _) ?_
  refine mw_sld hx hb hX hbl hbA hw (i := i + 1) (by omega) (by omega) dL_law_158 ?_
  refine lv_aload_n hx hb dL_law_159 rfl (lv_at hl 3 rfl) ?_
  refine mw_ci hC hw (vx_runSW (As := [.ref (x), .int (xs (i + 1)), .ref (o)]) (rest := []) ⟨hx, hb, hml, hown, hts⟩ (hc H.size) (vx_cwSW 3 hts gw_L_send rfl hrc hrs (by decide +kernel) ⟨show rmh.frames + 1 ≤ 12 by omega, show 8 + (4 + 11) + rmh.locals ≤ 428 by omega⟩) (mw_preS hC hw) rfl rfl hl.1 rfl (lv_room (Nat.le_of_ble_eq_true rfl)) dL_law_160 ⟨show cl + mc ≤ 601024 by omega, show sl + ms ≤ 7293034 by omega⟩) (fun H locs hz9 hw => ?_)
  refine lv_istore (lv' := [(5, .int (nI (k))), (0, .ref (b)), (1, .ref (x)), (2, .ref (mh)), (3, .ref (o)), (4, .int (nI (i)))]) hx hb dL_law_163 hl (by decide) rfl (fun ls hl => ?_)
  refine lv_aload_n hx hb dL_law_165 rfl (lv_at hl 3 rfl) ?_
  refine lv_aload_n hx hb dL_law_166 rfl (lv_at hl 1 rfl) ?_
  refine lv_iload hx hb dL_law_167 (lv_at hl 5 rfl) ?_
  refine lv_iconst (v := nI 1) hx hb dL_law_169 (by decide) ?_
  refine lv_iadd hx hb dL_law_170 ?_
  refine mw_ti (v' := nI (i + 1)) (nI_add _ _) ?_
  refine mw_sld hx hb hX hbl hbA hw (i := i + 1) (by omega) (by omega) dL_law_171 ?_
  refine md_ci hC hw (va_runV (As := [.int (xs (i + 1))]) (rest := []) ⟨hx, hb, hml, hown, hts⟩ (hm H.size) (cwV 1 hts gw_X7_send rfl hrc2 hrs2 (by decide +kernel) ⟨show rm2.frames + 1 ≤ 12 by omega, show 8 + (5 + 11) + rm2.locals ≤ 428 by omega⟩) (mw_preV (ci := 7) hC hw rfl hmd.1) rfl rfl hl.1 rfl (lv_room (Nat.le_of_ble_eq_true rfl)) dL_law_172 ⟨show cl + mc + 0 ≤ 601024 by omega, show sl + ms + 0 ≤ 7293034 by omega⟩) (fun M2 H locs hm2 hf2 hw => ?_)
  refine lv_istore (lv' := [(6, .int (r)), (5, .int (nI (k))), (0, .ref (b)), (1, .ref (x)), (2, .ref (mh)), (3, .ref (o)), (4, .int (nI (i)))]) hx hb dL_law_175 hl (by decide) rfl (fun ls hl => ?_)
  refine lv_goto (tgt := 664) hx hb dL_law_177 (by decide) ?_
  refine W.widen (k := cl + 1) (n := sl + 6) (show cl + mc + 0 ≤ cl + 1 by omega) (show sl + ms + 0 ≤ sl + 6 by omega) ?_
  exact kk M2 H locs ls hm2 hf2 hw (lv_sub hl [2, 3, 4, 5, 6] rfl)
set_option maxHeartbeats 4000000 in
set_option maxRecDepth 100000 in
theorem lp_take {p : Program} {e : Env} {s : State} {m : MethodId} {below : List Frame} {meth : Method} {c : Code} (l : Launch) {b L : Nat} {xs : Nat → Int32} {G : mw_G} {Q : State → Prop} (C0 : lw_At p s m meth c b L xs) (hL : L ≤ 4096) (hC : mw_C G (lw_A s) s) {i : Nat} (hi : i + 6 ≤ L) {cl sl : Nat} (hcl : cl + 1 ≤ 601024) (hsl : sl + 6 ≤ 7293034) {x mh o : Nat} {M M1 : mw_M} {H : Heap} {locs : List Loc} {ls : Array Slot} (hw : mw_St G (lw_A s) s M H locs) (hl : lv_has ls 7 [(0, .ref (b)), (1, .ref (x)), (2, .ref (mh)), (3, .ref (o)), (4, .int (nI (i)))])
    {rmh : Room} {mc ms k : Nat} (hrc : rmh.cells = mc) (hrs : rmh.slots = ms) (hF : rmh.frames ≤ 10) (hLo : rmh.locals ≤ 245) (hmc : mc ≤ 1) (hms : ms ≤ 6) (hk : k ≤ 2) (hc : ∀ sz, Met l yL_take wsL_take rmh (mw_pre G M sz [.ref (x), .int (xs (i + 1)), .ref (o)]) (mw_Qi G M sz (nI (k)) M1) mc ms (mw_A M sz))
    {a : Nat → Nat} {c1 u1 u2 : Nat} {A1 A2 : md_S} (hmd : md_at G M1 mh a c1 u1 A1) {r : Int32} {k2 : Nat} {rm2 : Room} (hrc2 : rm2.cells = 0) (hrs2 : rm2.slots = 0) (hF2 : rm2.frames ≤ 10) (hLo2 : rm2.locals ≤ 245) (hm : ∀ sz, Met l yX7_take wsX7_take rm2 (mw_pre G M1 sz [.ref (mh), .int (xs (i + 1))]) (md_Qi G M1 sz mh a r k2 u2 A2) 0 0 (mw_A M1 sz))
    (kk : ∀ (M2 : mw_M) (H : Heap) (locs : List Loc) (ls : Array Slot), md_at G M2 mh a k2 u2 A2 → md_fr mh a M1 M2 → mw_St G (lw_A s) s M2 H locs → lv_has ls 7 [(0, .ref (b)), (1, .ref (x)), (2, .ref (mh)), (3, .ref (o)), (4, .int (nI (i)))] → W p l e room_1 s m #[Value.ref b] below meth c H locs (cl + 1) (sl + 6) Q (F0 m 664 ls [])) : W p l e room_1 s m #[Value.ref b] below meth c H locs cl sl Q (F0 m 180 ls []) := by
  obtain ⟨hx, hb, hr, hml, hown, hts, hX, hbl, hlocks, hgv⟩ := C0
  have hbA : ¬ lw_A s b := Nat.not_le.mpr hbl
  refine lv_aload_n hx hb dL_law_180 rfl (lv_at hl 1 rfl) ?_
  refine lv_aload_n hx hb dL_law_181 rfl (lv_at hl 0 rfl) ?_
  refine lv_iload hx hb dL_law_182 (lv_at hl 4 rfl) ?_
  refine lv_iconst (v := nI 1) hx hb dL_law_184 (by decide) ?_
  refine lv_iadd hx hb dL_law_185 ?_
  refine mw_ti (v' := nI (i + 1)) (nI_add _ _) ?_
  refine mw_sld hx hb hX hbl hbA hw (i := i + 1) (by omega) (by omega) dL_law_186 ?_
  refine lv_aload_n hx hb dL_law_187 rfl (lv_at hl 3 rfl) ?_
  refine mw_ci hC hw (vx_runSW (As := [.ref (x), .int (xs (i + 1)), .ref (o)]) (rest := []) ⟨hx, hb, hml, hown, hts⟩ (hc H.size) (vx_cwSW 3 hts gw_L_take rfl hrc hrs (by decide +kernel) ⟨show rmh.frames + 1 ≤ 12 by omega, show 8 + (4 + 11) + rmh.locals ≤ 428 by omega⟩) (mw_preS hC hw) rfl rfl hl.1 rfl (lv_room (Nat.le_of_ble_eq_true rfl)) dL_law_188 ⟨show cl + mc ≤ 601024 by omega, show sl + ms ≤ 7293034 by omega⟩) (fun H locs hz9 hw => ?_)
  refine lv_istore (lv' := [(5, .int (nI (k))), (0, .ref (b)), (1, .ref (x)), (2, .ref (mh)), (3, .ref (o)), (4, .int (nI (i)))]) hx hb dL_law_191 hl (by decide) rfl (fun ls hl => ?_)
  refine lv_aload_n hx hb dL_law_193 rfl (lv_at hl 3 rfl) ?_
  refine lv_aload_n hx hb dL_law_194 rfl (lv_at hl 1 rfl) ?_
  refine lv_iload hx hb dL_law_195 (lv_at hl 5 rfl) ?_
  refine lv_iconst (v := nI 1) hx hb dL_law_197 (by decide) ?_
  refine lv_iadd hx hb dL_law_198 ?_
  refine mw_ti (v' := nI (i + 1)) (nI_add _ _) ?_
  refine mw_sld hx hb hX hbl hbA hw (i := i + 1) (by omega) (by omega) dL_law_199 ?_
  refine md_ci hC hw (va_runV (As := [.int (xs (i + 1))]) (rest := []) ⟨hx, hb, hml, hown, hts⟩ (hm H.size) (cwV 1 hts gw_X7_take rfl hrc2 hrs2 (by decide +kernel) ⟨show rm2.frames + 1 ≤ 12 by omega, show 8 + (6 + 11) + rm2.locals ≤ 428 by omega⟩) (mw_preV (ci := 7) hC hw rfl hmd.1) rfl rfl hl.1 rfl (lv_room (Nat.le_of_ble_eq_true rfl)) dL_law_200 ⟨show cl + mc + 0 ≤ 601024 by omega, show sl + ms + 0 ≤ 7293034 by omega⟩) (fun M2 H locs hm2 hf2 hw => ?_)
  refine lv_istore (lv' := [(6, .int (r)), (5, .int (nI (k))), (0, .ref (b)), (1, .ref (x)), (2, .ref (mh)), (3, .ref (o)), (4, .int (nI (i)))]) hx hb dL_law_203 hl (by decide) rfl (fun ls hl => ?_)
  refine lv_goto (tgt := 664) hx hb dL_law_205 (by decide) ?_
  refine W.widen (k := cl + 1) (n := sl + 6) (show cl + mc + 0 ≤ cl + 1 by omega) (show sl + ms + 0 ≤ sl + 6 by omega) ?_
  exact kk M2 H locs ls hm2 hf2 hw (lv_sub hl [2, 3, 4, 5, 6] rfl)
set_option maxHeartbeats 4000000 in
set_option maxRecDepth 100000 in
theorem lp_flip {p : Program} {e : Env} {s : State} {m : MethodId} {below : List Frame} {meth : Method} {c : Code} (l : Launch) {b L : Nat} {xs : Nat → Int32} {G : mw_G} {Q : State → Prop} (C0 : lw_At p s m meth c b L xs) (hL : L ≤ 4096) (hC : mw_C G (lw_A s) s) {i : Nat} (hi : i + 6 ≤ L) {cl sl : Nat} (hcl : cl + 1 ≤ 601024) (hsl : sl + 6 ≤ 7293034) {x mh o : Nat} {M M1 : mw_M} {H : Heap} {locs : List Loc} {ls : Array Slot} (hw : mw_St G (lw_A s) s M H locs) (hl : lv_has ls 7 [(0, .ref (b)), (1, .ref (x)), (2, .ref (mh)), (3, .ref (o)), (4, .int (nI (i)))])
    {rmh : Room} {mc ms k : Nat} (hrc : rmh.cells = mc) (hrs : rmh.slots = ms) (hF : rmh.frames ≤ 10) (hLo : rmh.locals ≤ 245) (hmc : mc ≤ 1) (hms : ms ≤ 6) (hk : k ≤ 2) (hc : ∀ sz, Met l yL_flip wsL_flip rmh (mw_pre G M sz [.ref (x), .int (xs (i + 1)), .int (xs (i + 2)), .int (xs (i + 3)), .ref (o)]) (mw_Qi G M sz (nI (k)) M1) mc ms (mw_A M sz))
    {a : Nat → Nat} {c1 u1 u2 : Nat} {A1 A2 : md_S} (hmd : md_at G M1 mh a c1 u1 A1) {r : Int32} {k2 : Nat} {rm2 : Room} (hrc2 : rm2.cells = 0) (hrs2 : rm2.slots = 0) (hF2 : rm2.frames ≤ 10) (hLo2 : rm2.locals ≤ 245) (hm : ∀ sz, Met l yX7_flip wsX7_flip rm2 (mw_pre G M1 sz [.ref (mh), .int (xs (i + 1)), .int (xs (i + 2)), .int (xs (i + 3))]) (md_Qi G M1 sz mh a r k2 u2 A2) 0 0 (mw_A M1 sz))
    (kk : ∀ (M2 : mw_M) (H : Heap) (locs : List Loc) (ls : Array Slot), md_at G M2 mh a k2 u2 A2 → md_fr mh a M1 M2 → mw_St G (lw_A s) s M2 H locs → lv_has ls 7 [(0, .ref (b)), (1, .ref (x)), (2, .ref (mh)), (3, .ref (o)), (4, .int (nI (i)))] → W p l e room_1 s m #[Value.ref b] below meth c H locs (cl + 1) (sl + 6) Q (F0 m 664 ls [])) : W p l e room_1 s m #[Value.ref b] below meth c H locs cl sl Q (F0 m 208 ls []) := by
  obtain ⟨hx, hb, hr, hml, hown, hts, hX, hbl, hlocks, hgv⟩ := C0
  have hbA : ¬ lw_A s b := Nat.not_le.mpr hbl
  refine lv_aload_n hx hb dL_law_208 rfl (lv_at hl 1 rfl) ?_
  refine lv_aload_n hx hb dL_law_209 rfl (lv_at hl 0 rfl) ?_
  refine lv_iload hx hb dL_law_210 (lv_at hl 4 rfl) ?_
  refine lv_iconst (v := nI 1) hx hb dL_law_212 (by decide) ?_
  refine lv_iadd hx hb dL_law_213 ?_
  refine mw_ti (v' := nI (i + 1)) (nI_add _ _) ?_
  refine mw_sld hx hb hX hbl hbA hw (i := i + 1) (by omega) (by omega) dL_law_214 ?_
  refine lv_aload_n hx hb dL_law_215 rfl (lv_at hl 0 rfl) ?_
  refine lv_iload hx hb dL_law_216 (lv_at hl 4 rfl) ?_
  refine lv_iconst (v := nI 2) hx hb dL_law_218 (by decide) ?_
  refine lv_iadd hx hb dL_law_219 ?_
  refine mw_ti (v' := nI (i + 2)) (nI_add _ _) ?_
  refine mw_sld hx hb hX hbl hbA hw (i := i + 2) (by omega) (by omega) dL_law_220 ?_
  refine lv_aload_n hx hb dL_law_221 rfl (lv_at hl 0 rfl) ?_
  refine lv_iload hx hb dL_law_222 (lv_at hl 4 rfl) ?_
  refine lv_iconst (v := nI 3) hx hb dL_law_224 (by decide) ?_
  refine lv_iadd hx hb dL_law_225 ?_
  refine mw_ti (v' := nI (i + 3)) (nI_add _ _) ?_
  refine mw_sld hx hb hX hbl hbA hw (i := i + 3) (by omega) (by omega) dL_law_226 ?_
  refine lv_aload_n hx hb dL_law_227 rfl (lv_at hl 3 rfl) ?_
  refine mw_ci hC hw (vx_runSW (As := [.ref (x), .int (xs (i + 1)), .int (xs (i + 2)), .int (xs (i + 3)), .ref (o)]) (rest := []) ⟨hx, hb, hml, hown, hts⟩ (hc H.size) (vx_cwSW 5 hts gw_L_flip rfl hrc hrs (by decide +kernel) ⟨show rmh.frames + 1 ≤ 12 by omega, show 8 + (6 + 11) + rmh.locals ≤ 428 by omega⟩) (mw_preS hC hw) rfl rfl hl.1 rfl (lv_room (Nat.le_of_ble_eq_true rfl)) dL_law_228 ⟨show cl + mc ≤ 601024 by omega, show sl + ms ≤ 7293034 by omega⟩) (fun H locs hz9 hw => ?_)
  refine lv_istore (lv' := [(5, .int (nI (k))), (0, .ref (b)), (1, .ref (x)), (2, .ref (mh)), (3, .ref (o)), (4, .int (nI (i)))]) hx hb dL_law_231 hl (by decide) rfl (fun ls hl => ?_)
  refine lv_aload_n hx hb dL_law_233 rfl (lv_at hl 3 rfl) ?_
  refine lv_aload_n hx hb dL_law_234 rfl (lv_at hl 1 rfl) ?_
  refine lv_iload hx hb dL_law_235 (lv_at hl 5 rfl) ?_
  refine lv_iconst (v := nI 1) hx hb dL_law_237 (by decide) ?_
  refine lv_iadd hx hb dL_law_238 ?_
  refine mw_ti (v' := nI (i + 1)) (nI_add _ _) ?_
  refine mw_sld hx hb hX hbl hbA hw (i := i + 1) (by omega) (by omega) dL_law_239 ?_
  refine lv_aload_n hx hb dL_law_240 rfl (lv_at hl 1 rfl) ?_
  refine lv_iload hx hb dL_law_241 (lv_at hl 5 rfl) ?_
  refine lv_iconst (v := nI 2) hx hb dL_law_243 (by decide) ?_
  refine lv_iadd hx hb dL_law_244 ?_
  refine mw_ti (v' := nI (i + 2)) (nI_add _ _) ?_
  refine mw_sld hx hb hX hbl hbA hw (i := i + 2) (by omega) (by omega) dL_law_245 ?_
  refine lv_aload_n hx hb dL_law_246 rfl (lv_at hl 1 rfl) ?_
  refine lv_iload hx hb dL_law_247 (lv_at hl 5 rfl) ?_
  refine lv_iconst (v := nI 3) hx hb dL_law_249 (by decide) ?_
  refine lv_iadd hx hb dL_law_250 ?_
  refine mw_ti (v' := nI (i + 3)) (nI_add _ _) ?_
  refine mw_sld hx hb hX hbl hbA hw (i := i + 3) (by omega) (by omega) dL_law_251 ?_
  refine md_ci hC hw (va_runV (As := [.int (xs (i + 1)), .int (xs (i + 2)), .int (xs (i + 3))]) (rest := []) ⟨hx, hb, hml, hown, hts⟩ (hm H.size) (cwV 3 hts gw_X7_flip rfl hrc2 hrs2 (by decide +kernel) ⟨show rm2.frames + 1 ≤ 12 by omega, show 8 + (5 + 11) + rm2.locals ≤ 428 by omega⟩) (mw_preV (ci := 7) hC hw rfl hmd.1) rfl rfl hl.1 rfl (lv_room (Nat.le_of_ble_eq_true rfl)) dL_law_252 ⟨show cl + mc + 0 ≤ 601024 by omega, show sl + ms + 0 ≤ 7293034 by omega⟩) (fun M2 H locs hm2 hf2 hw => ?_)
  refine lv_istore (lv' := [(6, .int (r)), (5, .int (nI (k))), (0, .ref (b)), (1, .ref (x)), (2, .ref (mh)), (3, .ref (o)), (4, .int (nI (i)))]) hx hb dL_law_255 hl (by decide) rfl (fun ls hl => ?_)
  refine lv_goto (tgt := 664) hx hb dL_law_257 (by decide) ?_
  refine W.widen (k := cl + 1) (n := sl + 6) (show cl + mc + 0 ≤ cl + 1 by omega) (show sl + ms + 0 ≤ sl + 6 by omega) ?_
  exact kk M2 H locs ls hm2 hf2 hw (lv_sub hl [2, 3, 4, 5, 6] rfl)
set_option maxHeartbeats 4000000 in
set_option maxRecDepth 100000 in
theorem lp_drop {p : Program} {e : Env} {s : State} {m : MethodId} {below : List Frame} {meth : Method} {c : Code} (l : Launch) {b L : Nat} {xs : Nat → Int32} {G : mw_G} {Q : State → Prop} (C0 : lw_At p s m meth c b L xs) (hL : L ≤ 4096) (hC : mw_C G (lw_A s) s) {i : Nat} (hi : i + 6 ≤ L) {cl sl : Nat} (hcl : cl + 1 ≤ 601024) (hsl : sl + 6 ≤ 7293034) {x mh o : Nat} {M M1 : mw_M} {H : Heap} {locs : List Loc} {ls : Array Slot} (hw : mw_St G (lw_A s) s M H locs) (hl : lv_has ls 7 [(0, .ref (b)), (1, .ref (x)), (2, .ref (mh)), (3, .ref (o)), (4, .int (nI (i)))])
    {rmh : Room} {mc ms k : Nat} (hrc : rmh.cells = mc) (hrs : rmh.slots = ms) (hF : rmh.frames ≤ 10) (hLo : rmh.locals ≤ 245) (hmc : mc ≤ 1) (hms : ms ≤ 6) (hk : k ≤ 2) (hc : ∀ sz, Met l yL_drop wsL_drop rmh (mw_pre G M sz [.ref (x), .int (xs (i + 1)), .int (xs (i + 2)), .ref (o)]) (mw_Qi G M sz (nI (k)) M1) mc ms (mw_A M sz))
    {a : Nat → Nat} {c1 u1 u2 : Nat} {A1 A2 : md_S} (hmd : md_at G M1 mh a c1 u1 A1) {r : Int32} {k2 : Nat} {rm2 : Room} (hrc2 : rm2.cells = 0) (hrs2 : rm2.slots = 0) (hF2 : rm2.frames ≤ 10) (hLo2 : rm2.locals ≤ 245) (hm : ∀ sz, Met l yX7_drop wsX7_drop rm2 (mw_pre G M1 sz [.ref (mh), .int (xs (i + 1)), .int (xs (i + 2))]) (md_Qi G M1 sz mh a r k2 u2 A2) 0 0 (mw_A M1 sz))
    (kk : ∀ (M2 : mw_M) (H : Heap) (locs : List Loc) (ls : Array Slot), md_at G M2 mh a k2 u2 A2 → md_fr mh a M1 M2 → mw_St G (lw_A s) s M2 H locs → lv_has ls 7 [(0, .ref (b)), (1, .ref (x)), (2, .ref (mh)), (3, .ref (o)), (4, .int (nI (i)))] → W p l e room_1 s m #[Value.ref b] below meth c H locs (cl + 1) (sl + 6) Q (F0 m 664 ls [])) : W p l e room_1 s m #[Value.ref b] below meth c H locs cl sl Q (F0 m 260 ls []) := by
  obtain ⟨hx, hb, hr, hml, hown, hts, hX, hbl, hlocks, hgv⟩ := C0
  have hbA : ¬ lw_A s b := Nat.not_le.mpr hbl
  refine lv_aload_n hx hb dL_law_260 rfl (lv_at hl 1 rfl) ?_
  refine lv_aload_n hx hb dL_law_261 rfl (lv_at hl 0 rfl) ?_
  refine lv_iload hx hb dL_law_262 (lv_at hl 4 rfl) ?_
  refine lv_iconst (v := nI 1) hx hb dL_law_264 (by decide) ?_
  refine lv_iadd hx hb dL_law_265 ?_
  refine mw_ti (v' := nI (i + 1)) (nI_add _ _) ?_
  refine mw_sld hx hb hX hbl hbA hw (i := i + 1) (by omega) (by omega) dL_law_266 ?_
  refine lv_aload_n hx hb dL_law_267 rfl (lv_at hl 0 rfl) ?_
  refine lv_iload hx hb dL_law_268 (lv_at hl 4 rfl) ?_
  refine lv_iconst (v := nI 2) hx hb dL_law_270 (by decide) ?_
  refine lv_iadd hx hb dL_law_271 ?_
  refine mw_ti (v' := nI (i + 2)) (nI_add _ _) ?_
  refine mw_sld hx hb hX hbl hbA hw (i := i + 2) (by omega) (by omega) dL_law_272 ?_
  refine lv_aload_n hx hb dL_law_273 rfl (lv_at hl 3 rfl) ?_
  refine mw_ci hC hw (vx_runSW (As := [.ref (x), .int (xs (i + 1)), .int (xs (i + 2)), .ref (o)]) (rest := []) ⟨hx, hb, hml, hown, hts⟩ (hc H.size) (vx_cwSW 4 hts gw_L_drop rfl hrc hrs (by decide +kernel) ⟨show rmh.frames + 1 ≤ 12 by omega, show 8 + (5 + 11) + rmh.locals ≤ 428 by omega⟩) (mw_preS hC hw) rfl rfl hl.1 rfl (lv_room (Nat.le_of_ble_eq_true rfl)) dL_law_274 ⟨show cl + mc ≤ 601024 by omega, show sl + ms ≤ 7293034 by omega⟩) (fun H locs hz9 hw => ?_)
  refine lv_istore (lv' := [(5, .int (nI (k))), (0, .ref (b)), (1, .ref (x)), (2, .ref (mh)), (3, .ref (o)), (4, .int (nI (i)))]) hx hb dL_law_277 hl (by decide) rfl (fun ls hl => ?_)
  refine lv_aload_n hx hb dL_law_279 rfl (lv_at hl 3 rfl) ?_
  refine lv_aload_n hx hb dL_law_280 rfl (lv_at hl 1 rfl) ?_
  refine lv_iload hx hb dL_law_281 (lv_at hl 5 rfl) ?_
  refine lv_iconst (v := nI 1) hx hb dL_law_283 (by decide) ?_
  refine lv_iadd hx hb dL_law_284 ?_
  refine mw_ti (v' := nI (i + 1)) (nI_add _ _) ?_
  refine mw_sld hx hb hX hbl hbA hw (i := i + 1) (by omega) (by omega) dL_law_285 ?_
  refine lv_aload_n hx hb dL_law_286 rfl (lv_at hl 1 rfl) ?_
  refine lv_iload hx hb dL_law_287 (lv_at hl 5 rfl) ?_
  refine lv_iconst (v := nI 2) hx hb dL_law_289 (by decide) ?_
  refine lv_iadd hx hb dL_law_290 ?_
  refine mw_ti (v' := nI (i + 2)) (nI_add _ _) ?_
  refine mw_sld hx hb hX hbl hbA hw (i := i + 2) (by omega) (by omega) dL_law_291 ?_
  refine md_ci hC hw (va_runV (As := [.int (xs (i + 1)), .int (xs (i + 2))]) (rest := []) ⟨hx, hb, hml, hown, hts⟩ (hm H.size) (cwV 2 hts gw_X7_drop rfl hrc2 hrs2 (by decide +kernel) ⟨show rm2.frames + 1 ≤ 12 by omega, show 8 + (4 + 11) + rm2.locals ≤ 428 by omega⟩) (mw_preV (ci := 7) hC hw rfl hmd.1) rfl rfl hl.1 rfl (lv_room (Nat.le_of_ble_eq_true rfl)) dL_law_292 ⟨show cl + mc + 0 ≤ 601024 by omega, show sl + ms + 0 ≤ 7293034 by omega⟩) (fun M2 H locs hm2 hf2 hw => ?_)
  refine lv_istore (lv' := [(6, .int (r)), (5, .int (nI (k))), (0, .ref (b)), (1, .ref (x)), (2, .ref (mh)), (3, .ref (o)), (4, .int (nI (i)))]) hx hb dL_law_295 hl (by decide) rfl (fun ls hl => ?_)
  refine lv_goto (tgt := 664) hx hb dL_law_297 (by decide) ?_
  refine W.widen (k := cl + 1) (n := sl + 6) (show cl + mc + 0 ≤ cl + 1 by omega) (show sl + ms + 0 ≤ sl + 6 by omega) ?_
  exact kk M2 H locs ls hm2 hf2 hw (lv_sub hl [2, 3, 4, 5, 6] rfl)
set_option maxHeartbeats 4000000 in
set_option maxRecDepth 100000 in
theorem lp_bits_0 {p : Program} {e : Env} {s : State} {m : MethodId} {below : List Frame} {meth : Method} {c : Code} (l : Launch) {b L : Nat} {xs : Nat → Int32} {G : mw_G} {Q : State → Prop} (C0 : lw_At p s m meth c b L xs) (hL : L ≤ 4096) (hC : mw_C G (lw_A s) s) {i : Nat} (hi : i + 6 ≤ L) (hz : xs (i + 5) = 0) {cl sl : Nat} (hcl : cl + 1 ≤ 601024) (hsl : sl + 6 ≤ 7293034) {x mh o : Nat} {M M1 : mw_M} {H : Heap} {locs : List Loc} {ls : Array Slot} (hw : mw_St G (lw_A s) s M H locs) (hl : lv_has ls 7 [(0, .ref (b)), (1, .ref (x)), (2, .ref (mh)), (3, .ref (o)), (4, .int (nI (i)))])
    {rmh : Room} {mc ms k : Nat} (hrc : rmh.cells = mc) (hrs : rmh.slots = ms) (hF : rmh.frames ≤ 10) (hLo : rmh.locals ≤ 245) (hmc : mc ≤ 1) (hms : ms ≤ 6) (hk : k ≤ 2) (hc : ∀ sz, Met l yL_bits wsL_bits rmh (mw_pre G M sz [.ref (x), .int (xs (i + 1)), .long (lw_w xs (i + 2)), .int (xs (i + 4)), .int (nI (0)), .ref (o)]) (mw_Qi G M sz (nI (k)) M1) mc ms (mw_A M sz))
    {a : Nat → Nat} {c1 u1 u2 : Nat} {A1 A2 : md_S} (hmd : md_at G M1 mh a c1 u1 A1) {r : Int32} {k2 : Nat} {rm2 : Room} (hrc2 : rm2.cells = 0) (hrs2 : rm2.slots = 0) (hF2 : rm2.frames ≤ 10) (hLo2 : rm2.locals ≤ 245) (hm : ∀ sz, Met l yX7_bits wsX7_bits rm2 (mw_pre G M1 sz [.ref (mh), .int (xs (i + 1)), .long (lw_w xs (i + 2)), .int (xs (i + 4)), .int (nI (0))]) (md_Qi G M1 sz mh a r k2 u2 A2) 0 0 (mw_A M1 sz))
    (kk : ∀ (M2 : mw_M) (H : Heap) (locs : List Loc) (ls : Array Slot), md_at G M2 mh a k2 u2 A2 → md_fr mh a M1 M2 → mw_St G (lw_A s) s M2 H locs → lv_has ls 7 [(0, .ref (b)), (1, .ref (x)), (2, .ref (mh)), (3, .ref (o)), (4, .int (nI (i)))] → W p l e room_1 s m #[Value.ref b] below meth c H locs (cl + 1) (sl + 6) Q (F0 m 664 ls [])) : W p l e room_1 s m #[Value.ref b] below meth c H locs cl sl Q (F0 m 300 ls []) := by
  obtain ⟨hx, hb, hr, hml, hown, hts, hX, hbl, hlocks, hgv⟩ := C0
  have hbA : ¬ lw_A s b := Nat.not_le.mpr hbl
  have k_0 := hts (.constantLong RL 76 (4294967295)) (by decide +kernel)
  refine lv_aload_n hx hb dL_law_300 rfl (lv_at hl 1 rfl) ?_
  refine lv_aload_n hx hb dL_law_301 rfl (lv_at hl 0 rfl) ?_
  refine lv_iload hx hb dL_law_302 (lv_at hl 4 rfl) ?_
  refine lv_iconst (v := nI 1) hx hb dL_law_304 (by decide) ?_
  refine lv_iadd hx hb dL_law_305 ?_
  refine mw_ti (v' := nI (i + 1)) (nI_add _ _) ?_
  refine mw_sld hx hb hX hbl hbA hw (i := i + 1) (by omega) (by omega) dL_law_306 ?_
  refine lv_aload_n hx hb dL_law_307 rfl (lv_at hl 0 rfl) ?_
  refine lv_iload hx hb dL_law_308 (lv_at hl 4 rfl) ?_
  refine lv_iconst (v := nI 2) hx hb dL_law_310 (by decide) ?_
  refine lv_iadd hx hb dL_law_311 ?_
  refine mw_ti (v' := nI (i + 2)) (nI_add _ _) ?_
  refine mw_sld hx hb hX hbl hbA hw (i := i + 2) (by omega) (by omega) dL_law_312 ?_
  refine lv_i2l hx hb dL_law_313 rfl ?_
  refine lv_bipush (v := nI 32) hx hb dL_law_314 (by decide) ?_
  refine lv_lshl hx hb dL_law_316 rfl ?_
  refine lv_aload_n hx hb dL_law_317 rfl (lv_at hl 0 rfl) ?_
  refine lv_iload hx hb dL_law_318 (lv_at hl 4 rfl) ?_
  refine lv_iconst (v := nI 3) hx hb dL_law_320 (by decide) ?_
  refine lv_iadd hx hb dL_law_321 ?_
  refine mw_ti (v' := nI (i + 3)) (nI_add _ _) ?_
  refine mw_sld hx hb hX hbl hbA hw (i := i + 3) (by omega) (by omega) dL_law_322 ?_
  refine lv_i2l hx hb dL_law_323 rfl ?_
  refine lv_ldc2 hx hb hown k_0 dL_law_324 ?_
  refine lv_land hx hb dL_law_327 ?_
  refine lv_lor hx hb dL_law_328 ?_
  refine mw_tl (v' := lw_w xs (i + 2)) rfl ?_
  refine lv_aload_n hx hb dL_law_329 rfl (lv_at hl 0 rfl) ?_
  refine lv_iload hx hb dL_law_330 (lv_at hl 4 rfl) ?_
  refine lv_iconst (v := nI 4) hx hb dL_law_332 (by decide) ?_
  refine lv_iadd hx hb dL_law_333 ?_
  refine mw_ti (v' := nI (i + 4)) (nI_add _ _) ?_
  refine mw_sld hx hb hX hbl hbA hw (i := i + 4) (by omega) (by omega) dL_law_334 ?_
  refine lv_aload_n hx hb dL_law_335 rfl (lv_at hl 0 rfl) ?_
  refine lv_iload hx hb dL_law_336 (lv_at hl 4 rfl) ?_
  refine lv_iconst (v := nI 5) hx hb dL_law_338 (by decide) ?_
  refine lv_iadd hx hb dL_law_339 ?_
  refine mw_ti (v' := nI (i + 5)) (nI_add _ _) ?_
  refine mw_sld hx hb hX hbl hbA hw (i := i + 5) (by omega) (by omega) dL_law_340 ?_
  refine lv_if_eq (tgt := 348) hx hb dL_law_341 (by decide) (fun _ => ?_) (fun h9 => absurd hz h9)
  refine lv_iconst (v := nI 0) hx hb dL_law_348 (by decide) ?_
  refine lv_aload_n hx hb dL_law_349 rfl (lv_at hl 3 rfl) ?_
  refine mw_ci hC hw (vx_runSW (As := [.ref (x), .int (xs (i + 1)), .long (lw_w xs (i + 2)), .int (xs (i + 4)), .int (nI (0)), .ref (o)]) (rest := []) ⟨hx, hb, hml, hown, hts⟩ (hc H.size) (vx_cwSW 6 hts gw_L_bits rfl hrc hrs (by decide +kernel) ⟨show rmh.frames + 1 ≤ 12 by omega, show 8 + (8 + 11) + rmh.locals ≤ 428 by omega⟩) (mw_preS hC hw) rfl rfl hl.1 rfl (lv_room (Nat.le_of_ble_eq_true rfl)) dL_law_350 ⟨show cl + mc ≤ 601024 by omega, show sl + ms ≤ 7293034 by omega⟩) (fun H locs hz9 hw => ?_)
  refine lv_istore (lv' := [(5, .int (nI (k))), (0, .ref (b)), (1, .ref (x)), (2, .ref (mh)), (3, .ref (o)), (4, .int (nI (i)))]) hx hb dL_law_353 hl (by decide) rfl (fun ls hl => ?_)
  refine lv_aload_n hx hb dL_law_355 rfl (lv_at hl 3 rfl) ?_
  refine lv_aload_n hx hb dL_law_356 rfl (lv_at hl 1 rfl) ?_
  refine lv_iload hx hb dL_law_357 (lv_at hl 5 rfl) ?_
  refine lv_iconst (v := nI 1) hx hb dL_law_359 (by decide) ?_
  refine lv_iadd hx hb dL_law_360 ?_
  refine mw_ti (v' := nI (i + 1)) (nI_add _ _) ?_
  refine mw_sld hx hb hX hbl hbA hw (i := i + 1) (by omega) (by omega) dL_law_361 ?_
  refine lv_aload_n hx hb dL_law_362 rfl (lv_at hl 1 rfl) ?_
  refine lv_iload hx hb dL_law_363 (lv_at hl 5 rfl) ?_
  refine lv_iconst (v := nI 2) hx hb dL_law_365 (by decide) ?_
  refine lv_iadd hx hb dL_law_366 ?_
  refine mw_ti (v' := nI (i + 2)) (nI_add _ _) ?_
  refine mw_sld hx hb hX hbl hbA hw (i := i + 2) (by omega) (by omega) dL_law_367 ?_
  refine lv_i2l hx hb dL_law_368 rfl ?_
  refine lv_bipush (v := nI 32) hx hb dL_law_369 (by decide) ?_
  refine lv_lshl hx hb dL_law_371 rfl ?_
  refine lv_aload_n hx hb dL_law_372 rfl (lv_at hl 1 rfl) ?_
  refine lv_iload hx hb dL_law_373 (lv_at hl 5 rfl) ?_
  refine lv_iconst (v := nI 3) hx hb dL_law_375 (by decide) ?_
  refine lv_iadd hx hb dL_law_376 ?_
  refine mw_ti (v' := nI (i + 3)) (nI_add _ _) ?_
  refine mw_sld hx hb hX hbl hbA hw (i := i + 3) (by omega) (by omega) dL_law_377 ?_
  refine lv_i2l hx hb dL_law_378 rfl ?_
  refine lv_ldc2 hx hb hown k_0 dL_law_379 ?_
  refine lv_land hx hb dL_law_382 ?_
  refine lv_lor hx hb dL_law_383 ?_
  refine mw_tl (v' := lw_w xs (i + 2)) rfl ?_
  refine lv_aload_n hx hb dL_law_384 rfl (lv_at hl 1 rfl) ?_
  refine lv_iload hx hb dL_law_385 (lv_at hl 5 rfl) ?_
  refine lv_iconst (v := nI 4) hx hb dL_law_387 (by decide) ?_
  refine lv_iadd hx hb dL_law_388 ?_
  refine mw_ti (v' := nI (i + 4)) (nI_add _ _) ?_
  refine mw_sld hx hb hX hbl hbA hw (i := i + 4) (by omega) (by omega) dL_law_389 ?_
  refine lv_aload_n hx hb dL_law_390 rfl (lv_at hl 1 rfl) ?_
  refine lv_iload hx hb dL_law_391 (lv_at hl 5 rfl) ?_
  refine lv_iconst (v := nI 5) hx hb dL_law_393 (by decide) ?_
  refine lv_iadd hx hb dL_law_394 ?_
  refine mw_ti (v' := nI (i + 5)) (nI_add _ _) ?_
  refine mw_sld hx hb hX hbl hbA hw (i := i + 5) (by omega) (by omega) dL_law_395 ?_
  refine lv_if_eq (tgt := 403) hx hb dL_law_396 (by decide) (fun _ => ?_) (fun h9 => absurd hz h9)
  refine lv_iconst (v := nI 0) hx hb dL_law_403 (by decide) ?_
  refine md_ci hC hw (va_runV (As := [.int (xs (i + 1)), .long (lw_w xs (i + 2)), .int (xs (i + 4)), .int (nI (0))]) (rest := []) ⟨hx, hb, hml, hown, hts⟩ (hm H.size) (cwV 4 hts gw_X7_bits rfl hrc2 hrs2 (by decide +kernel) ⟨show rm2.frames + 1 ≤ 12 by omega, show 8 + (9 + 11) + rm2.locals ≤ 428 by omega⟩) (mw_preV (ci := 7) hC hw rfl hmd.1) rfl rfl hl.1 rfl (lv_room (Nat.le_of_ble_eq_true rfl)) dL_law_404 ⟨show cl + mc + 0 ≤ 601024 by omega, show sl + ms + 0 ≤ 7293034 by omega⟩) (fun M2 H locs hm2 hf2 hw => ?_)
  refine lv_istore (lv' := [(6, .int (r)), (5, .int (nI (k))), (0, .ref (b)), (1, .ref (x)), (2, .ref (mh)), (3, .ref (o)), (4, .int (nI (i)))]) hx hb dL_law_407 hl (by decide) rfl (fun ls hl => ?_)
  refine lv_goto (tgt := 664) hx hb dL_law_409 (by decide) ?_
  refine W.widen (k := cl + 1) (n := sl + 6) (show cl + mc + 0 ≤ cl + 1 by omega) (show sl + ms + 0 ≤ sl + 6 by omega) ?_
  exact kk M2 H locs ls hm2 hf2 hw (lv_sub hl [2, 3, 4, 5, 6] rfl)
set_option maxHeartbeats 4000000 in
set_option maxRecDepth 100000 in
theorem lp_bits_1 {p : Program} {e : Env} {s : State} {m : MethodId} {below : List Frame} {meth : Method} {c : Code} (l : Launch) {b L : Nat} {xs : Nat → Int32} {G : mw_G} {Q : State → Prop} (C0 : lw_At p s m meth c b L xs) (hL : L ≤ 4096) (hC : mw_C G (lw_A s) s) {i : Nat} (hi : i + 6 ≤ L) (hz : ¬ xs (i + 5) = 0) {cl sl : Nat} (hcl : cl + 1 ≤ 601024) (hsl : sl + 6 ≤ 7293034) {x mh o : Nat} {M M1 : mw_M} {H : Heap} {locs : List Loc} {ls : Array Slot} (hw : mw_St G (lw_A s) s M H locs) (hl : lv_has ls 7 [(0, .ref (b)), (1, .ref (x)), (2, .ref (mh)), (3, .ref (o)), (4, .int (nI (i)))])
    {rmh : Room} {mc ms k : Nat} (hrc : rmh.cells = mc) (hrs : rmh.slots = ms) (hF : rmh.frames ≤ 10) (hLo : rmh.locals ≤ 245) (hmc : mc ≤ 1) (hms : ms ≤ 6) (hk : k ≤ 2) (hc : ∀ sz, Met l yL_bits wsL_bits rmh (mw_pre G M sz [.ref (x), .int (xs (i + 1)), .long (lw_w xs (i + 2)), .int (xs (i + 4)), .int (nI (1)), .ref (o)]) (mw_Qi G M sz (nI (k)) M1) mc ms (mw_A M sz))
    {a : Nat → Nat} {c1 u1 u2 : Nat} {A1 A2 : md_S} (hmd : md_at G M1 mh a c1 u1 A1) {r : Int32} {k2 : Nat} {rm2 : Room} (hrc2 : rm2.cells = 0) (hrs2 : rm2.slots = 0) (hF2 : rm2.frames ≤ 10) (hLo2 : rm2.locals ≤ 245) (hm : ∀ sz, Met l yX7_bits wsX7_bits rm2 (mw_pre G M1 sz [.ref (mh), .int (xs (i + 1)), .long (lw_w xs (i + 2)), .int (xs (i + 4)), .int (nI (1))]) (md_Qi G M1 sz mh a r k2 u2 A2) 0 0 (mw_A M1 sz))
    (kk : ∀ (M2 : mw_M) (H : Heap) (locs : List Loc) (ls : Array Slot), md_at G M2 mh a k2 u2 A2 → md_fr mh a M1 M2 → mw_St G (lw_A s) s M2 H locs → lv_has ls 7 [(0, .ref (b)), (1, .ref (x)), (2, .ref (mh)), (3, .ref (o)), (4, .int (nI (i)))] → W p l e room_1 s m #[Value.ref b] below meth c H locs (cl + 1) (sl + 6) Q (F0 m 664 ls [])) : W p l e room_1 s m #[Value.ref b] below meth c H locs cl sl Q (F0 m 300 ls []) := by
  obtain ⟨hx, hb, hr, hml, hown, hts, hX, hbl, hlocks, hgv⟩ := C0
  have hbA : ¬ lw_A s b := Nat.not_le.mpr hbl
  have k_0 := hts (.constantLong RL 76 (4294967295)) (by decide +kernel)
  refine lv_aload_n hx hb dL_law_300 rfl (lv_at hl 1 rfl) ?_
  refine lv_aload_n hx hb dL_law_301 rfl (lv_at hl 0 rfl) ?_
  refine lv_iload hx hb dL_law_302 (lv_at hl 4 rfl) ?_
  refine lv_iconst (v := nI 1) hx hb dL_law_304 (by decide) ?_
  refine lv_iadd hx hb dL_law_305 ?_
  refine mw_ti (v' := nI (i + 1)) (nI_add _ _) ?_
  refine mw_sld hx hb hX hbl hbA hw (i := i + 1) (by omega) (by omega) dL_law_306 ?_
  refine lv_aload_n hx hb dL_law_307 rfl (lv_at hl 0 rfl) ?_
  refine lv_iload hx hb dL_law_308 (lv_at hl 4 rfl) ?_
  refine lv_iconst (v := nI 2) hx hb dL_law_310 (by decide) ?_
  refine lv_iadd hx hb dL_law_311 ?_
  refine mw_ti (v' := nI (i + 2)) (nI_add _ _) ?_
  refine mw_sld hx hb hX hbl hbA hw (i := i + 2) (by omega) (by omega) dL_law_312 ?_
  refine lv_i2l hx hb dL_law_313 rfl ?_
  refine lv_bipush (v := nI 32) hx hb dL_law_314 (by decide) ?_
  refine lv_lshl hx hb dL_law_316 rfl ?_
  refine lv_aload_n hx hb dL_law_317 rfl (lv_at hl 0 rfl) ?_
  refine lv_iload hx hb dL_law_318 (lv_at hl 4 rfl) ?_
  refine lv_iconst (v := nI 3) hx hb dL_law_320 (by decide) ?_
  refine lv_iadd hx hb dL_law_321 ?_
  refine mw_ti (v' := nI (i + 3)) (nI_add _ _) ?_
  refine mw_sld hx hb hX hbl hbA hw (i := i + 3) (by omega) (by omega) dL_law_322 ?_
  refine lv_i2l hx hb dL_law_323 rfl ?_
  refine lv_ldc2 hx hb hown k_0 dL_law_324 ?_
  refine lv_land hx hb dL_law_327 ?_
  refine lv_lor hx hb dL_law_328 ?_
  refine mw_tl (v' := lw_w xs (i + 2)) rfl ?_
  refine lv_aload_n hx hb dL_law_329 rfl (lv_at hl 0 rfl) ?_
  refine lv_iload hx hb dL_law_330 (lv_at hl 4 rfl) ?_
  refine lv_iconst (v := nI 4) hx hb dL_law_332 (by decide) ?_
  refine lv_iadd hx hb dL_law_333 ?_
  refine mw_ti (v' := nI (i + 4)) (nI_add _ _) ?_
  refine mw_sld hx hb hX hbl hbA hw (i := i + 4) (by omega) (by omega) dL_law_334 ?_
  refine lv_aload_n hx hb dL_law_335 rfl (lv_at hl 0 rfl) ?_
  refine lv_iload hx hb dL_law_336 (lv_at hl 4 rfl) ?_
  refine lv_iconst (v := nI 5) hx hb dL_law_338 (by decide) ?_
  refine lv_iadd hx hb dL_law_339 ?_
  refine mw_ti (v' := nI (i + 5)) (nI_add _ _) ?_
  refine mw_sld hx hb hX hbl hbA hw (i := i + 5) (by omega) (by omega) dL_law_340 ?_
  refine lv_if_eq (tgt := 348) hx hb dL_law_341 (by decide) (fun h9 => absurd h9 hz) (fun _ => ?_)
  refine lv_iconst (v := nI 1) hx hb dL_law_344 (by decide) ?_
  refine lv_goto (tgt := 349) hx hb dL_law_345 (by decide) ?_
  refine lv_aload_n hx hb dL_law_349 rfl (lv_at hl 3 rfl) ?_
  refine mw_ci hC hw (vx_runSW (As := [.ref (x), .int (xs (i + 1)), .long (lw_w xs (i + 2)), .int (xs (i + 4)), .int (nI (1)), .ref (o)]) (rest := []) ⟨hx, hb, hml, hown, hts⟩ (hc H.size) (vx_cwSW 6 hts gw_L_bits rfl hrc hrs (by decide +kernel) ⟨show rmh.frames + 1 ≤ 12 by omega, show 8 + (8 + 11) + rmh.locals ≤ 428 by omega⟩) (mw_preS hC hw) rfl rfl hl.1 rfl (lv_room (Nat.le_of_ble_eq_true rfl)) dL_law_350 ⟨show cl + mc ≤ 601024 by omega, show sl + ms ≤ 7293034 by omega⟩) (fun H locs hz9 hw => ?_)
  refine lv_istore (lv' := [(5, .int (nI (k))), (0, .ref (b)), (1, .ref (x)), (2, .ref (mh)), (3, .ref (o)), (4, .int (nI (i)))]) hx hb dL_law_353 hl (by decide) rfl (fun ls hl => ?_)
  refine lv_aload_n hx hb dL_law_355 rfl (lv_at hl 3 rfl) ?_
  refine lv_aload_n hx hb dL_law_356 rfl (lv_at hl 1 rfl) ?_
  refine lv_iload hx hb dL_law_357 (lv_at hl 5 rfl) ?_
  refine lv_iconst (v := nI 1) hx hb dL_law_359 (by decide) ?_
  refine lv_iadd hx hb dL_law_360 ?_
  refine mw_ti (v' := nI (i + 1)) (nI_add _ _) ?_
  refine mw_sld hx hb hX hbl hbA hw (i := i + 1) (by omega) (by omega) dL_law_361 ?_
  refine lv_aload_n hx hb dL_law_362 rfl (lv_at hl 1 rfl) ?_
  refine lv_iload hx hb dL_law_363 (lv_at hl 5 rfl) ?_
  refine lv_iconst (v := nI 2) hx hb dL_law_365 (by decide) ?_
  refine lv_iadd hx hb dL_law_366 ?_
  refine mw_ti (v' := nI (i + 2)) (nI_add _ _) ?_
  refine mw_sld hx hb hX hbl hbA hw (i := i + 2) (by omega) (by omega) dL_law_367 ?_
  refine lv_i2l hx hb dL_law_368 rfl ?_
  refine lv_bipush (v := nI 32) hx hb dL_law_369 (by decide) ?_
  refine lv_lshl hx hb dL_law_371 rfl ?_
  refine lv_aload_n hx hb dL_law_372 rfl (lv_at hl 1 rfl) ?_
  refine lv_iload hx hb dL_law_373 (lv_at hl 5 rfl) ?_
  refine lv_iconst (v := nI 3) hx hb dL_law_375 (by decide) ?_
  refine lv_iadd hx hb dL_law_376 ?_
  refine mw_ti (v' := nI (i + 3)) (nI_add _ _) ?_
  refine mw_sld hx hb hX hbl hbA hw (i := i + 3) (by omega) (by omega) dL_law_377 ?_
  refine lv_i2l hx hb dL_law_378 rfl ?_
  refine lv_ldc2 hx hb hown k_0 dL_law_379 ?_
  refine lv_land hx hb dL_law_382 ?_
  refine lv_lor hx hb dL_law_383 ?_
  refine mw_tl (v' := lw_w xs (i + 2)) rfl ?_
  refine lv_aload_n hx hb dL_law_384 rfl (lv_at hl 1 rfl) ?_
  refine lv_iload hx hb dL_law_385 (lv_at hl 5 rfl) ?_
  refine lv_iconst (v := nI 4) hx hb dL_law_387 (by decide) ?_
  refine lv_iadd hx hb dL_law_388 ?_
  refine mw_ti (v' := nI (i + 4)) (nI_add _ _) ?_
  refine mw_sld hx hb hX hbl hbA hw (i := i + 4) (by omega) (by omega) dL_law_389 ?_
  refine lv_aload_n hx hb dL_law_390 rfl (lv_at hl 1 rfl) ?_
  refine lv_iload hx hb dL_law_391 (lv_at hl 5 rfl) ?_
  refine lv_iconst (v := nI 5) hx hb dL_law_393 (by decide) ?_
  refine lv_iadd hx hb dL_law_394 ?_
  refine mw_ti (v' := nI (i + 5)) (nI_add _ _) ?_
  refine mw_sld hx hb hX hbl hbA hw (i := i + 5) (by omega) (by omega) dL_law_395 ?_
  refine lv_if_eq (tgt := 403) hx hb dL_law_396 (by decide) (fun h9 => absurd h9 hz) (fun _ => ?_)
  refine lv_iconst (v := nI 1) hx hb dL_law_399 (by decide) ?_
  refine lv_goto (tgt := 404) hx hb dL_law_400 (by decide) ?_
  refine md_ci hC hw (va_runV (As := [.int (xs (i + 1)), .long (lw_w xs (i + 2)), .int (xs (i + 4)), .int (nI (1))]) (rest := []) ⟨hx, hb, hml, hown, hts⟩ (hm H.size) (cwV 4 hts gw_X7_bits rfl hrc2 hrs2 (by decide +kernel) ⟨show rm2.frames + 1 ≤ 12 by omega, show 8 + (9 + 11) + rm2.locals ≤ 428 by omega⟩) (mw_preV (ci := 7) hC hw rfl hmd.1) rfl rfl hl.1 rfl (lv_room (Nat.le_of_ble_eq_true rfl)) dL_law_404 ⟨show cl + mc + 0 ≤ 601024 by omega, show sl + ms + 0 ≤ 7293034 by omega⟩) (fun M2 H locs hm2 hf2 hw => ?_)
  refine lv_istore (lv' := [(6, .int (r)), (5, .int (nI (k))), (0, .ref (b)), (1, .ref (x)), (2, .ref (mh)), (3, .ref (o)), (4, .int (nI (i)))]) hx hb dL_law_407 hl (by decide) rfl (fun ls hl => ?_)
  refine lv_goto (tgt := 664) hx hb dL_law_409 (by decide) ?_
  refine W.widen (k := cl + 1) (n := sl + 6) (show cl + mc + 0 ≤ cl + 1 by omega) (show sl + ms + 0 ≤ sl + 6 by omega) ?_
  exact kk M2 H locs ls hm2 hf2 hw (lv_sub hl [2, 3, 4, 5, 6] rfl)
set_option maxHeartbeats 4000000 in
set_option maxRecDepth 100000 in
theorem lp_bit {p : Program} {e : Env} {s : State} {m : MethodId} {below : List Frame} {meth : Method} {c : Code} (l : Launch) {b L : Nat} {xs : Nat → Int32} {G : mw_G} {Q : State → Prop} (C0 : lw_At p s m meth c b L xs) (hL : L ≤ 4096) (hC : mw_C G (lw_A s) s) {i : Nat} (hi : i + 6 ≤ L) {cl sl : Nat} (hcl : cl + 1 ≤ 601024) (hsl : sl + 6 ≤ 7293034) {x mh o : Nat} {M M1 : mw_M} {H : Heap} {locs : List Loc} {ls : Array Slot} (hw : mw_St G (lw_A s) s M H locs) (hl : lv_has ls 7 [(0, .ref (b)), (1, .ref (x)), (2, .ref (mh)), (3, .ref (o)), (4, .int (nI (i)))])
    {rmh : Room} {mc ms k : Nat} (hrc : rmh.cells = mc) (hrs : rmh.slots = ms) (hF : rmh.frames ≤ 10) (hLo : rmh.locals ≤ 245) (hmc : mc ≤ 1) (hms : ms ≤ 6) (hk : k ≤ 2) (hc : ∀ sz, Met l yL_bit wsL_bit rmh (mw_pre G M sz [.ref (x), .int (xs (i + 1)), .int (xs (i + 2)), .int (xs (i + 3)), .ref (o)]) (mw_Qi G M sz (nI (k)) M1) mc ms (mw_A M sz))
    {a : Nat → Nat} {c1 u1 u2 : Nat} {A1 A2 : md_S} (hmd : md_at G M1 mh a c1 u1 A1) {r : Int32} {k2 : Nat} {rm2 : Room} (hrc2 : rm2.cells = 0) (hrs2 : rm2.slots = 0) (hF2 : rm2.frames ≤ 10) (hLo2 : rm2.locals ≤ 245) (hm : ∀ sz, Met l yX7_bit_ wsX7_bit_ rm2 (mw_pre G M1 sz [.ref (mh), .int (xs (i + 1)), .int (xs (i + 2)), .int (xs (i + 3))]) (md_Qi G M1 sz mh a r k2 u2 A2) 0 0 (mw_A M1 sz))
    (kk : ∀ (M2 : mw_M) (H : Heap) (locs : List Loc) (ls : Array Slot), md_at G M2 mh a k2 u2 A2 → md_fr mh a M1 M2 → mw_St G (lw_A s) s M2 H locs → lv_has ls 7 [(0, .ref (b)), (1, .ref (x)), (2, .ref (mh)), (3, .ref (o)), (4, .int (nI (i)))] → W p l e room_1 s m #[Value.ref b] below meth c H locs (cl + 1) (sl + 6) Q (F0 m 664 ls [])) : W p l e room_1 s m #[Value.ref b] below meth c H locs cl sl Q (F0 m 412 ls []) := by
  obtain ⟨hx, hb, hr, hml, hown, hts, hX, hbl, hlocks, hgv⟩ := C0
  have hbA : ¬ lw_A s b := Nat.not_le.mpr hbl
  refine lv_aload_n hx hb dL_law_412 rfl (lv_at hl 1 rfl) ?_
  refine lv_aload_n hx hb dL_law_413 rfl (lv_at hl 0 rfl) ?_
  refine lv_iload hx hb dL_law_414 (lv_at hl 4 rfl) ?_
  refine lv_iconst (v := nI 1) hx hb dL_law_416 (by decide) ?_
  refine lv_iadd hx hb dL_law_417 ?_
  refine mw_ti (v' := nI (i + 1)) (nI_add _ _) ?_
  refine mw_sld hx hb hX hbl hbA hw (i := i + 1) (by omega) (by omega) dL_law_418 ?_
  refine lv_aload_n hx hb dL_law_419 rfl (lv_at hl 0 rfl) ?_
  refine lv_iload hx hb dL_law_420 (lv_at hl 4 rfl) ?_
  refine lv_iconst (v := nI 2) hx hb dL_law_422 (by decide) ?_
  refine lv_iadd hx hb dL_law_423 ?_
  refine mw_ti (v' := nI (i + 2)) (nI_add _ _) ?_
  refine mw_sld hx hb hX hbl hbA hw (i := i + 2) (by omega) (by omega) dL_law_424 ?_
  refine lv_aload_n hx hb dL_law_425 rfl (lv_at hl 0 rfl) ?_
  refine lv_iload hx hb dL_law_426 (lv_at hl 4 rfl) ?_
  refine lv_iconst (v := nI 3) hx hb dL_law_428 (by decide) ?_
  refine lv_iadd hx hb dL_law_429 ?_
  refine mw_ti (v' := nI (i + 3)) (nI_add _ _) ?_
  refine mw_sld hx hb hX hbl hbA hw (i := i + 3) (by omega) (by omega) dL_law_430 ?_
  refine lv_aload_n hx hb dL_law_431 rfl (lv_at hl 3 rfl) ?_
  refine mw_ci hC hw (vx_runSW (As := [.ref (x), .int (xs (i + 1)), .int (xs (i + 2)), .int (xs (i + 3)), .ref (o)]) (rest := []) ⟨hx, hb, hml, hown, hts⟩ (hc H.size) (vx_cwSW 5 hts gw_L_bit rfl hrc hrs (by decide +kernel) ⟨show rmh.frames + 1 ≤ 12 by omega, show 8 + (6 + 11) + rmh.locals ≤ 428 by omega⟩) (mw_preS hC hw) rfl rfl hl.1 rfl (lv_room (Nat.le_of_ble_eq_true rfl)) dL_law_432 ⟨show cl + mc ≤ 601024 by omega, show sl + ms ≤ 7293034 by omega⟩) (fun H locs hz9 hw => ?_)
  refine lv_istore (lv' := [(5, .int (nI (k))), (0, .ref (b)), (1, .ref (x)), (2, .ref (mh)), (3, .ref (o)), (4, .int (nI (i)))]) hx hb dL_law_435 hl (by decide) rfl (fun ls hl => ?_)
  refine lv_aload_n hx hb dL_law_437 rfl (lv_at hl 3 rfl) ?_
  refine lv_aload_n hx hb dL_law_438 rfl (lv_at hl 1 rfl) ?_
  refine lv_iload hx hb dL_law_439 (lv_at hl 5 rfl) ?_
  refine lv_iconst (v := nI 1) hx hb dL_law_441 (by decide) ?_
  refine lv_iadd hx hb dL_law_442 ?_
  refine mw_ti (v' := nI (i + 1)) (nI_add _ _) ?_
  refine mw_sld hx hb hX hbl hbA hw (i := i + 1) (by omega) (by omega) dL_law_443 ?_
  refine lv_aload_n hx hb dL_law_444 rfl (lv_at hl 1 rfl) ?_
  refine lv_iload hx hb dL_law_445 (lv_at hl 5 rfl) ?_
  refine lv_iconst (v := nI 2) hx hb dL_law_447 (by decide) ?_
  refine lv_iadd hx hb dL_law_448 ?_
  refine mw_ti (v' := nI (i + 2)) (nI_add _ _) ?_
  refine mw_sld hx hb hX hbl hbA hw (i := i + 2) (by omega) (by omega) dL_law_449 ?_
  refine lv_aload_n hx hb dL_law_450 rfl (lv_at hl 1 rfl) ?_
  refine lv_iload hx hb dL_law_451 (lv_at hl 5 rfl) ?_
  refine lv_iconst (v := nI 3) hx hb dL_law_453 (by decide) ?_
  refine lv_iadd hx hb dL_law_454 ?_
  refine mw_ti (v' := nI (i + 3)) (nI_add _ _) ?_
  refine mw_sld hx hb hX hbl hbA hw (i := i + 3) (by omega) (by omega) dL_law_455 ?_
  refine md_ci hC hw (va_runV (As := [.int (xs (i + 1)), .int (xs (i + 2)), .int (xs (i + 3))]) (rest := []) ⟨hx, hb, hml, hown, hts⟩ (hm H.size) (cwV 3 hts gw_X7_bit_ rfl hrc2 hrs2 (by decide +kernel) ⟨show rm2.frames + 1 ≤ 12 by omega, show 8 + (5 + 11) + rm2.locals ≤ 428 by omega⟩) (mw_preV (ci := 7) hC hw rfl hmd.1) rfl rfl hl.1 rfl (lv_room (Nat.le_of_ble_eq_true rfl)) dL_law_456 ⟨show cl + mc + 0 ≤ 601024 by omega, show sl + ms + 0 ≤ 7293034 by omega⟩) (fun M2 H locs hm2 hf2 hw => ?_)
  refine lv_istore (lv' := [(6, .int (r)), (5, .int (nI (k))), (0, .ref (b)), (1, .ref (x)), (2, .ref (mh)), (3, .ref (o)), (4, .int (nI (i)))]) hx hb dL_law_459 hl (by decide) rfl (fun ls hl => ?_)
  refine lv_goto (tgt := 664) hx hb dL_law_461 (by decide) ?_
  refine W.widen (k := cl + 1) (n := sl + 6) (show cl + mc + 0 ≤ cl + 1 by omega) (show sl + ms + 0 ≤ sl + 6 by omega) ?_
  exact kk M2 H locs ls hm2 hf2 hw (lv_sub hl [2, 3, 4, 5, 6] rfl)
set_option maxHeartbeats 4000000 in
set_option maxRecDepth 100000 in
theorem lp_taken {p : Program} {e : Env} {s : State} {m : MethodId} {below : List Frame} {meth : Method} {c : Code} (l : Launch) {b L : Nat} {xs : Nat → Int32} {G : mw_G} {Q : State → Prop} (C0 : lw_At p s m meth c b L xs) (hL : L ≤ 4096) (hC : mw_C G (lw_A s) s) {i : Nat} (hi : i + 6 ≤ L) {cl sl : Nat} (hcl : cl + 1 ≤ 601024) (hsl : sl + 6 ≤ 7293034) {x mh o : Nat} {M M1 : mw_M} {H : Heap} {locs : List Loc} {ls : Array Slot} (hw : mw_St G (lw_A s) s M H locs) (hl : lv_has ls 7 [(0, .ref (b)), (1, .ref (x)), (2, .ref (mh)), (3, .ref (o)), (4, .int (nI (i)))])
    {rmh : Room} {mc ms k : Nat} (hrc : rmh.cells = mc) (hrs : rmh.slots = ms) (hF : rmh.frames ≤ 10) (hLo : rmh.locals ≤ 245) (hmc : mc ≤ 1) (hms : ms ≤ 6) (hk : k ≤ 2) (hc : ∀ sz, Met l yL_taken wsL_taken rmh (mw_pre G M sz [.ref (x), .int (xs (i + 1)), .int (xs (i + 2)), .int (xs (i + 3)), .ref (o)]) (mw_Qi G M sz (nI (k)) M1) mc ms (mw_A M sz))
    {a : Nat → Nat} {c1 u1 u2 : Nat} {A1 A2 : md_S} (hmd : md_at G M1 mh a c1 u1 A1) {r : Int32} {k2 : Nat} {rm2 : Room} (hrc2 : rm2.cells = 0) (hrs2 : rm2.slots = 0) (hF2 : rm2.frames ≤ 10) (hLo2 : rm2.locals ≤ 245) (hm : ∀ sz, Met l yX7_taken wsX7_taken rm2 (mw_pre G M1 sz [.ref (mh), .int (xs (i + 1)), .int (xs (i + 2)), .int (xs (i + 3))]) (md_Qi G M1 sz mh a r k2 u2 A2) 0 0 (mw_A M1 sz))
    (kk : ∀ (M2 : mw_M) (H : Heap) (locs : List Loc) (ls : Array Slot), md_at G M2 mh a k2 u2 A2 → md_fr mh a M1 M2 → mw_St G (lw_A s) s M2 H locs → lv_has ls 7 [(0, .ref (b)), (1, .ref (x)), (2, .ref (mh)), (3, .ref (o)), (4, .int (nI (i)))] → W p l e room_1 s m #[Value.ref b] below meth c H locs (cl + 1) (sl + 6) Q (F0 m 664 ls [])) : W p l e room_1 s m #[Value.ref b] below meth c H locs cl sl Q (F0 m 464 ls []) := by
  obtain ⟨hx, hb, hr, hml, hown, hts, hX, hbl, hlocks, hgv⟩ := C0
  have hbA : ¬ lw_A s b := Nat.not_le.mpr hbl
  refine lv_aload_n hx hb dL_law_464 rfl (lv_at hl 1 rfl) ?_
  refine lv_aload_n hx hb dL_law_465 rfl (lv_at hl 0 rfl) ?_
  refine lv_iload hx hb dL_law_466 (lv_at hl 4 rfl) ?_
  refine lv_iconst (v := nI 1) hx hb dL_law_468 (by decide) ?_
  refine lv_iadd hx hb dL_law_469 ?_
  refine mw_ti (v' := nI (i + 1)) (nI_add _ _) ?_
  refine mw_sld hx hb hX hbl hbA hw (i := i + 1) (by omega) (by omega) dL_law_470 ?_
  refine lv_aload_n hx hb dL_law_471 rfl (lv_at hl 0 rfl) ?_
  refine lv_iload hx hb dL_law_472 (lv_at hl 4 rfl) ?_
  refine lv_iconst (v := nI 2) hx hb dL_law_474 (by decide) ?_
  refine lv_iadd hx hb dL_law_475 ?_
  refine mw_ti (v' := nI (i + 2)) (nI_add _ _) ?_
  refine mw_sld hx hb hX hbl hbA hw (i := i + 2) (by omega) (by omega) dL_law_476 ?_
  refine lv_aload_n hx hb dL_law_477 rfl (lv_at hl 0 rfl) ?_
  refine lv_iload hx hb dL_law_478 (lv_at hl 4 rfl) ?_
  refine lv_iconst (v := nI 3) hx hb dL_law_480 (by decide) ?_
  refine lv_iadd hx hb dL_law_481 ?_
  refine mw_ti (v' := nI (i + 3)) (nI_add _ _) ?_
  refine mw_sld hx hb hX hbl hbA hw (i := i + 3) (by omega) (by omega) dL_law_482 ?_
  refine lv_aload_n hx hb dL_law_483 rfl (lv_at hl 3 rfl) ?_
  refine mw_ci hC hw (vx_runSW (As := [.ref (x), .int (xs (i + 1)), .int (xs (i + 2)), .int (xs (i + 3)), .ref (o)]) (rest := []) ⟨hx, hb, hml, hown, hts⟩ (hc H.size) (vx_cwSW 5 hts gw_L_taken rfl hrc hrs (by decide +kernel) ⟨show rmh.frames + 1 ≤ 12 by omega, show 8 + (6 + 11) + rmh.locals ≤ 428 by omega⟩) (mw_preS hC hw) rfl rfl hl.1 rfl (lv_room (Nat.le_of_ble_eq_true rfl)) dL_law_484 ⟨show cl + mc ≤ 601024 by omega, show sl + ms ≤ 7293034 by omega⟩) (fun H locs hz9 hw => ?_)
  refine lv_istore (lv' := [(5, .int (nI (k))), (0, .ref (b)), (1, .ref (x)), (2, .ref (mh)), (3, .ref (o)), (4, .int (nI (i)))]) hx hb dL_law_487 hl (by decide) rfl (fun ls hl => ?_)
  refine lv_aload_n hx hb dL_law_489 rfl (lv_at hl 3 rfl) ?_
  refine lv_aload_n hx hb dL_law_490 rfl (lv_at hl 1 rfl) ?_
  refine lv_iload hx hb dL_law_491 (lv_at hl 5 rfl) ?_
  refine lv_iconst (v := nI 1) hx hb dL_law_493 (by decide) ?_
  refine lv_iadd hx hb dL_law_494 ?_
  refine mw_ti (v' := nI (i + 1)) (nI_add _ _) ?_
  refine mw_sld hx hb hX hbl hbA hw (i := i + 1) (by omega) (by omega) dL_law_495 ?_
  refine lv_aload_n hx hb dL_law_496 rfl (lv_at hl 1 rfl) ?_
  refine lv_iload hx hb dL_law_497 (lv_at hl 5 rfl) ?_
  refine lv_iconst (v := nI 2) hx hb dL_law_499 (by decide) ?_
  refine lv_iadd hx hb dL_law_500 ?_
  refine mw_ti (v' := nI (i + 2)) (nI_add _ _) ?_
  refine mw_sld hx hb hX hbl hbA hw (i := i + 2) (by omega) (by omega) dL_law_501 ?_
  refine lv_aload_n hx hb dL_law_502 rfl (lv_at hl 1 rfl) ?_
  refine lv_iload hx hb dL_law_503 (lv_at hl 5 rfl) ?_
  refine lv_iconst (v := nI 3) hx hb dL_law_505 (by decide) ?_
  refine lv_iadd hx hb dL_law_506 ?_
  refine mw_ti (v' := nI (i + 3)) (nI_add _ _) ?_
  refine mw_sld hx hb hX hbl hbA hw (i := i + 3) (by omega) (by omega) dL_law_507 ?_
  refine md_ci hC hw (va_runV (As := [.int (xs (i + 1)), .int (xs (i + 2)), .int (xs (i + 3))]) (rest := []) ⟨hx, hb, hml, hown, hts⟩ (hm H.size) (cwV 3 hts gw_X7_taken rfl hrc2 hrs2 (by decide +kernel) ⟨show rm2.frames + 1 ≤ 12 by omega, show 8 + (5 + 11) + rm2.locals ≤ 428 by omega⟩) (mw_preV (ci := 7) hC hw rfl hmd.1) rfl rfl hl.1 rfl (lv_room (Nat.le_of_ble_eq_true rfl)) dL_law_508 ⟨show cl + mc + 0 ≤ 601024 by omega, show sl + ms + 0 ≤ 7293034 by omega⟩) (fun M2 H locs hm2 hf2 hw => ?_)
  refine lv_istore (lv' := [(6, .int (r)), (5, .int (nI (k))), (0, .ref (b)), (1, .ref (x)), (2, .ref (mh)), (3, .ref (o)), (4, .int (nI (i)))]) hx hb dL_law_511 hl (by decide) rfl (fun ls hl => ?_)
  refine lv_goto (tgt := 664) hx hb dL_law_513 (by decide) ?_
  refine W.widen (k := cl + 1) (n := sl + 6) (show cl + mc + 0 ≤ cl + 1 by omega) (show sl + ms + 0 ≤ sl + 6 by omega) ?_
  exact kk M2 H locs ls hm2 hf2 hw (lv_sub hl [2, 3, 4, 5, 6] rfl)
set_option maxHeartbeats 4000000 in
set_option maxRecDepth 100000 in
theorem lp_check {p : Program} {e : Env} {s : State} {m : MethodId} {below : List Frame} {meth : Method} {c : Code} (l : Launch) {b L : Nat} {xs : Nat → Int32} {G : mw_G} {Q : State → Prop} (C0 : lw_At p s m meth c b L xs) (hL : L ≤ 4096) (hC : mw_C G (lw_A s) s) {i : Nat} (hi : i + 6 ≤ L) {cl sl : Nat} (hcl : cl + 1 ≤ 601024) (hsl : sl + 6 ≤ 7293034) {x mh o : Nat} {M M1 : mw_M} {H : Heap} {locs : List Loc} {ls : Array Slot} (hw : mw_St G (lw_A s) s M H locs) (hl : lv_has ls 7 [(0, .ref (b)), (1, .ref (x)), (2, .ref (mh)), (3, .ref (o)), (4, .int (nI (i)))])
    {rmh : Room} {mc ms k : Nat} (hrc : rmh.cells = mc) (hrs : rmh.slots = ms) (hF : rmh.frames ≤ 10) (hLo : rmh.locals ≤ 245) (hmc : mc ≤ 1) (hms : ms ≤ 6) (hk : k ≤ 2) (hc : ∀ sz, Met l yL_check wsL_check rmh (mw_pre G M sz [.ref (x), .long (lw_w xs (i + 1)), .int (xs (i + 3)), .ref (o)]) (mw_Qi G M sz (nI (k)) M1) mc ms (mw_A M sz))
    {a : Nat → Nat} {c1 u1 u2 : Nat} {A1 A2 : md_S} (hmd : md_at G M1 mh a c1 u1 A1) {r : Int32} {k2 : Nat} {rm2 : Room} (hrc2 : rm2.cells = 0) (hrs2 : rm2.slots = 0) (hF2 : rm2.frames ≤ 10) (hLo2 : rm2.locals ≤ 245) (hm : ∀ sz, Met l yX7_check wsX7_check rm2 (mw_pre G M1 sz [.ref (mh), .long (lw_w xs (i + 1)), .int (xs (i + 3))]) (md_Qi G M1 sz mh a r k2 u2 A2) 0 0 (mw_A M1 sz))
    (kk : ∀ (M2 : mw_M) (H : Heap) (locs : List Loc) (ls : Array Slot), md_at G M2 mh a k2 u2 A2 → md_fr mh a M1 M2 → mw_St G (lw_A s) s M2 H locs → lv_has ls 7 [(0, .ref (b)), (1, .ref (x)), (2, .ref (mh)), (3, .ref (o)), (4, .int (nI (i)))] → W p l e room_1 s m #[Value.ref b] below meth c H locs (cl + 1) (sl + 6) Q (F0 m 664 ls [])) : W p l e room_1 s m #[Value.ref b] below meth c H locs cl sl Q (F0 m 516 ls []) := by
  obtain ⟨hx, hb, hr, hml, hown, hts, hX, hbl, hlocks, hgv⟩ := C0
  have hbA : ¬ lw_A s b := Nat.not_le.mpr hbl
  have k_0 := hts (.constantLong RL 76 (4294967295)) (by decide +kernel)
  refine lv_aload_n hx hb dL_law_516 rfl (lv_at hl 1 rfl) ?_
  refine lv_aload_n hx hb dL_law_517 rfl (lv_at hl 0 rfl) ?_
  refine lv_iload hx hb dL_law_518 (lv_at hl 4 rfl) ?_
  refine lv_iconst (v := nI 1) hx hb dL_law_520 (by decide) ?_
  refine lv_iadd hx hb dL_law_521 ?_
  refine mw_ti (v' := nI (i + 1)) (nI_add _ _) ?_
  refine mw_sld hx hb hX hbl hbA hw (i := i + 1) (by omega) (by omega) dL_law_522 ?_
  refine lv_i2l hx hb dL_law_523 rfl ?_
  refine lv_bipush (v := nI 32) hx hb dL_law_524 (by decide) ?_
  refine lv_lshl hx hb dL_law_526 rfl ?_
  refine lv_aload_n hx hb dL_law_527 rfl (lv_at hl 0 rfl) ?_
  refine lv_iload hx hb dL_law_528 (lv_at hl 4 rfl) ?_
  refine lv_iconst (v := nI 2) hx hb dL_law_530 (by decide) ?_
  refine lv_iadd hx hb dL_law_531 ?_
  refine mw_ti (v' := nI (i + 2)) (nI_add _ _) ?_
  refine mw_sld hx hb hX hbl hbA hw (i := i + 2) (by omega) (by omega) dL_law_532 ?_
  refine lv_i2l hx hb dL_law_533 rfl ?_
  refine lv_ldc2 hx hb hown k_0 dL_law_534 ?_
  refine lv_land hx hb dL_law_537 ?_
  refine lv_lor hx hb dL_law_538 ?_
  refine mw_tl (v' := lw_w xs (i + 1)) rfl ?_
  refine lv_aload_n hx hb dL_law_539 rfl (lv_at hl 0 rfl) ?_
  refine lv_iload hx hb dL_law_540 (lv_at hl 4 rfl) ?_
  refine lv_iconst (v := nI 3) hx hb dL_law_542 (by decide) ?_
  refine lv_iadd hx hb dL_law_543 ?_
  refine mw_ti (v' := nI (i + 3)) (nI_add _ _) ?_
  refine mw_sld hx hb hX hbl hbA hw (i := i + 3) (by omega) (by omega) dL_law_544 ?_
  refine lv_aload_n hx hb dL_law_545 rfl (lv_at hl 3 rfl) ?_
  refine mw_ci hC hw (vx_runSW (As := [.ref (x), .long (lw_w xs (i + 1)), .int (xs (i + 3)), .ref (o)]) (rest := []) ⟨hx, hb, hml, hown, hts⟩ (hc H.size) (vx_cwSW 4 hts gw_L_check rfl hrc hrs (by decide +kernel) ⟨show rmh.frames + 1 ≤ 12 by omega, show 8 + (6 + 11) + rmh.locals ≤ 428 by omega⟩) (mw_preS hC hw) rfl rfl hl.1 rfl (lv_room (Nat.le_of_ble_eq_true rfl)) dL_law_546 ⟨show cl + mc ≤ 601024 by omega, show sl + ms ≤ 7293034 by omega⟩) (fun H locs hz9 hw => ?_)
  refine lv_istore (lv' := [(5, .int (nI (k))), (0, .ref (b)), (1, .ref (x)), (2, .ref (mh)), (3, .ref (o)), (4, .int (nI (i)))]) hx hb dL_law_549 hl (by decide) rfl (fun ls hl => ?_)
  refine lv_aload_n hx hb dL_law_551 rfl (lv_at hl 3 rfl) ?_
  refine lv_aload_n hx hb dL_law_552 rfl (lv_at hl 1 rfl) ?_
  refine lv_iload hx hb dL_law_553 (lv_at hl 5 rfl) ?_
  refine lv_iconst (v := nI 1) hx hb dL_law_555 (by decide) ?_
  refine lv_iadd hx hb dL_law_556 ?_
  refine mw_ti (v' := nI (i + 1)) (nI_add _ _) ?_
  refine mw_sld hx hb hX hbl hbA hw (i := i + 1) (by omega) (by omega) dL_law_557 ?_
  refine lv_i2l hx hb dL_law_558 rfl ?_
  refine lv_bipush (v := nI 32) hx hb dL_law_559 (by decide) ?_
  refine lv_lshl hx hb dL_law_561 rfl ?_
  refine lv_aload_n hx hb dL_law_562 rfl (lv_at hl 1 rfl) ?_
  refine lv_iload hx hb dL_law_563 (lv_at hl 5 rfl) ?_
  refine lv_iconst (v := nI 2) hx hb dL_law_565 (by decide) ?_
  refine lv_iadd hx hb dL_law_566 ?_
  refine mw_ti (v' := nI (i + 2)) (nI_add _ _) ?_
  refine mw_sld hx hb hX hbl hbA hw (i := i + 2) (by omega) (by omega) dL_law_567 ?_
  refine lv_i2l hx hb dL_law_568 rfl ?_
  refine lv_ldc2 hx hb hown k_0 dL_law_569 ?_
  refine lv_land hx hb dL_law_572 ?_
  refine lv_lor hx hb dL_law_573 ?_
  refine mw_tl (v' := lw_w xs (i + 1)) rfl ?_
  refine lv_aload_n hx hb dL_law_574 rfl (lv_at hl 1 rfl) ?_
  refine lv_iload hx hb dL_law_575 (lv_at hl 5 rfl) ?_
  refine lv_iconst (v := nI 3) hx hb dL_law_577 (by decide) ?_
  refine lv_iadd hx hb dL_law_578 ?_
  refine mw_ti (v' := nI (i + 3)) (nI_add _ _) ?_
  refine mw_sld hx hb hX hbl hbA hw (i := i + 3) (by omega) (by omega) dL_law_579 ?_
  refine md_ci hC hw (va_runV (As := [.long (lw_w xs (i + 1)), .int (xs (i + 3))]) (rest := []) ⟨hx, hb, hml, hown, hts⟩ (hm H.size) (cwV 2 hts gw_X7_check rfl hrc2 hrs2 (by decide +kernel) ⟨show rm2.frames + 1 ≤ 12 by omega, show 8 + (6 + 11) + rm2.locals ≤ 428 by omega⟩) (mw_preV (ci := 7) hC hw rfl hmd.1) rfl rfl hl.1 rfl (lv_room (Nat.le_of_ble_eq_true rfl)) dL_law_580 ⟨show cl + mc + 0 ≤ 601024 by omega, show sl + ms + 0 ≤ 7293034 by omega⟩) (fun M2 H locs hm2 hf2 hw => ?_)
  refine lv_istore (lv' := [(6, .int (r)), (5, .int (nI (k))), (0, .ref (b)), (1, .ref (x)), (2, .ref (mh)), (3, .ref (o)), (4, .int (nI (i)))]) hx hb dL_law_583 hl (by decide) rfl (fun ls hl => ?_)
  refine lv_goto (tgt := 664) hx hb dL_law_585 (by decide) ?_
  refine W.widen (k := cl + 1) (n := sl + 6) (show cl + mc + 0 ≤ cl + 1 by omega) (show sl + ms + 0 ≤ sl + 6 by omega) ?_
  exact kk M2 H locs ls hm2 hf2 hw (lv_sub hl [2, 3, 4, 5, 6] rfl)
set_option maxHeartbeats 4000000 in
set_option maxRecDepth 100000 in
theorem lp_about {p : Program} {e : Env} {s : State} {m : MethodId} {below : List Frame} {meth : Method} {c : Code} (l : Launch) {b L : Nat} {xs : Nat → Int32} {G : mw_G} {Q : State → Prop} (C0 : lw_At p s m meth c b L xs) (hL : L ≤ 4096) (hC : mw_C G (lw_A s) s) {i : Nat} (hi : i + 6 ≤ L) {cl sl : Nat} (hcl : cl + 1 ≤ 601024) (hsl : sl + 6 ≤ 7293034) {x mh o : Nat} {M M1 : mw_M} {H : Heap} {locs : List Loc} {ls : Array Slot} (hw : mw_St G (lw_A s) s M H locs) (hl : lv_has ls 7 [(0, .ref (b)), (1, .ref (x)), (2, .ref (mh)), (3, .ref (o)), (4, .int (nI (i)))])
    {rmh : Room} {mc ms k : Nat} (hrc : rmh.cells = mc) (hrs : rmh.slots = ms) (hF : rmh.frames ≤ 10) (hLo : rmh.locals ≤ 245) (hmc : mc ≤ 1) (hms : ms ≤ 6) (hk : k ≤ 2) (hc : ∀ sz, Met l yL_about wsL_about rmh (mw_pre G M sz [.ref (x), .int (xs (i + 1)), .int (xs (i + 2)), .ref (o)]) (mw_Qi G M sz (nI (k)) M1) mc ms (mw_A M sz))
    {a : Nat → Nat} {c1 u1 u2 : Nat} {A1 A2 : md_S} (hmd : md_at G M1 mh a c1 u1 A1) {r : Int32} {k2 : Nat} {rm2 : Room} (hrc2 : rm2.cells = 0) (hrs2 : rm2.slots = 0) (hF2 : rm2.frames ≤ 10) (hLo2 : rm2.locals ≤ 245) (hm : ∀ sz, Met l yX7_about wsX7_about rm2 (mw_pre G M1 sz [.ref (mh), .int (xs (i + 1)), .int (xs (i + 2))]) (md_Qi G M1 sz mh a r k2 u2 A2) 0 0 (mw_A M1 sz))
    (kk : ∀ (M2 : mw_M) (H : Heap) (locs : List Loc) (ls : Array Slot), md_at G M2 mh a k2 u2 A2 → md_fr mh a M1 M2 → mw_St G (lw_A s) s M2 H locs → lv_has ls 7 [(0, .ref (b)), (1, .ref (x)), (2, .ref (mh)), (3, .ref (o)), (4, .int (nI (i)))] → W p l e room_1 s m #[Value.ref b] below meth c H locs (cl + 1) (sl + 6) Q (F0 m 664 ls [])) : W p l e room_1 s m #[Value.ref b] below meth c H locs cl sl Q (F0 m 588 ls []) := by
  obtain ⟨hx, hb, hr, hml, hown, hts, hX, hbl, hlocks, hgv⟩ := C0
  have hbA : ¬ lw_A s b := Nat.not_le.mpr hbl
  refine lv_aload_n hx hb dL_law_588 rfl (lv_at hl 1 rfl) ?_
  refine lv_aload_n hx hb dL_law_589 rfl (lv_at hl 0 rfl) ?_
  refine lv_iload hx hb dL_law_590 (lv_at hl 4 rfl) ?_
  refine lv_iconst (v := nI 1) hx hb dL_law_592 (by decide) ?_
  refine lv_iadd hx hb dL_law_593 ?_
  refine mw_ti (v' := nI (i + 1)) (nI_add _ _) ?_
  refine mw_sld hx hb hX hbl hbA hw (i := i + 1) (by omega) (by omega) dL_law_594 ?_
  refine lv_aload_n hx hb dL_law_595 rfl (lv_at hl 0 rfl) ?_
  refine lv_iload hx hb dL_law_596 (lv_at hl 4 rfl) ?_
  refine lv_iconst (v := nI 2) hx hb dL_law_598 (by decide) ?_
  refine lv_iadd hx hb dL_law_599 ?_
  refine mw_ti (v' := nI (i + 2)) (nI_add _ _) ?_
  refine mw_sld hx hb hX hbl hbA hw (i := i + 2) (by omega) (by omega) dL_law_600 ?_
  refine lv_aload_n hx hb dL_law_601 rfl (lv_at hl 3 rfl) ?_
  refine mw_ci hC hw (vx_runSW (As := [.ref (x), .int (xs (i + 1)), .int (xs (i + 2)), .ref (o)]) (rest := []) ⟨hx, hb, hml, hown, hts⟩ (hc H.size) (vx_cwSW 4 hts gw_L_about rfl hrc hrs (by decide +kernel) ⟨show rmh.frames + 1 ≤ 12 by omega, show 8 + (5 + 11) + rmh.locals ≤ 428 by omega⟩) (mw_preS hC hw) rfl rfl hl.1 rfl (lv_room (Nat.le_of_ble_eq_true rfl)) dL_law_602 ⟨show cl + mc ≤ 601024 by omega, show sl + ms ≤ 7293034 by omega⟩) (fun H locs hz9 hw => ?_)
  refine lv_istore (lv' := [(5, .int (nI (k))), (0, .ref (b)), (1, .ref (x)), (2, .ref (mh)), (3, .ref (o)), (4, .int (nI (i)))]) hx hb dL_law_605 hl (by decide) rfl (fun ls hl => ?_)
  refine lv_aload_n hx hb dL_law_607 rfl (lv_at hl 3 rfl) ?_
  refine lv_aload_n hx hb dL_law_608 rfl (lv_at hl 1 rfl) ?_
  refine lv_iload hx hb dL_law_609 (lv_at hl 5 rfl) ?_
  refine lv_iconst (v := nI 1) hx hb dL_law_611 (by decide) ?_
  refine lv_iadd hx hb dL_law_612 ?_
  refine mw_ti (v' := nI (i + 1)) (nI_add _ _) ?_
  refine mw_sld hx hb hX hbl hbA hw (i := i + 1) (by omega) (by omega) dL_law_613 ?_
  refine lv_aload_n hx hb dL_law_614 rfl (lv_at hl 1 rfl) ?_
  refine lv_iload hx hb dL_law_615 (lv_at hl 5 rfl) ?_
  refine lv_iconst (v := nI 2) hx hb dL_law_617 (by decide) ?_
  refine lv_iadd hx hb dL_law_618 ?_
  refine mw_ti (v' := nI (i + 2)) (nI_add _ _) ?_
  refine mw_sld hx hb hX hbl hbA hw (i := i + 2) (by omega) (by omega) dL_law_619 ?_
  refine md_ci hC hw (va_runV (As := [.int (xs (i + 1)), .int (xs (i + 2))]) (rest := []) ⟨hx, hb, hml, hown, hts⟩ (hm H.size) (cwV 2 hts gw_X7_about rfl hrc2 hrs2 (by decide +kernel) ⟨show rm2.frames + 1 ≤ 12 by omega, show 8 + (3 + 11) + rm2.locals ≤ 428 by omega⟩) (mw_preV (ci := 7) hC hw rfl hmd.1) rfl rfl hl.1 rfl (lv_room (Nat.le_of_ble_eq_true rfl)) dL_law_620 ⟨show cl + mc + 0 ≤ 601024 by omega, show sl + ms + 0 ≤ 7293034 by omega⟩) (fun M2 H locs hm2 hf2 hw => ?_)
  refine lv_istore (lv' := [(6, .int (r)), (5, .int (nI (k))), (0, .ref (b)), (1, .ref (x)), (2, .ref (mh)), (3, .ref (o)), (4, .int (nI (i)))]) hx hb dL_law_623 hl (by decide) rfl (fun ls hl => ?_)
  refine lv_goto (tgt := 664) hx hb dL_law_625 (by decide) ?_
  refine W.widen (k := cl + 1) (n := sl + 6) (show cl + mc + 0 ≤ cl + 1 by omega) (show sl + ms + 0 ≤ sl + 6 by omega) ?_
  exact kk M2 H locs ls hm2 hf2 hw (lv_sub hl [2, 3, 4, 5, 6] rfl)
set_option maxHeartbeats 4000000 in
set_option maxRecDepth 100000 in
theorem lp_restart {p : Program} {e : Env} {s : State} {m : MethodId} {below : List Frame} {meth : Method} {c : Code} (l : Launch) {b L : Nat} {xs : Nat → Int32} {G : mw_G} {Q : State → Prop} (C0 : lw_At p s m meth c b L xs) (hL : L ≤ 4096) (hC : mw_C G (lw_A s) s) {i : Nat} (hi : i + 6 ≤ L) {cl sl : Nat} (hcl : cl + 1 ≤ 601024) (hsl : sl + 6 ≤ 7293034) {x mh o : Nat} {M M1 : mw_M} {H : Heap} {locs : List Loc} {ls : Array Slot} (hw : mw_St G (lw_A s) s M H locs) (hl : lv_has ls 7 [(0, .ref (b)), (1, .ref (x)), (2, .ref (mh)), (3, .ref (o)), (4, .int (nI (i)))])
    {rmh : Room} {mc ms k : Nat} (hrc : rmh.cells = mc) (hrs : rmh.slots = ms) (hF : rmh.frames ≤ 10) (hLo : rmh.locals ≤ 245) (hmc : mc ≤ 1) (hms : ms ≤ 6) (hk : k ≤ 2) (hc : ∀ sz, Met l yL_restart wsL_restart rmh (mw_pre G M sz [.ref (x), .int (xs (i + 1))]) (mw_Qi G M sz (nI (k)) M1) mc ms (mw_A M sz))
    {a : Nat → Nat} {c1 u1 u2 : Nat} {A1 A2 : md_S} (hmd : md_at G M1 mh a c1 u1 A1) {rm2 : Room} (hrc2 : rm2.cells = 0) (hrs2 : rm2.slots = 0) (hF2 : rm2.frames ≤ 10) (hLo2 : rm2.locals ≤ 245) (hm : ∀ sz, Met l yX7_restart wsX7_restart rm2 (mw_pre G M1 sz [.ref (mh), .int (xs (i + 1))]) (md_Qv G M1 sz mh a k u2 A2) 0 0 (mw_A M1 sz))
    (kk : ∀ (M2 : mw_M) (H : Heap) (locs : List Loc) (ls : Array Slot), md_at G M2 mh a k u2 A2 → md_fr mh a M1 M2 → mw_St G (lw_A s) s M2 H locs → lv_has ls 7 [(0, .ref (b)), (1, .ref (x)), (2, .ref (mh)), (3, .ref (o)), (4, .int (nI (i)))] → W p l e room_1 s m #[Value.ref b] below meth c H locs (cl + 1) (sl + 6) Q (F0 m 664 ls [])) : W p l e room_1 s m #[Value.ref b] below meth c H locs cl sl Q (F0 m 628 ls []) := by
  obtain ⟨hx, hb, hr, hml, hown, hts, hX, hbl, hlocks, hgv⟩ := C0
  have hbA : ¬ lw_A s b := Nat.not_le.mpr hbl
  refine lv_aload_n hx hb dL_law_628 rfl (lv_at hl 1 rfl) ?_
  refine lv_aload_n hx hb dL_law_629 rfl (lv_at hl 0 rfl) ?_
  refine lv_iload hx hb dL_law_630 (lv_at hl 4 rfl) ?_
  refine lv_iconst (v := nI 1) hx hb dL_law_632 (by decide) ?_
  refine lv_iadd hx hb dL_law_633 ?_
  refine mw_ti (v' := nI (i + 1)) (nI_add _ _) ?_
  refine mw_sld hx hb hX hbl hbA hw (i := i + 1) (by omega) (by omega) dL_law_634 ?_
  refine mw_ci hC hw (vx_runSW (As := [.ref (x), .int (xs (i + 1))]) (rest := []) ⟨hx, hb, hml, hown, hts⟩ (hc H.size) (vx_cwSW 2 hts gw_L_restart rfl hrc hrs (by decide +kernel) ⟨show rmh.frames + 1 ≤ 12 by omega, show 8 + (3 + 11) + rmh.locals ≤ 428 by omega⟩) (mw_preS hC hw) rfl rfl hl.1 rfl (lv_room (Nat.le_of_ble_eq_true rfl)) dL_law_635 ⟨show cl + mc ≤ 601024 by omega, show sl + ms ≤ 7293034 by omega⟩) (fun H locs hz9 hw => ?_)
  refine lv_istore (lv' := [(5, .int (nI (k))), (0, .ref (b)), (1, .ref (x)), (2, .ref (mh)), (3, .ref (o)), (4, .int (nI (i)))]) hx hb dL_law_638 hl (by decide) rfl (fun ls hl => ?_)
  refine lv_aload_n hx hb dL_law_640 rfl (lv_at hl 3 rfl) ?_
  refine lv_aload_n hx hb dL_law_641 rfl (lv_at hl 1 rfl) ?_
  refine lv_iload hx hb dL_law_642 (lv_at hl 5 rfl) ?_
  refine lv_iconst (v := nI 1) hx hb dL_law_644 (by decide) ?_
  refine lv_iadd hx hb dL_law_645 ?_
  refine mw_ti (v' := nI (i + 1)) (nI_add _ _) ?_
  refine mw_sld hx hb hX hbl hbA hw (i := i + 1) (by omega) (by omega) dL_law_646 ?_
  refine md_cv hC hw (va_runV (As := [.int (xs (i + 1))]) (rest := []) ⟨hx, hb, hml, hown, hts⟩ (hm H.size) (cwV 1 hts gw_X7_restart rfl hrc2 hrs2 (by decide +kernel) ⟨show rm2.frames + 1 ≤ 12 by omega, show 8 + (2 + 11) + rm2.locals ≤ 428 by omega⟩) (mw_preV (ci := 7) hC hw rfl hmd.1) rfl rfl hl.1 rfl (lv_room (Nat.le_of_ble_eq_true rfl)) dL_law_647 ⟨show cl + mc + 0 ≤ 601024 by omega, show sl + ms + 0 ≤ 7293034 by omega⟩) (fun M2 H locs hm2 hf2 hw => ?_)
  refine lv_aload_n hx hb dL_law_650 rfl (lv_at hl 3 rfl) ?_
  refine md_ci hC hw (va_runV (As := []) (rest := []) ⟨hx, hb, hml, hown, hts⟩ (c_X7_thrown l G _ H.size mh a k u2 A2 hm2) (cwV 0 hts gw_X7_thrown rfl rfl rfl (by decide +kernel) ⟨Nat.le_of_ble_eq_true rfl, Nat.le_of_ble_eq_true rfl⟩) (mw_preV (ci := 7) hC hw rfl hm2.1) rfl rfl hl.1 rfl (lv_room (Nat.le_of_ble_eq_true rfl)) dL_law_651 ⟨show cl + mc + 0 + 0 ≤ 601024 by omega, show sl + ms + 0 + 0 ≤ 7293034 by omega⟩) (fun M2 H locs hm2 hf3 hw => ?_)
  have hf2 := hf2.tr hf3
  refine lv_iload hx hb dL_law_654 (lv_at hl 0 rfl) ?_
  refine lv_icmp_eq (tgt := 661) hx hb dL_law_656 (by decide) (fun _ => ?_) (fun h9 => absurd rfl h9)
  refine lv_goto (tgt := 664) hx hb dL_law_661 (by decide) ?_
  refine W.widen (k := cl + 1) (n := sl + 6) (show cl + mc + 0 + 0 ≤ cl + 1 by omega) (show sl + ms + 0 + 0 ≤ sl + 6 by omega) ?_
  exact kk M2 H locs ls hm2 hf2 hw (lv_sub hl [1, 2, 3, 4, 5] rfl)
