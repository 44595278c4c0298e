/-! ===== the law's pieces ===== -/
def lw_A (s : State) : Nat → Prop := fun q => s.heap.size ≤ q
def lw_w (xs : Nat → Int32) (j : Nat) : Int64 := ((xs j).toInt64 <<< ((nI 32).toInt64 &&& 63)) ||| ((xs (j + 1)).toInt64 &&& 4294967295)
theorem mw_sld {p : Program} {l : Launch} {e : Env} {R : Room} {s : State} {m : MethodId} {args : Array Value} {below : List Frame} {meth : Method} {c : Code} {H : Heap} {locs : List Loc} {cells slots : Nat} {Q : State → Prop} {cc : ByteArray} {pc : Nat} {ls : Array Slot} {rest : List Value} {G : mw_G} {A : Nat → Prop} {M : mw_M} (hexec : p.tables.exec = Jvm.exec) (hb : c.code = cc) {b L : Nat} {xs : Nat → Int32} (hX : va_X b L xs s s.heap) (hbl : b < s.heap.size) (hbA : ¬ A b) (hw : mw_St G A s M H locs) {i : Nat} (hi : i < L) (hL : L < 2 ^ 31) (hdg : decode cc pc = .ok (.iaload, 1))
    (kk : W p l e R s m args below meth c H locs cells slots Q (F0 m (pc + 1) ls (.int (xs i) :: rest))) : W p l e R s m args below meth c H locs cells slots Q (F0 m pc ls (.int (nI i) :: .ref b :: rest)) := by
  refine va_sld hexec hb hX hbl hbA hw.2.2 (vp_in_nI hi hL) hdg ?_
  rw [nI_clamp (by omega)]
  exact kk
set_option maxHeartbeats 4000000 in
set_option maxRecDepth 100000 in
theorem lp_put {p : Program} {e : Env} {s : State} {m : MethodId} {below : List Frame} {meth : Method} {c : Code} (l : Launch) {b L : Nat} {xs : Nat → Int32} {G : mw_G} {Q : State → Prop} (C0 : lw_At p s m meth c b L xs) (hL : L ≤ 4096) (hC : mw_C G (lw_A s) s) {i : Nat} (hi : i + 6 ≤ L) {cl sl : Nat} (hcl : cl + 1 ≤ 600002) (hsl : sl + 6 ≤ 7302232) {x mh o : Nat} {M M1 : mw_M} {H : Heap} {locs : List Loc} {ls : Array Slot} (hw : mw_St G (lw_A s) s M H locs) (hl : lv_has ls 7 [(0, .ref (b)), (1, .ref (x)), (2, .ref (mh)), (3, .ref (o)), (4, .int (nI (i)))])
    {rmh : Room} {mc ms k : Nat} (hrc : rmh.cells = mc) (hrs : rmh.slots = ms) (hF : rmh.frames ≤ 10) (hLo : rmh.locals ≤ 245) (hmc : mc ≤ 1) (hms : ms ≤ 6) (hk : k ≤ 2) (hc : ∀ sz, Met l yL_put wsL_put rmh (mw_pre G M sz [.ref (x), .int (xs (i + 1)), .int (xs (i + 2)), .int (xs (i + 3)), .ref (o)]) (mw_Qi G M sz (nI (k)) M1) mc ms (mw_A M sz))
    {a : Nat → Nat} {c1 u1 u2 : Nat} {A1 A2 : md_S} (hmd : md_at G M1 mh a c1 u1 A1) {r : Int32} {ov : Nat → Int64} (eo : M1 o = some (.inl (G.2 2, 1, .inr (.inl (ov))))) (heq : k = 0 → ov 0 = r.toInt64) {rm2 : Room} (hrc2 : rm2.cells = 0) (hrs2 : rm2.slots = 0) (hF2 : rm2.frames ≤ 10) (hLo2 : rm2.locals ≤ 245) (hm : ∀ sz, Met l yX7_put wsX7_put rm2 (mw_pre G M1 sz [.ref (mh), .int (xs (i + 1)), .int (xs (i + 2)), .int (xs (i + 3))]) (md_Qi G M1 sz mh a r k u2 A2) 0 0 (mw_A M1 sz))
    (kk : ∀ (M2 : mw_M) (H : Heap) (locs : List Loc) (ls : Array Slot), md_at G M2 mh a k u2 A2 → md_fr mh a M1 M2 → mw_St G (lw_A s) s M2 H locs → lv_has ls 7 [(0, .ref (b)), (1, .ref (x)), (2, .ref (mh)), (3, .ref (o)), (4, .int (nI (i)))] → W p l e room_1 s m #[Value.ref b] below meth c H locs (cl + 1) (sl + 6) Q (F0 m 944 ls [])) : W p l e room_1 s m #[Value.ref b] below meth c H locs cl sl Q (F0 m 100 ls []) := by
  obtain ⟨hx, hb, hr, hml, hown, hts, hX, hbl, hlocks, hgv⟩ := C0
  have hbA : ¬ lw_A s b := Nat.not_le.mpr hbl
  refine lv_aload_n hx hb dL_law_100 rfl (lv_at hl 1 rfl) ?_
  refine lv_aload_n hx hb dL_law_101 rfl (lv_at hl 0 rfl) ?_
  refine lv_iload hx hb dL_law_102 (lv_at hl 4 rfl) ?_
  refine lv_iconst (v := nI 1) hx hb dL_law_104 (by decide) ?_
  refine lv_iadd hx hb dL_law_105 ?_
  refine mw_ti (v' := nI (i + 1)) (nI_add _ _) ?_
  refine mw_sld hx hb hX hbl hbA hw (i := i + 1) (by omega) (by omega) dL_law_106 ?_
  refine lv_aload_n hx hb dL_law_107 rfl (lv_at hl 0 rfl) ?_
  refine lv_iload hx hb dL_law_108 (lv_at hl 4 rfl) ?_
  refine lv_iconst (v := nI 2) hx hb dL_law_110 (by decide) ?_
  refine lv_iadd hx hb dL_law_111 ?_
  refine mw_ti (v' := nI (i + 2)) (nI_add _ _) ?_
  refine mw_sld hx hb hX hbl hbA hw (i := i + 2) (by omega) (by omega) dL_law_112 ?_
  refine lv_aload_n hx hb dL_law_113 rfl (lv_at hl 0 rfl) ?_
  refine lv_iload hx hb dL_law_114 (lv_at hl 4 rfl) ?_
  refine lv_iconst (v := nI 3) hx hb dL_law_116 (by decide) ?_
  refine lv_iadd hx hb dL_law_117 ?_
  refine mw_ti (v' := nI (i + 3)) (nI_add _ _) ?_
  refine mw_sld hx hb hX hbl hbA hw (i := i + 3) (by omega) (by omega) dL_law_118 ?_
  refine lv_aload_n hx hb dL_law_119 rfl (lv_at hl 3 rfl) ?_
  refine mw_ci hC hw (vx_runSW (As := [.ref (x), .int (xs (i + 1)), .int (xs (i + 2)), .int (xs (i + 3)), .ref (o)]) (rest := []) ⟨hx, hb, hml, hown, hts⟩ (hc H.size) (vx_cwSW 5 hts gw_L_put rfl hrc hrs (by decide +kernel) ⟨show rmh.frames + 1 ≤ 12 by omega, show 8 + (6 + 11) + rmh.locals ≤ 428 by omega⟩) (mw_preS hC hw) rfl rfl hl.1 rfl (lv_room (Nat.le_of_ble_eq_true rfl)) dL_law_120 ⟨show cl + mc ≤ 600002 by omega, show sl + ms ≤ 7302232 by omega⟩) (fun H locs hz9 hw => ?_)
  refine lv_istore (lv' := [(5, .int (nI (k))), (0, .ref (b)), (1, .ref (x)), (2, .ref (mh)), (3, .ref (o)), (4, .int (nI (i)))]) hx hb dL_law_123 hl (by decide) rfl (fun ls hl => ?_)
  refine lv_aload_n hx hb dL_law_125 rfl (lv_at hl 3 rfl) ?_
  refine lv_aload_n hx hb dL_law_126 rfl (lv_at hl 1 rfl) ?_
  refine lv_iload hx hb dL_law_127 (lv_at hl 5 rfl) ?_
  refine lv_iconst (v := nI 1) hx hb dL_law_129 (by decide) ?_
  refine lv_iadd hx hb dL_law_130 ?_
  refine mw_ti (v' := nI (i + 1)) (nI_add _ _) ?_
  refine mw_sld hx hb hX hbl hbA hw (i := i + 1) (by omega) (by omega) dL_law_131 ?_
  refine lv_aload_n hx hb dL_law_132 rfl (lv_at hl 1 rfl) ?_
  refine lv_iload hx hb dL_law_133 (lv_at hl 5 rfl) ?_
  refine lv_iconst (v := nI 2) hx hb dL_law_135 (by decide) ?_
  refine lv_iadd hx hb dL_law_136 ?_
  refine mw_ti (v' := nI (i + 2)) (nI_add _ _) ?_
  refine mw_sld hx hb hX hbl hbA hw (i := i + 2) (by omega) (by omega) dL_law_137 ?_
  refine lv_aload_n hx hb dL_law_138 rfl (lv_at hl 1 rfl) ?_
  refine lv_iload hx hb dL_law_139 (lv_at hl 5 rfl) ?_
  refine lv_iconst (v := nI 3) hx hb dL_law_141 (by decide) ?_
  refine lv_iadd hx hb dL_law_142 ?_
  refine mw_ti (v' := nI (i + 3)) (nI_add _ _) ?_
  refine mw_sld hx hb hX hbl hbA hw (i := i + 3) (by omega) (by omega) dL_law_143 ?_
  refine md_ci hC hw (va_runV (As := [.int (xs (i + 1)), .int (xs (i + 2)), .int (xs (i + 3))]) (rest := []) ⟨hx, hb, hml, hown, hts⟩ (hm H.size) (cwV 3 hts gw_X7_put rfl hrc2 hrs2 (by decide +kernel) ⟨show rm2.frames + 1 ≤ 12 by omega, show 8 + (5 + 11) + rm2.locals ≤ 428 by omega⟩) (mw_preV (ci := 7) hC hw rfl hmd.1) rfl rfl hl.1 rfl (lv_room (Nat.le_of_ble_eq_true rfl)) dL_law_144 ⟨show cl + mc + 0 ≤ 600002 by omega, show sl + ms + 0 ≤ 7302232 by omega⟩) (fun M2 H locs hm2 hf2 hw => ?_)
  refine lv_istore (lv' := [(6, .int (r)), (5, .int (nI (k))), (0, .ref (b)), (1, .ref (x)), (2, .ref (mh)), (3, .ref (o)), (4, .int (nI (i)))]) hx hb dL_law_147 hl (by decide) rfl (fun ls hl => ?_)
  refine lv_aload_n hx hb dL_law_149 rfl (lv_at hl 4 rfl) ?_
  refine md_ci hC hw (va_runV (As := []) (rest := []) ⟨hx, hb, hml, hown, hts⟩ (c_X7_thrown l G _ H.size mh a k u2 A2 hm2) (cwV 0 hts gw_X7_thrown rfl rfl rfl (by decide +kernel) ⟨Nat.le_of_ble_eq_true rfl, Nat.le_of_ble_eq_true rfl⟩) (mw_preV (ci := 7) hC hw rfl hm2.1) rfl rfl hl.1 rfl (lv_room (Nat.le_of_ble_eq_true rfl)) dL_law_150 ⟨show cl + mc + 0 + 0 ≤ 600002 by omega, show sl + ms + 0 + 0 ≤ 7302232 by omega⟩) (fun M2 H locs hm2 hf3 hw => ?_)
  have hf2 := hf2.tr hf3
  have eo2 := (hf2 o (mw_ne eo hmd.1 (by intro h9; cases h9)) (fun j hj => mw_ne eo (hmd.2.1 j hj) (by simp [md_arr]))).trans eo
  refine lv_iload hx hb dL_law_153 (lv_at hl 1 rfl) ?_
  refine lv_icmp_eq (tgt := 160) hx hb dL_law_155 (by decide) (fun _ => ?_) (fun h9 => absurd rfl h9)
  refine lv_iload hx hb dL_law_160 (lv_at hl 1 rfl) ?_
  refine lv_if_ne (tgt := 177) hx hb dL_law_162 (by decide) (fun hk0 => ?_) (fun hk0 => ?_)
  · skip
    refine lv_goto (tgt := 944) hx hb dL_law_177 (by decide) ?_
    refine W.widen (k := cl + 1) (n := sl + 6) (show cl + mc + 0 + 0 ≤ cl + 1 by omega) (show sl + ms + 0 + 0 ≤ sl + 6 by omega) ?_
    exact kk M2 H locs ls hm2 hf2 hw (lv_sub hl [2, 3, 4, 5, 6] rfl)
  · skip
    have hk0 : k = 0 := (nI_eq (a := k) (b := 0) (by omega) (by omega)).mp (show nI k = nI 0 from hk0)
    refine lv_aload_n hx hb dL_law_165 rfl (lv_at hl 5 rfl) ?_
    refine lv_iconst (v := nI 0) hx hb dL_law_166 (by decide) ?_
    refine mw_laldN (n := 1) (f := ov) (i := 0) hx hb hC hw eo2 (by omega) (by decide) dL_law_167 ?_
    refine lv_iload hx hb dL_law_168 (lv_at hl 0 rfl) ?_
    refine lv_i2l hx hb dL_law_170 rfl ?_
    refine W.lcmp hx hb dL_law_171 ?_
    refine lv_if_eq (tgt := 177) hx hb dL_law_172 (by decide) (fun c_1 => ?_) (fun c_1 => ?_)
    · skip
      refine lv_goto (tgt := 944) hx hb dL_law_177 (by decide) ?_
      refine W.widen (k := cl + 1) (n := sl + 6) (show cl + mc + 0 + 0 ≤ cl + 1 by omega) (show sl + ms + 0 + 0 ≤ sl + 6 by omega) ?_
      exact kk M2 H locs ls hm2 hf2 hw (lv_sub hl [2, 3, 4, 5, 6] rfl)
    · exact absurd ((lg_cmp_eq _ _).mpr (heq hk0)) c_1
set_option maxHeartbeats 4000000 in
set_option maxRecDepth 100000 in
theorem lp_send {p : Program} {e : Env} {s : State} {m : MethodId} {below : List Frame} {meth : Method} {c : Code} (l : Launch) {b L : Nat} {xs : Nat → Int32} {G : mw_G} {Q : State → Prop} (C0 : lw_At p s m meth c b L xs) (hL : L ≤ 4096) (hC : mw_C G (lw_A s) s) {i : Nat} (hi : i + 6 ≤ L) {cl sl : Nat} (hcl : cl + 1 ≤ 600002) (hsl : sl + 6 ≤ 7302232) {x mh o : Nat} {M M1 : mw_M} {H : Heap} {locs : List Loc} {ls : Array Slot} (hw : mw_St G (lw_A s) s M H locs) (hl : lv_has ls 7 [(0, .ref (b)), (1, .ref (x)), (2, .ref (mh)), (3, .ref (o)), (4, .int (nI (i)))])
    {rmh : Room} {mc ms k : Nat} (hrc : rmh.cells = mc) (hrs : rmh.slots = ms) (hF : rmh.frames ≤ 10) (hLo : rmh.locals ≤ 245) (hmc : mc ≤ 1) (hms : ms ≤ 6) (hk : k ≤ 2) (hc : ∀ sz, Met l yL_send wsL_send rmh (mw_pre G M sz [.ref (x), .int (xs (i + 1)), .ref (o)]) (mw_Qi G M sz (nI (k)) M1) mc ms (mw_A M sz))
    {a : Nat → Nat} {c1 u1 u2 : Nat} {A1 A2 : md_S} (hmd : md_at G M1 mh a c1 u1 A1) {r : Int32} {ov : Nat → Int64} (eo : M1 o = some (.inl (G.2 2, 1, .inr (.inl (ov))))) (heq : k = 0 → ov 0 = r.toInt64) {rm2 : Room} (hrc2 : rm2.cells = 0) (hrs2 : rm2.slots = 0) (hF2 : rm2.frames ≤ 10) (hLo2 : rm2.locals ≤ 245) (hm : ∀ sz, Met l yX7_send wsX7_send rm2 (mw_pre G M1 sz [.ref (mh), .int (xs (i + 1))]) (md_Qi G M1 sz mh a r k u2 A2) 0 0 (mw_A M1 sz))
    (kk : ∀ (M2 : mw_M) (H : Heap) (locs : List Loc) (ls : Array Slot), md_at G M2 mh a k u2 A2 → md_fr mh a M1 M2 → mw_St G (lw_A s) s M2 H locs → lv_has ls 7 [(0, .ref (b)), (1, .ref (x)), (2, .ref (mh)), (3, .ref (o)), (4, .int (nI (i)))] → W p l e room_1 s m #[Value.ref b] below meth c H locs (cl + 1) (sl + 6) Q (F0 m 944 ls [])) : W p l e room_1 s m #[Value.ref b] below meth c H locs cl sl Q (F0 m 180 ls []) := by
  obtain ⟨hx, hb, hr, hml, hown, hts, hX, hbl, hlocks, hgv⟩ := C0
  have hbA : ¬ lw_A s b := Nat.not_le.mpr hbl
  refine lv_aload_n hx hb dL_law_180 rfl (lv_at hl 1 rfl) ?_
  refine lv_aload_n hx hb dL_law_181 rfl (lv_at hl 0 rfl) ?_
  refine lv_iload hx hb dL_law_182 (lv_at hl 4 rfl) ?_
  refine lv_iconst (v := nI 1) hx hb dL_law_184 (by decide) ?_
  refine lv_iadd hx hb dL_law_185 ?_
  refine mw_ti (v' := nI (i + 1)) (nI_add _ _) ?_
  refine mw_sld hx hb hX hbl hbA hw (i := i + 1) (by omega) (by omega) dL_law_186 ?_
  refine lv_aload_n hx hb dL_law_187 rfl (lv_at hl 3 rfl) ?_
  refine mw_ci hC hw (vx_runSW (As := [.ref (x), .int (xs (i + 1)), .ref (o)]) (rest := []) ⟨hx, hb, hml, hown, hts⟩ (hc H.size) (vx_cwSW 3 hts gw_L_send rfl hrc hrs (by decide +kernel) ⟨show rmh.frames + 1 ≤ 12 by omega, show 8 + (4 + 11) + rmh.locals ≤ 428 by omega⟩) (mw_preS hC hw) rfl rfl hl.1 rfl (lv_room (Nat.le_of_ble_eq_true rfl)) dL_law_188 ⟨show cl + mc ≤ 600002 by omega, show sl + ms ≤ 7302232 by omega⟩) (fun H locs hz9 hw => ?_)
  refine lv_istore (lv' := [(5, .int (nI (k))), (0, .ref (b)), (1, .ref (x)), (2, .ref (mh)), (3, .ref (o)), (4, .int (nI (i)))]) hx hb dL_law_191 hl (by decide) rfl (fun ls hl => ?_)
  refine lv_aload_n hx hb dL_law_193 rfl (lv_at hl 3 rfl) ?_
  refine lv_aload_n hx hb dL_law_194 rfl (lv_at hl 1 rfl) ?_
  refine lv_iload hx hb dL_law_195 (lv_at hl 5 rfl) ?_
  refine lv_iconst (v := nI 1) hx hb dL_law_197 (by decide) ?_
  refine lv_iadd hx hb dL_law_198 ?_
  refine mw_ti (v' := nI (i + 1)) (nI_add _ _) ?_
  refine mw_sld hx hb hX hbl hbA hw (i := i + 1) (by omega) (by omega) dL_law_199 ?_
  refine md_ci hC hw (va_runV (As := [.int (xs (i + 1))]) (rest := []) ⟨hx, hb, hml, hown, hts⟩ (hm H.size) (cwV 1 hts gw_X7_send rfl hrc2 hrs2 (by decide +kernel) ⟨show rm2.frames + 1 ≤ 12 by omega, show 8 + (5 + 11) + rm2.locals ≤ 428 by omega⟩) (mw_preV (ci := 7) hC hw rfl hmd.1) rfl rfl hl.1 rfl (lv_room (Nat.le_of_ble_eq_true rfl)) dL_law_200 ⟨show cl + mc + 0 ≤ 600002 by omega, show sl + ms + 0 ≤ 7302232 by omega⟩) (fun M2 H locs hm2 hf2 hw => ?_)
  refine lv_istore (lv' := [(6, .int (r)), (5, .int (nI (k))), (0, .ref (b)), (1, .ref (x)), (2, .ref (mh)), (3, .ref (o)), (4, .int (nI (i)))]) hx hb dL_law_203 hl (by decide) rfl (fun ls hl => ?_)
  refine lv_aload_n hx hb dL_law_205 rfl (lv_at hl 4 rfl) ?_
  refine md_ci hC hw (va_runV (As := []) (rest := []) ⟨hx, hb, hml, hown, hts⟩ (c_X7_thrown l G _ H.size mh a k u2 A2 hm2) (cwV 0 hts gw_X7_thrown rfl rfl rfl (by decide +kernel) ⟨Nat.le_of_ble_eq_true rfl, Nat.le_of_ble_eq_true rfl⟩) (mw_preV (ci := 7) hC hw rfl hm2.1) rfl rfl hl.1 rfl (lv_room (Nat.le_of_ble_eq_true rfl)) dL_law_206 ⟨show cl + mc + 0 + 0 ≤ 600002 by omega, show sl + ms + 0 + 0 ≤ 7302232 by omega⟩) (fun M2 H locs hm2 hf3 hw => ?_)
  have hf2 := hf2.tr hf3
  have eo2 := (hf2 o (mw_ne eo hmd.1 (by intro h9; cases h9)) (fun j hj => mw_ne eo (hmd.2.1 j hj) (by simp [md_arr]))).trans eo
  refine lv_iload hx hb dL_law_209 (lv_at hl 1 rfl) ?_
  refine lv_icmp_eq (tgt := 216) hx hb dL_law_211 (by decide) (fun _ => ?_) (fun h9 => absurd rfl h9)
  refine lv_iload hx hb dL_law_216 (lv_at hl 1 rfl) ?_
  refine lv_if_ne (tgt := 233) hx hb dL_law_218 (by decide) (fun hk0 => ?_) (fun hk0 => ?_)
  · skip
    refine lv_goto (tgt := 944) hx hb dL_law_233 (by decide) ?_
    refine W.widen (k := cl + 1) (n := sl + 6) (show cl + mc + 0 + 0 ≤ cl + 1 by omega) (show sl + ms + 0 + 0 ≤ sl + 6 by omega) ?_
    exact kk M2 H locs ls hm2 hf2 hw (lv_sub hl [2, 3, 4, 5, 6] rfl)
  · skip
    have hk0 : k = 0 := (nI_eq (a := k) (b := 0) (by omega) (by omega)).mp (show nI k = nI 0 from hk0)
    refine lv_aload_n hx hb dL_law_221 rfl (lv_at hl 5 rfl) ?_
    refine lv_iconst (v := nI 0) hx hb dL_law_222 (by decide) ?_
    refine mw_laldN (n := 1) (f := ov) (i := 0) hx hb hC hw eo2 (by omega) (by decide) dL_law_223 ?_
    refine lv_iload hx hb dL_law_224 (lv_at hl 0 rfl) ?_
    refine lv_i2l hx hb dL_law_226 rfl ?_
    refine W.lcmp hx hb dL_law_227 ?_
    refine lv_if_eq (tgt := 233) hx hb dL_law_228 (by decide) (fun c_1 => ?_) (fun c_1 => ?_)
    · skip
      refine lv_goto (tgt := 944) hx hb dL_law_233 (by decide) ?_
      refine W.widen (k := cl + 1) (n := sl + 6) (show cl + mc + 0 + 0 ≤ cl + 1 by omega) (show sl + ms + 0 + 0 ≤ sl + 6 by omega) ?_
      exact kk M2 H locs ls hm2 hf2 hw (lv_sub hl [2, 3, 4, 5, 6] rfl)
    · exact absurd ((lg_cmp_eq _ _).mpr (heq hk0)) c_1
set_option maxHeartbeats 4000000 in
set_option maxRecDepth 100000 in
theorem lp_take {p : Program} {e : Env} {s : State} {m : MethodId} {below : List Frame} {meth : Method} {c : Code} (l : Launch) {b L : Nat} {xs : Nat → Int32} {G : mw_G} {Q : State → Prop} (C0 : lw_At p s m meth c b L xs) (hL : L ≤ 4096) (hC : mw_C G (lw_A s) s) {i : Nat} (hi : i + 6 ≤ L) {cl sl : Nat} (hcl : cl + 1 ≤ 600002) (hsl : sl + 6 ≤ 7302232) {x mh o : Nat} {M M1 : mw_M} {H : Heap} {locs : List Loc} {ls : Array Slot} (hw : mw_St G (lw_A s) s M H locs) (hl : lv_has ls 7 [(0, .ref (b)), (1, .ref (x)), (2, .ref (mh)), (3, .ref (o)), (4, .int (nI (i)))])
    {rmh : Room} {mc ms k : Nat} (hrc : rmh.cells = mc) (hrs : rmh.slots = ms) (hF : rmh.frames ≤ 10) (hLo : rmh.locals ≤ 245) (hmc : mc ≤ 1) (hms : ms ≤ 6) (hk : k ≤ 2) (hc : ∀ sz, Met l yL_take wsL_take rmh (mw_pre G M sz [.ref (x), .int (xs (i + 1)), .ref (o)]) (mw_Qi G M sz (nI (k)) M1) mc ms (mw_A M sz))
    {a : Nat → Nat} {c1 u1 u2 : Nat} {A1 A2 : md_S} (hmd : md_at G M1 mh a c1 u1 A1) {r : Int32} {ov : Nat → Int64} (eo : M1 o = some (.inl (G.2 2, 1, .inr (.inl (ov))))) (heq : k = 0 → ov 0 = r.toInt64) {rm2 : Room} (hrc2 : rm2.cells = 0) (hrs2 : rm2.slots = 0) (hF2 : rm2.frames ≤ 10) (hLo2 : rm2.locals ≤ 245) (hm : ∀ sz, Met l yX7_take wsX7_take rm2 (mw_pre G M1 sz [.ref (mh), .int (xs (i + 1))]) (md_Qi G M1 sz mh a r k u2 A2) 0 0 (mw_A M1 sz))
    (kk : ∀ (M2 : mw_M) (H : Heap) (locs : List Loc) (ls : Array Slot), md_at G M2 mh a k u2 A2 → md_fr mh a M1 M2 → mw_St G (lw_A s) s M2 H locs → lv_has ls 7 [(0, .ref (b)), (1, .ref (x)), (2, .ref (mh)), (3, .ref (o)), (4, .int (nI (i)))] → W p l e room_1 s m #[Value.ref b] below meth c H locs (cl + 1) (sl + 6) Q (F0 m 944 ls [])) : W p l e room_1 s m #[Value.ref b] below meth c H locs cl sl Q (F0 m 236 ls []) := by
  obtain ⟨hx, hb, hr, hml, hown, hts, hX, hbl, hlocks, hgv⟩ := C0
  have hbA : ¬ lw_A s b := Nat.not_le.mpr hbl
  refine lv_aload_n hx hb dL_law_236 rfl (lv_at hl 1 rfl) ?_
  refine lv_aload_n hx hb dL_law_237 rfl (lv_at hl 0 rfl) ?_
  refine lv_iload hx hb dL_law_238 (lv_at hl 4 rfl) ?_
  refine lv_iconst (v := nI 1) hx hb dL_law_240 (by decide) ?_
  refine lv_iadd hx hb dL_law_241 ?_
  refine mw_ti (v' := nI (i + 1)) (nI_add _ _) ?_
  refine mw_sld hx hb hX hbl hbA hw (i := i + 1) (by omega) (by omega) dL_law_242 ?_
  refine lv_aload_n hx hb dL_law_243 rfl (lv_at hl 3 rfl) ?_
  refine mw_ci hC hw (vx_runSW (As := [.ref (x), .int (xs (i + 1)), .ref (o)]) (rest := []) ⟨hx, hb, hml, hown, hts⟩ (hc H.size) (vx_cwSW 3 hts gw_L_take rfl hrc hrs (by decide +kernel) ⟨show rmh.frames + 1 ≤ 12 by omega, show 8 + (4 + 11) + rmh.locals ≤ 428 by omega⟩) (mw_preS hC hw) rfl rfl hl.1 rfl (lv_room (Nat.le_of_ble_eq_true rfl)) dL_law_244 ⟨show cl + mc ≤ 600002 by omega, show sl + ms ≤ 7302232 by omega⟩) (fun H locs hz9 hw => ?_)
  refine lv_istore (lv' := [(5, .int (nI (k))), (0, .ref (b)), (1, .ref (x)), (2, .ref (mh)), (3, .ref (o)), (4, .int (nI (i)))]) hx hb dL_law_247 hl (by decide) rfl (fun ls hl => ?_)
  refine lv_aload_n hx hb dL_law_249 rfl (lv_at hl 3 rfl) ?_
  refine lv_aload_n hx hb dL_law_250 rfl (lv_at hl 1 rfl) ?_
  refine lv_iload hx hb dL_law_251 (lv_at hl 5 rfl) ?_
  refine lv_iconst (v := nI 1) hx hb dL_law_253 (by decide) ?_
  refine lv_iadd hx hb dL_law_254 ?_
  refine mw_ti (v' := nI (i + 1)) (nI_add _ _) ?_
  refine mw_sld hx hb hX hbl hbA hw (i := i + 1) (by omega) (by omega) dL_law_255 ?_
  refine md_ci hC hw (va_runV (As := [.int (xs (i + 1))]) (rest := []) ⟨hx, hb, hml, hown, hts⟩ (hm H.size) (cwV 1 hts gw_X7_take rfl hrc2 hrs2 (by decide +kernel) ⟨show rm2.frames + 1 ≤ 12 by omega, show 8 + (6 + 11) + rm2.locals ≤ 428 by omega⟩) (mw_preV (ci := 7) hC hw rfl hmd.1) rfl rfl hl.1 rfl (lv_room (Nat.le_of_ble_eq_true rfl)) dL_law_256 ⟨show cl + mc + 0 ≤ 600002 by omega, show sl + ms + 0 ≤ 7302232 by omega⟩) (fun M2 H locs hm2 hf2 hw => ?_)
  refine lv_istore (lv' := [(6, .int (r)), (5, .int (nI (k))), (0, .ref (b)), (1, .ref (x)), (2, .ref (mh)), (3, .ref (o)), (4, .int (nI (i)))]) hx hb dL_law_259 hl (by decide) rfl (fun ls hl => ?_)
  refine lv_aload_n hx hb dL_law_261 rfl (lv_at hl 4 rfl) ?_
  refine md_ci hC hw (va_runV (As := []) (rest := []) ⟨hx, hb, hml, hown, hts⟩ (c_X7_thrown l G _ H.size mh a k u2 A2 hm2) (cwV 0 hts gw_X7_thrown rfl rfl rfl (by decide +kernel) ⟨Nat.le_of_ble_eq_true rfl, Nat.le_of_ble_eq_true rfl⟩) (mw_preV (ci := 7) hC hw rfl hm2.1) rfl rfl hl.1 rfl (lv_room (Nat.le_of_ble_eq_true rfl)) dL_law_262 ⟨show cl + mc + 0 + 0 ≤ 600002 by omega, show sl + ms + 0 + 0 ≤ 7302232 by omega⟩) (fun M2 H locs hm2 hf3 hw => ?_)
  have hf2 := hf2.tr hf3
  have eo2 := (hf2 o (mw_ne eo hmd.1 (by intro h9; cases h9)) (fun j hj => mw_ne eo (hmd.2.1 j hj) (by simp [md_arr]))).trans eo
  refine lv_iload hx hb dL_law_265 (lv_at hl 1 rfl) ?_
  refine lv_icmp_eq (tgt := 272) hx hb dL_law_267 (by decide) (fun _ => ?_) (fun h9 => absurd rfl h9)
  refine lv_iload hx hb dL_law_272 (lv_at hl 1 rfl) ?_
  refine lv_if_ne (tgt := 289) hx hb dL_law_274 (by decide) (fun hk0 => ?_) (fun hk0 => ?_)
  · skip
    refine lv_goto (tgt := 944) hx hb dL_law_289 (by decide) ?_
    refine W.widen (k := cl + 1) (n := sl + 6) (show cl + mc + 0 + 0 ≤ cl + 1 by omega) (show sl + ms + 0 + 0 ≤ sl + 6 by omega) ?_
    exact kk M2 H locs ls hm2 hf2 hw (lv_sub hl [2, 3, 4, 5, 6] rfl)
  · skip
    have hk0 : k = 0 := (nI_eq (a := k) (b := 0) (by omega) (by omega)).mp (show nI k = nI 0 from hk0)
    refine lv_aload_n hx hb dL_law_277 rfl (lv_at hl 5 rfl) ?_
    refine lv_iconst (v := nI 0) hx hb dL_law_278 (by decide) ?_
    refine mw_laldN (n := 1) (f := ov) (i := 0) hx hb hC hw eo2 (by omega) (by decide) dL_law_279 ?_
    refine lv_iload hx hb dL_law_280 (lv_at hl 0 rfl) ?_
    refine lv_i2l hx hb dL_law_282 rfl ?_
    refine W.lcmp hx hb dL_law_283 ?_
    refine lv_if_eq (tgt := 289) hx hb dL_law_284 (by decide) (fun c_1 => ?_) (fun c_1 => ?_)
    · skip
      refine lv_goto (tgt := 944) hx hb dL_law_289 (by decide) ?_
      refine W.widen (k := cl + 1) (n := sl + 6) (show cl + mc + 0 + 0 ≤ cl + 1 by omega) (show sl + ms + 0 + 0 ≤ sl + 6 by omega) ?_
      exact kk M2 H locs ls hm2 hf2 hw (lv_sub hl [2, 3, 4, 5, 6] rfl)
    · exact absurd ((lg_cmp_eq _ _).mpr (heq hk0)) c_1
set_option maxHeartbeats 4000000 in
set_option maxRecDepth 100000 in
theorem lp_flip {p : Program} {e : Env} {s : State} {m : MethodId} {below : List Frame} {meth : Method} {c : Code} (l : Launch) {b L : Nat} {xs : Nat → Int32} {G : mw_G} {Q : State → Prop} (C0 : lw_At p s m meth c b L xs) (hL : L ≤ 4096) (hC : mw_C G (lw_A s) s) {i : Nat} (hi : i + 6 ≤ L) {cl sl : Nat} (hcl : cl + 1 ≤ 600002) (hsl : sl + 6 ≤ 7302232) {x mh o : Nat} {M M1 : mw_M} {H : Heap} {locs : List Loc} {ls : Array Slot} (hw : mw_St G (lw_A s) s M H locs) (hl : lv_has ls 7 [(0, .ref (b)), (1, .ref (x)), (2, .ref (mh)), (3, .ref (o)), (4, .int (nI (i)))])
    {rmh : Room} {mc ms k : Nat} (hrc : rmh.cells = mc) (hrs : rmh.slots = ms) (hF : rmh.frames ≤ 10) (hLo : rmh.locals ≤ 245) (hmc : mc ≤ 1) (hms : ms ≤ 6) (hk : k ≤ 2) (hc : ∀ sz, Met l yL_flip wsL_flip rmh (mw_pre G M sz [.ref (x), .int (xs (i + 1)), .int (xs (i + 2)), .int (xs (i + 3)), .ref (o)]) (mw_Qi G M sz (nI (k)) M1) mc ms (mw_A M sz))
    {a : Nat → Nat} {c1 u1 u2 : Nat} {A1 A2 : md_S} (hmd : md_at G M1 mh a c1 u1 A1) {r : Int32} {ov : Nat → Int64} (eo : M1 o = some (.inl (G.2 2, 1, .inr (.inl (ov))))) (heq : k = 0 → ov 0 = r.toInt64) {rm2 : Room} (hrc2 : rm2.cells = 0) (hrs2 : rm2.slots = 0) (hF2 : rm2.frames ≤ 10) (hLo2 : rm2.locals ≤ 245) (hm : ∀ sz, Met l yX7_flip wsX7_flip rm2 (mw_pre G M1 sz [.ref (mh), .int (xs (i + 1)), .int (xs (i + 2)), .int (xs (i + 3))]) (md_Qi G M1 sz mh a r k u2 A2) 0 0 (mw_A M1 sz))
    (kk : ∀ (M2 : mw_M) (H : Heap) (locs : List Loc) (ls : Array Slot), md_at G M2 mh a k u2 A2 → md_fr mh a M1 M2 → mw_St G (lw_A s) s M2 H locs → lv_has ls 7 [(0, .ref (b)), (1, .ref (x)), (2, .ref (mh)), (3, .ref (o)), (4, .int (nI (i)))] → W p l e room_1 s m #[Value.ref b] below meth c H locs (cl + 1) (sl + 6) Q (F0 m 944 ls [])) : W p l e room_1 s m #[Value.ref b] below meth c H locs cl sl Q (F0 m 292 ls []) := by
  obtain ⟨hx, hb, hr, hml, hown, hts, hX, hbl, hlocks, hgv⟩ := C0
  have hbA : ¬ lw_A s b := Nat.not_le.mpr hbl
  refine lv_aload_n hx hb dL_law_292 rfl (lv_at hl 1 rfl) ?_
  refine lv_aload_n hx hb dL_law_293 rfl (lv_at hl 0 rfl) ?_
  refine lv_iload hx hb dL_law_294 (lv_at hl 4 rfl) ?_
  refine lv_iconst (v := nI 1) hx hb dL_law_296 (by decide) ?_
  refine lv_iadd hx hb dL_law_297 ?_
  refine mw_ti (v' := nI (i + 1)) (nI_add _ _) ?_
  refine mw_sld hx hb hX hbl hbA hw (i := i + 1) (by omega) (by omega) dL_law_298 ?_
  refine lv_aload_n hx hb dL_law_299 rfl (lv_at hl 0 rfl) ?_
  refine lv_iload hx hb dL_law_300 (lv_at hl 4 rfl) ?_
  refine lv_iconst (v := nI 2) hx hb dL_law_302 (by decide) ?_
  refine lv_iadd hx hb dL_law_303 ?_
  refine mw_ti (v' := nI (i + 2)) (nI_add _ _) ?_
  refine mw_sld hx hb hX hbl hbA hw (i := i + 2) (by omega) (by omega) dL_law_304 ?_
  refine lv_aload_n hx hb dL_law_305 rfl (lv_at hl 0 rfl) ?_
  refine lv_iload hx hb dL_law_306 (lv_at hl 4 rfl) ?_
  refine lv_iconst (v := nI 3) hx hb dL_law_308 (by decide) ?_
  refine lv_iadd hx hb dL_law_309 ?_
  refine mw_ti (v' := nI (i + 3)) (nI_add _ _) ?_
  refine mw_sld hx hb hX hbl hbA hw (i := i + 3) (by omega) (by omega) dL_law_310 ?_
  refine lv_aload_n hx hb dL_law_311 rfl (lv_at hl 3 rfl) ?_
  refine mw_ci hC hw (vx_runSW (As := [.ref (x), .int (xs (i + 1)), .int (xs (i + 2)), .int (xs (i + 3)), .ref (o)]) (rest := []) ⟨hx, hb, hml, hown, hts⟩ (hc H.size) (vx_cwSW 5 hts gw_L_flip rfl hrc hrs (by decide +kernel) ⟨show rmh.frames + 1 ≤ 12 by omega, show 8 + (6 + 11) + rmh.locals ≤ 428 by omega⟩) (mw_preS hC hw) rfl rfl hl.1 rfl (lv_room (Nat.le_of_ble_eq_true rfl)) dL_law_312 ⟨show cl + mc ≤ 600002 by omega, show sl + ms ≤ 7302232 by omega⟩) (fun H locs hz9 hw => ?_)
  refine lv_istore (lv' := [(5, .int (nI (k))), (0, .ref (b)), (1, .ref (x)), (2, .ref (mh)), (3, .ref (o)), (4, .int (nI (i)))]) hx hb dL_law_315 hl (by decide) rfl (fun ls hl => ?_)
  refine lv_aload_n hx hb dL_law_317 rfl (lv_at hl 3 rfl) ?_
  refine lv_aload_n hx hb dL_law_318 rfl (lv_at hl 1 rfl) ?_
  refine lv_iload hx hb dL_law_319 (lv_at hl 5 rfl) ?_
  refine lv_iconst (v := nI 1) hx hb dL_law_321 (by decide) ?_
  refine lv_iadd hx hb dL_law_322 ?_
  refine mw_ti (v' := nI (i + 1)) (nI_add _ _) ?_
  refine mw_sld hx hb hX hbl hbA hw (i := i + 1) (by omega) (by omega) dL_law_323 ?_
  refine lv_aload_n hx hb dL_law_324 rfl (lv_at hl 1 rfl) ?_
  refine lv_iload hx hb dL_law_325 (lv_at hl 5 rfl) ?_
  refine lv_iconst (v := nI 2) hx hb dL_law_327 (by decide) ?_
  refine lv_iadd hx hb dL_law_328 ?_
  refine mw_ti (v' := nI (i + 2)) (nI_add _ _) ?_
  refine mw_sld hx hb hX hbl hbA hw (i := i + 2) (by omega) (by omega) dL_law_329 ?_
  refine lv_aload_n hx hb dL_law_330 rfl (lv_at hl 1 rfl) ?_
  refine lv_iload hx hb dL_law_331 (lv_at hl 5 rfl) ?_
  refine lv_iconst (v := nI 3) hx hb dL_law_333 (by decide) ?_
  refine lv_iadd hx hb dL_law_334 ?_
  refine mw_ti (v' := nI (i + 3)) (nI_add _ _) ?_
  refine mw_sld hx hb hX hbl hbA hw (i := i + 3) (by omega) (by omega) dL_law_335 ?_
  refine md_ci hC hw (va_runV (As := [.int (xs (i + 1)), .int (xs (i + 2)), .int (xs (i + 3))]) (rest := []) ⟨hx, hb, hml, hown, hts⟩ (hm H.size) (cwV 3 hts gw_X7_flip rfl hrc2 hrs2 (by decide +kernel) ⟨show rm2.frames + 1 ≤ 12 by omega, show 8 + (5 + 11) + rm2.locals ≤ 428 by omega⟩) (mw_preV (ci := 7) hC hw rfl hmd.1) rfl rfl hl.1 rfl (lv_room (Nat.le_of_ble_eq_true rfl)) dL_law_336 ⟨show cl + mc + 0 ≤ 600002 by omega, show sl + ms + 0 ≤ 7302232 by omega⟩) (fun M2 H locs hm2 hf2 hw => ?_)
  refine lv_istore (lv' := [(6, .int (r)), (5, .int (nI (k))), (0, .ref (b)), (1, .ref (x)), (2, .ref (mh)), (3, .ref (o)), (4, .int (nI (i)))]) hx hb dL_law_339 hl (by decide) rfl (fun ls hl => ?_)
  refine lv_aload_n hx hb dL_law_341 rfl (lv_at hl 4 rfl) ?_
  refine md_ci hC hw (va_runV (As := []) (rest := []) ⟨hx, hb, hml, hown, hts⟩ (c_X7_thrown l G _ H.size mh a k u2 A2 hm2) (cwV 0 hts gw_X7_thrown rfl rfl rfl (by decide +kernel) ⟨Nat.le_of_ble_eq_true rfl, Nat.le_of_ble_eq_true rfl⟩) (mw_preV (ci := 7) hC hw rfl hm2.1) rfl rfl hl.1 rfl (lv_room (Nat.le_of_ble_eq_true rfl)) dL_law_342 ⟨show cl + mc + 0 + 0 ≤ 600002 by omega, show sl + ms + 0 + 0 ≤ 7302232 by omega⟩) (fun M2 H locs hm2 hf3 hw => ?_)
  have hf2 := hf2.tr hf3
  have eo2 := (hf2 o (mw_ne eo hmd.1 (by intro h9; cases h9)) (fun j hj => mw_ne eo (hmd.2.1 j hj) (by simp [md_arr]))).trans eo
  refine lv_iload hx hb dL_law_345 (lv_at hl 1 rfl) ?_
  refine lv_icmp_eq (tgt := 352) hx hb dL_law_347 (by decide) (fun _ => ?_) (fun h9 => absurd rfl h9)
  refine lv_iload hx hb dL_law_352 (lv_at hl 1 rfl) ?_
  refine lv_if_ne (tgt := 369) hx hb dL_law_354 (by decide) (fun hk0 => ?_) (fun hk0 => ?_)
  · skip
    refine lv_goto (tgt := 944) hx hb dL_law_369 (by decide) ?_
    refine W.widen (k := cl + 1) (n := sl + 6) (show cl + mc + 0 + 0 ≤ cl + 1 by omega) (show sl + ms + 0 + 0 ≤ sl + 6 by omega) ?_
    exact kk M2 H locs ls hm2 hf2 hw (lv_sub hl [2, 3, 4, 5, 6] rfl)
  · skip
    have hk0 : k = 0 := (nI_eq (a := k) (b := 0) (by omega) (by omega)).mp (show nI k = nI 0 from hk0)
    refine lv_aload_n hx hb dL_law_357 rfl (lv_at hl 5 rfl) ?_
    refine lv_iconst (v := nI 0) hx hb dL_law_358 (by decide) ?_
    refine mw_laldN (n := 1) (f := ov) (i := 0) hx hb hC hw eo2 (by omega) (by decide) dL_law_359 ?_
    refine lv_iload hx hb dL_law_360 (lv_at hl 0 rfl) ?_
    refine lv_i2l hx hb dL_law_362 rfl ?_
    refine W.lcmp hx hb dL_law_363 ?_
    refine lv_if_eq (tgt := 369) hx hb dL_law_364 (by decide) (fun c_1 => ?_) (fun c_1 => ?_)
    · skip
      refine lv_goto (tgt := 944) hx hb dL_law_369 (by decide) ?_
      refine W.widen (k := cl + 1) (n := sl + 6) (show cl + mc + 0 + 0 ≤ cl + 1 by omega) (show sl + ms + 0 + 0 ≤ sl + 6 by omega) ?_
      exact kk M2 H locs ls hm2 hf2 hw (lv_sub hl [2, 3, 4, 5, 6] rfl)
    · exact absurd ((lg_cmp_eq _ _).mpr (heq hk0)) c_1
set_option maxHeartbeats 4000000 in
set_option maxRecDepth 100000 in
theorem lp_drop {p : Program} {e : Env} {s : State} {m : MethodId} {below : List Frame} {meth : Method} {c : Code} (l : Launch) {b L : Nat} {xs : Nat → Int32} {G : mw_G} {Q : State → Prop} (C0 : lw_At p s m meth c b L xs) (hL : L ≤ 4096) (hC : mw_C G (lw_A s) s) {i : Nat} (hi : i + 6 ≤ L) {cl sl : Nat} (hcl : cl + 1 ≤ 600002) (hsl : sl + 6 ≤ 7302232) {x mh o : Nat} {M M1 : mw_M} {H : Heap} {locs : List Loc} {ls : Array Slot} (hw : mw_St G (lw_A s) s M H locs) (hl : lv_has ls 7 [(0, .ref (b)), (1, .ref (x)), (2, .ref (mh)), (3, .ref (o)), (4, .int (nI (i)))])
    {rmh : Room} {mc ms k : Nat} (hrc : rmh.cells = mc) (hrs : rmh.slots = ms) (hF : rmh.frames ≤ 10) (hLo : rmh.locals ≤ 245) (hmc : mc ≤ 1) (hms : ms ≤ 6) (hk : k ≤ 2) (hc : ∀ sz, Met l yL_drop wsL_drop rmh (mw_pre G M sz [.ref (x), .int (xs (i + 1)), .int (xs (i + 2)), .ref (o)]) (mw_Qi G M sz (nI (k)) M1) mc ms (mw_A M sz))
    {a : Nat → Nat} {c1 u1 u2 : Nat} {A1 A2 : md_S} (hmd : md_at G M1 mh a c1 u1 A1) {r : Int32} {ov : Nat → Int64} (eo : M1 o = some (.inl (G.2 2, 1, .inr (.inl (ov))))) (heq : k = 0 → ov 0 = r.toInt64) {rm2 : Room} (hrc2 : rm2.cells = 0) (hrs2 : rm2.slots = 0) (hF2 : rm2.frames ≤ 10) (hLo2 : rm2.locals ≤ 245) (hm : ∀ sz, Met l yX7_drop wsX7_drop rm2 (mw_pre G M1 sz [.ref (mh), .int (xs (i + 1)), .int (xs (i + 2))]) (md_Qi G M1 sz mh a r k u2 A2) 0 0 (mw_A M1 sz))
    (kk : ∀ (M2 : mw_M) (H : Heap) (locs : List Loc) (ls : Array Slot), md_at G M2 mh a k u2 A2 → md_fr mh a M1 M2 → mw_St G (lw_A s) s M2 H locs → lv_has ls 7 [(0, .ref (b)), (1, .ref (x)), (2, .ref (mh)), (3, .ref (o)), (4, .int (nI (i)))] → W p l e room_1 s m #[Value.ref b] below meth c H locs (cl + 1) (sl + 6) Q (F0 m 944 ls [])) : W p l e room_1 s m #[Value.ref b] below meth c H locs cl sl Q (F0 m 372 ls []) := by
  obtain ⟨hx, hb, hr, hml, hown, hts, hX, hbl, hlocks, hgv⟩ := C0
  have hbA : ¬ lw_A s b := Nat.not_le.mpr hbl
  refine lv_aload_n hx hb dL_law_372 rfl (lv_at hl 1 rfl) ?_
  refine lv_aload_n hx hb dL_law_373 rfl (lv_at hl 0 rfl) ?_
  refine lv_iload hx hb dL_law_374 (lv_at hl 4 rfl) ?_
  refine lv_iconst (v := nI 1) hx hb dL_law_376 (by decide) ?_
  refine lv_iadd hx hb dL_law_377 ?_
  refine mw_ti (v' := nI (i + 1)) (nI_add _ _) ?_
  refine mw_sld hx hb hX hbl hbA hw (i := i + 1) (by omega) (by omega) dL_law_378 ?_
  refine lv_aload_n hx hb dL_law_379 rfl (lv_at hl 0 rfl) ?_
  refine lv_iload hx hb dL_law_380 (lv_at hl 4 rfl) ?_
  refine lv_iconst (v := nI 2) hx hb dL_law_382 (by decide) ?_
  refine lv_iadd hx hb dL_law_383 ?_
  refine mw_ti (v' := nI (i + 2)) (nI_add _ _) ?_
  refine mw_sld hx hb hX hbl hbA hw (i := i + 2) (by omega) (by omega) dL_law_384 ?_
  refine lv_aload_n hx hb dL_law_385 rfl (lv_at hl 3 rfl) ?_
  refine mw_ci hC hw (vx_runSW (As := [.ref (x), .int (xs (i + 1)), .int (xs (i + 2)), .ref (o)]) (rest := []) ⟨hx, hb, hml, hown, hts⟩ (hc H.size) (vx_cwSW 4 hts gw_L_drop rfl hrc hrs (by decide +kernel) ⟨show rmh.frames + 1 ≤ 12 by omega, show 8 + (5 + 11) + rmh.locals ≤ 428 by omega⟩) (mw_preS hC hw) rfl rfl hl.1 rfl (lv_room (Nat.le_of_ble_eq_true rfl)) dL_law_386 ⟨show cl + mc ≤ 600002 by omega, show sl + ms ≤ 7302232 by omega⟩) (fun H locs hz9 hw => ?_)
  refine lv_istore (lv' := [(5, .int (nI (k))), (0, .ref (b)), (1, .ref (x)), (2, .ref (mh)), (3, .ref (o)), (4, .int (nI (i)))]) hx hb dL_law_389 hl (by decide) rfl (fun ls hl => ?_)
  refine lv_aload_n hx hb dL_law_391 rfl (lv_at hl 3 rfl) ?_
  refine lv_aload_n hx hb dL_law_392 rfl (lv_at hl 1 rfl) ?_
  refine lv_iload hx hb dL_law_393 (lv_at hl 5 rfl) ?_
  refine lv_iconst (v := nI 1) hx hb dL_law_395 (by decide) ?_
  refine lv_iadd hx hb dL_law_396 ?_
  refine mw_ti (v' := nI (i + 1)) (nI_add _ _) ?_
  refine mw_sld hx hb hX hbl hbA hw (i := i + 1) (by omega) (by omega) dL_law_397 ?_
  refine lv_aload_n hx hb dL_law_398 rfl (lv_at hl 1 rfl) ?_
  refine lv_iload hx hb dL_law_399 (lv_at hl 5 rfl) ?_
  refine lv_iconst (v := nI 2) hx hb dL_law_401 (by decide) ?_
  refine lv_iadd hx hb dL_law_402 ?_
  refine mw_ti (v' := nI (i + 2)) (nI_add _ _) ?_
  refine mw_sld hx hb hX hbl hbA hw (i := i + 2) (by omega) (by omega) dL_law_403 ?_
  refine md_ci hC hw (va_runV (As := [.int (xs (i + 1)), .int (xs (i + 2))]) (rest := []) ⟨hx, hb, hml, hown, hts⟩ (hm H.size) (cwV 2 hts gw_X7_drop rfl hrc2 hrs2 (by decide +kernel) ⟨show rm2.frames + 1 ≤ 12 by omega, show 8 + (4 + 11) + rm2.locals ≤ 428 by omega⟩) (mw_preV (ci := 7) hC hw rfl hmd.1) rfl rfl hl.1 rfl (lv_room (Nat.le_of_ble_eq_true rfl)) dL_law_404 ⟨show cl + mc + 0 ≤ 600002 by omega, show sl + ms + 0 ≤ 7302232 by omega⟩) (fun M2 H locs hm2 hf2 hw => ?_)
  refine lv_istore (lv' := [(6, .int (r)), (5, .int (nI (k))), (0, .ref (b)), (1, .ref (x)), (2, .ref (mh)), (3, .ref (o)), (4, .int (nI (i)))]) hx hb dL_law_407 hl (by decide) rfl (fun ls hl => ?_)
  refine lv_aload_n hx hb dL_law_409 rfl (lv_at hl 4 rfl) ?_
  refine md_ci hC hw (va_runV (As := []) (rest := []) ⟨hx, hb, hml, hown, hts⟩ (c_X7_thrown l G _ H.size mh a k u2 A2 hm2) (cwV 0 hts gw_X7_thrown rfl rfl rfl (by decide +kernel) ⟨Nat.le_of_ble_eq_true rfl, Nat.le_of_ble_eq_true rfl⟩) (mw_preV (ci := 7) hC hw rfl hm2.1) rfl rfl hl.1 rfl (lv_room (Nat.le_of_ble_eq_true rfl)) dL_law_410 ⟨show cl + mc + 0 + 0 ≤ 600002 by omega, show sl + ms + 0 + 0 ≤ 7302232 by omega⟩) (fun M2 H locs hm2 hf3 hw => ?_)
  have hf2 := hf2.tr hf3
  have eo2 := (hf2 o (mw_ne eo hmd.1 (by intro h9; cases h9)) (fun j hj => mw_ne eo (hmd.2.1 j hj) (by simp [md_arr]))).trans eo
  refine lv_iload hx hb dL_law_413 (lv_at hl 1 rfl) ?_
  refine lv_icmp_eq (tgt := 420) hx hb dL_law_415 (by decide) (fun _ => ?_) (fun h9 => absurd rfl h9)
  refine lv_iload hx hb dL_law_420 (lv_at hl 1 rfl) ?_
  refine lv_if_ne (tgt := 437) hx hb dL_law_422 (by decide) (fun hk0 => ?_) (fun hk0 => ?_)
  · skip
    refine lv_goto (tgt := 944) hx hb dL_law_437 (by decide) ?_
    refine W.widen (k := cl + 1) (n := sl + 6) (show cl + mc + 0 + 0 ≤ cl + 1 by omega) (show sl + ms + 0 + 0 ≤ sl + 6 by omega) ?_
    exact kk M2 H locs ls hm2 hf2 hw (lv_sub hl [2, 3, 4, 5, 6] rfl)
  · skip
    have hk0 : k = 0 := (nI_eq (a := k) (b := 0) (by omega) (by omega)).mp (show nI k = nI 0 from hk0)
    refine lv_aload_n hx hb dL_law_425 rfl (lv_at hl 5 rfl) ?_
    refine lv_iconst (v := nI 0) hx hb dL_law_426 (by decide) ?_
    refine mw_laldN (n := 1) (f := ov) (i := 0) hx hb hC hw eo2 (by omega) (by decide) dL_law_427 ?_
    refine lv_iload hx hb dL_law_428 (lv_at hl 0 rfl) ?_
    refine lv_i2l hx hb dL_law_430 rfl ?_
    refine W.lcmp hx hb dL_law_431 ?_
    refine lv_if_eq (tgt := 437) hx hb dL_law_432 (by decide) (fun c_1 => ?_) (fun c_1 => ?_)
    · skip
      refine lv_goto (tgt := 944) hx hb dL_law_437 (by decide) ?_
      refine W.widen (k := cl + 1) (n := sl + 6) (show cl + mc + 0 + 0 ≤ cl + 1 by omega) (show sl + ms + 0 + 0 ≤ sl + 6 by omega) ?_
      exact kk M2 H locs ls hm2 hf2 hw (lv_sub hl [2, 3, 4, 5, 6] rfl)
    · exact absurd ((lg_cmp_eq _ _).mpr (heq hk0)) c_1
set_option maxHeartbeats 4000000 in
set_option maxRecDepth 100000 in
theorem lp_bits_0 {p : Program} {e : Env} {s : State} {m : MethodId} {below : List Frame} {meth : Method} {c : Code} (l : Launch) {b L : Nat} {xs : Nat → Int32} {G : mw_G} {Q : State → Prop} (C0 : lw_At p s m meth c b L xs) (hL : L ≤ 4096) (hC : mw_C G (lw_A s) s) {i : Nat} (hi : i + 6 ≤ L) (hz : xs (i + 5) = 0) {cl sl : Nat} (hcl : cl + 1 ≤ 600002) (hsl : sl + 6 ≤ 7302232) {x mh o : Nat} {M M1 : mw_M} {H : Heap} {locs : List Loc} {ls : Array Slot} (hw : mw_St G (lw_A s) s M H locs) (hl : lv_has ls 7 [(0, .ref (b)), (1, .ref (x)), (2, .ref (mh)), (3, .ref (o)), (4, .int (nI (i)))])
    {rmh : Room} {mc ms k : Nat} (hrc : rmh.cells = mc) (hrs : rmh.slots = ms) (hF : rmh.frames ≤ 10) (hLo : rmh.locals ≤ 245) (hmc : mc ≤ 1) (hms : ms ≤ 6) (hk : k ≤ 2) (hc : ∀ sz, Met l yL_bits wsL_bits rmh (mw_pre G M sz [.ref (x), .int (xs (i + 1)), .long (lw_w xs (i + 2)), .int (xs (i + 4)), .int (nI (0)), .ref (o)]) (mw_Qi G M sz (nI (k)) M1) mc ms (mw_A M sz))
    {a : Nat → Nat} {c1 u1 u2 : Nat} {A1 A2 : md_S} (hmd : md_at G M1 mh a c1 u1 A1) {r : Int32} {ov : Nat → Int64} (eo : M1 o = some (.inl (G.2 2, 1, .inr (.inl (ov))))) (heq : k = 0 → ov 0 = r.toInt64) {rm2 : Room} (hrc2 : rm2.cells = 0) (hrs2 : rm2.slots = 0) (hF2 : rm2.frames ≤ 10) (hLo2 : rm2.locals ≤ 245) (hm : ∀ sz, Met l yX7_bits wsX7_bits rm2 (mw_pre G M1 sz [.ref (mh), .int (xs (i + 1)), .long (lw_w xs (i + 2)), .int (xs (i + 4)), .int (nI (0))]) (md_Qi G M1 sz mh a r k u2 A2) 0 0 (mw_A M1 sz))
    (kk : ∀ (M2 : mw_M) (H : Heap) (locs : List Loc) (ls : Array Slot), md_at G M2 mh a k u2 A2 → md_fr mh a M1 M2 → mw_St G (lw_A s) s M2 H locs → lv_has ls 7 [(0, .ref (b)), (1, .ref (x)), (2, .ref (mh)), (3, .ref (o)), (4, .int (nI (i)))] → W p l e room_1 s m #[Value.ref b] below meth c H locs (cl + 1) (sl + 6) Q (F0 m 944 ls [])) : W p l e room_1 s m #[Value.ref b] below meth c H locs cl sl Q (F0 m 440 ls []) := by
  obtain ⟨hx, hb, hr, hml, hown, hts, hX, hbl, hlocks, hgv⟩ := C0
  have hbA : ¬ lw_A s b := Nat.not_le.mpr hbl
  have k_0 := hts (.constantLong RL 80 (4294967295)) (by decide +kernel)
  refine lv_aload_n hx hb dL_law_440 rfl (lv_at hl 1 rfl) ?_
  refine lv_aload_n hx hb dL_law_441 rfl (lv_at hl 0 rfl) ?_
  refine lv_iload hx hb dL_law_442 (lv_at hl 4 rfl) ?_
  refine lv_iconst (v := nI 1) hx hb dL_law_444 (by decide) ?_
  refine lv_iadd hx hb dL_law_445 ?_
  refine mw_ti (v' := nI (i + 1)) (nI_add _ _) ?_
  refine mw_sld hx hb hX hbl hbA hw (i := i + 1) (by omega) (by omega) dL_law_446 ?_
  refine lv_aload_n hx hb dL_law_447 rfl (lv_at hl 0 rfl) ?_
  refine lv_iload hx hb dL_law_448 (lv_at hl 4 rfl) ?_
  refine lv_iconst (v := nI 2) hx hb dL_law_450 (by decide) ?_
  refine lv_iadd hx hb dL_law_451 ?_
  refine mw_ti (v' := nI (i + 2)) (nI_add _ _) ?_
  refine mw_sld hx hb hX hbl hbA hw (i := i + 2) (by omega) (by omega) dL_law_452 ?_
  refine lv_i2l hx hb dL_law_453 rfl ?_
  refine lv_bipush (v := nI 32) hx hb dL_law_454 (by decide) ?_
  refine lv_lshl hx hb dL_law_456 rfl ?_
  refine lv_aload_n hx hb dL_law_457 rfl (lv_at hl 0 rfl) ?_
  refine lv_iload hx hb dL_law_458 (lv_at hl 4 rfl) ?_
  refine lv_iconst (v := nI 3) hx hb dL_law_460 (by decide) ?_
  refine lv_iadd hx hb dL_law_461 ?_
  refine mw_ti (v' := nI (i + 3)) (nI_add _ _) ?_
  refine mw_sld hx hb hX hbl hbA hw (i := i + 3) (by omega) (by omega) dL_law_462 ?_
  refine lv_i2l hx hb dL_law_463 rfl ?_
  refine lv_ldc2 hx hb hown k_0 dL_law_464 ?_
  refine lv_land hx hb dL_law_467 ?_
  refine lv_lor hx hb dL_law_468 ?_
  refine mw_tl (v' := lw_w xs (i + 2)) rfl ?_
  refine lv_aload_n hx hb dL_law_469 rfl (lv_at hl 0 rfl) ?_
  refine lv_iload hx hb dL_law_470 (lv_at hl 4 rfl) ?_
  refine lv_iconst (v := nI 4) hx hb dL_law_472 (by decide) ?_
  refine lv_iadd hx hb dL_law_473 ?_
  refine mw_ti (v' := nI (i + 4)) (nI_add _ _) ?_
  refine mw_sld hx hb hX hbl hbA hw (i := i + 4) (by omega) (by omega) dL_law_474 ?_
  refine lv_aload_n hx hb dL_law_475 rfl (lv_at hl 0 rfl) ?_
  refine lv_iload hx hb dL_law_476 (lv_at hl 4 rfl) ?_
  refine lv_iconst (v := nI 5) hx hb dL_law_478 (by decide) ?_
  refine lv_iadd hx hb dL_law_479 ?_
  refine mw_ti (v' := nI (i + 5)) (nI_add _ _) ?_
  refine mw_sld hx hb hX hbl hbA hw (i := i + 5) (by omega) (by omega) dL_law_480 ?_
  refine lv_if_eq (tgt := 488) hx hb dL_law_481 (by decide) (fun _ => ?_) (fun h9 => absurd hz h9)
  refine lv_iconst (v := nI 0) hx hb dL_law_488 (by decide) ?_
  refine lv_aload_n hx hb dL_law_489 rfl (lv_at hl 3 rfl) ?_
  refine mw_ci hC hw (vx_runSW (As := [.ref (x), .int (xs (i + 1)), .long (lw_w xs (i + 2)), .int (xs (i + 4)), .int (nI (0)), .ref (o)]) (rest := []) ⟨hx, hb, hml, hown, hts⟩ (hc H.size) (vx_cwSW 6 hts gw_L_bits rfl hrc hrs (by decide +kernel) ⟨show rmh.frames + 1 ≤ 12 by omega, show 8 + (8 + 11) + rmh.locals ≤ 428 by omega⟩) (mw_preS hC hw) rfl rfl hl.1 rfl (lv_room (Nat.le_of_ble_eq_true rfl)) dL_law_490 ⟨show cl + mc ≤ 600002 by omega, show sl + ms ≤ 7302232 by omega⟩) (fun H locs hz9 hw => ?_)
  refine lv_istore (lv' := [(5, .int (nI (k))), (0, .ref (b)), (1, .ref (x)), (2, .ref (mh)), (3, .ref (o)), (4, .int (nI (i)))]) hx hb dL_law_493 hl (by decide) rfl (fun ls hl => ?_)
  refine lv_aload_n hx hb dL_law_495 rfl (lv_at hl 3 rfl) ?_
  refine lv_aload_n hx hb dL_law_496 rfl (lv_at hl 1 rfl) ?_
  refine lv_iload hx hb dL_law_497 (lv_at hl 5 rfl) ?_
  refine lv_iconst (v := nI 1) hx hb dL_law_499 (by decide) ?_
  refine lv_iadd hx hb dL_law_500 ?_
  refine mw_ti (v' := nI (i + 1)) (nI_add _ _) ?_
  refine mw_sld hx hb hX hbl hbA hw (i := i + 1) (by omega) (by omega) dL_law_501 ?_
  refine lv_aload_n hx hb dL_law_502 rfl (lv_at hl 1 rfl) ?_
  refine lv_iload hx hb dL_law_503 (lv_at hl 5 rfl) ?_
  refine lv_iconst (v := nI 2) hx hb dL_law_505 (by decide) ?_
  refine lv_iadd hx hb dL_law_506 ?_
  refine mw_ti (v' := nI (i + 2)) (nI_add _ _) ?_
  refine mw_sld hx hb hX hbl hbA hw (i := i + 2) (by omega) (by omega) dL_law_507 ?_
  refine lv_i2l hx hb dL_law_508 rfl ?_
  refine lv_bipush (v := nI 32) hx hb dL_law_509 (by decide) ?_
  refine lv_lshl hx hb dL_law_511 rfl ?_
  refine lv_aload_n hx hb dL_law_512 rfl (lv_at hl 1 rfl) ?_
  refine lv_iload hx hb dL_law_513 (lv_at hl 5 rfl) ?_
  refine lv_iconst (v := nI 3) hx hb dL_law_515 (by decide) ?_
  refine lv_iadd hx hb dL_law_516 ?_
  refine mw_ti (v' := nI (i + 3)) (nI_add _ _) ?_
  refine mw_sld hx hb hX hbl hbA hw (i := i + 3) (by omega) (by omega) dL_law_517 ?_
  refine lv_i2l hx hb dL_law_518 rfl ?_
  refine lv_ldc2 hx hb hown k_0 dL_law_519 ?_
  refine lv_land hx hb dL_law_522 ?_
  refine lv_lor hx hb dL_law_523 ?_
  refine mw_tl (v' := lw_w xs (i + 2)) rfl ?_
  refine lv_aload_n hx hb dL_law_524 rfl (lv_at hl 1 rfl) ?_
  refine lv_iload hx hb dL_law_525 (lv_at hl 5 rfl) ?_
  refine lv_iconst (v := nI 4) hx hb dL_law_527 (by decide) ?_
  refine lv_iadd hx hb dL_law_528 ?_
  refine mw_ti (v' := nI (i + 4)) (nI_add _ _) ?_
  refine mw_sld hx hb hX hbl hbA hw (i := i + 4) (by omega) (by omega) dL_law_529 ?_
  refine lv_aload_n hx hb dL_law_530 rfl (lv_at hl 1 rfl) ?_
  refine lv_iload hx hb dL_law_531 (lv_at hl 5 rfl) ?_
  refine lv_iconst (v := nI 5) hx hb dL_law_533 (by decide) ?_
  refine lv_iadd hx hb dL_law_534 ?_
  refine mw_ti (v' := nI (i + 5)) (nI_add _ _) ?_
  refine mw_sld hx hb hX hbl hbA hw (i := i + 5) (by omega) (by omega) dL_law_535 ?_
  refine lv_if_eq (tgt := 543) hx hb dL_law_536 (by decide) (fun _ => ?_) (fun h9 => absurd hz h9)
  refine lv_iconst (v := nI 0) hx hb dL_law_543 (by decide) ?_
  refine md_ci hC hw (va_runV (As := [.int (xs (i + 1)), .long (lw_w xs (i + 2)), .int (xs (i + 4)), .int (nI (0))]) (rest := []) ⟨hx, hb, hml, hown, hts⟩ (hm H.size) (cwV 4 hts gw_X7_bits rfl hrc2 hrs2 (by decide +kernel) ⟨show rm2.frames + 1 ≤ 12 by omega, show 8 + (9 + 11) + rm2.locals ≤ 428 by omega⟩) (mw_preV (ci := 7) hC hw rfl hmd.1) rfl rfl hl.1 rfl (lv_room (Nat.le_of_ble_eq_true rfl)) dL_law_544 ⟨show cl + mc + 0 ≤ 600002 by omega, show sl + ms + 0 ≤ 7302232 by omega⟩) (fun M2 H locs hm2 hf2 hw => ?_)
  refine lv_istore (lv' := [(6, .int (r)), (5, .int (nI (k))), (0, .ref (b)), (1, .ref (x)), (2, .ref (mh)), (3, .ref (o)), (4, .int (nI (i)))]) hx hb dL_law_547 hl (by decide) rfl (fun ls hl => ?_)
  refine lv_aload_n hx hb dL_law_549 rfl (lv_at hl 4 rfl) ?_
  refine md_ci hC hw (va_runV (As := []) (rest := []) ⟨hx, hb, hml, hown, hts⟩ (c_X7_thrown l G _ H.size mh a k u2 A2 hm2) (cwV 0 hts gw_X7_thrown rfl rfl rfl (by decide +kernel) ⟨Nat.le_of_ble_eq_true rfl, Nat.le_of_ble_eq_true rfl⟩) (mw_preV (ci := 7) hC hw rfl hm2.1) rfl rfl hl.1 rfl (lv_room (Nat.le_of_ble_eq_true rfl)) dL_law_550 ⟨show cl + mc + 0 + 0 ≤ 600002 by omega, show sl + ms + 0 + 0 ≤ 7302232 by omega⟩) (fun M2 H locs hm2 hf3 hw => ?_)
  have hf2 := hf2.tr hf3
  have eo2 := (hf2 o (mw_ne eo hmd.1 (by intro h9; cases h9)) (fun j hj => mw_ne eo (hmd.2.1 j hj) (by simp [md_arr]))).trans eo
  refine lv_iload hx hb dL_law_553 (lv_at hl 1 rfl) ?_
  refine lv_icmp_eq (tgt := 560) hx hb dL_law_555 (by decide) (fun _ => ?_) (fun h9 => absurd rfl h9)
  refine lv_iload hx hb dL_law_560 (lv_at hl 1 rfl) ?_
  refine lv_if_ne (tgt := 577) hx hb dL_law_562 (by decide) (fun hk0 => ?_) (fun hk0 => ?_)
  · skip
    refine lv_goto (tgt := 944) hx hb dL_law_577 (by decide) ?_
    refine W.widen (k := cl + 1) (n := sl + 6) (show cl + mc + 0 + 0 ≤ cl + 1 by omega) (show sl + ms + 0 + 0 ≤ sl + 6 by omega) ?_
    exact kk M2 H locs ls hm2 hf2 hw (lv_sub hl [2, 3, 4, 5, 6] rfl)
  · skip
    have hk0 : k = 0 := (nI_eq (a := k) (b := 0) (by omega) (by omega)).mp (show nI k = nI 0 from hk0)
    refine lv_aload_n hx hb dL_law_565 rfl (lv_at hl 5 rfl) ?_
    refine lv_iconst (v := nI 0) hx hb dL_law_566 (by decide) ?_
    refine mw_laldN (n := 1) (f := ov) (i := 0) hx hb hC hw eo2 (by omega) (by decide) dL_law_567 ?_
    refine lv_iload hx hb dL_law_568 (lv_at hl 0 rfl) ?_
    refine lv_i2l hx hb dL_law_570 rfl ?_
    refine W.lcmp hx hb dL_law_571 ?_
    refine lv_if_eq (tgt := 577) hx hb dL_law_572 (by decide) (fun c_1 => ?_) (fun c_1 => ?_)
    · skip
      refine lv_goto (tgt := 944) hx hb dL_law_577 (by decide) ?_
      refine W.widen (k := cl + 1) (n := sl + 6) (show cl + mc + 0 + 0 ≤ cl + 1 by omega) (show sl + ms + 0 + 0 ≤ sl + 6 by omega) ?_
      exact kk M2 H locs ls hm2 hf2 hw (lv_sub hl [2, 3, 4, 5, 6] rfl)
    · exact absurd ((lg_cmp_eq _ _).mpr (heq hk0)) c_1
set_option maxHeartbeats 4000000 in
set_option maxRecDepth 100000 in
theorem lp_bits_1 {p : Program} {e : Env} {s : State} {m : MethodId} {below : List Frame} {meth : Method} {c : Code} (l : Launch) {b L : Nat} {xs : Nat → Int32} {G : mw_G} {Q : State → Prop} (C0 : lw_At p s m meth c b L xs) (hL : L ≤ 4096) (hC : mw_C G (lw_A s) s) {i : Nat} (hi : i + 6 ≤ L) (hz : ¬ xs (i + 5) = 0) {cl sl : Nat} (hcl : cl + 1 ≤ 600002) (hsl : sl + 6 ≤ 7302232) {x mh o : Nat} {M M1 : mw_M} {H : Heap} {locs : List Loc} {ls : Array Slot} (hw : mw_St G (lw_A s) s M H locs) (hl : lv_has ls 7 [(0, .ref (b)), (1, .ref (x)), (2, .ref (mh)), (3, .ref (o)), (4, .int (nI (i)))])
    {rmh : Room} {mc ms k : Nat} (hrc : rmh.cells = mc) (hrs : rmh.slots = ms) (hF : rmh.frames ≤ 10) (hLo : rmh.locals ≤ 245) (hmc : mc ≤ 1) (hms : ms ≤ 6) (hk : k ≤ 2) (hc : ∀ sz, Met l yL_bits wsL_bits rmh (mw_pre G M sz [.ref (x), .int (xs (i + 1)), .long (lw_w xs (i + 2)), .int (xs (i + 4)), .int (nI (1)), .ref (o)]) (mw_Qi G M sz (nI (k)) M1) mc ms (mw_A M sz))
    {a : Nat → Nat} {c1 u1 u2 : Nat} {A1 A2 : md_S} (hmd : md_at G M1 mh a c1 u1 A1) {r : Int32} {ov : Nat → Int64} (eo : M1 o = some (.inl (G.2 2, 1, .inr (.inl (ov))))) (heq : k = 0 → ov 0 = r.toInt64) {rm2 : Room} (hrc2 : rm2.cells = 0) (hrs2 : rm2.slots = 0) (hF2 : rm2.frames ≤ 10) (hLo2 : rm2.locals ≤ 245) (hm : ∀ sz, Met l yX7_bits wsX7_bits rm2 (mw_pre G M1 sz [.ref (mh), .int (xs (i + 1)), .long (lw_w xs (i + 2)), .int (xs (i + 4)), .int (nI (1))]) (md_Qi G M1 sz mh a r k u2 A2) 0 0 (mw_A M1 sz))
    (kk : ∀ (M2 : mw_M) (H : Heap) (locs : List Loc) (ls : Array Slot), md_at G M2 mh a k u2 A2 → md_fr mh a M1 M2 → mw_St G (lw_A s) s M2 H locs → lv_has ls 7 [(0, .ref (b)), (1, .ref (x)), (2, .ref (mh)), (3, .ref (o)), (4, .int (nI (i)))] → W p l e room_1 s m #[Value.ref b] below meth c H locs (cl + 1) (sl + 6) Q (F0 m 944 ls [])) : W p l e room_1 s m #[Value.ref b] below meth c H locs cl sl Q (F0 m 440 ls []) := by
  obtain ⟨hx, hb, hr, hml, hown, hts, hX, hbl, hlocks, hgv⟩ := C0
  have hbA : ¬ lw_A s b := Nat.not_le.mpr hbl
  have k_0 := hts (.constantLong RL 80 (4294967295)) (by decide +kernel)
  refine lv_aload_n hx hb dL_law_440 rfl (lv_at hl 1 rfl) ?_
  refine lv_aload_n hx hb dL_law_441 rfl (lv_at hl 0 rfl) ?_
  refine lv_iload hx hb dL_law_442 (lv_at hl 4 rfl) ?_
  refine lv_iconst (v := nI 1) hx hb dL_law_444 (by decide) ?_
  refine lv_iadd hx hb dL_law_445 ?_
  refine mw_ti (v' := nI (i + 1)) (nI_add _ _) ?_
  refine mw_sld hx hb hX hbl hbA hw (i := i + 1) (by omega) (by omega) dL_law_446 ?_
  refine lv_aload_n hx hb dL_law_447 rfl (lv_at hl 0 rfl) ?_
  refine lv_iload hx hb dL_law_448 (lv_at hl 4 rfl) ?_
  refine lv_iconst (v := nI 2) hx hb dL_law_450 (by decide) ?_
  refine lv_iadd hx hb dL_law_451 ?_
  refine mw_ti (v' := nI (i + 2)) (nI_add _ _) ?_
  refine mw_sld hx hb hX hbl hbA hw (i := i + 2) (by omega) (by omega) dL_law_452 ?_
  refine lv_i2l hx hb dL_law_453 rfl ?_
  refine lv_bipush (v := nI 32) hx hb dL_law_454 (by decide) ?_
  refine lv_lshl hx hb dL_law_456 rfl ?_
  refine lv_aload_n hx hb dL_law_457 rfl (lv_at hl 0 rfl) ?_
  refine lv_iload hx hb dL_law_458 (lv_at hl 4 rfl) ?_
  refine lv_iconst (v := nI 3) hx hb dL_law_460 (by decide) ?_
  refine lv_iadd hx hb dL_law_461 ?_
  refine mw_ti (v' := nI (i + 3)) (nI_add _ _) ?_
  refine mw_sld hx hb hX hbl hbA hw (i := i + 3) (by omega) (by omega) dL_law_462 ?_
  refine lv_i2l hx hb dL_law_463 rfl ?_
  refine lv_ldc2 hx hb hown k_0 dL_law_464 ?_
  refine lv_land hx hb dL_law_467 ?_
  refine lv_lor hx hb dL_law_468 ?_
  refine mw_tl (v' := lw_w xs (i + 2)) rfl ?_
  refine lv_aload_n hx hb dL_law_469 rfl (lv_at hl 0 rfl) ?_
  refine lv_iload hx hb dL_law_470 (lv_at hl 4 rfl) ?_
  refine lv_iconst (v := nI 4) hx hb dL_law_472 (by decide) ?_
  refine lv_iadd hx hb dL_law_473 ?_
  refine mw_ti (v' := nI (i + 4)) (nI_add _ _) ?_
  refine mw_sld hx hb hX hbl hbA hw (i := i + 4) (by omega) (by omega) dL_law_474 ?_
  refine lv_aload_n hx hb dL_law_475 rfl (lv_at hl 0 rfl) ?_
  refine lv_iload hx hb dL_law_476 (lv_at hl 4 rfl) ?_
  refine lv_iconst (v := nI 5) hx hb dL_law_478 (by decide) ?_
  refine lv_iadd hx hb dL_law_479 ?_
  refine mw_ti (v' := nI (i + 5)) (nI_add _ _) ?_
  refine mw_sld hx hb hX hbl hbA hw (i := i + 5) (by omega) (by omega) dL_law_480 ?_
  refine lv_if_eq (tgt := 488) hx hb dL_law_481 (by decide) (fun h9 => absurd h9 hz) (fun _ => ?_)
  refine lv_iconst (v := nI 1) hx hb dL_law_484 (by decide) ?_
  refine lv_goto (tgt := 489) hx hb dL_law_485 (by decide) ?_
  refine lv_aload_n hx hb dL_law_489 rfl (lv_at hl 3 rfl) ?_
  refine mw_ci hC hw (vx_runSW (As := [.ref (x), .int (xs (i + 1)), .long (lw_w xs (i + 2)), .int (xs (i + 4)), .int (nI (1)), .ref (o)]) (rest := []) ⟨hx, hb, hml, hown, hts⟩ (hc H.size) (vx_cwSW 6 hts gw_L_bits rfl hrc hrs (by decide +kernel) ⟨show rmh.frames + 1 ≤ 12 by omega, show 8 + (8 + 11) + rmh.locals ≤ 428 by omega⟩) (mw_preS hC hw) rfl rfl hl.1 rfl (lv_room (Nat.le_of_ble_eq_true rfl)) dL_law_490 ⟨show cl + mc ≤ 600002 by omega, show sl + ms ≤ 7302232 by omega⟩) (fun H locs hz9 hw => ?_)
  refine lv_istore (lv' := [(5, .int (nI (k))), (0, .ref (b)), (1, .ref (x)), (2, .ref (mh)), (3, .ref (o)), (4, .int (nI (i)))]) hx hb dL_law_493 hl (by decide) rfl (fun ls hl => ?_)
  refine lv_aload_n hx hb dL_law_495 rfl (lv_at hl 3 rfl) ?_
  refine lv_aload_n hx hb dL_law_496 rfl (lv_at hl 1 rfl) ?_
  refine lv_iload hx hb dL_law_497 (lv_at hl 5 rfl) ?_
  refine lv_iconst (v := nI 1) hx hb dL_law_499 (by decide) ?_
  refine lv_iadd hx hb dL_law_500 ?_
  refine mw_ti (v' := nI (i + 1)) (nI_add _ _) ?_
  refine mw_sld hx hb hX hbl hbA hw (i := i + 1) (by omega) (by omega) dL_law_501 ?_
  refine lv_aload_n hx hb dL_law_502 rfl (lv_at hl 1 rfl) ?_
  refine lv_iload hx hb dL_law_503 (lv_at hl 5 rfl) ?_
  refine lv_iconst (v := nI 2) hx hb dL_law_505 (by decide) ?_
  refine lv_iadd hx hb dL_law_506 ?_
  refine mw_ti (v' := nI (i + 2)) (nI_add _ _) ?_
  refine mw_sld hx hb hX hbl hbA hw (i := i + 2) (by omega) (by omega) dL_law_507 ?_
  refine lv_i2l hx hb dL_law_508 rfl ?_
  refine lv_bipush (v := nI 32) hx hb dL_law_509 (by decide) ?_
  refine lv_lshl hx hb dL_law_511 rfl ?_
  refine lv_aload_n hx hb dL_law_512 rfl (lv_at hl 1 rfl) ?_
  refine lv_iload hx hb dL_law_513 (lv_at hl 5 rfl) ?_
  refine lv_iconst (v := nI 3) hx hb dL_law_515 (by decide) ?_
  refine lv_iadd hx hb dL_law_516 ?_
  refine mw_ti (v' := nI (i + 3)) (nI_add _ _) ?_
  refine mw_sld hx hb hX hbl hbA hw (i := i + 3) (by omega) (by omega) dL_law_517 ?_
  refine lv_i2l hx hb dL_law_518 rfl ?_
  refine lv_ldc2 hx hb hown k_0 dL_law_519 ?_
  refine lv_land hx hb dL_law_522 ?_
  refine lv_lor hx hb dL_law_523 ?_
  refine mw_tl (v' := lw_w xs (i + 2)) rfl ?_
  refine lv_aload_n hx hb dL_law_524 rfl (lv_at hl 1 rfl) ?_
  refine lv_iload hx hb dL_law_525 (lv_at hl 5 rfl) ?_
  refine lv_iconst (v := nI 4) hx hb dL_law_527 (by decide) ?_
  refine lv_iadd hx hb dL_law_528 ?_
  refine mw_ti (v' := nI (i + 4)) (nI_add _ _) ?_
  refine mw_sld hx hb hX hbl hbA hw (i := i + 4) (by omega) (by omega) dL_law_529 ?_
  refine lv_aload_n hx hb dL_law_530 rfl (lv_at hl 1 rfl) ?_
  refine lv_iload hx hb dL_law_531 (lv_at hl 5 rfl) ?_
  refine lv_iconst (v := nI 5) hx hb dL_law_533 (by decide) ?_
  refine lv_iadd hx hb dL_law_534 ?_
  refine mw_ti (v' := nI (i + 5)) (nI_add _ _) ?_
  refine mw_sld hx hb hX hbl hbA hw (i := i + 5) (by omega) (by omega) dL_law_535 ?_
  refine lv_if_eq (tgt := 543) hx hb dL_law_536 (by decide) (fun h9 => absurd h9 hz) (fun _ => ?_)
  refine lv_iconst (v := nI 1) hx hb dL_law_539 (by decide) ?_
  refine lv_goto (tgt := 544) hx hb dL_law_540 (by decide) ?_
  refine md_ci hC hw (va_runV (As := [.int (xs (i + 1)), .long (lw_w xs (i + 2)), .int (xs (i + 4)), .int (nI (1))]) (rest := []) ⟨hx, hb, hml, hown, hts⟩ (hm H.size) (cwV 4 hts gw_X7_bits rfl hrc2 hrs2 (by decide +kernel) ⟨show rm2.frames + 1 ≤ 12 by omega, show 8 + (9 + 11) + rm2.locals ≤ 428 by omega⟩) (mw_preV (ci := 7) hC hw rfl hmd.1) rfl rfl hl.1 rfl (lv_room (Nat.le_of_ble_eq_true rfl)) dL_law_544 ⟨show cl + mc + 0 ≤ 600002 by omega, show sl + ms + 0 ≤ 7302232 by omega⟩) (fun M2 H locs hm2 hf2 hw => ?_)
  refine lv_istore (lv' := [(6, .int (r)), (5, .int (nI (k))), (0, .ref (b)), (1, .ref (x)), (2, .ref (mh)), (3, .ref (o)), (4, .int (nI (i)))]) hx hb dL_law_547 hl (by decide) rfl (fun ls hl => ?_)
  refine lv_aload_n hx hb dL_law_549 rfl (lv_at hl 4 rfl) ?_
  refine md_ci hC hw (va_runV (As := []) (rest := []) ⟨hx, hb, hml, hown, hts⟩ (c_X7_thrown l G _ H.size mh a k u2 A2 hm2) (cwV 0 hts gw_X7_thrown rfl rfl rfl (by decide +kernel) ⟨Nat.le_of_ble_eq_true rfl, Nat.le_of_ble_eq_true rfl⟩) (mw_preV (ci := 7) hC hw rfl hm2.1) rfl rfl hl.1 rfl (lv_room (Nat.le_of_ble_eq_true rfl)) dL_law_550 ⟨show cl + mc + 0 + 0 ≤ 600002 by omega, show sl + ms + 0 + 0 ≤ 7302232 by omega⟩) (fun M2 H locs hm2 hf3 hw => ?_)
  have hf2 := hf2.tr hf3
  have eo2 := (hf2 o (mw_ne eo hmd.1 (by intro h9; cases h9)) (fun j hj => mw_ne eo (hmd.2.1 j hj) (by simp [md_arr]))).trans eo
  refine lv_iload hx hb dL_law_553 (lv_at hl 1 rfl) ?_
  refine lv_icmp_eq (tgt := 560) hx hb dL_law_555 (by decide) (fun _ => ?_) (fun h9 => absurd rfl h9)
  refine lv_iload hx hb dL_law_560 (lv_at hl 1 rfl) ?_
  refine lv_if_ne (tgt := 577) hx hb dL_law_562 (by decide) (fun hk0 => ?_) (fun hk0 => ?_)
  · skip
    refine lv_goto (tgt := 944) hx hb dL_law_577 (by decide) ?_
    refine W.widen (k := cl + 1) (n := sl + 6) (show cl + mc + 0 + 0 ≤ cl + 1 by omega) (show sl + ms + 0 + 0 ≤ sl + 6 by omega) ?_
    exact kk M2 H locs ls hm2 hf2 hw (lv_sub hl [2, 3, 4, 5, 6] rfl)
  · skip
    have hk0 : k = 0 := (nI_eq (a := k) (b := 0) (by omega) (by omega)).mp (show nI k = nI 0 from hk0)
    refine lv_aload_n hx hb dL_law_565 rfl (lv_at hl 5 rfl) ?_
    refine lv_iconst (v := nI 0) hx hb dL_law_566 (by decide) ?_
    refine mw_laldN (n := 1) (f := ov) (i := 0) hx hb hC hw eo2 (by omega) (by decide) dL_law_567 ?_
    refine lv_iload hx hb dL_law_568 (lv_at hl 0 rfl) ?_
    refine lv_i2l hx hb dL_law_570 rfl ?_
    refine W.lcmp hx hb dL_law_571 ?_
    refine lv_if_eq (tgt := 577) hx hb dL_law_572 (by decide) (fun c_1 => ?_) (fun c_1 => ?_)
    · skip
      refine lv_goto (tgt := 944) hx hb dL_law_577 (by decide) ?_
      refine W.widen (k := cl + 1) (n := sl + 6) (show cl + mc + 0 + 0 ≤ cl + 1 by omega) (show sl + ms + 0 + 0 ≤ sl + 6 by omega) ?_
      exact kk M2 H locs ls hm2 hf2 hw (lv_sub hl [2, 3, 4, 5, 6] rfl)
    · exact absurd ((lg_cmp_eq _ _).mpr (heq hk0)) c_1
set_option maxHeartbeats 4000000 in
set_option maxRecDepth 100000 in
theorem lp_bit {p : Program} {e : Env} {s : State} {m : MethodId} {below : List Frame} {meth : Method} {c : Code} (l : Launch) {b L : Nat} {xs : Nat → Int32} {G : mw_G} {Q : State → Prop} (C0 : lw_At p s m meth c b L xs) (hL : L ≤ 4096) (hC : mw_C G (lw_A s) s) {i : Nat} (hi : i + 6 ≤ L) {cl sl : Nat} (hcl : cl + 1 ≤ 600002) (hsl : sl + 6 ≤ 7302232) {x mh o : Nat} {M M1 : mw_M} {H : Heap} {locs : List Loc} {ls : Array Slot} (hw : mw_St G (lw_A s) s M H locs) (hl : lv_has ls 7 [(0, .ref (b)), (1, .ref (x)), (2, .ref (mh)), (3, .ref (o)), (4, .int (nI (i)))])
    {rmh : Room} {mc ms k : Nat} (hrc : rmh.cells = mc) (hrs : rmh.slots = ms) (hF : rmh.frames ≤ 10) (hLo : rmh.locals ≤ 245) (hmc : mc ≤ 1) (hms : ms ≤ 6) (hk : k ≤ 2) (hc : ∀ sz, Met l yL_bit wsL_bit rmh (mw_pre G M sz [.ref (x), .int (xs (i + 1)), .int (xs (i + 2)), .int (xs (i + 3)), .ref (o)]) (mw_Qi G M sz (nI (k)) M1) mc ms (mw_A M sz))
    {a : Nat → Nat} {c1 u1 u2 : Nat} {A1 A2 : md_S} (hmd : md_at G M1 mh a c1 u1 A1) {r : Int32} {ov : Nat → Int64} (eo : M1 o = some (.inl (G.2 2, 1, .inr (.inl (ov))))) (heq : k = 0 → ov 0 = r.toInt64) {rm2 : Room} (hrc2 : rm2.cells = 0) (hrs2 : rm2.slots = 0) (hF2 : rm2.frames ≤ 10) (hLo2 : rm2.locals ≤ 245) (hm : ∀ sz, Met l yX7_bit_ wsX7_bit_ rm2 (mw_pre G M1 sz [.ref (mh), .int (xs (i + 1)), .int (xs (i + 2)), .int (xs (i + 3))]) (md_Qi G M1 sz mh a r k u2 A2) 0 0 (mw_A M1 sz))
    (kk : ∀ (M2 : mw_M) (H : Heap) (locs : List Loc) (ls : Array Slot), md_at G M2 mh a k u2 A2 → md_fr mh a M1 M2 → mw_St G (lw_A s) s M2 H locs → lv_has ls 7 [(0, .ref (b)), (1, .ref (x)), (2, .ref (mh)), (3, .ref (o)), (4, .int (nI (i)))] → W p l e room_1 s m #[Value.ref b] below meth c H locs (cl + 1) (sl + 6) Q (F0 m 944 ls [])) : W p l e room_1 s m #[Value.ref b] below meth c H locs cl sl Q (F0 m 580 ls []) := by
  obtain ⟨hx, hb, hr, hml, hown, hts, hX, hbl, hlocks, hgv⟩ := C0
  have hbA : ¬ lw_A s b := Nat.not_le.mpr hbl
  refine lv_aload_n hx hb dL_law_580 rfl (lv_at hl 1 rfl) ?_
  refine lv_aload_n hx hb dL_law_581 rfl (lv_at hl 0 rfl) ?_
  refine lv_iload hx hb dL_law_582 (lv_at hl 4 rfl) ?_
  refine lv_iconst (v := nI 1) hx hb dL_law_584 (by decide) ?_
  refine lv_iadd hx hb dL_law_585 ?_
  refine mw_ti (v' := nI (i + 1)) (nI_add _ _) ?_
  refine mw_sld hx hb hX hbl hbA hw (i := i + 1) (by omega) (by omega) dL_law_586 ?_
  refine lv_aload_n hx hb dL_law_587 rfl (lv_at hl 0 rfl) ?_
  refine lv_iload hx hb dL_law_588 (lv_at hl 4 rfl) ?_
  refine lv_iconst (v := nI 2) hx hb dL_law_590 (by decide) ?_
  refine lv_iadd hx hb dL_law_591 ?_
  refine mw_ti (v' := nI (i + 2)) (nI_add _ _) ?_
  refine mw_sld hx hb hX hbl hbA hw (i := i + 2) (by omega) (by omega) dL_law_592 ?_
  refine lv_aload_n hx hb dL_law_593 rfl (lv_at hl 0 rfl) ?_
  refine lv_iload hx hb dL_law_594 (lv_at hl 4 rfl) ?_
  refine lv_iconst (v := nI 3) hx hb dL_law_596 (by decide) ?_
  refine lv_iadd hx hb dL_law_597 ?_
  refine mw_ti (v' := nI (i + 3)) (nI_add _ _) ?_
  refine mw_sld hx hb hX hbl hbA hw (i := i + 3) (by omega) (by omega) dL_law_598 ?_
  refine lv_aload_n hx hb dL_law_599 rfl (lv_at hl 3 rfl) ?_
  refine mw_ci hC hw (vx_runSW (As := [.ref (x), .int (xs (i + 1)), .int (xs (i + 2)), .int (xs (i + 3)), .ref (o)]) (rest := []) ⟨hx, hb, hml, hown, hts⟩ (hc H.size) (vx_cwSW 5 hts gw_L_bit rfl hrc hrs (by decide +kernel) ⟨show rmh.frames + 1 ≤ 12 by omega, show 8 + (6 + 11) + rmh.locals ≤ 428 by omega⟩) (mw_preS hC hw) rfl rfl hl.1 rfl (lv_room (Nat.le_of_ble_eq_true rfl)) dL_law_600 ⟨show cl + mc ≤ 600002 by omega, show sl + ms ≤ 7302232 by omega⟩) (fun H locs hz9 hw => ?_)
  refine lv_istore (lv' := [(5, .int (nI (k))), (0, .ref (b)), (1, .ref (x)), (2, .ref (mh)), (3, .ref (o)), (4, .int (nI (i)))]) hx hb dL_law_603 hl (by decide) rfl (fun ls hl => ?_)
  refine lv_aload_n hx hb dL_law_605 rfl (lv_at hl 3 rfl) ?_
  refine lv_aload_n hx hb dL_law_606 rfl (lv_at hl 1 rfl) ?_
  refine lv_iload hx hb dL_law_607 (lv_at hl 5 rfl) ?_
  refine lv_iconst (v := nI 1) hx hb dL_law_609 (by decide) ?_
  refine lv_iadd hx hb dL_law_610 ?_
  refine mw_ti (v' := nI (i + 1)) (nI_add _ _) ?_
  refine mw_sld hx hb hX hbl hbA hw (i := i + 1) (by omega) (by omega) dL_law_611 ?_
  refine lv_aload_n hx hb dL_law_612 rfl (lv_at hl 1 rfl) ?_
  refine lv_iload hx hb dL_law_613 (lv_at hl 5 rfl) ?_
  refine lv_iconst (v := nI 2) hx hb dL_law_615 (by decide) ?_
  refine lv_iadd hx hb dL_law_616 ?_
  refine mw_ti (v' := nI (i + 2)) (nI_add _ _) ?_
  refine mw_sld hx hb hX hbl hbA hw (i := i + 2) (by omega) (by omega) dL_law_617 ?_
  refine lv_aload_n hx hb dL_law_618 rfl (lv_at hl 1 rfl) ?_
  refine lv_iload hx hb dL_law_619 (lv_at hl 5 rfl) ?_
  refine lv_iconst (v := nI 3) hx hb dL_law_621 (by decide) ?_
  refine lv_iadd hx hb dL_law_622 ?_
  refine mw_ti (v' := nI (i + 3)) (nI_add _ _) ?_
  refine mw_sld hx hb hX hbl hbA hw (i := i + 3) (by omega) (by omega) dL_law_623 ?_
  refine md_ci hC hw (va_runV (As := [.int (xs (i + 1)), .int (xs (i + 2)), .int (xs (i + 3))]) (rest := []) ⟨hx, hb, hml, hown, hts⟩ (hm H.size) (cwV 3 hts gw_X7_bit_ rfl hrc2 hrs2 (by decide +kernel) ⟨show rm2.frames + 1 ≤ 12 by omega, show 8 + (5 + 11) + rm2.locals ≤ 428 by omega⟩) (mw_preV (ci := 7) hC hw rfl hmd.1) rfl rfl hl.1 rfl (lv_room (Nat.le_of_ble_eq_true rfl)) dL_law_624 ⟨show cl + mc + 0 ≤ 600002 by omega, show sl + ms + 0 ≤ 7302232 by omega⟩) (fun M2 H locs hm2 hf2 hw => ?_)
  refine lv_istore (lv' := [(6, .int (r)), (5, .int (nI (k))), (0, .ref (b)), (1, .ref (x)), (2, .ref (mh)), (3, .ref (o)), (4, .int (nI (i)))]) hx hb dL_law_627 hl (by decide) rfl (fun ls hl => ?_)
  refine lv_aload_n hx hb dL_law_629 rfl (lv_at hl 4 rfl) ?_
  refine md_ci hC hw (va_runV (As := []) (rest := []) ⟨hx, hb, hml, hown, hts⟩ (c_X7_thrown l G _ H.size mh a k u2 A2 hm2) (cwV 0 hts gw_X7_thrown rfl rfl rfl (by decide +kernel) ⟨Nat.le_of_ble_eq_true rfl, Nat.le_of_ble_eq_true rfl⟩) (mw_preV (ci := 7) hC hw rfl hm2.1) rfl rfl hl.1 rfl (lv_room (Nat.le_of_ble_eq_true rfl)) dL_law_630 ⟨show cl + mc + 0 + 0 ≤ 600002 by omega, show sl + ms + 0 + 0 ≤ 7302232 by omega⟩) (fun M2 H locs hm2 hf3 hw => ?_)
  have hf2 := hf2.tr hf3
  have eo2 := (hf2 o (mw_ne eo hmd.1 (by intro h9; cases h9)) (fun j hj => mw_ne eo (hmd.2.1 j hj) (by simp [md_arr]))).trans eo
  refine lv_iload hx hb dL_law_633 (lv_at hl 1 rfl) ?_
  refine lv_icmp_eq (tgt := 640) hx hb dL_law_635 (by decide) (fun _ => ?_) (fun h9 => absurd rfl h9)
  refine lv_iload hx hb dL_law_640 (lv_at hl 1 rfl) ?_
  refine lv_if_ne (tgt := 657) hx hb dL_law_642 (by decide) (fun hk0 => ?_) (fun hk0 => ?_)
  · skip
    refine lv_goto (tgt := 944) hx hb dL_law_657 (by decide) ?_
    refine W.widen (k := cl + 1) (n := sl + 6) (show cl + mc + 0 + 0 ≤ cl + 1 by omega) (show sl + ms + 0 + 0 ≤ sl + 6 by omega) ?_
    exact kk M2 H locs ls hm2 hf2 hw (lv_sub hl [2, 3, 4, 5, 6] rfl)
  · skip
    have hk0 : k = 0 := (nI_eq (a := k) (b := 0) (by omega) (by omega)).mp (show nI k = nI 0 from hk0)
    refine lv_aload_n hx hb dL_law_645 rfl (lv_at hl 5 rfl) ?_
    refine lv_iconst (v := nI 0) hx hb dL_law_646 (by decide) ?_
    refine mw_laldN (n := 1) (f := ov) (i := 0) hx hb hC hw eo2 (by omega) (by decide) dL_law_647 ?_
    refine lv_iload hx hb dL_law_648 (lv_at hl 0 rfl) ?_
    refine lv_i2l hx hb dL_law_650 rfl ?_
    refine W.lcmp hx hb dL_law_651 ?_
    refine lv_if_eq (tgt := 657) hx hb dL_law_652 (by decide) (fun c_1 => ?_) (fun c_1 => ?_)
    · skip
      refine lv_goto (tgt := 944) hx hb dL_law_657 (by decide) ?_
      refine W.widen (k := cl + 1) (n := sl + 6) (show cl + mc + 0 + 0 ≤ cl + 1 by omega) (show sl + ms + 0 + 0 ≤ sl + 6 by omega) ?_
      exact kk M2 H locs ls hm2 hf2 hw (lv_sub hl [2, 3, 4, 5, 6] rfl)
    · exact absurd ((lg_cmp_eq _ _).mpr (heq hk0)) c_1
set_option maxHeartbeats 4000000 in
set_option maxRecDepth 100000 in
theorem lp_taken {p : Program} {e : Env} {s : State} {m : MethodId} {below : List Frame} {meth : Method} {c : Code} (l : Launch) {b L : Nat} {xs : Nat → Int32} {G : mw_G} {Q : State → Prop} (C0 : lw_At p s m meth c b L xs) (hL : L ≤ 4096) (hC : mw_C G (lw_A s) s) {i : Nat} (hi : i + 6 ≤ L) {cl sl : Nat} (hcl : cl + 1 ≤ 600002) (hsl : sl + 6 ≤ 7302232) {x mh o : Nat} {M M1 : mw_M} {H : Heap} {locs : List Loc} {ls : Array Slot} (hw : mw_St G (lw_A s) s M H locs) (hl : lv_has ls 7 [(0, .ref (b)), (1, .ref (x)), (2, .ref (mh)), (3, .ref (o)), (4, .int (nI (i)))])
    {rmh : Room} {mc ms k : Nat} (hrc : rmh.cells = mc) (hrs : rmh.slots = ms) (hF : rmh.frames ≤ 10) (hLo : rmh.locals ≤ 245) (hmc : mc ≤ 1) (hms : ms ≤ 6) (hk : k ≤ 2) (hc : ∀ sz, Met l yL_taken wsL_taken rmh (mw_pre G M sz [.ref (x), .int (xs (i + 1)), .int (xs (i + 2)), .int (xs (i + 3)), .ref (o)]) (mw_Qi G M sz (nI (k)) M1) mc ms (mw_A M sz))
    {a : Nat → Nat} {c1 u1 u2 : Nat} {A1 A2 : md_S} (hmd : md_at G M1 mh a c1 u1 A1) {r : Int32} {ov : Nat → Int64} (eo : M1 o = some (.inl (G.2 2, 1, .inr (.inl (ov))))) (heq : k = 0 → ov 0 = r.toInt64) {rm2 : Room} (hrc2 : rm2.cells = 0) (hrs2 : rm2.slots = 0) (hF2 : rm2.frames ≤ 10) (hLo2 : rm2.locals ≤ 245) (hm : ∀ sz, Met l yX7_taken wsX7_taken rm2 (mw_pre G M1 sz [.ref (mh), .int (xs (i + 1)), .int (xs (i + 2)), .int (xs (i + 3))]) (md_Qi G M1 sz mh a r k u2 A2) 0 0 (mw_A M1 sz))
    (kk : ∀ (M2 : mw_M) (H : Heap) (locs : List Loc) (ls : Array Slot), md_at G M2 mh a k u2 A2 → md_fr mh a M1 M2 → mw_St G (lw_A s) s M2 H locs → lv_has ls 7 [(0, .ref (b)), (1, .ref (x)), (2, .ref (mh)), (3, .ref (o)), (4, .int (nI (i)))] → W p l e room_1 s m #[Value.ref b] below meth c H locs (cl + 1) (sl + 6) Q (F0 m 944 ls [])) : W p l e room_1 s m #[Value.ref b] below meth c H locs cl sl Q (F0 m 660 ls []) := by
  obtain ⟨hx, hb, hr, hml, hown, hts, hX, hbl, hlocks, hgv⟩ := C0
  have hbA : ¬ lw_A s b := Nat.not_le.mpr hbl
  refine lv_aload_n hx hb dL_law_660 rfl (lv_at hl 1 rfl) ?_
  refine lv_aload_n hx hb dL_law_661 rfl (lv_at hl 0 rfl) ?_
  refine lv_iload hx hb dL_law_662 (lv_at hl 4 rfl) ?_
  refine lv_iconst (v := nI 1) hx hb dL_law_664 (by decide) ?_
  refine lv_iadd hx hb dL_law_665 ?_
  refine mw_ti (v' := nI (i + 1)) (nI_add _ _) ?_
  refine mw_sld hx hb hX hbl hbA hw (i := i + 1) (by omega) (by omega) dL_law_666 ?_
  refine lv_aload_n hx hb dL_law_667 rfl (lv_at hl 0 rfl) ?_
  refine lv_iload hx hb dL_law_668 (lv_at hl 4 rfl) ?_
  refine lv_iconst (v := nI 2) hx hb dL_law_670 (by decide) ?_
  refine lv_iadd hx hb dL_law_671 ?_
  refine mw_ti (v' := nI (i + 2)) (nI_add _ _) ?_
  refine mw_sld hx hb hX hbl hbA hw (i := i + 2) (by omega) (by omega) dL_law_672 ?_
  refine lv_aload_n hx hb dL_law_673 rfl (lv_at hl 0 rfl) ?_
  refine lv_iload hx hb dL_law_674 (lv_at hl 4 rfl) ?_
  refine lv_iconst (v := nI 3) hx hb dL_law_676 (by decide) ?_
  refine lv_iadd hx hb dL_law_677 ?_
  refine mw_ti (v' := nI (i + 3)) (nI_add _ _) ?_
  refine mw_sld hx hb hX hbl hbA hw (i := i + 3) (by omega) (by omega) dL_law_678 ?_
  refine lv_aload_n hx hb dL_law_679 rfl (lv_at hl 3 rfl) ?_
  refine mw_ci hC hw (vx_runSW (As := [.ref (x), .int (xs (i + 1)), .int (xs (i + 2)), .int (xs (i + 3)), .ref (o)]) (rest := []) ⟨hx, hb, hml, hown, hts⟩ (hc H.size) (vx_cwSW 5 hts gw_L_taken rfl hrc hrs (by decide +kernel) ⟨show rmh.frames + 1 ≤ 12 by omega, show 8 + (6 + 11) + rmh.locals ≤ 428 by omega⟩) (mw_preS hC hw) rfl rfl hl.1 rfl (lv_room (Nat.le_of_ble_eq_true rfl)) dL_law_680 ⟨show cl + mc ≤ 600002 by omega, show sl + ms ≤ 7302232 by omega⟩) (fun H locs hz9 hw => ?_)
  refine lv_istore (lv' := [(5, .int (nI (k))), (0, .ref (b)), (1, .ref (x)), (2, .ref (mh)), (3, .ref (o)), (4, .int (nI (i)))]) hx hb dL_law_683 hl (by decide) rfl (fun ls hl => ?_)
  refine lv_aload_n hx hb dL_law_685 rfl (lv_at hl 3 rfl) ?_
  refine lv_aload_n hx hb dL_law_686 rfl (lv_at hl 1 rfl) ?_
  refine lv_iload hx hb dL_law_687 (lv_at hl 5 rfl) ?_
  refine lv_iconst (v := nI 1) hx hb dL_law_689 (by decide) ?_
  refine lv_iadd hx hb dL_law_690 ?_
  refine mw_ti (v' := nI (i + 1)) (nI_add _ _) ?_
  refine mw_sld hx hb hX hbl hbA hw (i := i + 1) (by omega) (by omega) dL_law_691 ?_
  refine lv_aload_n hx hb dL_law_692 rfl (lv_at hl 1 rfl) ?_
  refine lv_iload hx hb dL_law_693 (lv_at hl 5 rfl) ?_
  refine lv_iconst (v := nI 2) hx hb dL_law_695 (by decide) ?_
  refine lv_iadd hx hb dL_law_696 ?_
  refine mw_ti (v' := nI (i + 2)) (nI_add _ _) ?_
  refine mw_sld hx hb hX hbl hbA hw (i := i + 2) (by omega) (by omega) dL_law_697 ?_
  refine lv_aload_n hx hb dL_law_698 rfl (lv_at hl 1 rfl) ?_
  refine lv_iload hx hb dL_law_699 (lv_at hl 5 rfl) ?_
  refine lv_iconst (v := nI 3) hx hb dL_law_701 (by decide) ?_
  refine lv_iadd hx hb dL_law_702 ?_
  refine mw_ti (v' := nI (i + 3)) (nI_add _ _) ?_
  refine mw_sld hx hb hX hbl hbA hw (i := i + 3) (by omega) (by omega) dL_law_703 ?_
  refine md_ci hC hw (va_runV (As := [.int (xs (i + 1)), .int (xs (i + 2)), .int (xs (i + 3))]) (rest := []) ⟨hx, hb, hml, hown, hts⟩ (hm H.size) (cwV 3 hts gw_X7_taken rfl hrc2 hrs2 (by decide +kernel) ⟨show rm2.frames + 1 ≤ 12 by omega, show 8 + (5 + 11) + rm2.locals ≤ 428 by omega⟩) (mw_preV (ci := 7) hC hw rfl hmd.1) rfl rfl hl.1 rfl (lv_room (Nat.le_of_ble_eq_true rfl)) dL_law_704 ⟨show cl + mc + 0 ≤ 600002 by omega, show sl + ms + 0 ≤ 7302232 by omega⟩) (fun M2 H locs hm2 hf2 hw => ?_)
  refine lv_istore (lv' := [(6, .int (r)), (5, .int (nI (k))), (0, .ref (b)), (1, .ref (x)), (2, .ref (mh)), (3, .ref (o)), (4, .int (nI (i)))]) hx hb dL_law_707 hl (by decide) rfl (fun ls hl => ?_)
  refine lv_aload_n hx hb dL_law_709 rfl (lv_at hl 4 rfl) ?_
  refine md_ci hC hw (va_runV (As := []) (rest := []) ⟨hx, hb, hml, hown, hts⟩ (c_X7_thrown l G _ H.size mh a k u2 A2 hm2) (cwV 0 hts gw_X7_thrown rfl rfl rfl (by decide +kernel) ⟨Nat.le_of_ble_eq_true rfl, Nat.le_of_ble_eq_true rfl⟩) (mw_preV (ci := 7) hC hw rfl hm2.1) rfl rfl hl.1 rfl (lv_room (Nat.le_of_ble_eq_true rfl)) dL_law_710 ⟨show cl + mc + 0 + 0 ≤ 600002 by omega, show sl + ms + 0 + 0 ≤ 7302232 by omega⟩) (fun M2 H locs hm2 hf3 hw => ?_)
  have hf2 := hf2.tr hf3
  have eo2 := (hf2 o (mw_ne eo hmd.1 (by intro h9; cases h9)) (fun j hj => mw_ne eo (hmd.2.1 j hj) (by simp [md_arr]))).trans eo
  refine lv_iload hx hb dL_law_713 (lv_at hl 1 rfl) ?_
  refine lv_icmp_eq (tgt := 720) hx hb dL_law_715 (by decide) (fun _ => ?_) (fun h9 => absurd rfl h9)
  refine lv_iload hx hb dL_law_720 (lv_at hl 1 rfl) ?_
  refine lv_if_ne (tgt := 737) hx hb dL_law_722 (by decide) (fun hk0 => ?_) (fun hk0 => ?_)
  · skip
    refine lv_goto (tgt := 944) hx hb dL_law_737 (by decide) ?_
    refine W.widen (k := cl + 1) (n := sl + 6) (show cl + mc + 0 + 0 ≤ cl + 1 by omega) (show sl + ms + 0 + 0 ≤ sl + 6 by omega) ?_
    exact kk M2 H locs ls hm2 hf2 hw (lv_sub hl [2, 3, 4, 5, 6] rfl)
  · skip
    have hk0 : k = 0 := (nI_eq (a := k) (b := 0) (by omega) (by omega)).mp (show nI k = nI 0 from hk0)
    refine lv_aload_n hx hb dL_law_725 rfl (lv_at hl 5 rfl) ?_
    refine lv_iconst (v := nI 0) hx hb dL_law_726 (by decide) ?_
    refine mw_laldN (n := 1) (f := ov) (i := 0) hx hb hC hw eo2 (by omega) (by decide) dL_law_727 ?_
    refine lv_iload hx hb dL_law_728 (lv_at hl 0 rfl) ?_
    refine lv_i2l hx hb dL_law_730 rfl ?_
    refine W.lcmp hx hb dL_law_731 ?_
    refine lv_if_eq (tgt := 737) hx hb dL_law_732 (by decide) (fun c_1 => ?_) (fun c_1 => ?_)
    · skip
      refine lv_goto (tgt := 944) hx hb dL_law_737 (by decide) ?_
      refine W.widen (k := cl + 1) (n := sl + 6) (show cl + mc + 0 + 0 ≤ cl + 1 by omega) (show sl + ms + 0 + 0 ≤ sl + 6 by omega) ?_
      exact kk M2 H locs ls hm2 hf2 hw (lv_sub hl [2, 3, 4, 5, 6] rfl)
    · exact absurd ((lg_cmp_eq _ _).mpr (heq hk0)) c_1
set_option maxHeartbeats 4000000 in
set_option maxRecDepth 100000 in
theorem lp_check {p : Program} {e : Env} {s : State} {m : MethodId} {below : List Frame} {meth : Method} {c : Code} (l : Launch) {b L : Nat} {xs : Nat → Int32} {G : mw_G} {Q : State → Prop} (C0 : lw_At p s m meth c b L xs) (hL : L ≤ 4096) (hC : mw_C G (lw_A s) s) {i : Nat} (hi : i + 6 ≤ L) {cl sl : Nat} (hcl : cl + 1 ≤ 600002) (hsl : sl + 6 ≤ 7302232) {x mh o : Nat} {M M1 : mw_M} {H : Heap} {locs : List Loc} {ls : Array Slot} (hw : mw_St G (lw_A s) s M H locs) (hl : lv_has ls 7 [(0, .ref (b)), (1, .ref (x)), (2, .ref (mh)), (3, .ref (o)), (4, .int (nI (i)))])
    {rmh : Room} {mc ms k : Nat} (hrc : rmh.cells = mc) (hrs : rmh.slots = ms) (hF : rmh.frames ≤ 10) (hLo : rmh.locals ≤ 245) (hmc : mc ≤ 1) (hms : ms ≤ 6) (hk : k ≤ 2) (hc : ∀ sz, Met l yL_check wsL_check rmh (mw_pre G M sz [.ref (x), .long (lw_w xs (i + 1)), .int (xs (i + 3)), .ref (o)]) (mw_Qi G M sz (nI (k)) M1) mc ms (mw_A M sz))
    {a : Nat → Nat} {c1 u1 u2 : Nat} {A1 A2 : md_S} (hmd : md_at G M1 mh a c1 u1 A1) {r : Int32} {ov : Nat → Int64} (eo : M1 o = some (.inl (G.2 2, 1, .inr (.inl (ov))))) (heq : k = 0 → ov 0 = r.toInt64) {rm2 : Room} (hrc2 : rm2.cells = 0) (hrs2 : rm2.slots = 0) (hF2 : rm2.frames ≤ 10) (hLo2 : rm2.locals ≤ 245) (hm : ∀ sz, Met l yX7_check wsX7_check rm2 (mw_pre G M1 sz [.ref (mh), .long (lw_w xs (i + 1)), .int (xs (i + 3))]) (md_Qi G M1 sz mh a r k u2 A2) 0 0 (mw_A M1 sz))
    (kk : ∀ (M2 : mw_M) (H : Heap) (locs : List Loc) (ls : Array Slot), md_at G M2 mh a k u2 A2 → md_fr mh a M1 M2 → mw_St G (lw_A s) s M2 H locs → lv_has ls 7 [(0, .ref (b)), (1, .ref (x)), (2, .ref (mh)), (3, .ref (o)), (4, .int (nI (i)))] → W p l e room_1 s m #[Value.ref b] below meth c H locs (cl + 1) (sl + 6) Q (F0 m 944 ls [])) : W p l e room_1 s m #[Value.ref b] below meth c H locs cl sl Q (F0 m 740 ls []) := by
  obtain ⟨hx, hb, hr, hml, hown, hts, hX, hbl, hlocks, hgv⟩ := C0
  have hbA : ¬ lw_A s b := Nat.not_le.mpr hbl
  have k_0 := hts (.constantLong RL 80 (4294967295)) (by decide +kernel)
  refine lv_aload_n hx hb dL_law_740 rfl (lv_at hl 1 rfl) ?_
  refine lv_aload_n hx hb dL_law_741 rfl (lv_at hl 0 rfl) ?_
  refine lv_iload hx hb dL_law_742 (lv_at hl 4 rfl) ?_
  refine lv_iconst (v := nI 1) hx hb dL_law_744 (by decide) ?_
  refine lv_iadd hx hb dL_law_745 ?_
  refine mw_ti (v' := nI (i + 1)) (nI_add _ _) ?_
  refine mw_sld hx hb hX hbl hbA hw (i := i + 1) (by omega) (by omega) dL_law_746 ?_
  refine lv_i2l hx hb dL_law_747 rfl ?_
  refine lv_bipush (v := nI 32) hx hb dL_law_748 (by decide) ?_
  refine lv_lshl hx hb dL_law_750 rfl ?_
  refine lv_aload_n hx hb dL_law_751 rfl (lv_at hl 0 rfl) ?_
  refine lv_iload hx hb dL_law_752 (lv_at hl 4 rfl) ?_
  refine lv_iconst (v := nI 2) hx hb dL_law_754 (by decide) ?_
  refine lv_iadd hx hb dL_law_755 ?_
  refine mw_ti (v' := nI (i + 2)) (nI_add _ _) ?_
  refine mw_sld hx hb hX hbl hbA hw (i := i + 2) (by omega) (by omega) dL_law_756 ?_
  refine lv_i2l hx hb dL_law_757 rfl ?_
  refine lv_ldc2 hx hb hown k_0 dL_law_758 ?_
  refine lv_land hx hb dL_law_761 ?_
  refine lv_lor hx hb dL_law_762 ?_
  refine mw_tl (v' := lw_w xs (i + 1)) rfl ?_
  refine lv_aload_n hx hb dL_law_763 rfl (lv_at hl 0 rfl) ?_
  refine lv_iload hx hb dL_law_764 (lv_at hl 4 rfl) ?_
  refine lv_iconst (v := nI 3) hx hb dL_law_766 (by decide) ?_
  refine lv_iadd hx hb dL_law_767 ?_
  refine mw_ti (v' := nI (i + 3)) (nI_add _ _) ?_
  refine mw_sld hx hb hX hbl hbA hw (i := i + 3) (by omega) (by omega) dL_law_768 ?_
  refine lv_aload_n hx hb dL_law_769 rfl (lv_at hl 3 rfl) ?_
  refine mw_ci hC hw (vx_runSW (As := [.ref (x), .long (lw_w xs (i + 1)), .int (xs (i + 3)), .ref (o)]) (rest := []) ⟨hx, hb, hml, hown, hts⟩ (hc H.size) (vx_cwSW 4 hts gw_L_check rfl hrc hrs (by decide +kernel) ⟨show rmh.frames + 1 ≤ 12 by omega, show 8 + (6 + 11) + rmh.locals ≤ 428 by omega⟩) (mw_preS hC hw) rfl rfl hl.1 rfl (lv_room (Nat.le_of_ble_eq_true rfl)) dL_law_770 ⟨show cl + mc ≤ 600002 by omega, show sl + ms ≤ 7302232 by omega⟩) (fun H locs hz9 hw => ?_)
  refine lv_istore (lv' := [(5, .int (nI (k))), (0, .ref (b)), (1, .ref (x)), (2, .ref (mh)), (3, .ref (o)), (4, .int (nI (i)))]) hx hb dL_law_773 hl (by decide) rfl (fun ls hl => ?_)
  refine lv_aload_n hx hb dL_law_775 rfl (lv_at hl 3 rfl) ?_
  refine lv_aload_n hx hb dL_law_776 rfl (lv_at hl 1 rfl) ?_
  refine lv_iload hx hb dL_law_777 (lv_at hl 5 rfl) ?_
  refine lv_iconst (v := nI 1) hx hb dL_law_779 (by decide) ?_
  refine lv_iadd hx hb dL_law_780 ?_
  refine mw_ti (v' := nI (i + 1)) (nI_add _ _) ?_
  refine mw_sld hx hb hX hbl hbA hw (i := i + 1) (by omega) (by omega) dL_law_781 ?_
  refine lv_i2l hx hb dL_law_782 rfl ?_
  refine lv_bipush (v := nI 32) hx hb dL_law_783 (by decide) ?_
  refine lv_lshl hx hb dL_law_785 rfl ?_
  refine lv_aload_n hx hb dL_law_786 rfl (lv_at hl 1 rfl) ?_
  refine lv_iload hx hb dL_law_787 (lv_at hl 5 rfl) ?_
  refine lv_iconst (v := nI 2) hx hb dL_law_789 (by decide) ?_
  refine lv_iadd hx hb dL_law_790 ?_
  refine mw_ti (v' := nI (i + 2)) (nI_add _ _) ?_
  refine mw_sld hx hb hX hbl hbA hw (i := i + 2) (by omega) (by omega) dL_law_791 ?_
  refine lv_i2l hx hb dL_law_792 rfl ?_
  refine lv_ldc2 hx hb hown k_0 dL_law_793 ?_
  refine lv_land hx hb dL_law_796 ?_
  refine lv_lor hx hb dL_law_797 ?_
  refine mw_tl (v' := lw_w xs (i + 1)) rfl ?_
  refine lv_aload_n hx hb dL_law_798 rfl (lv_at hl 1 rfl) ?_
  refine lv_iload hx hb dL_law_799 (lv_at hl 5 rfl) ?_
  refine lv_iconst (v := nI 3) hx hb dL_law_801 (by decide) ?_
  refine lv_iadd hx hb dL_law_802 ?_
  refine mw_ti (v' := nI (i + 3)) (nI_add _ _) ?_
  refine mw_sld hx hb hX hbl hbA hw (i := i + 3) (by omega) (by omega) dL_law_803 ?_
  refine md_ci hC hw (va_runV (As := [.long (lw_w xs (i + 1)), .int (xs (i + 3))]) (rest := []) ⟨hx, hb, hml, hown, hts⟩ (hm H.size) (cwV 2 hts gw_X7_check rfl hrc2 hrs2 (by decide +kernel) ⟨show rm2.frames + 1 ≤ 12 by omega, show 8 + (6 + 11) + rm2.locals ≤ 428 by omega⟩) (mw_preV (ci := 7) hC hw rfl hmd.1) rfl rfl hl.1 rfl (lv_room (Nat.le_of_ble_eq_true rfl)) dL_law_804 ⟨show cl + mc + 0 ≤ 600002 by omega, show sl + ms + 0 ≤ 7302232 by omega⟩) (fun M2 H locs hm2 hf2 hw => ?_)
  refine lv_istore (lv' := [(6, .int (r)), (5, .int (nI (k))), (0, .ref (b)), (1, .ref (x)), (2, .ref (mh)), (3, .ref (o)), (4, .int (nI (i)))]) hx hb dL_law_807 hl (by decide) rfl (fun ls hl => ?_)
  refine lv_aload_n hx hb dL_law_809 rfl (lv_at hl 4 rfl) ?_
  refine md_ci hC hw (va_runV (As := []) (rest := []) ⟨hx, hb, hml, hown, hts⟩ (c_X7_thrown l G _ H.size mh a k u2 A2 hm2) (cwV 0 hts gw_X7_thrown rfl rfl rfl (by decide +kernel) ⟨Nat.le_of_ble_eq_true rfl, Nat.le_of_ble_eq_true rfl⟩) (mw_preV (ci := 7) hC hw rfl hm2.1) rfl rfl hl.1 rfl (lv_room (Nat.le_of_ble_eq_true rfl)) dL_law_810 ⟨show cl + mc + 0 + 0 ≤ 600002 by omega, show sl + ms + 0 + 0 ≤ 7302232 by omega⟩) (fun M2 H locs hm2 hf3 hw => ?_)
  have hf2 := hf2.tr hf3
  have eo2 := (hf2 o (mw_ne eo hmd.1 (by intro h9; cases h9)) (fun j hj => mw_ne eo (hmd.2.1 j hj) (by simp [md_arr]))).trans eo
  refine lv_iload hx hb dL_law_813 (lv_at hl 1 rfl) ?_
  refine lv_icmp_eq (tgt := 820) hx hb dL_law_815 (by decide) (fun _ => ?_) (fun h9 => absurd rfl h9)
  refine lv_iload hx hb dL_law_820 (lv_at hl 1 rfl) ?_
  refine lv_if_ne (tgt := 837) hx hb dL_law_822 (by decide) (fun hk0 => ?_) (fun hk0 => ?_)
  · skip
    refine lv_goto (tgt := 944) hx hb dL_law_837 (by decide) ?_
    refine W.widen (k := cl + 1) (n := sl + 6) (show cl + mc + 0 + 0 ≤ cl + 1 by omega) (show sl + ms + 0 + 0 ≤ sl + 6 by omega) ?_
    exact kk M2 H locs ls hm2 hf2 hw (lv_sub hl [2, 3, 4, 5, 6] rfl)
  · skip
    have hk0 : k = 0 := (nI_eq (a := k) (b := 0) (by omega) (by omega)).mp (show nI k = nI 0 from hk0)
    refine lv_aload_n hx hb dL_law_825 rfl (lv_at hl 5 rfl) ?_
    refine lv_iconst (v := nI 0) hx hb dL_law_826 (by decide) ?_
    refine mw_laldN (n := 1) (f := ov) (i := 0) hx hb hC hw eo2 (by omega) (by decide) dL_law_827 ?_
    refine lv_iload hx hb dL_law_828 (lv_at hl 0 rfl) ?_
    refine lv_i2l hx hb dL_law_830 rfl ?_
    refine W.lcmp hx hb dL_law_831 ?_
    refine lv_if_eq (tgt := 837) hx hb dL_law_832 (by decide) (fun c_1 => ?_) (fun c_1 => ?_)
    · skip
      refine lv_goto (tgt := 944) hx hb dL_law_837 (by decide) ?_
      refine W.widen (k := cl + 1) (n := sl + 6) (show cl + mc + 0 + 0 ≤ cl + 1 by omega) (show sl + ms + 0 + 0 ≤ sl + 6 by omega) ?_
      exact kk M2 H locs ls hm2 hf2 hw (lv_sub hl [2, 3, 4, 5, 6] rfl)
    · exact absurd ((lg_cmp_eq _ _).mpr (heq hk0)) c_1
set_option maxHeartbeats 4000000 in
set_option maxRecDepth 100000 in
theorem lp_about {p : Program} {e : Env} {s : State} {m : MethodId} {below : List Frame} {meth : Method} {c : Code} (l : Launch) {b L : Nat} {xs : Nat → Int32} {G : mw_G} {Q : State → Prop} (C0 : lw_At p s m meth c b L xs) (hL : L ≤ 4096) (hC : mw_C G (lw_A s) s) {i : Nat} (hi : i + 6 ≤ L) {cl sl : Nat} (hcl : cl + 1 ≤ 600002) (hsl : sl + 6 ≤ 7302232) {x mh o : Nat} {M M1 : mw_M} {H : Heap} {locs : List Loc} {ls : Array Slot} (hw : mw_St G (lw_A s) s M H locs) (hl : lv_has ls 7 [(0, .ref (b)), (1, .ref (x)), (2, .ref (mh)), (3, .ref (o)), (4, .int (nI (i)))])
    {rmh : Room} {mc ms k : Nat} (hrc : rmh.cells = mc) (hrs : rmh.slots = ms) (hF : rmh.frames ≤ 10) (hLo : rmh.locals ≤ 245) (hmc : mc ≤ 1) (hms : ms ≤ 6) (hk : k ≤ 2) (hc : ∀ sz, Met l yL_about wsL_about rmh (mw_pre G M sz [.ref (x), .int (xs (i + 1)), .int (xs (i + 2)), .ref (o)]) (mw_Qi G M sz (nI (k)) M1) mc ms (mw_A M sz))
    {a : Nat → Nat} {c1 u1 u2 : Nat} {A1 A2 : md_S} (hmd : md_at G M1 mh a c1 u1 A1) {r : Int32} {ov : Nat → Int64} (eo : M1 o = some (.inl (G.2 2, 1, .inr (.inl (ov))))) (heq : k = 0 → ov 0 = r.toInt64) {rm2 : Room} (hrc2 : rm2.cells = 0) (hrs2 : rm2.slots = 0) (hF2 : rm2.frames ≤ 10) (hLo2 : rm2.locals ≤ 245) (hm : ∀ sz, Met l yX7_about wsX7_about rm2 (mw_pre G M1 sz [.ref (mh), .int (xs (i + 1)), .int (xs (i + 2))]) (md_Qi G M1 sz mh a r k u2 A2) 0 0 (mw_A M1 sz))
    (kk : ∀ (M2 : mw_M) (H : Heap) (locs : List Loc) (ls : Array Slot), md_at G M2 mh a k u2 A2 → md_fr mh a M1 M2 → mw_St G (lw_A s) s M2 H locs → lv_has ls 7 [(0, .ref (b)), (1, .ref (x)), (2, .ref (mh)), (3, .ref (o)), (4, .int (nI (i)))] → W p l e room_1 s m #[Value.ref b] below meth c H locs (cl + 1) (sl + 6) Q (F0 m 944 ls [])) : W p l e room_1 s m #[Value.ref b] below meth c H locs cl sl Q (F0 m 840 ls []) := by
  obtain ⟨hx, hb, hr, hml, hown, hts, hX, hbl, hlocks, hgv⟩ := C0
  have hbA : ¬ lw_A s b := Nat.not_le.mpr hbl
  refine lv_aload_n hx hb dL_law_840 rfl (lv_at hl 1 rfl) ?_
  refine lv_aload_n hx hb dL_law_841 rfl (lv_at hl 0 rfl) ?_
  refine lv_iload hx hb dL_law_842 (lv_at hl 4 rfl) ?_
  refine lv_iconst (v := nI 1) hx hb dL_law_844 (by decide) ?_
  refine lv_iadd hx hb dL_law_845 ?_
  refine mw_ti (v' := nI (i + 1)) (nI_add _ _) ?_
  refine mw_sld hx hb hX hbl hbA hw (i := i + 1) (by omega) (by omega) dL_law_846 ?_
  refine lv_aload_n hx hb dL_law_847 rfl (lv_at hl 0 rfl) ?_
  refine lv_iload hx hb dL_law_848 (lv_at hl 4 rfl) ?_
  refine lv_iconst (v := nI 2) hx hb dL_law_850 (by decide) ?_
  refine lv_iadd hx hb dL_law_851 ?_
  refine mw_ti (v' := nI (i + 2)) (nI_add _ _) ?_
  refine mw_sld hx hb hX hbl hbA hw (i := i + 2) (by omega) (by omega) dL_law_852 ?_
  refine lv_aload_n hx hb dL_law_853 rfl (lv_at hl 3 rfl) ?_
  refine mw_ci hC hw (vx_runSW (As := [.ref (x), .int (xs (i + 1)), .int (xs (i + 2)), .ref (o)]) (rest := []) ⟨hx, hb, hml, hown, hts⟩ (hc H.size) (vx_cwSW 4 hts gw_L_about rfl hrc hrs (by decide +kernel) ⟨show rmh.frames + 1 ≤ 12 by omega, show 8 + (5 + 11) + rmh.locals ≤ 428 by omega⟩) (mw_preS hC hw) rfl rfl hl.1 rfl (lv_room (Nat.le_of_ble_eq_true rfl)) dL_law_854 ⟨show cl + mc ≤ 600002 by omega, show sl + ms ≤ 7302232 by omega⟩) (fun H locs hz9 hw => ?_)
  refine lv_istore (lv' := [(5, .int (nI (k))), (0, .ref (b)), (1, .ref (x)), (2, .ref (mh)), (3, .ref (o)), (4, .int (nI (i)))]) hx hb dL_law_857 hl (by decide) rfl (fun ls hl => ?_)
  refine lv_aload_n hx hb dL_law_859 rfl (lv_at hl 3 rfl) ?_
  refine lv_aload_n hx hb dL_law_860 rfl (lv_at hl 1 rfl) ?_
  refine lv_iload hx hb dL_law_861 (lv_at hl 5 rfl) ?_
  refine lv_iconst (v := nI 1) hx hb dL_law_863 (by decide) ?_
  refine lv_iadd hx hb dL_law_864 ?_
  refine mw_ti (v' := nI (i + 1)) (nI_add _ _) ?_
  refine mw_sld hx hb hX hbl hbA hw (i := i + 1) (by omega) (by omega) dL_law_865 ?_
  refine lv_aload_n hx hb dL_law_866 rfl (lv_at hl 1 rfl) ?_
  refine lv_iload hx hb dL_law_867 (lv_at hl 5 rfl) ?_
  refine lv_iconst (v := nI 2) hx hb dL_law_869 (by decide) ?_
  refine lv_iadd hx hb dL_law_870 ?_
  refine mw_ti (v' := nI (i + 2)) (nI_add _ _) ?_
  refine mw_sld hx hb hX hbl hbA hw (i := i + 2) (by omega) (by omega) dL_law_871 ?_
  refine md_ci hC hw (va_runV (As := [.int (xs (i + 1)), .int (xs (i + 2))]) (rest := []) ⟨hx, hb, hml, hown, hts⟩ (hm H.size) (cwV 2 hts gw_X7_about rfl hrc2 hrs2 (by decide +kernel) ⟨show rm2.frames + 1 ≤ 12 by omega, show 8 + (3 + 11) + rm2.locals ≤ 428 by omega⟩) (mw_preV (ci := 7) hC hw rfl hmd.1) rfl rfl hl.1 rfl (lv_room (Nat.le_of_ble_eq_true rfl)) dL_law_872 ⟨show cl + mc + 0 ≤ 600002 by omega, show sl + ms + 0 ≤ 7302232 by omega⟩) (fun M2 H locs hm2 hf2 hw => ?_)
  refine lv_istore (lv' := [(6, .int (r)), (5, .int (nI (k))), (0, .ref (b)), (1, .ref (x)), (2, .ref (mh)), (3, .ref (o)), (4, .int (nI (i)))]) hx hb dL_law_875 hl (by decide) rfl (fun ls hl => ?_)
  refine lv_aload_n hx hb dL_law_877 rfl (lv_at hl 4 rfl) ?_
  refine md_ci hC hw (va_runV (As := []) (rest := []) ⟨hx, hb, hml, hown, hts⟩ (c_X7_thrown l G _ H.size mh a k u2 A2 hm2) (cwV 0 hts gw_X7_thrown rfl rfl rfl (by decide +kernel) ⟨Nat.le_of_ble_eq_true rfl, Nat.le_of_ble_eq_true rfl⟩) (mw_preV (ci := 7) hC hw rfl hm2.1) rfl rfl hl.1 rfl (lv_room (Nat.le_of_ble_eq_true rfl)) dL_law_878 ⟨show cl + mc + 0 + 0 ≤ 600002 by omega, show sl + ms + 0 + 0 ≤ 7302232 by omega⟩) (fun M2 H locs hm2 hf3 hw => ?_)
  have hf2 := hf2.tr hf3
  have eo2 := (hf2 o (mw_ne eo hmd.1 (by intro h9; cases h9)) (fun j hj => mw_ne eo (hmd.2.1 j hj) (by simp [md_arr]))).trans eo
  refine lv_iload hx hb dL_law_881 (lv_at hl 1 rfl) ?_
  refine lv_icmp_eq (tgt := 888) hx hb dL_law_883 (by decide) (fun _ => ?_) (fun h9 => absurd rfl h9)
  refine lv_iload hx hb dL_law_888 (lv_at hl 1 rfl) ?_
  refine lv_if_ne (tgt := 905) hx hb dL_law_890 (by decide) (fun hk0 => ?_) (fun hk0 => ?_)
  · skip
    refine lv_goto (tgt := 944) hx hb dL_law_905 (by decide) ?_
    refine W.widen (k := cl + 1) (n := sl + 6) (show cl + mc + 0 + 0 ≤ cl + 1 by omega) (show sl + ms + 0 + 0 ≤ sl + 6 by omega) ?_
    exact kk M2 H locs ls hm2 hf2 hw (lv_sub hl [2, 3, 4, 5, 6] rfl)
  · skip
    have hk0 : k = 0 := (nI_eq (a := k) (b := 0) (by omega) (by omega)).mp (show nI k = nI 0 from hk0)
    refine lv_aload_n hx hb dL_law_893 rfl (lv_at hl 5 rfl) ?_
    refine lv_iconst (v := nI 0) hx hb dL_law_894 (by decide) ?_
    refine mw_laldN (n := 1) (f := ov) (i := 0) hx hb hC hw eo2 (by omega) (by decide) dL_law_895 ?_
    refine lv_iload hx hb dL_law_896 (lv_at hl 0 rfl) ?_
    refine lv_i2l hx hb dL_law_898 rfl ?_
    refine W.lcmp hx hb dL_law_899 ?_
    refine lv_if_eq (tgt := 905) hx hb dL_law_900 (by decide) (fun c_1 => ?_) (fun c_1 => ?_)
    · skip
      refine lv_goto (tgt := 944) hx hb dL_law_905 (by decide) ?_
      refine W.widen (k := cl + 1) (n := sl + 6) (show cl + mc + 0 + 0 ≤ cl + 1 by omega) (show sl + ms + 0 + 0 ≤ sl + 6 by omega) ?_
      exact kk M2 H locs ls hm2 hf2 hw (lv_sub hl [2, 3, 4, 5, 6] rfl)
    · exact absurd ((lg_cmp_eq _ _).mpr (heq hk0)) c_1
set_option maxHeartbeats 4000000 in
set_option maxRecDepth 100000 in
theorem lp_restart {p : Program} {e : Env} {s : State} {m : MethodId} {below : List Frame} {meth : Method} {c : Code} (l : Launch) {b L : Nat} {xs : Nat → Int32} {G : mw_G} {Q : State → Prop} (C0 : lw_At p s m meth c b L xs) (hL : L ≤ 4096) (hC : mw_C G (lw_A s) s) {i : Nat} (hi : i + 6 ≤ L) {cl sl : Nat} (hcl : cl + 1 ≤ 600002) (hsl : sl + 6 ≤ 7302232) {x mh o : Nat} {M M1 : mw_M} {H : Heap} {locs : List Loc} {ls : Array Slot} (hw : mw_St G (lw_A s) s M H locs) (hl : lv_has ls 7 [(0, .ref (b)), (1, .ref (x)), (2, .ref (mh)), (3, .ref (o)), (4, .int (nI (i)))])
    {rmh : Room} {mc ms k : Nat} (hrc : rmh.cells = mc) (hrs : rmh.slots = ms) (hF : rmh.frames ≤ 10) (hLo : rmh.locals ≤ 245) (hmc : mc ≤ 1) (hms : ms ≤ 6) (hk : k ≤ 2) (hc : ∀ sz, Met l yL_restart wsL_restart rmh (mw_pre G M sz [.ref (x), .int (xs (i + 1))]) (mw_Qi G M sz (nI (k)) M1) mc ms (mw_A M sz))
    {a : Nat → Nat} {c1 u1 u2 : Nat} {A1 A2 : md_S} (hmd : md_at G M1 mh a c1 u1 A1) {rm2 : Room} (hrc2 : rm2.cells = 0) (hrs2 : rm2.slots = 0) (hF2 : rm2.frames ≤ 10) (hLo2 : rm2.locals ≤ 245) (hm : ∀ sz, Met l yX7_restart wsX7_restart rm2 (mw_pre G M1 sz [.ref (mh), .int (xs (i + 1))]) (md_Qv G M1 sz mh a k u2 A2) 0 0 (mw_A M1 sz))
    (kk : ∀ (M2 : mw_M) (H : Heap) (locs : List Loc) (ls : Array Slot), md_at G M2 mh a k u2 A2 → md_fr mh a M1 M2 → mw_St G (lw_A s) s M2 H locs → lv_has ls 7 [(0, .ref (b)), (1, .ref (x)), (2, .ref (mh)), (3, .ref (o)), (4, .int (nI (i)))] → W p l e room_1 s m #[Value.ref b] below meth c H locs (cl + 1) (sl + 6) Q (F0 m 944 ls [])) : W p l e room_1 s m #[Value.ref b] below meth c H locs cl sl Q (F0 m 908 ls []) := by
  obtain ⟨hx, hb, hr, hml, hown, hts, hX, hbl, hlocks, hgv⟩ := C0
  have hbA : ¬ lw_A s b := Nat.not_le.mpr hbl
  refine lv_aload_n hx hb dL_law_908 rfl (lv_at hl 1 rfl) ?_
  refine lv_aload_n hx hb dL_law_909 rfl (lv_at hl 0 rfl) ?_
  refine lv_iload hx hb dL_law_910 (lv_at hl 4 rfl) ?_
  refine lv_iconst (v := nI 1) hx hb dL_law_912 (by decide) ?_
  refine lv_iadd hx hb dL_law_913 ?_
  refine mw_ti (v' := nI (i + 1)) (nI_add _ _) ?_
  refine mw_sld hx hb hX hbl hbA hw (i := i + 1) (by omega) (by omega) dL_law_914 ?_
  refine mw_ci hC hw (vx_runSW (As := [.ref (x), .int (xs (i + 1))]) (rest := []) ⟨hx, hb, hml, hown, hts⟩ (hc H.size) (vx_cwSW 2 hts gw_L_restart rfl hrc hrs (by decide +kernel) ⟨show rmh.frames + 1 ≤ 12 by omega, show 8 + (3 + 11) + rmh.locals ≤ 428 by omega⟩) (mw_preS hC hw) rfl rfl hl.1 rfl (lv_room (Nat.le_of_ble_eq_true rfl)) dL_law_915 ⟨show cl + mc ≤ 600002 by omega, show sl + ms ≤ 7302232 by omega⟩) (fun H locs hz9 hw => ?_)
  refine lv_istore (lv' := [(5, .int (nI (k))), (0, .ref (b)), (1, .ref (x)), (2, .ref (mh)), (3, .ref (o)), (4, .int (nI (i)))]) hx hb dL_law_918 hl (by decide) rfl (fun ls hl => ?_)
  refine lv_aload_n hx hb dL_law_920 rfl (lv_at hl 3 rfl) ?_
  refine lv_aload_n hx hb dL_law_921 rfl (lv_at hl 1 rfl) ?_
  refine lv_iload hx hb dL_law_922 (lv_at hl 5 rfl) ?_
  refine lv_iconst (v := nI 1) hx hb dL_law_924 (by decide) ?_
  refine lv_iadd hx hb dL_law_925 ?_
  refine mw_ti (v' := nI (i + 1)) (nI_add _ _) ?_
  refine mw_sld hx hb hX hbl hbA hw (i := i + 1) (by omega) (by omega) dL_law_926 ?_
  refine md_cv hC hw (va_runV (As := [.int (xs (i + 1))]) (rest := []) ⟨hx, hb, hml, hown, hts⟩ (hm H.size) (cwV 1 hts gw_X7_restart rfl hrc2 hrs2 (by decide +kernel) ⟨show rm2.frames + 1 ≤ 12 by omega, show 8 + (2 + 11) + rm2.locals ≤ 428 by omega⟩) (mw_preV (ci := 7) hC hw rfl hmd.1) rfl rfl hl.1 rfl (lv_room (Nat.le_of_ble_eq_true rfl)) dL_law_927 ⟨show cl + mc + 0 ≤ 600002 by omega, show sl + ms + 0 ≤ 7302232 by omega⟩) (fun M2 H locs hm2 hf2 hw => ?_)
  refine lv_aload_n hx hb dL_law_930 rfl (lv_at hl 3 rfl) ?_
  refine md_ci hC hw (va_runV (As := []) (rest := []) ⟨hx, hb, hml, hown, hts⟩ (c_X7_thrown l G _ H.size mh a k u2 A2 hm2) (cwV 0 hts gw_X7_thrown rfl rfl rfl (by decide +kernel) ⟨Nat.le_of_ble_eq_true rfl, Nat.le_of_ble_eq_true rfl⟩) (mw_preV (ci := 7) hC hw rfl hm2.1) rfl rfl hl.1 rfl (lv_room (Nat.le_of_ble_eq_true rfl)) dL_law_931 ⟨show cl + mc + 0 + 0 ≤ 600002 by omega, show sl + ms + 0 + 0 ≤ 7302232 by omega⟩) (fun M2 H locs hm2 hf3 hw => ?_)
  have hf2 := hf2.tr hf3
  refine lv_iload hx hb dL_law_934 (lv_at hl 0 rfl) ?_
  refine lv_icmp_eq (tgt := 941) hx hb dL_law_936 (by decide) (fun _ => ?_) (fun h9 => absurd rfl h9)
  refine lv_goto (tgt := 944) hx hb dL_law_941 (by decide) ?_
  refine W.widen (k := cl + 1) (n := sl + 6) (show cl + mc + 0 + 0 ≤ cl + 1 by omega) (show sl + ms + 0 + 0 ≤ sl + 6 by omega) ?_
  exact kk M2 H locs ls hm2 hf2 hw (lv_sub hl [1, 2, 3, 4, 5] rfl)
