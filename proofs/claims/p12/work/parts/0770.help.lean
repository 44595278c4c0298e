/-! ===== the law's helpers ===== -/
theorem mw_ofWH {l : Launch} {y : MethodName} {ws ws' : List Cond} {rm : Room} {Pc : Array Value → State → Prop} {Qc : Array Value → State → Outcome → State → Prop} {mc ms : Nat} {free : Addr → Prop} {cc : ByteArray} {maxL : Nat} {ret : Option FieldType} {hh : List (Nat × Nat × Nat × Nat)}
    (hy : plainName y.cls = true) (hw : ws = Cond.codeWith y cc maxL ret hh :: ws')
    (body : ∀ p e s m args below meth c s₁, BodyLoose p l y (headSpec ws rm) cc maxL ret e s m args below meth c s₁ → c.maxLocals = maxL → Pc args s →
      W p l e (headSpec ws rm).room s m args below meth c s.heap [] 0 0 (MQ below Qc args s mc ms free) (entryFrame m args maxL)) : Met l y ws rm Pc Qc mc ms free := by
  refine MetFree.of_bodyS (code := cc) (maxLocals := maxL) (ret := ret) hy ?_ ?_
  · intro args s m h hn
    obtain ⟨m9, meth, c, hn9, h1, h2, h3, h4, -, h5, h6, -⟩ := Cond.codeWith_spec (atoms_spec (ws := ws) h _ (by rw [hw]; exact List.mem_cons_self))
    cases hn.symm.trans hn9
    exact ⟨meth, c, h1, h2, h3, h4, h5, h6⟩
  · intro p e s m args below meth c s₁ B hml hP _
    have hh0 : s₁.heap = s.heap := by rw [B.state]; rfl
    obtain ⟨t, a1, o, b1, b2, b3⟩ := body p e s m args below meth c s₁ B hml hP s₁ hh0 (Stand.of_body B)
    exact ⟨t, o, a1, b1, b2, b3⟩
def RM_L_put_ok : Room := { frames := 10, cells := 0, slots := 0, locals := 235 }
set_option maxHeartbeats 4000000 in
set_option maxRecDepth 100000 in
theorem h_L_put_ok (l : Launch) (G : mw_G) (M M' : mw_M) (sz : Nat) (x : Nat) (o : Nat) (ov : Nat → Int64) (r : Int32) (p0 : Int32) (p1 : Int32) (p2 : Int32) {fs : List Value} {rm : Room} (ex : M x = some (.inr (6, fs))) (hrc : rm.cells = 0) (hrs : rm.slots = 0) (hR1 : rm.frames ≤ 9) (hR2 : rm.locals ≤ 200) (hc : ∀ sz, Met l yX6_put wsX6_put rm (mw_pre G M sz [.ref (x), .int (p0), .int (p1), .int (p2)]) (mw_Qi G M sz r M') 0 0 (mw_A M sz)) (eo : M' o = some (.inl (G.2 2, 1, .inr (.inl (ov))))) : Met l yL_put wsL_put RM_L_put_ok (mw_pre G M sz [.ref (x), .int (p0), .int (p1), .int (p2), .ref (o)]) (mw_Qi G M sz (nI (0)) (va_up M' o (some (.inl (G.2 2, 1, .inr (.inl (vp_updL (ov) (0) (r.toInt64)))))))) 0 0 (mw_A M sz) := by
  refine mw_ofWH (cc := cL_put) (maxL := 6) (ret := (some .int)) (hh := [(0, 12, 15, 13), (0, 12, 19, 15)]) (by decide) rfl ?_
  intro p e s m args below meth c s₁ B hml hv
  obtain ⟨rfl, rfl, hC, hw⟩ := mw_in hv
  have hx := B.exec
  have hb := B.bytes
  have hr := B.returns
  have hts := atoms_spec (ws := wsL_put) B.pre
  have hown : s.vm.findClass RL = some m.cls := findClass_of_methodNamed B.named
  have hlocks := B.notSynchronized
  have hl := lv_entry ([.ref (x), .int (p0), .int (p1), .int (p2), .ref (o)]) (n := 6) (Nat.le_of_ble_eq_true rfl)
  rw [lg_entry_eq]
  generalize (lg_sl ([.ref (x), .int (p0), .int (p1), .int (p2), .ref (o)]) ++ List.replicate (6 - (lg_sl ([.ref (x), .int (p0), .int (p1), .int (p2), .ref (o)])).length) Slot.unset).toArray = ls at hl ⊢
  have hl : lv_has ls 6 [(0, .ref (x)), (1, .int (p0)), (2, .int (p1)), (3, .int (p2)), (4, .ref (o))] := hl
  refine mw_start (fun H locs hw => ?_) hw
  refine lv_aload hx hb dL_put_0 (lv_at hl 4 rfl) ?_
  refine lv_iconst (v := nI 0) hx hb dL_put_2 (by decide) ?_
  refine lv_aload_n hx hb dL_put_3 rfl (lv_at hl 0 rfl) ?_
  refine lv_iload_n hx hb dL_put_4 rfl (lv_at hl 1 rfl) ?_
  refine lv_iload_n hx hb dL_put_5 rfl (lv_at hl 2 rfl) ?_
  refine lv_iload_n hx hb dL_put_6 rfl (lv_at hl 3 rfl) ?_
  refine mw_ci hC hw (va_runV (As := [.int (p0), .int (p1), .int (p2)]) (rest := [.int (nI (0)), .ref (o)]) ⟨hx, hb, hml, hown, hts⟩ (hc H.size) (cwV 3 hts gL_put_X6_put rfl hrc hrs (by decide +kernel) ⟨show rm.frames + 1 ≤ 10 by omega, show 8 + (5 + 11) + rm.locals ≤ 235 by omega⟩) (mw_preV (ci := 6) hC hw rfl ex) rfl rfl hl.1 rfl (lv_room (Nat.le_of_ble_eq_true rfl)) dL_put_7 ⟨Nat.le_of_ble_eq_true rfl, Nat.le_of_ble_eq_true rfl⟩) (fun H locs hz hw => ?_)
  refine lv_i2l hx hb dL_put_10 rfl ?_
  refine mw_lastN (n := 1) (f := ov) (i := 0) hx hb hC hw eo (by omega) (by decide) dL_put_11 (fun H locs hw => ?_)
  refine lv_goto (tgt := 23) hx hb dL_put_12 (by decide) ?_
  refine lv_iconst (v := nI 0) hx hb dL_put_23 (by decide) ?_
  exact mw_iret hx hb hr hlocks hw rfl (fun _ _ h9 => h9) dL_put_24
def RM_L_put_exA : Room := { frames := 10, cells := 1, slots := 6, locals := 235 }
set_option maxHeartbeats 4000000 in
set_option maxRecDepth 100000 in
theorem h_L_put_exA (l : Launch) (G : mw_G) (M : mw_M) (sz : Nat) (x : Nat) (o : Nat) (p0 : Int32) (p1 : Int32) (p2 : Int32) {fs : List Value} {rm : Room} (ex : M x = some (.inr (6, fs))) (hrc : rm.cells = 1) (hrs : rm.slots = 6) (hR1 : rm.frames ≤ 9) (hR2 : rm.locals ≤ 200) (hc : ∀ sz, vx_Met l yX6_put wsX6_put rm (mw_pre G M sz [.ref (x), .int (p0), .int (p1), .int (p2)]) mw_no (mw_X G M sz exA M) 1 6 (mw_A M sz)) : Met l yL_put wsL_put RM_L_put_exA (mw_pre G M sz [.ref (x), .int (p0), .int (p1), .int (p2), .ref (o)]) (mw_Qi G M sz (nI (1)) M) 1 6 (mw_A M sz) := by
  refine mw_ofWH (cc := cL_put) (maxL := 6) (ret := (some .int)) (hh := [(0, 12, 15, 13), (0, 12, 19, 15)]) (by decide) rfl ?_
  intro p e s m args below meth c s₁ B hml hv
  obtain ⟨rfl, rfl, hC, hw⟩ := mw_in hv
  have hx := B.exec
  have hb := B.bytes
  have hr := B.returns
  have hts := atoms_spec (ws := wsL_put) B.pre
  have hown : s.vm.findClass RL = some m.cls := findClass_of_methodNamed B.named
  have hlocks := B.notSynchronized
  have hTab : c.exceptionTable.toList = tableOf [(0, 12, 15, 13), (0, 12, 19, 15)] := vx_table (x := yL_put) B (hts (.codeWith yL_put cL_put 6 (some .int) [(0, 12, 15, 13), (0, 12, 19, 15)]) (by decide +kernel))
  have hl := lv_entry ([.ref (x), .int (p0), .int (p1), .int (p2), .ref (o)]) (n := 6) (Nat.le_of_ble_eq_true rfl)
  rw [lg_entry_eq]
  generalize (lg_sl ([.ref (x), .int (p0), .int (p1), .int (p2), .ref (o)]) ++ List.replicate (6 - (lg_sl ([.ref (x), .int (p0), .int (p1), .int (p2), .ref (o)])).length) Slot.unset).toArray = ls at hl ⊢
  have hl : lv_has ls 6 [(0, .ref (x)), (1, .int (p0)), (2, .int (p1)), (3, .int (p2)), (4, .ref (o))] := hl
  refine mw_start (fun H locs hw => ?_) hw
  refine lv_aload hx hb dL_put_0 (lv_at hl 4 rfl) ?_
  refine lv_iconst (v := nI 0) hx hb dL_put_2 (by decide) ?_
  refine lv_aload_n hx hb dL_put_3 rfl (lv_at hl 0 rfl) ?_
  refine lv_iload_n hx hb dL_put_4 rfl (lv_at hl 1 rfl) ?_
  refine lv_iload_n hx hb dL_put_5 rfl (lv_at hl 2 rfl) ?_
  refine lv_iload_n hx hb dL_put_6 rfl (lv_at hl 3 rfl) ?_
  refine mw_ct hC hw (vx_runV (As := [.int (p0), .int (p1), .int (p2)]) (rest := [.int (nI (0)), .ref (o)]) ⟨hx, hb, hml, hown, hts⟩ (hc H.size) (cwV 3 hts gL_put_X6_put rfl hrc hrs (by decide +kernel) ⟨show rm.frames + 1 ≤ 10 by omega, show 8 + (5 + 11) + rm.locals ≤ 235 by omega⟩) (mw_preV (ci := 6) hC hw rfl ex) rfl rfl hl.1 rfl (lv_room (Nat.le_of_ble_eq_true rfl)) dL_put_7 ⟨Nat.le_of_ble_eq_true rfl, Nat.le_of_ble_eq_true rfl⟩) (fun ce q9 H locs hw hce hcv hcl => ?_)
  refine mw_catch1 (own := RL) (name := exA) (E := exA) hown ⟨0, 12, 15, 13⟩ [⟨0, 12, 19, 15⟩] (by rw [hTab]; rfl) (by decide) (by decide) (hts (.classLink RL 13 exA) (by decide +kernel)) (va_Nw.use rfl (hC.1.2.2.2.2.2.1 (.castable exA exA) (by decide +kernel))) hce hcv hcl ?_
  refine lv_astore (lv' := [(5, .ref (q9)), (0, .ref (x)), (1, .int (p0)), (2, .int (p1)), (3, .int (p2)), (4, .ref (o))]) hx hb dL_put_15 hl (by decide) rfl (fun ls hl => ?_)
  refine lv_iconst (v := nI 1) hx hb dL_put_17 (by decide) ?_
  exact mw_iret hx hb hr hlocks hw rfl (fun _ _ h9 => h9) dL_put_18
def RM_L_put_exS : Room := { frames := 10, cells := 1, slots := 6, locals := 235 }
set_option maxHeartbeats 4000000 in
set_option maxRecDepth 100000 in
theorem h_L_put_exS (l : Launch) (G : mw_G) (M : mw_M) (sz : Nat) (x : Nat) (o : Nat) (p0 : Int32) (p1 : Int32) (p2 : Int32) {fs : List Value} {rm : Room} (ex : M x = some (.inr (6, fs))) (hrc : rm.cells = 1) (hrs : rm.slots = 6) (hR1 : rm.frames ≤ 9) (hR2 : rm.locals ≤ 200) (hc : ∀ sz, vx_Met l yX6_put wsX6_put rm (mw_pre G M sz [.ref (x), .int (p0), .int (p1), .int (p2)]) mw_no (mw_X G M sz exS M) 1 6 (mw_A M sz)) : Met l yL_put wsL_put RM_L_put_exS (mw_pre G M sz [.ref (x), .int (p0), .int (p1), .int (p2), .ref (o)]) (mw_Qi G M sz (nI (2)) M) 1 6 (mw_A M sz) := by
  refine mw_ofWH (cc := cL_put) (maxL := 6) (ret := (some .int)) (hh := [(0, 12, 15, 13), (0, 12, 19, 15)]) (by decide) rfl ?_
  intro p e s m args below meth c s₁ B hml hv
  obtain ⟨rfl, rfl, hC, hw⟩ := mw_in hv
  have hx := B.exec
  have hb := B.bytes
  have hr := B.returns
  have hts := atoms_spec (ws := wsL_put) B.pre
  have hown : s.vm.findClass RL = some m.cls := findClass_of_methodNamed B.named
  have hlocks := B.notSynchronized
  have hTab : c.exceptionTable.toList = tableOf [(0, 12, 15, 13), (0, 12, 19, 15)] := vx_table (x := yL_put) B (hts (.codeWith yL_put cL_put 6 (some .int) [(0, 12, 15, 13), (0, 12, 19, 15)]) (by decide +kernel))
  have hl := lv_entry ([.ref (x), .int (p0), .int (p1), .int (p2), .ref (o)]) (n := 6) (Nat.le_of_ble_eq_true rfl)
  rw [lg_entry_eq]
  generalize (lg_sl ([.ref (x), .int (p0), .int (p1), .int (p2), .ref (o)]) ++ List.replicate (6 - (lg_sl ([.ref (x), .int (p0), .int (p1), .int (p2), .ref (o)])).length) Slot.unset).toArray = ls at hl ⊢
  have hl : lv_has ls 6 [(0, .ref (x)), (1, .int (p0)), (2, .int (p1)), (3, .int (p2)), (4, .ref (o))] := hl
  refine mw_start (fun H locs hw => ?_) hw
  refine lv_aload hx hb dL_put_0 (lv_at hl 4 rfl) ?_
  refine lv_iconst (v := nI 0) hx hb dL_put_2 (by decide) ?_
  refine lv_aload_n hx hb dL_put_3 rfl (lv_at hl 0 rfl) ?_
  refine lv_iload_n hx hb dL_put_4 rfl (lv_at hl 1 rfl) ?_
  refine lv_iload_n hx hb dL_put_5 rfl (lv_at hl 2 rfl) ?_
  refine lv_iload_n hx hb dL_put_6 rfl (lv_at hl 3 rfl) ?_
  refine mw_ct hC hw (vx_runV (As := [.int (p0), .int (p1), .int (p2)]) (rest := [.int (nI (0)), .ref (o)]) ⟨hx, hb, hml, hown, hts⟩ (hc H.size) (cwV 3 hts gL_put_X6_put rfl hrc hrs (by decide +kernel) ⟨show rm.frames + 1 ≤ 10 by omega, show 8 + (5 + 11) + rm.locals ≤ 235 by omega⟩) (mw_preV (ci := 6) hC hw rfl ex) rfl rfl hl.1 rfl (lv_room (Nat.le_of_ble_eq_true rfl)) dL_put_7 ⟨Nat.le_of_ble_eq_true rfl, Nat.le_of_ble_eq_true rfl⟩) (fun ce q9 H locs hw hce hcv hcl => ?_)
  refine mw_catch2 (own := RL) (name := exS) (no := exA) (E := exS) hown ⟨0, 12, 15, 13⟩ ⟨0, 12, 19, 15⟩ [] (by rw [hTab]; rfl) (by decide) (by decide) (by decide) (by decide) (hts (.classLink RL 13 exA) (by decide +kernel)) hC.1.2.2.2.2.2.2 (hts (.classLink RL 15 exS) (by decide +kernel)) (va_Nw.use rfl (hC.1.2.2.2.2.2.1 (.castable exS exS) (by decide +kernel))) hce hcv hcl ?_
  refine lv_astore (lv' := [(5, .ref (q9)), (0, .ref (x)), (1, .int (p0)), (2, .int (p1)), (3, .int (p2)), (4, .ref (o))]) hx hb dL_put_19 hl (by decide) rfl (fun ls hl => ?_)
  refine lv_iconst (v := nI 2) hx hb dL_put_21 (by decide) ?_
  exact mw_iret hx hb hr hlocks hw rfl (fun _ _ h9 => h9) dL_put_22
def RM_L_send_ok : Room := { frames := 10, cells := 0, slots := 0, locals := 234 }
set_option maxHeartbeats 4000000 in
set_option maxRecDepth 100000 in
theorem h_L_send_ok (l : Launch) (G : mw_G) (M M' : mw_M) (sz : Nat) (x : Nat) (o : Nat) (ov : Nat → Int64) (r : Int32) (p0 : Int32) {fs : List Value} {rm : Room} (ex : M x = some (.inr (6, fs))) (hrc : rm.cells = 0) (hrs : rm.slots = 0) (hR1 : rm.frames ≤ 9) (hR2 : rm.locals ≤ 200) (hc : ∀ sz, Met l yX6_send wsX6_send rm (mw_pre G M sz [.ref (x), .int (p0)]) (mw_Qi G M sz r M') 0 0 (mw_A M sz)) (eo : M' o = some (.inl (G.2 2, 1, .inr (.inl (ov))))) : Met l yL_send wsL_send RM_L_send_ok (mw_pre G M sz [.ref (x), .int (p0), .ref (o)]) (mw_Qi G M sz (nI (0)) (va_up M' o (some (.inl (G.2 2, 1, .inr (.inl (vp_updL (ov) (0) (r.toInt64)))))))) 0 0 (mw_A M sz) := by
  refine mw_ofWH (cc := cL_send) (maxL := 4) (ret := (some .int)) (hh := [(0, 9, 12, 13), (0, 9, 15, 15)]) (by decide) rfl ?_
  intro p e s m args below meth c s₁ B hml hv
  obtain ⟨rfl, rfl, hC, hw⟩ := mw_in hv
  have hx := B.exec
  have hb := B.bytes
  have hr := B.returns
  have hts := atoms_spec (ws := wsL_send) B.pre
  have hown : s.vm.findClass RL = some m.cls := findClass_of_methodNamed B.named
  have hlocks := B.notSynchronized
  have hl := lv_entry ([.ref (x), .int (p0), .ref (o)]) (n := 4) (Nat.le_of_ble_eq_true rfl)
  rw [lg_entry_eq]
  generalize (lg_sl ([.ref (x), .int (p0), .ref (o)]) ++ List.replicate (4 - (lg_sl ([.ref (x), .int (p0), .ref (o)])).length) Slot.unset).toArray = ls at hl ⊢
  have hl : lv_has ls 4 [(0, .ref (x)), (1, .int (p0)), (2, .ref (o))] := hl
  refine mw_start (fun H locs hw => ?_) hw
  refine lv_aload_n hx hb dL_send_0 rfl (lv_at hl 2 rfl) ?_
  refine lv_iconst (v := nI 0) hx hb dL_send_1 (by decide) ?_
  refine lv_aload_n hx hb dL_send_2 rfl (lv_at hl 0 rfl) ?_
  refine lv_iload_n hx hb dL_send_3 rfl (lv_at hl 1 rfl) ?_
  refine mw_ci hC hw (va_runV (As := [.int (p0)]) (rest := [.int (nI (0)), .ref (o)]) ⟨hx, hb, hml, hown, hts⟩ (hc H.size) (cwV 1 hts gL_send_X6_send rfl hrc hrs (by decide +kernel) ⟨show rm.frames + 1 ≤ 10 by omega, show 8 + (4 + 11) + rm.locals ≤ 234 by omega⟩) (mw_preV (ci := 6) hC hw rfl ex) rfl rfl hl.1 rfl (lv_room (Nat.le_of_ble_eq_true rfl)) dL_send_4 ⟨Nat.le_of_ble_eq_true rfl, Nat.le_of_ble_eq_true rfl⟩) (fun H locs hz hw => ?_)
  refine lv_i2l hx hb dL_send_7 rfl ?_
  refine mw_lastN (n := 1) (f := ov) (i := 0) hx hb hC hw eo (by omega) (by decide) dL_send_8 (fun H locs hw => ?_)
  refine lv_goto (tgt := 18) hx hb dL_send_9 (by decide) ?_
  refine lv_iconst (v := nI 0) hx hb dL_send_18 (by decide) ?_
  exact mw_iret hx hb hr hlocks hw rfl (fun _ _ h9 => h9) dL_send_19
def RM_L_send_exA : Room := { frames := 10, cells := 1, slots := 6, locals := 234 }
set_option maxHeartbeats 4000000 in
set_option maxRecDepth 100000 in
theorem h_L_send_exA (l : Launch) (G : mw_G) (M : mw_M) (sz : Nat) (x : Nat) (o : Nat) (p0 : Int32) {fs : List Value} {rm : Room} (ex : M x = some (.inr (6, fs))) (hrc : rm.cells = 1) (hrs : rm.slots = 6) (hR1 : rm.frames ≤ 9) (hR2 : rm.locals ≤ 200) (hc : ∀ sz, vx_Met l yX6_send wsX6_send rm (mw_pre G M sz [.ref (x), .int (p0)]) mw_no (mw_X G M sz exA M) 1 6 (mw_A M sz)) : Met l yL_send wsL_send RM_L_send_exA (mw_pre G M sz [.ref (x), .int (p0), .ref (o)]) (mw_Qi G M sz (nI (1)) M) 1 6 (mw_A M sz) := by
  refine mw_ofWH (cc := cL_send) (maxL := 4) (ret := (some .int)) (hh := [(0, 9, 12, 13), (0, 9, 15, 15)]) (by decide) rfl ?_
  intro p e s m args below meth c s₁ B hml hv
  obtain ⟨rfl, rfl, hC, hw⟩ := mw_in hv
  have hx := B.exec
  have hb := B.bytes
  have hr := B.returns
  have hts := atoms_spec (ws := wsL_send) B.pre
  have hown : s.vm.findClass RL = some m.cls := findClass_of_methodNamed B.named
  have hlocks := B.notSynchronized
  have hTab : c.exceptionTable.toList = tableOf [(0, 9, 12, 13), (0, 9, 15, 15)] := vx_table (x := yL_send) B (hts (.codeWith yL_send cL_send 4 (some .int) [(0, 9, 12, 13), (0, 9, 15, 15)]) (by decide +kernel))
  have hl := lv_entry ([.ref (x), .int (p0), .ref (o)]) (n := 4) (Nat.le_of_ble_eq_true rfl)
  rw [lg_entry_eq]
  generalize (lg_sl ([.ref (x), .int (p0), .ref (o)]) ++ List.replicate (4 - (lg_sl ([.ref (x), .int (p0), .ref (o)])).length) Slot.unset).toArray = ls at hl ⊢
  have hl : lv_has ls 4 [(0, .ref (x)), (1, .int (p0)), (2, .ref (o))] := hl
  refine mw_start (fun H locs hw => ?_) hw
  refine lv_aload_n hx hb dL_send_0 rfl (lv_at hl 2 rfl) ?_
  refine lv_iconst (v := nI 0) hx hb dL_send_1 (by decide) ?_
  refine lv_aload_n hx hb dL_send_2 rfl (lv_at hl 0 rfl) ?_
  refine lv_iload_n hx hb dL_send_3 rfl (lv_at hl 1 rfl) ?_
  refine mw_ct hC hw (vx_runV (As := [.int (p0)]) (rest := [.int (nI (0)), .ref (o)]) ⟨hx, hb, hml, hown, hts⟩ (hc H.size) (cwV 1 hts gL_send_X6_send rfl hrc hrs (by decide +kernel) ⟨show rm.frames + 1 ≤ 10 by omega, show 8 + (4 + 11) + rm.locals ≤ 234 by omega⟩) (mw_preV (ci := 6) hC hw rfl ex) rfl rfl hl.1 rfl (lv_room (Nat.le_of_ble_eq_true rfl)) dL_send_4 ⟨Nat.le_of_ble_eq_true rfl, Nat.le_of_ble_eq_true rfl⟩) (fun ce q9 H locs hw hce hcv hcl => ?_)
  refine mw_catch1 (own := RL) (name := exA) (E := exA) hown ⟨0, 9, 12, 13⟩ [⟨0, 9, 15, 15⟩] (by rw [hTab]; rfl) (by decide) (by decide) (hts (.classLink RL 13 exA) (by decide +kernel)) (va_Nw.use rfl (hC.1.2.2.2.2.2.1 (.castable exA exA) (by decide +kernel))) hce hcv hcl ?_
  refine lv_astore_n (lv' := [(3, .ref (q9)), (0, .ref (x)), (1, .int (p0)), (2, .ref (o))]) hx hb dL_send_12 rfl hl (by decide) rfl (fun ls hl => ?_)
  refine lv_iconst (v := nI 1) hx hb dL_send_13 (by decide) ?_
  exact mw_iret hx hb hr hlocks hw rfl (fun _ _ h9 => h9) dL_send_14
def RM_L_send_exS : Room := { frames := 10, cells := 1, slots := 6, locals := 234 }
set_option maxHeartbeats 4000000 in
set_option maxRecDepth 100000 in
theorem h_L_send_exS (l : Launch) (G : mw_G) (M : mw_M) (sz : Nat) (x : Nat) (o : Nat) (p0 : Int32) {fs : List Value} {rm : Room} (ex : M x = some (.inr (6, fs))) (hrc : rm.cells = 1) (hrs : rm.slots = 6) (hR1 : rm.frames ≤ 9) (hR2 : rm.locals ≤ 200) (hc : ∀ sz, vx_Met l yX6_send wsX6_send rm (mw_pre G M sz [.ref (x), .int (p0)]) mw_no (mw_X G M sz exS M) 1 6 (mw_A M sz)) : Met l yL_send wsL_send RM_L_send_exS (mw_pre G M sz [.ref (x), .int (p0), .ref (o)]) (mw_Qi G M sz (nI (2)) M) 1 6 (mw_A M sz) := by
  refine mw_ofWH (cc := cL_send) (maxL := 4) (ret := (some .int)) (hh := [(0, 9, 12, 13), (0, 9, 15, 15)]) (by decide) rfl ?_
  intro p e s m args below meth c s₁ B hml hv
  obtain ⟨rfl, rfl, hC, hw⟩ := mw_in hv
  have hx := B.exec
  have hb := B.bytes
  have hr := B.returns
  have hts := atoms_spec (ws := wsL_send) B.pre
  have hown : s.vm.findClass RL = some m.cls := findClass_of_methodNamed B.named
  have hlocks := B.notSynchronized
  have hTab : c.exceptionTable.toList = tableOf [(0, 9, 12, 13), (0, 9, 15, 15)] := vx_table (x := yL_send) B (hts (.codeWith yL_send cL_send 4 (some .int) [(0, 9, 12, 13), (0, 9, 15, 15)]) (by decide +kernel))
  have hl := lv_entry ([.ref (x), .int (p0), .ref (o)]) (n := 4) (Nat.le_of_ble_eq_true rfl)
  rw [lg_entry_eq]
  generalize (lg_sl ([.ref (x), .int (p0), .ref (o)]) ++ List.replicate (4 - (lg_sl ([.ref (x), .int (p0), .ref (o)])).length) Slot.unset).toArray = ls at hl ⊢
  have hl : lv_has ls 4 [(0, .ref (x)), (1, .int (p0)), (2, .ref (o))] := hl
  refine mw_start (fun H locs hw => ?_) hw
  refine lv_aload_n hx hb dL_send_0 rfl (lv_at hl 2 rfl) ?_
  refine lv_iconst (v := nI 0) hx hb dL_send_1 (by decide) ?_
  refine lv_aload_n hx hb dL_send_2 rfl (lv_at hl 0 rfl) ?_
  refine lv_iload_n hx hb dL_send_3 rfl (lv_at hl 1 rfl) ?_
  refine mw_ct hC hw (vx_runV (As := [.int (p0)]) (rest := [.int (nI (0)), .ref (o)]) ⟨hx, hb, hml, hown, hts⟩ (hc H.size) (cwV 1 hts gL_send_X6_send rfl hrc hrs (by decide +kernel) ⟨show rm.frames + 1 ≤ 10 by omega, show 8 + (4 + 11) + rm.locals ≤ 234 by omega⟩) (mw_preV (ci := 6) hC hw rfl ex) rfl rfl hl.1 rfl (lv_room (Nat.le_of_ble_eq_true rfl)) dL_send_4 ⟨Nat.le_of_ble_eq_true rfl, Nat.le_of_ble_eq_true rfl⟩) (fun ce q9 H locs hw hce hcv hcl => ?_)
  refine mw_catch2 (own := RL) (name := exS) (no := exA) (E := exS) hown ⟨0, 9, 12, 13⟩ ⟨0, 9, 15, 15⟩ [] (by rw [hTab]; rfl) (by decide) (by decide) (by decide) (by decide) (hts (.classLink RL 13 exA) (by decide +kernel)) hC.1.2.2.2.2.2.2 (hts (.classLink RL 15 exS) (by decide +kernel)) (va_Nw.use rfl (hC.1.2.2.2.2.2.1 (.castable exS exS) (by decide +kernel))) hce hcv hcl ?_
  refine lv_astore_n (lv' := [(3, .ref (q9)), (0, .ref (x)), (1, .int (p0)), (2, .ref (o))]) hx hb dL_send_15 rfl hl (by decide) rfl (fun ls hl => ?_)
  refine lv_iconst (v := nI 2) hx hb dL_send_16 (by decide) ?_
  exact mw_iret hx hb hr hlocks hw rfl (fun _ _ h9 => h9) dL_send_17
def RM_L_take_ok : Room := { frames := 10, cells := 0, slots := 0, locals := 236 }
set_option maxHeartbeats 4000000 in
set_option maxRecDepth 100000 in
theorem h_L_take_ok (l : Launch) (G : mw_G) (M M' : mw_M) (sz : Nat) (x : Nat) (o : Nat) (ov : Nat → Int64) (r : Int32) (p0 : Int32) {fs : List Value} {rm : Room} (ex : M x = some (.inr (6, fs))) (hrc : rm.cells = 0) (hrs : rm.slots = 0) (hR1 : rm.frames ≤ 9) (hR2 : rm.locals ≤ 200) (hc : ∀ sz, Met l yX6_take wsX6_take rm (mw_pre G M sz [.ref (x), .int (p0)]) (mw_Qi G M sz r M') 0 0 (mw_A M sz)) (eo : M' o = some (.inl (G.2 2, 1, .inr (.inl (ov))))) : Met l yL_take wsL_take RM_L_take_ok (mw_pre G M sz [.ref (x), .int (p0), .ref (o)]) (mw_Qi G M sz (nI (0)) (va_up M' o (some (.inl (G.2 2, 1, .inr (.inl (vp_updL (ov) (0) (r.toInt64)))))))) 0 0 (mw_A M sz) := by
  refine mw_ofWH (cc := cL_take) (maxL := 4) (ret := (some .int)) (hh := [(0, 9, 12, 13), (0, 9, 15, 15)]) (by decide) rfl ?_
  intro p e s m args below meth c s₁ B hml hv
  obtain ⟨rfl, rfl, hC, hw⟩ := mw_in hv
  have hx := B.exec
  have hb := B.bytes
  have hr := B.returns
  have hts := atoms_spec (ws := wsL_take) B.pre
  have hown : s.vm.findClass RL = some m.cls := findClass_of_methodNamed B.named
  have hlocks := B.notSynchronized
  have hl := lv_entry ([.ref (x), .int (p0), .ref (o)]) (n := 4) (Nat.le_of_ble_eq_true rfl)
  rw [lg_entry_eq]
  generalize (lg_sl ([.ref (x), .int (p0), .ref (o)]) ++ List.replicate (4 - (lg_sl ([.ref (x), .int (p0), .ref (o)])).length) Slot.unset).toArray = ls at hl ⊢
  have hl : lv_has ls 4 [(0, .ref (x)), (1, .int (p0)), (2, .ref (o))] := hl
  refine mw_start (fun H locs hw => ?_) hw
  refine lv_aload_n hx hb dL_take_0 rfl (lv_at hl 2 rfl) ?_
  refine lv_iconst (v := nI 0) hx hb dL_take_1 (by decide) ?_
  refine lv_aload_n hx hb dL_take_2 rfl (lv_at hl 0 rfl) ?_
  refine lv_iload_n hx hb dL_take_3 rfl (lv_at hl 1 rfl) ?_
  refine mw_ci hC hw (va_runV (As := [.int (p0)]) (rest := [.int (nI (0)), .ref (o)]) ⟨hx, hb, hml, hown, hts⟩ (hc H.size) (cwV 1 hts gL_take_X6_take rfl hrc hrs (by decide +kernel) ⟨show rm.frames + 1 ≤ 10 by omega, show 8 + (6 + 11) + rm.locals ≤ 236 by omega⟩) (mw_preV (ci := 6) hC hw rfl ex) rfl rfl hl.1 rfl (lv_room (Nat.le_of_ble_eq_true rfl)) dL_take_4 ⟨Nat.le_of_ble_eq_true rfl, Nat.le_of_ble_eq_true rfl⟩) (fun H locs hz hw => ?_)
  refine lv_i2l hx hb dL_take_7 rfl ?_
  refine mw_lastN (n := 1) (f := ov) (i := 0) hx hb hC hw eo (by omega) (by decide) dL_take_8 (fun H locs hw => ?_)
  refine lv_goto (tgt := 18) hx hb dL_take_9 (by decide) ?_
  refine lv_iconst (v := nI 0) hx hb dL_take_18 (by decide) ?_
  exact mw_iret hx hb hr hlocks hw rfl (fun _ _ h9 => h9) dL_take_19
def RM_L_take_exA : Room := { frames := 10, cells := 1, slots := 6, locals := 236 }
set_option maxHeartbeats 4000000 in
set_option maxRecDepth 100000 in
theorem h_L_take_exA (l : Launch) (G : mw_G) (M : mw_M) (sz : Nat) (x : Nat) (o : Nat) (p0 : Int32) {fs : List Value} {rm : Room} (ex : M x = some (.inr (6, fs))) (hrc : rm.cells = 1) (hrs : rm.slots = 6) (hR1 : rm.frames ≤ 9) (hR2 : rm.locals ≤ 200) (hc : ∀ sz, vx_Met l yX6_take wsX6_take rm (mw_pre G M sz [.ref (x), .int (p0)]) mw_no (mw_X G M sz exA M) 1 6 (mw_A M sz)) : Met l yL_take wsL_take RM_L_take_exA (mw_pre G M sz [.ref (x), .int (p0), .ref (o)]) (mw_Qi G M sz (nI (1)) M) 1 6 (mw_A M sz) := by
  refine mw_ofWH (cc := cL_take) (maxL := 4) (ret := (some .int)) (hh := [(0, 9, 12, 13), (0, 9, 15, 15)]) (by decide) rfl ?_
  intro p e s m args below meth c s₁ B hml hv
  obtain ⟨rfl, rfl, hC, hw⟩ := mw_in hv
  have hx := B.exec
  have hb := B.bytes
  have hr := B.returns
  have hts := atoms_spec (ws := wsL_take) B.pre
  have hown : s.vm.findClass RL = some m.cls := findClass_of_methodNamed B.named
  have hlocks := B.notSynchronized
  have hTab : c.exceptionTable.toList = tableOf [(0, 9, 12, 13), (0, 9, 15, 15)] := vx_table (x := yL_take) B (hts (.codeWith yL_take cL_take 4 (some .int) [(0, 9, 12, 13), (0, 9, 15, 15)]) (by decide +kernel))
  have hl := lv_entry ([.ref (x), .int (p0), .ref (o)]) (n := 4) (Nat.le_of_ble_eq_true rfl)
  rw [lg_entry_eq]
  generalize (lg_sl ([.ref (x), .int (p0), .ref (o)]) ++ List.replicate (4 - (lg_sl ([.ref (x), .int (p0), .ref (o)])).length) Slot.unset).toArray = ls at hl ⊢
  have hl : lv_has ls 4 [(0, .ref (x)), (1, .int (p0)), (2, .ref (o))] := hl
  refine mw_start (fun H locs hw => ?_) hw
  refine lv_aload_n hx hb dL_take_0 rfl (lv_at hl 2 rfl) ?_
  refine lv_iconst (v := nI 0) hx hb dL_take_1 (by decide) ?_
  refine lv_aload_n hx hb dL_take_2 rfl (lv_at hl 0 rfl) ?_
  refine lv_iload_n hx hb dL_take_3 rfl (lv_at hl 1 rfl) ?_
  refine mw_ct hC hw (vx_runV (As := [.int (p0)]) (rest := [.int (nI (0)), .ref (o)]) ⟨hx, hb, hml, hown, hts⟩ (hc H.size) (cwV 1 hts gL_take_X6_take rfl hrc hrs (by decide +kernel) ⟨show rm.frames + 1 ≤ 10 by omega, show 8 + (6 + 11) + rm.locals ≤ 236 by omega⟩) (mw_preV (ci := 6) hC hw rfl ex) rfl rfl hl.1 rfl (lv_room (Nat.le_of_ble_eq_true rfl)) dL_take_4 ⟨Nat.le_of_ble_eq_true rfl, Nat.le_of_ble_eq_true rfl⟩) (fun ce q9 H locs hw hce hcv hcl => ?_)
  refine mw_catch1 (own := RL) (name := exA) (E := exA) hown ⟨0, 9, 12, 13⟩ [⟨0, 9, 15, 15⟩] (by rw [hTab]; rfl) (by decide) (by decide) (hts (.classLink RL 13 exA) (by decide +kernel)) (va_Nw.use rfl (hC.1.2.2.2.2.2.1 (.castable exA exA) (by decide +kernel))) hce hcv hcl ?_
  refine lv_astore_n (lv' := [(3, .ref (q9)), (0, .ref (x)), (1, .int (p0)), (2, .ref (o))]) hx hb dL_take_12 rfl hl (by decide) rfl (fun ls hl => ?_)
  refine lv_iconst (v := nI 1) hx hb dL_take_13 (by decide) ?_
  exact mw_iret hx hb hr hlocks hw rfl (fun _ _ h9 => h9) dL_take_14
def RM_L_take_exS : Room := { frames := 10, cells := 1, slots := 6, locals := 236 }
set_option maxHeartbeats 4000000 in
set_option maxRecDepth 100000 in
theorem h_L_take_exS (l : Launch) (G : mw_G) (M : mw_M) (sz : Nat) (x : Nat) (o : Nat) (p0 : Int32) {fs : List Value} {rm : Room} (ex : M x = some (.inr (6, fs))) (hrc : rm.cells = 1) (hrs : rm.slots = 6) (hR1 : rm.frames ≤ 9) (hR2 : rm.locals ≤ 200) (hc : ∀ sz, vx_Met l yX6_take wsX6_take rm (mw_pre G M sz [.ref (x), .int (p0)]) mw_no (mw_X G M sz exS M) 1 6 (mw_A M sz)) : Met l yL_take wsL_take RM_L_take_exS (mw_pre G M sz [.ref (x), .int (p0), .ref (o)]) (mw_Qi G M sz (nI (2)) M) 1 6 (mw_A M sz) := by
  refine mw_ofWH (cc := cL_take) (maxL := 4) (ret := (some .int)) (hh := [(0, 9, 12, 13), (0, 9, 15, 15)]) (by decide) rfl ?_
  intro p e s m args below meth c s₁ B hml hv
  obtain ⟨rfl, rfl, hC, hw⟩ := mw_in hv
  have hx := B.exec
  have hb := B.bytes
  have hr := B.returns
  have hts := atoms_spec (ws := wsL_take) B.pre
  have hown : s.vm.findClass RL = some m.cls := findClass_of_methodNamed B.named
  have hlocks := B.notSynchronized
  have hTab : c.exceptionTable.toList = tableOf [(0, 9, 12, 13), (0, 9, 15, 15)] := vx_table (x := yL_take) B (hts (.codeWith yL_take cL_take 4 (some .int) [(0, 9, 12, 13), (0, 9, 15, 15)]) (by decide +kernel))
  have hl := lv_entry ([.ref (x), .int (p0), .ref (o)]) (n := 4) (Nat.le_of_ble_eq_true rfl)
  rw [lg_entry_eq]
  generalize (lg_sl ([.ref (x), .int (p0), .ref (o)]) ++ List.replicate (4 - (lg_sl ([.ref (x), .int (p0), .ref (o)])).length) Slot.unset).toArray = ls at hl ⊢
  have hl : lv_has ls 4 [(0, .ref (x)), (1, .int (p0)), (2, .ref (o))] := hl
  refine mw_start (fun H locs hw => ?_) hw
  refine lv_aload_n hx hb dL_take_0 rfl (lv_at hl 2 rfl) ?_
  refine lv_iconst (v := nI 0) hx hb dL_take_1 (by decide) ?_
  refine lv_aload_n hx hb dL_take_2 rfl (lv_at hl 0 rfl) ?_
  refine lv_iload_n hx hb dL_take_3 rfl (lv_at hl 1 rfl) ?_
  refine mw_ct hC hw (vx_runV (As := [.int (p0)]) (rest := [.int (nI (0)), .ref (o)]) ⟨hx, hb, hml, hown, hts⟩ (hc H.size) (cwV 1 hts gL_take_X6_take rfl hrc hrs (by decide +kernel) ⟨show rm.frames + 1 ≤ 10 by omega, show 8 + (6 + 11) + rm.locals ≤ 236 by omega⟩) (mw_preV (ci := 6) hC hw rfl ex) rfl rfl hl.1 rfl (lv_room (Nat.le_of_ble_eq_true rfl)) dL_take_4 ⟨Nat.le_of_ble_eq_true rfl, Nat.le_of_ble_eq_true rfl⟩) (fun ce q9 H locs hw hce hcv hcl => ?_)
  refine mw_catch2 (own := RL) (name := exS) (no := exA) (E := exS) hown ⟨0, 9, 12, 13⟩ ⟨0, 9, 15, 15⟩ [] (by rw [hTab]; rfl) (by decide) (by decide) (by decide) (by decide) (hts (.classLink RL 13 exA) (by decide +kernel)) hC.1.2.2.2.2.2.2 (hts (.classLink RL 15 exS) (by decide +kernel)) (va_Nw.use rfl (hC.1.2.2.2.2.2.1 (.castable exS exS) (by decide +kernel))) hce hcv hcl ?_
  refine lv_astore_n (lv' := [(3, .ref (q9)), (0, .ref (x)), (1, .int (p0)), (2, .ref (o))]) hx hb dL_take_15 rfl hl (by decide) rfl (fun ls hl => ?_)
  refine lv_iconst (v := nI 2) hx hb dL_take_16 (by decide) ?_
  exact mw_iret hx hb hr hlocks hw rfl (fun _ _ h9 => h9) dL_take_17
def RM_L_flip_ok : Room := { frames := 10, cells := 0, slots := 0, locals := 235 }
set_option maxHeartbeats 4000000 in
set_option maxRecDepth 100000 in
theorem h_L_flip_ok (l : Launch) (G : mw_G) (M M' : mw_M) (sz : Nat) (x : Nat) (o : Nat) (ov : Nat → Int64) (r : Int32) (p0 : Int32) (p1 : Int32) (p2 : Int32) {fs : List Value} {rm : Room} (ex : M x = some (.inr (6, fs))) (hrc : rm.cells = 0) (hrs : rm.slots = 0) (hR1 : rm.frames ≤ 9) (hR2 : rm.locals ≤ 200) (hc : ∀ sz, Met l yX6_flip wsX6_flip rm (mw_pre G M sz [.ref (x), .int (p0), .int (p1), .int (p2)]) (mw_Qi G M sz r M') 0 0 (mw_A M sz)) (eo : M' o = some (.inl (G.2 2, 1, .inr (.inl (ov))))) : Met l yL_flip wsL_flip RM_L_flip_ok (mw_pre G M sz [.ref (x), .int (p0), .int (p1), .int (p2), .ref (o)]) (mw_Qi G M sz (nI (0)) (va_up M' o (some (.inl (G.2 2, 1, .inr (.inl (vp_updL (ov) (0) (r.toInt64)))))))) 0 0 (mw_A M sz) := by
  refine mw_ofWH (cc := cL_flip) (maxL := 6) (ret := (some .int)) (hh := [(0, 12, 15, 13)]) (by decide) rfl ?_
  intro p e s m args below meth c s₁ B hml hv
  obtain ⟨rfl, rfl, hC, hw⟩ := mw_in hv
  have hx := B.exec
  have hb := B.bytes
  have hr := B.returns
  have hts := atoms_spec (ws := wsL_flip) B.pre
  have hown : s.vm.findClass RL = some m.cls := findClass_of_methodNamed B.named
  have hlocks := B.notSynchronized
  have hl := lv_entry ([.ref (x), .int (p0), .int (p1), .int (p2), .ref (o)]) (n := 6) (Nat.le_of_ble_eq_true rfl)
  rw [lg_entry_eq]
  generalize (lg_sl ([.ref (x), .int (p0), .int (p1), .int (p2), .ref (o)]) ++ List.replicate (6 - (lg_sl ([.ref (x), .int (p0), .int (p1), .int (p2), .ref (o)])).length) Slot.unset).toArray = ls at hl ⊢
  have hl : lv_has ls 6 [(0, .ref (x)), (1, .int (p0)), (2, .int (p1)), (3, .int (p2)), (4, .ref (o))] := hl
  refine mw_start (fun H locs hw => ?_) hw
  refine lv_aload hx hb dL_flip_0 (lv_at hl 4 rfl) ?_
  refine lv_iconst (v := nI 0) hx hb dL_flip_2 (by decide) ?_
  refine lv_aload_n hx hb dL_flip_3 rfl (lv_at hl 0 rfl) ?_
  refine lv_iload_n hx hb dL_flip_4 rfl (lv_at hl 1 rfl) ?_
  refine lv_iload_n hx hb dL_flip_5 rfl (lv_at hl 2 rfl) ?_
  refine lv_iload_n hx hb dL_flip_6 rfl (lv_at hl 3 rfl) ?_
  refine mw_ci hC hw (va_runV (As := [.int (p0), .int (p1), .int (p2)]) (rest := [.int (nI (0)), .ref (o)]) ⟨hx, hb, hml, hown, hts⟩ (hc H.size) (cwV 3 hts gL_flip_X6_flip rfl hrc hrs (by decide +kernel) ⟨show rm.frames + 1 ≤ 10 by omega, show 8 + (5 + 11) + rm.locals ≤ 235 by omega⟩) (mw_preV (ci := 6) hC hw rfl ex) rfl rfl hl.1 rfl (lv_room (Nat.le_of_ble_eq_true rfl)) dL_flip_7 ⟨Nat.le_of_ble_eq_true rfl, Nat.le_of_ble_eq_true rfl⟩) (fun H locs hz hw => ?_)
  refine lv_i2l hx hb dL_flip_10 rfl ?_
  refine mw_lastN (n := 1) (f := ov) (i := 0) hx hb hC hw eo (by omega) (by decide) dL_flip_11 (fun H locs hw => ?_)
  refine lv_goto (tgt := 19) hx hb dL_flip_12 (by decide) ?_
  refine lv_iconst (v := nI 0) hx hb dL_flip_19 (by decide) ?_
  exact mw_iret hx hb hr hlocks hw rfl (fun _ _ h9 => h9) dL_flip_20
def RM_L_flip_exA : Room := { frames := 10, cells := 1, slots := 6, locals := 235 }
set_option maxHeartbeats 4000000 in
set_option maxRecDepth 100000 in
theorem h_L_flip_exA (l : Launch) (G : mw_G) (M : mw_M) (sz : Nat) (x : Nat) (o : Nat) (p0 : Int32) (p1 : Int32) (p2 : Int32) {fs : List Value} {rm : Room} (ex : M x = some (.inr (6, fs))) (hrc : rm.cells = 1) (hrs : rm.slots = 6) (hR1 : rm.frames ≤ 9) (hR2 : rm.locals ≤ 200) (hc : ∀ sz, vx_Met l yX6_flip wsX6_flip rm (mw_pre G M sz [.ref (x), .int (p0), .int (p1), .int (p2)]) mw_no (mw_X G M sz exA M) 1 6 (mw_A M sz)) : Met l yL_flip wsL_flip RM_L_flip_exA (mw_pre G M sz [.ref (x), .int (p0), .int (p1), .int (p2), .ref (o)]) (mw_Qi G M sz (nI (1)) M) 1 6 (mw_A M sz) := by
  refine mw_ofWH (cc := cL_flip) (maxL := 6) (ret := (some .int)) (hh := [(0, 12, 15, 13)]) (by decide) rfl ?_
  intro p e s m args below meth c s₁ B hml hv
  obtain ⟨rfl, rfl, hC, hw⟩ := mw_in hv
  have hx := B.exec
  have hb := B.bytes
  have hr := B.returns
  have hts := atoms_spec (ws := wsL_flip) B.pre
  have hown : s.vm.findClass RL = some m.cls := findClass_of_methodNamed B.named
  have hlocks := B.notSynchronized
  have hTab : c.exceptionTable.toList = tableOf [(0, 12, 15, 13)] := vx_table (x := yL_flip) B (hts (.codeWith yL_flip cL_flip 6 (some .int) [(0, 12, 15, 13)]) (by decide +kernel))
  have hl := lv_entry ([.ref (x), .int (p0), .int (p1), .int (p2), .ref (o)]) (n := 6) (Nat.le_of_ble_eq_true rfl)
  rw [lg_entry_eq]
  generalize (lg_sl ([.ref (x), .int (p0), .int (p1), .int (p2), .ref (o)]) ++ List.replicate (6 - (lg_sl ([.ref (x), .int (p0), .int (p1), .int (p2), .ref (o)])).length) Slot.unset).toArray = ls at hl ⊢
  have hl : lv_has ls 6 [(0, .ref (x)), (1, .int (p0)), (2, .int (p1)), (3, .int (p2)), (4, .ref (o))] := hl
  refine mw_start (fun H locs hw => ?_) hw
  refine lv_aload hx hb dL_flip_0 (lv_at hl 4 rfl) ?_
  refine lv_iconst (v := nI 0) hx hb dL_flip_2 (by decide) ?_
  refine lv_aload_n hx hb dL_flip_3 rfl (lv_at hl 0 rfl) ?_
  refine lv_iload_n hx hb dL_flip_4 rfl (lv_at hl 1 rfl) ?_
  refine lv_iload_n hx hb dL_flip_5 rfl (lv_at hl 2 rfl) ?_
  refine lv_iload_n hx hb dL_flip_6 rfl (lv_at hl 3 rfl) ?_
  refine mw_ct hC hw (vx_runV (As := [.int (p0), .int (p1), .int (p2)]) (rest := [.int (nI (0)), .ref (o)]) ⟨hx, hb, hml, hown, hts⟩ (hc H.size) (cwV 3 hts gL_flip_X6_flip rfl hrc hrs (by decide +kernel) ⟨show rm.frames + 1 ≤ 10 by omega, show 8 + (5 + 11) + rm.locals ≤ 235 by omega⟩) (mw_preV (ci := 6) hC hw rfl ex) rfl rfl hl.1 rfl (lv_room (Nat.le_of_ble_eq_true rfl)) dL_flip_7 ⟨Nat.le_of_ble_eq_true rfl, Nat.le_of_ble_eq_true rfl⟩) (fun ce q9 H locs hw hce hcv hcl => ?_)
  refine mw_catch1 (own := RL) (name := exA) (E := exA) hown ⟨0, 12, 15, 13⟩ [] (by rw [hTab]; rfl) (by decide) (by decide) (hts (.classLink RL 13 exA) (by decide +kernel)) (va_Nw.use rfl (hC.1.2.2.2.2.2.1 (.castable exA exA) (by decide +kernel))) hce hcv hcl ?_
  refine lv_astore (lv' := [(5, .ref (q9)), (0, .ref (x)), (1, .int (p0)), (2, .int (p1)), (3, .int (p2)), (4, .ref (o))]) hx hb dL_flip_15 hl (by decide) rfl (fun ls hl => ?_)
  refine lv_iconst (v := nI 1) hx hb dL_flip_17 (by decide) ?_
  exact mw_iret hx hb hr hlocks hw rfl (fun _ _ h9 => h9) dL_flip_18
def RM_L_drop_ok : Room := { frames := 10, cells := 0, slots := 0, locals := 234 }
set_option maxHeartbeats 4000000 in
set_option maxRecDepth 100000 in
theorem h_L_drop_ok (l : Launch) (G : mw_G) (M M' : mw_M) (sz : Nat) (x : Nat) (o : Nat) (ov : Nat → Int64) (r : Int32) (p0 : Int32) (p1 : Int32) {fs : List Value} {rm : Room} (ex : M x = some (.inr (6, fs))) (hrc : rm.cells = 0) (hrs : rm.slots = 0) (hR1 : rm.frames ≤ 9) (hR2 : rm.locals ≤ 200) (hc : ∀ sz, Met l yX6_drop wsX6_drop rm (mw_pre G M sz [.ref (x), .int (p0), .int (p1)]) (mw_Qi G M sz r M') 0 0 (mw_A M sz)) (eo : M' o = some (.inl (G.2 2, 1, .inr (.inl (ov))))) : Met l yL_drop wsL_drop RM_L_drop_ok (mw_pre G M sz [.ref (x), .int (p0), .int (p1), .ref (o)]) (mw_Qi G M sz (nI (0)) (va_up M' o (some (.inl (G.2 2, 1, .inr (.inl (vp_updL (ov) (0) (r.toInt64)))))))) 0 0 (mw_A M sz) := by
  refine mw_ofWH (cc := cL_drop) (maxL := 5) (ret := (some .int)) (hh := [(0, 10, 13, 13)]) (by decide) rfl ?_
  intro p e s m args below meth c s₁ B hml hv
  obtain ⟨rfl, rfl, hC, hw⟩ := mw_in hv
  have hx := B.exec
  have hb := B.bytes
  have hr := B.returns
  have hts := atoms_spec (ws := wsL_drop) B.pre
  have hown : s.vm.findClass RL = some m.cls := findClass_of_methodNamed B.named
  have hlocks := B.notSynchronized
  have hl := lv_entry ([.ref (x), .int (p0), .int (p1), .ref (o)]) (n := 5) (Nat.le_of_ble_eq_true rfl)
  rw [lg_entry_eq]
  generalize (lg_sl ([.ref (x), .int (p0), .int (p1), .ref (o)]) ++ List.replicate (5 - (lg_sl ([.ref (x), .int (p0), .int (p1), .ref (o)])).length) Slot.unset).toArray = ls at hl ⊢
  have hl : lv_has ls 5 [(0, .ref (x)), (1, .int (p0)), (2, .int (p1)), (3, .ref (o))] := hl
  refine mw_start (fun H locs hw => ?_) hw
  refine lv_aload_n hx hb dL_drop_0 rfl (lv_at hl 3 rfl) ?_
  refine lv_iconst (v := nI 0) hx hb dL_drop_1 (by decide) ?_
  refine lv_aload_n hx hb dL_drop_2 rfl (lv_at hl 0 rfl) ?_
  refine lv_iload_n hx hb dL_drop_3 rfl (lv_at hl 1 rfl) ?_
  refine lv_iload_n hx hb dL_drop_4 rfl (lv_at hl 2 rfl) ?_
  refine mw_ci hC hw (va_runV (As := [.int (p0), .int (p1)]) (rest := [.int (nI (0)), .ref (o)]) ⟨hx, hb, hml, hown, hts⟩ (hc H.size) (cwV 2 hts gL_drop_X6_drop rfl hrc hrs (by decide +kernel) ⟨show rm.frames + 1 ≤ 10 by omega, show 8 + (4 + 11) + rm.locals ≤ 234 by omega⟩) (mw_preV (ci := 6) hC hw rfl ex) rfl rfl hl.1 rfl (lv_room (Nat.le_of_ble_eq_true rfl)) dL_drop_5 ⟨Nat.le_of_ble_eq_true rfl, Nat.le_of_ble_eq_true rfl⟩) (fun H locs hz hw => ?_)
  refine lv_i2l hx hb dL_drop_8 rfl ?_
  refine mw_lastN (n := 1) (f := ov) (i := 0) hx hb hC hw eo (by omega) (by decide) dL_drop_9 (fun H locs hw => ?_)
  refine lv_goto (tgt := 17) hx hb dL_drop_10 (by decide) ?_
  refine lv_iconst (v := nI 0) hx hb dL_drop_17 (by decide) ?_
  exact mw_iret hx hb hr hlocks hw rfl (fun _ _ h9 => h9) dL_drop_18
def RM_L_drop_exA : Room := { frames := 10, cells := 1, slots := 6, locals := 234 }
set_option maxHeartbeats 4000000 in
set_option maxRecDepth 100000 in
theorem h_L_drop_exA (l : Launch) (G : mw_G) (M : mw_M) (sz : Nat) (x : Nat) (o : Nat) (p0 : Int32) (p1 : Int32) {fs : List Value} {rm : Room} (ex : M x = some (.inr (6, fs))) (hrc : rm.cells = 1) (hrs : rm.slots = 6) (hR1 : rm.frames ≤ 9) (hR2 : rm.locals ≤ 200) (hc : ∀ sz, vx_Met l yX6_drop wsX6_drop rm (mw_pre G M sz [.ref (x), .int (p0), .int (p1)]) mw_no (mw_X G M sz exA M) 1 6 (mw_A M sz)) : Met l yL_drop wsL_drop RM_L_drop_exA (mw_pre G M sz [.ref (x), .int (p0), .int (p1), .ref (o)]) (mw_Qi G M sz (nI (1)) M) 1 6 (mw_A M sz) := by
  refine mw_ofWH (cc := cL_drop) (maxL := 5) (ret := (some .int)) (hh := [(0, 10, 13, 13)]) (by decide) rfl ?_
  intro p e s m args below meth c s₁ B hml hv
  obtain ⟨rfl, rfl, hC, hw⟩ := mw_in hv
  have hx := B.exec
  have hb := B.bytes
  have hr := B.returns
  have hts := atoms_spec (ws := wsL_drop) B.pre
  have hown : s.vm.findClass RL = some m.cls := findClass_of_methodNamed B.named
  have hlocks := B.notSynchronized
  have hTab : c.exceptionTable.toList = tableOf [(0, 10, 13, 13)] := vx_table (x := yL_drop) B (hts (.codeWith yL_drop cL_drop 5 (some .int) [(0, 10, 13, 13)]) (by decide +kernel))
  have hl := lv_entry ([.ref (x), .int (p0), .int (p1), .ref (o)]) (n := 5) (Nat.le_of_ble_eq_true rfl)
  rw [lg_entry_eq]
  generalize (lg_sl ([.ref (x), .int (p0), .int (p1), .ref (o)]) ++ List.replicate (5 - (lg_sl ([.ref (x), .int (p0), .int (p1), .ref (o)])).length) Slot.unset).toArray = ls at hl ⊢
  have hl : lv_has ls 5 [(0, .ref (x)), (1, .int (p0)), (2, .int (p1)), (3, .ref (o))] := hl
  refine mw_start (fun H locs hw => ?_) hw
  refine lv_aload_n hx hb dL_drop_0 rfl (lv_at hl 3 rfl) ?_
  refine lv_iconst (v := nI 0) hx hb dL_drop_1 (by decide) ?_
  refine lv_aload_n hx hb dL_drop_2 rfl (lv_at hl 0 rfl) ?_
  refine lv_iload_n hx hb dL_drop_3 rfl (lv_at hl 1 rfl) ?_
  refine lv_iload_n hx hb dL_drop_4 rfl (lv_at hl 2 rfl) ?_
  refine mw_ct hC hw (vx_runV (As := [.int (p0), .int (p1)]) (rest := [.int (nI (0)), .ref (o)]) ⟨hx, hb, hml, hown, hts⟩ (hc H.size) (cwV 2 hts gL_drop_X6_drop rfl hrc hrs (by decide +kernel) ⟨show rm.frames + 1 ≤ 10 by omega, show 8 + (4 + 11) + rm.locals ≤ 234 by omega⟩) (mw_preV (ci := 6) hC hw rfl ex) rfl rfl hl.1 rfl (lv_room (Nat.le_of_ble_eq_true rfl)) dL_drop_5 ⟨Nat.le_of_ble_eq_true rfl, Nat.le_of_ble_eq_true rfl⟩) (fun ce q9 H locs hw hce hcv hcl => ?_)
  refine mw_catch1 (own := RL) (name := exA) (E := exA) hown ⟨0, 10, 13, 13⟩ [] (by rw [hTab]; rfl) (by decide) (by decide) (hts (.classLink RL 13 exA) (by decide +kernel)) (va_Nw.use rfl (hC.1.2.2.2.2.2.1 (.castable exA exA) (by decide +kernel))) hce hcv hcl ?_
  refine lv_astore (lv' := [(4, .ref (q9)), (0, .ref (x)), (1, .int (p0)), (2, .int (p1)), (3, .ref (o))]) hx hb dL_drop_13 hl (by decide) rfl (fun ls hl => ?_)
  refine lv_iconst (v := nI 1) hx hb dL_drop_15 (by decide) ?_
  exact mw_iret hx hb hr hlocks hw rfl (fun _ _ h9 => h9) dL_drop_16
def RM_L_bits_ok : Room := { frames := 10, cells := 0, slots := 0, locals := 240 }
set_option maxHeartbeats 4000000 in
set_option maxRecDepth 100000 in
theorem h_L_bits_ok (l : Launch) (G : mw_G) (M M' : mw_M) (sz : Nat) (x : Nat) (o : Nat) (ov : Nat → Int64) (r : Int32) (p0 : Int32) (p1 : Int64) (p2 : Int32) (p3 : Int32) {fs : List Value} {rm : Room} (ex : M x = some (.inr (6, fs))) (hrc : rm.cells = 0) (hrs : rm.slots = 0) (hR1 : rm.frames ≤ 9) (hR2 : rm.locals ≤ 200) (hc : ∀ sz, Met l yX6_bits wsX6_bits rm (mw_pre G M sz [.ref (x), .int (p0), .long (p1), .int (p2), .int (p3)]) (mw_Qi G M sz r M') 0 0 (mw_A M sz)) (eo : M' o = some (.inl (G.2 2, 1, .inr (.inl (ov))))) : Met l yL_bits wsL_bits RM_L_bits_ok (mw_pre G M sz [.ref (x), .int (p0), .long (p1), .int (p2), .int (p3), .ref (o)]) (mw_Qi G M sz (nI (0)) (va_up M' o (some (.inl (G.2 2, 1, .inr (.inl (vp_updL (ov) (0) (r.toInt64)))))))) 0 0 (mw_A M sz) := by
  refine mw_ofWH (cc := cL_bits) (maxL := 8) (ret := (some .int)) (hh := [(0, 15, 18, 13), (0, 15, 22, 15)]) (by decide) rfl ?_
  intro p e s m args below meth c s₁ B hml hv
  obtain ⟨rfl, rfl, hC, hw⟩ := mw_in hv
  have hx := B.exec
  have hb := B.bytes
  have hr := B.returns
  have hts := atoms_spec (ws := wsL_bits) B.pre
  have hown : s.vm.findClass RL = some m.cls := findClass_of_methodNamed B.named
  have hlocks := B.notSynchronized
  have hl := lv_entry ([.ref (x), .int (p0), .long (p1), .int (p2), .int (p3), .ref (o)]) (n := 8) (Nat.le_of_ble_eq_true rfl)
  rw [lg_entry_eq]
  generalize (lg_sl ([.ref (x), .int (p0), .long (p1), .int (p2), .int (p3), .ref (o)]) ++ List.replicate (8 - (lg_sl ([.ref (x), .int (p0), .long (p1), .int (p2), .int (p3), .ref (o)])).length) Slot.unset).toArray = ls at hl ⊢
  have hl : lv_has ls 8 [(0, .ref (x)), (1, .int (p0)), (2, .long (p1)), (4, .int (p2)), (5, .int (p3)), (6, .ref (o))] := hl
  refine mw_start (fun H locs hw => ?_) hw
  refine lv_aload hx hb dL_bits_0 (lv_at hl 5 rfl) ?_
  refine lv_iconst (v := nI 0) hx hb dL_bits_2 (by decide) ?_
  refine lv_aload_n hx hb dL_bits_3 rfl (lv_at hl 0 rfl) ?_
  refine lv_iload_n hx hb dL_bits_4 rfl (lv_at hl 1 rfl) ?_
  refine lv_lload_n hx hb dL_bits_5 rfl (lv_at hl 2 rfl) ?_
  refine lv_iload hx hb dL_bits_6 (lv_at hl 3 rfl) ?_
  refine lv_iload hx hb dL_bits_8 (lv_at hl 4 rfl) ?_
  refine mw_ci hC hw (va_runV (As := [.int (p0), .long (p1), .int (p2), .int (p3)]) (rest := [.int (nI (0)), .ref (o)]) ⟨hx, hb, hml, hown, hts⟩ (hc H.size) (cwV 4 hts gL_bits_X6_bits rfl hrc hrs (by decide +kernel) ⟨show rm.frames + 1 ≤ 10 by omega, show 8 + (10 + 11) + rm.locals ≤ 240 by omega⟩) (mw_preV (ci := 6) hC hw rfl ex) rfl rfl hl.1 rfl (lv_room (Nat.le_of_ble_eq_true rfl)) dL_bits_10 ⟨Nat.le_of_ble_eq_true rfl, Nat.le_of_ble_eq_true rfl⟩) (fun H locs hz hw => ?_)
  refine lv_i2l hx hb dL_bits_13 rfl ?_
  refine mw_lastN (n := 1) (f := ov) (i := 0) hx hb hC hw eo (by omega) (by decide) dL_bits_14 (fun H locs hw => ?_)
  refine lv_goto (tgt := 26) hx hb dL_bits_15 (by decide) ?_
  refine lv_iconst (v := nI 0) hx hb dL_bits_26 (by decide) ?_
  exact mw_iret hx hb hr hlocks hw rfl (fun _ _ h9 => h9) dL_bits_27
def RM_L_bits_exA : Room := { frames := 10, cells := 1, slots := 6, locals := 240 }
set_option maxHeartbeats 4000000 in
set_option maxRecDepth 100000 in
theorem h_L_bits_exA (l : Launch) (G : mw_G) (M : mw_M) (sz : Nat) (x : Nat) (o : Nat) (p0 : Int32) (p1 : Int64) (p2 : Int32) (p3 : Int32) {fs : List Value} {rm : Room} (ex : M x = some (.inr (6, fs))) (hrc : rm.cells = 1) (hrs : rm.slots = 6) (hR1 : rm.frames ≤ 9) (hR2 : rm.locals ≤ 200) (hc : ∀ sz, vx_Met l yX6_bits wsX6_bits rm (mw_pre G M sz [.ref (x), .int (p0), .long (p1), .int (p2), .int (p3)]) mw_no (mw_X G M sz exA M) 1 6 (mw_A M sz)) : Met l yL_bits wsL_bits RM_L_bits_exA (mw_pre G M sz [.ref (x), .int (p0), .long (p1), .int (p2), .int (p3), .ref (o)]) (mw_Qi G M sz (nI (1)) M) 1 6 (mw_A M sz) := by
  refine mw_ofWH (cc := cL_bits) (maxL := 8) (ret := (some .int)) (hh := [(0, 15, 18, 13), (0, 15, 22, 15)]) (by decide) rfl ?_
  intro p e s m args below meth c s₁ B hml hv
  obtain ⟨rfl, rfl, hC, hw⟩ := mw_in hv
  have hx := B.exec
  have hb := B.bytes
  have hr := B.returns
  have hts := atoms_spec (ws := wsL_bits) B.pre
  have hown : s.vm.findClass RL = some m.cls := findClass_of_methodNamed B.named
  have hlocks := B.notSynchronized
  have hTab : c.exceptionTable.toList = tableOf [(0, 15, 18, 13), (0, 15, 22, 15)] := vx_table (x := yL_bits) B (hts (.codeWith yL_bits cL_bits 8 (some .int) [(0, 15, 18, 13), (0, 15, 22, 15)]) (by decide +kernel))
  have hl := lv_entry ([.ref (x), .int (p0), .long (p1), .int (p2), .int (p3), .ref (o)]) (n := 8) (Nat.le_of_ble_eq_true rfl)
  rw [lg_entry_eq]
  generalize (lg_sl ([.ref (x), .int (p0), .long (p1), .int (p2), .int (p3), .ref (o)]) ++ List.replicate (8 - (lg_sl ([.ref (x), .int (p0), .long (p1), .int (p2), .int (p3), .ref (o)])).length) Slot.unset).toArray = ls at hl ⊢
  have hl : lv_has ls 8 [(0, .ref (x)), (1, .int (p0)), (2, .long (p1)), (4, .int (p2)), (5, .int (p3)), (6, .ref (o))] := hl
  refine mw_start (fun H locs hw => ?_) hw
  refine lv_aload hx hb dL_bits_0 (lv_at hl 5 rfl) ?_
  refine lv_iconst (v := nI 0) hx hb dL_bits_2 (by decide) ?_
  refine lv_aload_n hx hb dL_bits_3 rfl (lv_at hl 0 rfl) ?_
  refine lv_iload_n hx hb dL_bits_4 rfl (lv_at hl 1 rfl) ?_
  refine lv_lload_n hx hb dL_bits_5 rfl (lv_at hl 2 rfl) ?_
  refine lv_iload hx hb dL_bits_6 (lv_at hl 3 rfl) ?_
  refine lv_iload hx hb dL_bits_8 (lv_at hl 4 rfl) ?_
  refine mw_ct hC hw (vx_runV (As := [.int (p0), .long (p1), .int (p2), .int (p3)]) (rest := [.int (nI (0)), .ref (o)]) ⟨hx, hb, hml, hown, hts⟩ (hc H.size) (cwV 4 hts gL_bits_X6_bits rfl hrc hrs (by decide +kernel) ⟨show rm.frames + 1 ≤ 10 by omega, show 8 + (10 + 11) + rm.locals ≤ 240 by omega⟩) (mw_preV (ci := 6) hC hw rfl ex) rfl rfl hl.1 rfl (lv_room (Nat.le_of_ble_eq_true rfl)) dL_bits_10 ⟨Nat.le_of_ble_eq_true rfl, Nat.le_of_ble_eq_true rfl⟩) (fun ce q9 H locs hw hce hcv hcl => ?_)
  refine mw_catch1 (own := RL) (name := exA) (E := exA) hown ⟨0, 15, 18, 13⟩ [⟨0, 15, 22, 15⟩] (by rw [hTab]; rfl) (by decide) (by decide) (hts (.classLink RL 13 exA) (by decide +kernel)) (va_Nw.use rfl (hC.1.2.2.2.2.2.1 (.castable exA exA) (by decide +kernel))) hce hcv hcl ?_
  refine lv_astore (lv' := [(7, .ref (q9)), (0, .ref (x)), (1, .int (p0)), (2, .long (p1)), (4, .int (p2)), (5, .int (p3)), (6, .ref (o))]) hx hb dL_bits_18 hl (by decide) rfl (fun ls hl => ?_)
  refine lv_iconst (v := nI 1) hx hb dL_bits_20 (by decide) ?_
  exact mw_iret hx hb hr hlocks hw rfl (fun _ _ h9 => h9) dL_bits_21
def RM_L_bits_exS : Room := { frames := 10, cells := 1, slots := 6, locals := 240 }
set_option maxHeartbeats 4000000 in
set_option maxRecDepth 100000 in
theorem h_L_bits_exS (l : Launch) (G : mw_G) (M : mw_M) (sz : Nat) (x : Nat) (o : Nat) (p0 : Int32) (p1 : Int64) (p2 : Int32) (p3 : Int32) {fs : List Value} {rm : Room} (ex : M x = some (.inr (6, fs))) (hrc : rm.cells = 1) (hrs : rm.slots = 6) (hR1 : rm.frames ≤ 9) (hR2 : rm.locals ≤ 200) (hc : ∀ sz, vx_Met l yX6_bits wsX6_bits rm (mw_pre G M sz [.ref (x), .int (p0), .long (p1), .int (p2), .int (p3)]) mw_no (mw_X G M sz exS M) 1 6 (mw_A M sz)) : Met l yL_bits wsL_bits RM_L_bits_exS (mw_pre G M sz [.ref (x), .int (p0), .long (p1), .int (p2), .int (p3), .ref (o)]) (mw_Qi G M sz (nI (2)) M) 1 6 (mw_A M sz) := by
  refine mw_ofWH (cc := cL_bits) (maxL := 8) (ret := (some .int)) (hh := [(0, 15, 18, 13), (0, 15, 22, 15)]) (by decide) rfl ?_
  intro p e s m args below meth c s₁ B hml hv
  obtain ⟨rfl, rfl, hC, hw⟩ := mw_in hv
  have hx := B.exec
  have hb := B.bytes
  have hr := B.returns
  have hts := atoms_spec (ws := wsL_bits) B.pre
  have hown : s.vm.findClass RL = some m.cls := findClass_of_methodNamed B.named
  have hlocks := B.notSynchronized
  have hTab : c.exceptionTable.toList = tableOf [(0, 15, 18, 13), (0, 15, 22, 15)] := vx_table (x := yL_bits) B (hts (.codeWith yL_bits cL_bits 8 (some .int) [(0, 15, 18, 13), (0, 15, 22, 15)]) (by decide +kernel))
  have hl := lv_entry ([.ref (x), .int (p0), .long (p1), .int (p2), .int (p3), .ref (o)]) (n := 8) (Nat.le_of_ble_eq_true rfl)
  rw [lg_entry_eq]
  generalize (lg_sl ([.ref (x), .int (p0), .long (p1), .int (p2), .int (p3), .ref (o)]) ++ List.replicate (8 - (lg_sl ([.ref (x), .int (p0), .long (p1), .int (p2), .int (p3), .ref (o)])).length) Slot.unset).toArray = ls at hl ⊢
  have hl : lv_has ls 8 [(0, .ref (x)), (1, .int (p0)), (2, .long (p1)), (4, .int (p2)), (5, .int (p3)), (6, .ref (o))] := hl
  refine mw_start (fun H locs hw => ?_) hw
  refine lv_aload hx hb dL_bits_0 (lv_at hl 5 rfl) ?_
  refine lv_iconst (v := nI 0) hx hb dL_bits_2 (by decide) ?_
  refine lv_aload_n hx hb dL_bits_3 rfl (lv_at hl 0 rfl) ?_
  refine lv_iload_n hx hb dL_bits_4 rfl (lv_at hl 1 rfl) ?_
  refine lv_lload_n hx hb dL_bits_5 rfl (lv_at hl 2 rfl) ?_
  refine lv_iload hx hb dL_bits_6 (lv_at hl 3 rfl) ?_
  refine lv_iload hx hb dL_bits_8 (lv_at hl 4 rfl) ?_
  refine mw_ct hC hw (vx_runV (As := [.int (p0), .long (p1), .int (p2), .int (p3)]) (rest := [.int (nI (0)), .ref (o)]) ⟨hx, hb, hml, hown, hts⟩ (hc H.size) (cwV 4 hts gL_bits_X6_bits rfl hrc hrs (by decide +kernel) ⟨show rm.frames + 1 ≤ 10 by omega, show 8 + (10 + 11) + rm.locals ≤ 240 by omega⟩) (mw_preV (ci := 6) hC hw rfl ex) rfl rfl hl.1 rfl (lv_room (Nat.le_of_ble_eq_true rfl)) dL_bits_10 ⟨Nat.le_of_ble_eq_true rfl, Nat.le_of_ble_eq_true rfl⟩) (fun ce q9 H locs hw hce hcv hcl => ?_)
  refine mw_catch2 (own := RL) (name := exS) (no := exA) (E := exS) hown ⟨0, 15, 18, 13⟩ ⟨0, 15, 22, 15⟩ [] (by rw [hTab]; rfl) (by decide) (by decide) (by decide) (by decide) (hts (.classLink RL 13 exA) (by decide +kernel)) hC.1.2.2.2.2.2.2 (hts (.classLink RL 15 exS) (by decide +kernel)) (va_Nw.use rfl (hC.1.2.2.2.2.2.1 (.castable exS exS) (by decide +kernel))) hce hcv hcl ?_
  refine lv_astore (lv' := [(7, .ref (q9)), (0, .ref (x)), (1, .int (p0)), (2, .long (p1)), (4, .int (p2)), (5, .int (p3)), (6, .ref (o))]) hx hb dL_bits_22 hl (by decide) rfl (fun ls hl => ?_)
  refine lv_iconst (v := nI 2) hx hb dL_bits_24 (by decide) ?_
  exact mw_iret hx hb hr hlocks hw rfl (fun _ _ h9 => h9) dL_bits_25
def RM_L_bit_ok : Room := { frames := 10, cells := 0, slots := 0, locals := 235 }
set_option maxHeartbeats 4000000 in
set_option maxRecDepth 100000 in
theorem h_L_bit_ok (l : Launch) (G : mw_G) (M M' : mw_M) (sz : Nat) (x : Nat) (o : Nat) (ov : Nat → Int64) (r : Int32) (p0 : Int32) (p1 : Int32) (p2 : Int32) {fs : List Value} {rm : Room} (ex : M x = some (.inr (6, fs))) (hrc : rm.cells = 0) (hrs : rm.slots = 0) (hR1 : rm.frames ≤ 9) (hR2 : rm.locals ≤ 200) (hc : ∀ sz, Met l yX6_bit wsX6_bit rm (mw_pre G M sz [.ref (x), .int (p0), .int (p1), .int (p2)]) (mw_Qi G M sz r M') 0 0 (mw_A M sz)) (eo : M' o = some (.inl (G.2 2, 1, .inr (.inl (ov))))) : Met l yL_bit wsL_bit RM_L_bit_ok (mw_pre G M sz [.ref (x), .int (p0), .int (p1), .int (p2), .ref (o)]) (mw_Qi G M sz (nI (0)) (va_up M' o (some (.inl (G.2 2, 1, .inr (.inl (vp_updL (ov) (0) (r.toInt64)))))))) 0 0 (mw_A M sz) := by
  refine mw_ofWH (cc := cL_bit) (maxL := 6) (ret := (some .int)) (hh := [(0, 12, 15, 13)]) (by decide) rfl ?_
  intro p e s m args below meth c s₁ B hml hv
  obtain ⟨rfl, rfl, hC, hw⟩ := mw_in hv
  have hx := B.exec
  have hb := B.bytes
  have hr := B.returns
  have hts := atoms_spec (ws := wsL_bit) B.pre
  have hown : s.vm.findClass RL = some m.cls := findClass_of_methodNamed B.named
  have hlocks := B.notSynchronized
  have hl := lv_entry ([.ref (x), .int (p0), .int (p1), .int (p2), .ref (o)]) (n := 6) (Nat.le_of_ble_eq_true rfl)
  rw [lg_entry_eq]
  generalize (lg_sl ([.ref (x), .int (p0), .int (p1), .int (p2), .ref (o)]) ++ List.replicate (6 - (lg_sl ([.ref (x), .int (p0), .int (p1), .int (p2), .ref (o)])).length) Slot.unset).toArray = ls at hl ⊢
  have hl : lv_has ls 6 [(0, .ref (x)), (1, .int (p0)), (2, .int (p1)), (3, .int (p2)), (4, .ref (o))] := hl
  refine mw_start (fun H locs hw => ?_) hw
  refine lv_aload hx hb dL_bit_0 (lv_at hl 4 rfl) ?_
  refine lv_iconst (v := nI 0) hx hb dL_bit_2 (by decide) ?_
  refine lv_aload_n hx hb dL_bit_3 rfl (lv_at hl 0 rfl) ?_
  refine lv_iload_n hx hb dL_bit_4 rfl (lv_at hl 1 rfl) ?_
  refine lv_iload_n hx hb dL_bit_5 rfl (lv_at hl 2 rfl) ?_
  refine lv_iload_n hx hb dL_bit_6 rfl (lv_at hl 3 rfl) ?_
  refine mw_ci hC hw (va_runV (As := [.int (p0), .int (p1), .int (p2)]) (rest := [.int (nI (0)), .ref (o)]) ⟨hx, hb, hml, hown, hts⟩ (hc H.size) (cwV 3 hts gL_bit_X6_bit rfl hrc hrs (by decide +kernel) ⟨show rm.frames + 1 ≤ 10 by omega, show 8 + (5 + 11) + rm.locals ≤ 235 by omega⟩) (mw_preV (ci := 6) hC hw rfl ex) rfl rfl hl.1 rfl (lv_room (Nat.le_of_ble_eq_true rfl)) dL_bit_7 ⟨Nat.le_of_ble_eq_true rfl, Nat.le_of_ble_eq_true rfl⟩) (fun H locs hz hw => ?_)
  refine lv_i2l hx hb dL_bit_10 rfl ?_
  refine mw_lastN (n := 1) (f := ov) (i := 0) hx hb hC hw eo (by omega) (by decide) dL_bit_11 (fun H locs hw => ?_)
  refine lv_goto (tgt := 19) hx hb dL_bit_12 (by decide) ?_
  refine lv_iconst (v := nI 0) hx hb dL_bit_19 (by decide) ?_
  exact mw_iret hx hb hr hlocks hw rfl (fun _ _ h9 => h9) dL_bit_20
def RM_L_bit_exA : Room := { frames := 10, cells := 1, slots := 6, locals := 235 }
set_option maxHeartbeats 4000000 in
set_option maxRecDepth 100000 in
theorem h_L_bit_exA (l : Launch) (G : mw_G) (M : mw_M) (sz : Nat) (x : Nat) (o : Nat) (p0 : Int32) (p1 : Int32) (p2 : Int32) {fs : List Value} {rm : Room} (ex : M x = some (.inr (6, fs))) (hrc : rm.cells = 1) (hrs : rm.slots = 6) (hR1 : rm.frames ≤ 9) (hR2 : rm.locals ≤ 200) (hc : ∀ sz, vx_Met l yX6_bit wsX6_bit rm (mw_pre G M sz [.ref (x), .int (p0), .int (p1), .int (p2)]) mw_no (mw_X G M sz exA M) 1 6 (mw_A M sz)) : Met l yL_bit wsL_bit RM_L_bit_exA (mw_pre G M sz [.ref (x), .int (p0), .int (p1), .int (p2), .ref (o)]) (mw_Qi G M sz (nI (1)) M) 1 6 (mw_A M sz) := by
  refine mw_ofWH (cc := cL_bit) (maxL := 6) (ret := (some .int)) (hh := [(0, 12, 15, 13)]) (by decide) rfl ?_
  intro p e s m args below meth c s₁ B hml hv
  obtain ⟨rfl, rfl, hC, hw⟩ := mw_in hv
  have hx := B.exec
  have hb := B.bytes
  have hr := B.returns
  have hts := atoms_spec (ws := wsL_bit) B.pre
  have hown : s.vm.findClass RL = some m.cls := findClass_of_methodNamed B.named
  have hlocks := B.notSynchronized
  have hTab : c.exceptionTable.toList = tableOf [(0, 12, 15, 13)] := vx_table (x := yL_bit) B (hts (.codeWith yL_bit cL_bit 6 (some .int) [(0, 12, 15, 13)]) (by decide +kernel))
  have hl := lv_entry ([.ref (x), .int (p0), .int (p1), .int (p2), .ref (o)]) (n := 6) (Nat.le_of_ble_eq_true rfl)
  rw [lg_entry_eq]
  generalize (lg_sl ([.ref (x), .int (p0), .int (p1), .int (p2), .ref (o)]) ++ List.replicate (6 - (lg_sl ([.ref (x), .int (p0), .int (p1), .int (p2), .ref (o)])).length) Slot.unset).toArray = ls at hl ⊢
  have hl : lv_has ls 6 [(0, .ref (x)), (1, .int (p0)), (2, .int (p1)), (3, .int (p2)), (4, .ref (o))] := hl
  refine mw_start (fun H locs hw => ?_) hw
  refine lv_aload hx hb dL_bit_0 (lv_at hl 4 rfl) ?_
  refine lv_iconst (v := nI 0) hx hb dL_bit_2 (by decide) ?_
  refine lv_aload_n hx hb dL_bit_3 rfl (lv_at hl 0 rfl) ?_
  refine lv_iload_n hx hb dL_bit_4 rfl (lv_at hl 1 rfl) ?_
  refine lv_iload_n hx hb dL_bit_5 rfl (lv_at hl 2 rfl) ?_
  refine lv_iload_n hx hb dL_bit_6 rfl (lv_at hl 3 rfl) ?_
  refine mw_ct hC hw (vx_runV (As := [.int (p0), .int (p1), .int (p2)]) (rest := [.int (nI (0)), .ref (o)]) ⟨hx, hb, hml, hown, hts⟩ (hc H.size) (cwV 3 hts gL_bit_X6_bit rfl hrc hrs (by decide +kernel) ⟨show rm.frames + 1 ≤ 10 by omega, show 8 + (5 + 11) + rm.locals ≤ 235 by omega⟩) (mw_preV (ci := 6) hC hw rfl ex) rfl rfl hl.1 rfl (lv_room (Nat.le_of_ble_eq_true rfl)) dL_bit_7 ⟨Nat.le_of_ble_eq_true rfl, Nat.le_of_ble_eq_true rfl⟩) (fun ce q9 H locs hw hce hcv hcl => ?_)
  refine mw_catch1 (own := RL) (name := exA) (E := exA) hown ⟨0, 12, 15, 13⟩ [] (by rw [hTab]; rfl) (by decide) (by decide) (hts (.classLink RL 13 exA) (by decide +kernel)) (va_Nw.use rfl (hC.1.2.2.2.2.2.1 (.castable exA exA) (by decide +kernel))) hce hcv hcl ?_
  refine lv_astore (lv' := [(5, .ref (q9)), (0, .ref (x)), (1, .int (p0)), (2, .int (p1)), (3, .int (p2)), (4, .ref (o))]) hx hb dL_bit_15 hl (by decide) rfl (fun ls hl => ?_)
  refine lv_iconst (v := nI 1) hx hb dL_bit_17 (by decide) ?_
  exact mw_iret hx hb hr hlocks hw rfl (fun _ _ h9 => h9) dL_bit_18
def RM_L_taken_ok : Room := { frames := 10, cells := 0, slots := 0, locals := 235 }
set_option maxHeartbeats 4000000 in
set_option maxRecDepth 100000 in
theorem h_L_taken_ok (l : Launch) (G : mw_G) (M M' : mw_M) (sz : Nat) (x : Nat) (o : Nat) (ov : Nat → Int64) (r : Int32) (p0 : Int32) (p1 : Int32) (p2 : Int32) {fs : List Value} {rm : Room} (ex : M x = some (.inr (6, fs))) (hrc : rm.cells = 0) (hrs : rm.slots = 0) (hR1 : rm.frames ≤ 9) (hR2 : rm.locals ≤ 200) (hc : ∀ sz, Met l yX6_taken wsX6_taken rm (mw_pre G M sz [.ref (x), .int (p0), .int (p1), .int (p2)]) (mw_Qi G M sz r M') 0 0 (mw_A M sz)) (eo : M' o = some (.inl (G.2 2, 1, .inr (.inl (ov))))) : Met l yL_taken wsL_taken RM_L_taken_ok (mw_pre G M sz [.ref (x), .int (p0), .int (p1), .int (p2), .ref (o)]) (mw_Qi G M sz (nI (0)) (va_up M' o (some (.inl (G.2 2, 1, .inr (.inl (vp_updL (ov) (0) (r.toInt64)))))))) 0 0 (mw_A M sz) := by
  refine mw_ofWH (cc := cL_taken) (maxL := 6) (ret := (some .int)) (hh := [(0, 12, 15, 13)]) (by decide) rfl ?_
  intro p e s m args below meth c s₁ B hml hv
  obtain ⟨rfl, rfl, hC, hw⟩ := mw_in hv
  have hx := B.exec
  have hb := B.bytes
  have hr := B.returns
  have hts := atoms_spec (ws := wsL_taken) B.pre
  have hown : s.vm.findClass RL = some m.cls := findClass_of_methodNamed B.named
  have hlocks := B.notSynchronized
  have hl := lv_entry ([.ref (x), .int (p0), .int (p1), .int (p2), .ref (o)]) (n := 6) (Nat.le_of_ble_eq_true rfl)
  rw [lg_entry_eq]
  generalize (lg_sl ([.ref (x), .int (p0), .int (p1), .int (p2), .ref (o)]) ++ List.replicate (6 - (lg_sl ([.ref (x), .int (p0), .int (p1), .int (p2), .ref (o)])).length) Slot.unset).toArray = ls at hl ⊢
  have hl : lv_has ls 6 [(0, .ref (x)), (1, .int (p0)), (2, .int (p1)), (3, .int (p2)), (4, .ref (o))] := hl
  refine mw_start (fun H locs hw => ?_) hw
  refine lv_aload hx hb dL_taken_0 (lv_at hl 4 rfl) ?_
  refine lv_iconst (v := nI 0) hx hb dL_taken_2 (by decide) ?_
  refine lv_aload_n hx hb dL_taken_3 rfl (lv_at hl 0 rfl) ?_
  refine lv_iload_n hx hb dL_taken_4 rfl (lv_at hl 1 rfl) ?_
  refine lv_iload_n hx hb dL_taken_5 rfl (lv_at hl 2 rfl) ?_
  refine lv_iload_n hx hb dL_taken_6 rfl (lv_at hl 3 rfl) ?_
  refine mw_ci hC hw (va_runV (As := [.int (p0), .int (p1), .int (p2)]) (rest := [.int (nI (0)), .ref (o)]) ⟨hx, hb, hml, hown, hts⟩ (hc H.size) (cwV 3 hts gL_taken_X6_taken rfl hrc hrs (by decide +kernel) ⟨show rm.frames + 1 ≤ 10 by omega, show 8 + (5 + 11) + rm.locals ≤ 235 by omega⟩) (mw_preV (ci := 6) hC hw rfl ex) rfl rfl hl.1 rfl (lv_room (Nat.le_of_ble_eq_true rfl)) dL_taken_7 ⟨Nat.le_of_ble_eq_true rfl, Nat.le_of_ble_eq_true rfl⟩) (fun H locs hz hw => ?_)
  refine lv_i2l hx hb dL_taken_10 rfl ?_
  refine mw_lastN (n := 1) (f := ov) (i := 0) hx hb hC hw eo (by omega) (by decide) dL_taken_11 (fun H locs hw => ?_)
  refine lv_goto (tgt := 19) hx hb dL_taken_12 (by decide) ?_
  refine lv_iconst (v := nI 0) hx hb dL_taken_19 (by decide) ?_
  exact mw_iret hx hb hr hlocks hw rfl (fun _ _ h9 => h9) dL_taken_20
def RM_L_taken_exA : Room := { frames := 10, cells := 1, slots := 6, locals := 235 }
set_option maxHeartbeats 4000000 in
set_option maxRecDepth 100000 in
theorem h_L_taken_exA (l : Launch) (G : mw_G) (M : mw_M) (sz : Nat) (x : Nat) (o : Nat) (p0 : Int32) (p1 : Int32) (p2 : Int32) {fs : List Value} {rm : Room} (ex : M x = some (.inr (6, fs))) (hrc : rm.cells = 1) (hrs : rm.slots = 6) (hR1 : rm.frames ≤ 9) (hR2 : rm.locals ≤ 200) (hc : ∀ sz, vx_Met l yX6_taken wsX6_taken rm (mw_pre G M sz [.ref (x), .int (p0), .int (p1), .int (p2)]) mw_no (mw_X G M sz exA M) 1 6 (mw_A M sz)) : Met l yL_taken wsL_taken RM_L_taken_exA (mw_pre G M sz [.ref (x), .int (p0), .int (p1), .int (p2), .ref (o)]) (mw_Qi G M sz (nI (1)) M) 1 6 (mw_A M sz) := by
  refine mw_ofWH (cc := cL_taken) (maxL := 6) (ret := (some .int)) (hh := [(0, 12, 15, 13)]) (by decide) rfl ?_
  intro p e s m args below meth c s₁ B hml hv
  obtain ⟨rfl, rfl, hC, hw⟩ := mw_in hv
  have hx := B.exec
  have hb := B.bytes
  have hr := B.returns
  have hts := atoms_spec (ws := wsL_taken) B.pre
  have hown : s.vm.findClass RL = some m.cls := findClass_of_methodNamed B.named
  have hlocks := B.notSynchronized
  have hTab : c.exceptionTable.toList = tableOf [(0, 12, 15, 13)] := vx_table (x := yL_taken) B (hts (.codeWith yL_taken cL_taken 6 (some .int) [(0, 12, 15, 13)]) (by decide +kernel))
  have hl := lv_entry ([.ref (x), .int (p0), .int (p1), .int (p2), .ref (o)]) (n := 6) (Nat.le_of_ble_eq_true rfl)
  rw [lg_entry_eq]
  generalize (lg_sl ([.ref (x), .int (p0), .int (p1), .int (p2), .ref (o)]) ++ List.replicate (6 - (lg_sl ([.ref (x), .int (p0), .int (p1), .int (p2), .ref (o)])).length) Slot.unset).toArray = ls at hl ⊢
  have hl : lv_has ls 6 [(0, .ref (x)), (1, .int (p0)), (2, .int (p1)), (3, .int (p2)), (4, .ref (o))] := hl
  refine mw_start (fun H locs hw => ?_) hw
  refine lv_aload hx hb dL_taken_0 (lv_at hl 4 rfl) ?_
  refine lv_iconst (v := nI 0) hx hb dL_taken_2 (by decide) ?_
  refine lv_aload_n hx hb dL_taken_3 rfl (lv_at hl 0 rfl) ?_
  refine lv_iload_n hx hb dL_taken_4 rfl (lv_at hl 1 rfl) ?_
  refine lv_iload_n hx hb dL_taken_5 rfl (lv_at hl 2 rfl) ?_
  refine lv_iload_n hx hb dL_taken_6 rfl (lv_at hl 3 rfl) ?_
  refine mw_ct hC hw (vx_runV (As := [.int (p0), .int (p1), .int (p2)]) (rest := [.int (nI (0)), .ref (o)]) ⟨hx, hb, hml, hown, hts⟩ (hc H.size) (cwV 3 hts gL_taken_X6_taken rfl hrc hrs (by decide +kernel) ⟨show rm.frames + 1 ≤ 10 by omega, show 8 + (5 + 11) + rm.locals ≤ 235 by omega⟩) (mw_preV (ci := 6) hC hw rfl ex) rfl rfl hl.1 rfl (lv_room (Nat.le_of_ble_eq_true rfl)) dL_taken_7 ⟨Nat.le_of_ble_eq_true rfl, Nat.le_of_ble_eq_true rfl⟩) (fun ce q9 H locs hw hce hcv hcl => ?_)
  refine mw_catch1 (own := RL) (name := exA) (E := exA) hown ⟨0, 12, 15, 13⟩ [] (by rw [hTab]; rfl) (by decide) (by decide) (hts (.classLink RL 13 exA) (by decide +kernel)) (va_Nw.use rfl (hC.1.2.2.2.2.2.1 (.castable exA exA) (by decide +kernel))) hce hcv hcl ?_
  refine lv_astore (lv' := [(5, .ref (q9)), (0, .ref (x)), (1, .int (p0)), (2, .int (p1)), (3, .int (p2)), (4, .ref (o))]) hx hb dL_taken_15 hl (by decide) rfl (fun ls hl => ?_)
  refine lv_iconst (v := nI 1) hx hb dL_taken_17 (by decide) ?_
  exact mw_iret hx hb hr hlocks hw rfl (fun _ _ h9 => h9) dL_taken_18
def RM_L_check_ok : Room := { frames := 10, cells := 0, slots := 0, locals := 236 }
set_option maxHeartbeats 4000000 in
set_option maxRecDepth 100000 in
theorem h_L_check_ok (l : Launch) (G : mw_G) (M M' : mw_M) (sz : Nat) (x : Nat) (o : Nat) (ov : Nat → Int64) (r : Int32) (p0 : Int64) (p1 : Int32) {fs : List Value} {rm : Room} (ex : M x = some (.inr (6, fs))) (hrc : rm.cells = 0) (hrs : rm.slots = 0) (hR1 : rm.frames ≤ 9) (hR2 : rm.locals ≤ 200) (hc : ∀ sz, Met l yX6_check wsX6_check rm (mw_pre G M sz [.ref (x), .long (p0), .int (p1)]) (mw_Qi G M sz r M') 0 0 (mw_A M sz)) (eo : M' o = some (.inl (G.2 2, 1, .inr (.inl (ov))))) : Met l yL_check wsL_check RM_L_check_ok (mw_pre G M sz [.ref (x), .long (p0), .int (p1), .ref (o)]) (mw_Qi G M sz (nI (0)) (va_up M' o (some (.inl (G.2 2, 1, .inr (.inl (vp_updL (ov) (0) (r.toInt64)))))))) 0 0 (mw_A M sz) := by
  refine mw_ofWH (cc := cL_check) (maxL := 6) (ret := (some .int)) (hh := [(0, 11, 14, 13)]) (by decide) rfl ?_
  intro p e s m args below meth c s₁ B hml hv
  obtain ⟨rfl, rfl, hC, hw⟩ := mw_in hv
  have hx := B.exec
  have hb := B.bytes
  have hr := B.returns
  have hts := atoms_spec (ws := wsL_check) B.pre
  have hown : s.vm.findClass RL = some m.cls := findClass_of_methodNamed B.named
  have hlocks := B.notSynchronized
  have hl := lv_entry ([.ref (x), .long (p0), .int (p1), .ref (o)]) (n := 6) (Nat.le_of_ble_eq_true rfl)
  rw [lg_entry_eq]
  generalize (lg_sl ([.ref (x), .long (p0), .int (p1), .ref (o)]) ++ List.replicate (6 - (lg_sl ([.ref (x), .long (p0), .int (p1), .ref (o)])).length) Slot.unset).toArray = ls at hl ⊢
  have hl : lv_has ls 6 [(0, .ref (x)), (1, .long (p0)), (3, .int (p1)), (4, .ref (o))] := hl
  refine mw_start (fun H locs hw => ?_) hw
  refine lv_aload hx hb dL_check_0 (lv_at hl 3 rfl) ?_
  refine lv_iconst (v := nI 0) hx hb dL_check_2 (by decide) ?_
  refine lv_aload_n hx hb dL_check_3 rfl (lv_at hl 0 rfl) ?_
  refine lv_lload_n hx hb dL_check_4 rfl (lv_at hl 1 rfl) ?_
  refine lv_iload_n hx hb dL_check_5 rfl (lv_at hl 2 rfl) ?_
  refine mw_ci hC hw (va_runV (As := [.long (p0), .int (p1)]) (rest := [.int (nI (0)), .ref (o)]) ⟨hx, hb, hml, hown, hts⟩ (hc H.size) (cwV 2 hts gL_check_X6_check rfl hrc hrs (by decide +kernel) ⟨show rm.frames + 1 ≤ 10 by omega, show 8 + (6 + 11) + rm.locals ≤ 236 by omega⟩) (mw_preV (ci := 6) hC hw rfl ex) rfl rfl hl.1 rfl (lv_room (Nat.le_of_ble_eq_true rfl)) dL_check_6 ⟨Nat.le_of_ble_eq_true rfl, Nat.le_of_ble_eq_true rfl⟩) (fun H locs hz hw => ?_)
  refine lv_i2l hx hb dL_check_9 rfl ?_
  refine mw_lastN (n := 1) (f := ov) (i := 0) hx hb hC hw eo (by omega) (by decide) dL_check_10 (fun H locs hw => ?_)
  refine lv_goto (tgt := 18) hx hb dL_check_11 (by decide) ?_
  refine lv_iconst (v := nI 0) hx hb dL_check_18 (by decide) ?_
  exact mw_iret hx hb hr hlocks hw rfl (fun _ _ h9 => h9) dL_check_19
def RM_L_check_exA : Room := { frames := 10, cells := 1, slots := 6, locals := 236 }
set_option maxHeartbeats 4000000 in
set_option maxRecDepth 100000 in
theorem h_L_check_exA (l : Launch) (G : mw_G) (M : mw_M) (sz : Nat) (x : Nat) (o : Nat) (p0 : Int64) (p1 : Int32) {fs : List Value} {rm : Room} (ex : M x = some (.inr (6, fs))) (hrc : rm.cells = 1) (hrs : rm.slots = 6) (hR1 : rm.frames ≤ 9) (hR2 : rm.locals ≤ 200) (hc : ∀ sz, vx_Met l yX6_check wsX6_check rm (mw_pre G M sz [.ref (x), .long (p0), .int (p1)]) mw_no (mw_X G M sz exA M) 1 6 (mw_A M sz)) : Met l yL_check wsL_check RM_L_check_exA (mw_pre G M sz [.ref (x), .long (p0), .int (p1), .ref (o)]) (mw_Qi G M sz (nI (1)) M) 1 6 (mw_A M sz) := by
  refine mw_ofWH (cc := cL_check) (maxL := 6) (ret := (some .int)) (hh := [(0, 11, 14, 13)]) (by decide) rfl ?_
  intro p e s m args below meth c s₁ B hml hv
  obtain ⟨rfl, rfl, hC, hw⟩ := mw_in hv
  have hx := B.exec
  have hb := B.bytes
  have hr := B.returns
  have hts := atoms_spec (ws := wsL_check) B.pre
  have hown : s.vm.findClass RL = some m.cls := findClass_of_methodNamed B.named
  have hlocks := B.notSynchronized
  have hTab : c.exceptionTable.toList = tableOf [(0, 11, 14, 13)] := vx_table (x := yL_check) B (hts (.codeWith yL_check cL_check 6 (some .int) [(0, 11, 14, 13)]) (by decide +kernel))
  have hl := lv_entry ([.ref (x), .long (p0), .int (p1), .ref (o)]) (n := 6) (Nat.le_of_ble_eq_true rfl)
  rw [lg_entry_eq]
  generalize (lg_sl ([.ref (x), .long (p0), .int (p1), .ref (o)]) ++ List.replicate (6 - (lg_sl ([.ref (x), .long (p0), .int (p1), .ref (o)])).length) Slot.unset).toArray = ls at hl ⊢
  have hl : lv_has ls 6 [(0, .ref (x)), (1, .long (p0)), (3, .int (p1)), (4, .ref (o))] := hl
  refine mw_start (fun H locs hw => ?_) hw
  refine lv_aload hx hb dL_check_0 (lv_at hl 3 rfl) ?_
  refine lv_iconst (v := nI 0) hx hb dL_check_2 (by decide) ?_
  refine lv_aload_n hx hb dL_check_3 rfl (lv_at hl 0 rfl) ?_
  refine lv_lload_n hx hb dL_check_4 rfl (lv_at hl 1 rfl) ?_
  refine lv_iload_n hx hb dL_check_5 rfl (lv_at hl 2 rfl) ?_
  refine mw_ct hC hw (vx_runV (As := [.long (p0), .int (p1)]) (rest := [.int (nI (0)), .ref (o)]) ⟨hx, hb, hml, hown, hts⟩ (hc H.size) (cwV 2 hts gL_check_X6_check rfl hrc hrs (by decide +kernel) ⟨show rm.frames + 1 ≤ 10 by omega, show 8 + (6 + 11) + rm.locals ≤ 236 by omega⟩) (mw_preV (ci := 6) hC hw rfl ex) rfl rfl hl.1 rfl (lv_room (Nat.le_of_ble_eq_true rfl)) dL_check_6 ⟨Nat.le_of_ble_eq_true rfl, Nat.le_of_ble_eq_true rfl⟩) (fun ce q9 H locs hw hce hcv hcl => ?_)
  refine mw_catch1 (own := RL) (name := exA) (E := exA) hown ⟨0, 11, 14, 13⟩ [] (by rw [hTab]; rfl) (by decide) (by decide) (hts (.classLink RL 13 exA) (by decide +kernel)) (va_Nw.use rfl (hC.1.2.2.2.2.2.1 (.castable exA exA) (by decide +kernel))) hce hcv hcl ?_
  refine lv_astore (lv' := [(5, .ref (q9)), (0, .ref (x)), (1, .long (p0)), (3, .int (p1)), (4, .ref (o))]) hx hb dL_check_14 hl (by decide) rfl (fun ls hl => ?_)
  refine lv_iconst (v := nI 1) hx hb dL_check_16 (by decide) ?_
  exact mw_iret hx hb hr hlocks hw rfl (fun _ _ h9 => h9) dL_check_17
def RM_L_about_ok : Room := { frames := 10, cells := 0, slots := 0, locals := 234 }
set_option maxHeartbeats 4000000 in
set_option maxRecDepth 100000 in
theorem h_L_about_ok (l : Launch) (G : mw_G) (M M' : mw_M) (sz : Nat) (x : Nat) (o : Nat) (ov : Nat → Int64) (r : Int32) (p0 : Int32) (p1 : Int32) {fs : List Value} {rm : Room} (ex : M x = some (.inr (6, fs))) (hrc : rm.cells = 0) (hrs : rm.slots = 0) (hR1 : rm.frames ≤ 9) (hR2 : rm.locals ≤ 200) (hc : ∀ sz, Met l yX6_about wsX6_about rm (mw_pre G M sz [.ref (x), .int (p0), .int (p1)]) (mw_Qi G M sz r M') 0 0 (mw_A M sz)) (eo : M' o = some (.inl (G.2 2, 1, .inr (.inl (ov))))) : Met l yL_about wsL_about RM_L_about_ok (mw_pre G M sz [.ref (x), .int (p0), .int (p1), .ref (o)]) (mw_Qi G M sz (nI (0)) (va_up M' o (some (.inl (G.2 2, 1, .inr (.inl (vp_updL (ov) (0) (r.toInt64)))))))) 0 0 (mw_A M sz) := by
  refine mw_ofWH (cc := cL_about) (maxL := 5) (ret := (some .int)) (hh := [(0, 10, 13, 13)]) (by decide) rfl ?_
  intro p e s m args below meth c s₁ B hml hv
  obtain ⟨rfl, rfl, hC, hw⟩ := mw_in hv
  have hx := B.exec
  have hb := B.bytes
  have hr := B.returns
  have hts := atoms_spec (ws := wsL_about) B.pre
  have hown : s.vm.findClass RL = some m.cls := findClass_of_methodNamed B.named
  have hlocks := B.notSynchronized
  have hl := lv_entry ([.ref (x), .int (p0), .int (p1), .ref (o)]) (n := 5) (Nat.le_of_ble_eq_true rfl)
  rw [lg_entry_eq]
  generalize (lg_sl ([.ref (x), .int (p0), .int (p1), .ref (o)]) ++ List.replicate (5 - (lg_sl ([.ref (x), .int (p0), .int (p1), .ref (o)])).length) Slot.unset).toArray = ls at hl ⊢
  have hl : lv_has ls 5 [(0, .ref (x)), (1, .int (p0)), (2, .int (p1)), (3, .ref (o))] := hl
  refine mw_start (fun H locs hw => ?_) hw
  refine lv_aload_n hx hb dL_about_0 rfl (lv_at hl 3 rfl) ?_
  refine lv_iconst (v := nI 0) hx hb dL_about_1 (by decide) ?_
  refine lv_aload_n hx hb dL_about_2 rfl (lv_at hl 0 rfl) ?_
  refine lv_iload_n hx hb dL_about_3 rfl (lv_at hl 1 rfl) ?_
  refine lv_iload_n hx hb dL_about_4 rfl (lv_at hl 2 rfl) ?_
  refine mw_ci hC hw (va_runV (As := [.int (p0), .int (p1)]) (rest := [.int (nI (0)), .ref (o)]) ⟨hx, hb, hml, hown, hts⟩ (hc H.size) (cwV 2 hts gL_about_X6_about rfl hrc hrs (by decide +kernel) ⟨show rm.frames + 1 ≤ 10 by omega, show 8 + (4 + 11) + rm.locals ≤ 234 by omega⟩) (mw_preV (ci := 6) hC hw rfl ex) rfl rfl hl.1 rfl (lv_room (Nat.le_of_ble_eq_true rfl)) dL_about_5 ⟨Nat.le_of_ble_eq_true rfl, Nat.le_of_ble_eq_true rfl⟩) (fun H locs hz hw => ?_)
  refine lv_i2l hx hb dL_about_8 rfl ?_
  refine mw_lastN (n := 1) (f := ov) (i := 0) hx hb hC hw eo (by omega) (by decide) dL_about_9 (fun H locs hw => ?_)
  refine lv_goto (tgt := 17) hx hb dL_about_10 (by decide) ?_
  refine lv_iconst (v := nI 0) hx hb dL_about_17 (by decide) ?_
  exact mw_iret hx hb hr hlocks hw rfl (fun _ _ h9 => h9) dL_about_18
def RM_L_about_exA : Room := { frames := 10, cells := 1, slots := 6, locals := 234 }
set_option maxHeartbeats 4000000 in
set_option maxRecDepth 100000 in
theorem h_L_about_exA (l : Launch) (G : mw_G) (M : mw_M) (sz : Nat) (x : Nat) (o : Nat) (p0 : Int32) (p1 : Int32) {fs : List Value} {rm : Room} (ex : M x = some (.inr (6, fs))) (hrc : rm.cells = 1) (hrs : rm.slots = 6) (hR1 : rm.frames ≤ 9) (hR2 : rm.locals ≤ 200) (hc : ∀ sz, vx_Met l yX6_about wsX6_about rm (mw_pre G M sz [.ref (x), .int (p0), .int (p1)]) mw_no (mw_X G M sz exA M) 1 6 (mw_A M sz)) : Met l yL_about wsL_about RM_L_about_exA (mw_pre G M sz [.ref (x), .int (p0), .int (p1), .ref (o)]) (mw_Qi G M sz (nI (1)) M) 1 6 (mw_A M sz) := by
  refine mw_ofWH (cc := cL_about) (maxL := 5) (ret := (some .int)) (hh := [(0, 10, 13, 13)]) (by decide) rfl ?_
  intro p e s m args below meth c s₁ B hml hv
  obtain ⟨rfl, rfl, hC, hw⟩ := mw_in hv
  have hx := B.exec
  have hb := B.bytes
  have hr := B.returns
  have hts := atoms_spec (ws := wsL_about) B.pre
  have hown : s.vm.findClass RL = some m.cls := findClass_of_methodNamed B.named
  have hlocks := B.notSynchronized
  have hTab : c.exceptionTable.toList = tableOf [(0, 10, 13, 13)] := vx_table (x := yL_about) B (hts (.codeWith yL_about cL_about 5 (some .int) [(0, 10, 13, 13)]) (by decide +kernel))
  have hl := lv_entry ([.ref (x), .int (p0), .int (p1), .ref (o)]) (n := 5) (Nat.le_of_ble_eq_true rfl)
  rw [lg_entry_eq]
  generalize (lg_sl ([.ref (x), .int (p0), .int (p1), .ref (o)]) ++ List.replicate (5 - (lg_sl ([.ref (x), .int (p0), .int (p1), .ref (o)])).length) Slot.unset).toArray = ls at hl ⊢
  have hl : lv_has ls 5 [(0, .ref (x)), (1, .int (p0)), (2, .int (p1)), (3, .ref (o))] := hl
  refine mw_start (fun H locs hw => ?_) hw
  refine lv_aload_n hx hb dL_about_0 rfl (lv_at hl 3 rfl) ?_
  refine lv_iconst (v := nI 0) hx hb dL_about_1 (by decide) ?_
  refine lv_aload_n hx hb dL_about_2 rfl (lv_at hl 0 rfl) ?_
  refine lv_iload_n hx hb dL_about_3 rfl (lv_at hl 1 rfl) ?_
  refine lv_iload_n hx hb dL_about_4 rfl (lv_at hl 2 rfl) ?_
  refine mw_ct hC hw (vx_runV (As := [.int (p0), .int (p1)]) (rest := [.int (nI (0)), .ref (o)]) ⟨hx, hb, hml, hown, hts⟩ (hc H.size) (cwV 2 hts gL_about_X6_about rfl hrc hrs (by decide +kernel) ⟨show rm.frames + 1 ≤ 10 by omega, show 8 + (4 + 11) + rm.locals ≤ 234 by omega⟩) (mw_preV (ci := 6) hC hw rfl ex) rfl rfl hl.1 rfl (lv_room (Nat.le_of_ble_eq_true rfl)) dL_about_5 ⟨Nat.le_of_ble_eq_true rfl, Nat.le_of_ble_eq_true rfl⟩) (fun ce q9 H locs hw hce hcv hcl => ?_)
  refine mw_catch1 (own := RL) (name := exA) (E := exA) hown ⟨0, 10, 13, 13⟩ [] (by rw [hTab]; rfl) (by decide) (by decide) (hts (.classLink RL 13 exA) (by decide +kernel)) (va_Nw.use rfl (hC.1.2.2.2.2.2.1 (.castable exA exA) (by decide +kernel))) hce hcv hcl ?_
  refine lv_astore (lv' := [(4, .ref (q9)), (0, .ref (x)), (1, .int (p0)), (2, .int (p1)), (3, .ref (o))]) hx hb dL_about_13 hl (by decide) rfl (fun ls hl => ?_)
  refine lv_iconst (v := nI 1) hx hb dL_about_15 (by decide) ?_
  exact mw_iret hx hb hr hlocks hw rfl (fun _ _ h9 => h9) dL_about_16
def RM_L_restart_ok : Room := { frames := 10, cells := 0, slots := 0, locals := 232 }
set_option maxHeartbeats 4000000 in
set_option maxRecDepth 100000 in
theorem h_L_restart_ok (l : Launch) (G : mw_G) (M M' : mw_M) (sz : Nat) (x : Nat) (p0 : Int32) {fs : List Value} {rm : Room} (ex : M x = some (.inr (6, fs))) (hrc : rm.cells = 0) (hrs : rm.slots = 0) (hR1 : rm.frames ≤ 9) (hR2 : rm.locals ≤ 200) (hc : ∀ sz, Met l yX6_restart wsX6_restart rm (mw_pre G M sz [.ref (x), .int (p0)]) (mw_Qv G M sz M') 0 0 (mw_A M sz)) : Met l yL_restart wsL_restart RM_L_restart_ok (mw_pre G M sz [.ref (x), .int (p0)]) (mw_Qi G M sz (nI (0)) M') 0 0 (mw_A M sz) := by
  refine mw_ofWH (cc := cL_restart) (maxL := 3) (ret := (some .int)) (hh := [(0, 5, 8, 13)]) (by decide) rfl ?_
  intro p e s m args below meth c s₁ B hml hv
  obtain ⟨rfl, rfl, hC, hw⟩ := mw_in hv
  have hx := B.exec
  have hb := B.bytes
  have hr := B.returns
  have hts := atoms_spec (ws := wsL_restart) B.pre
  have hown : s.vm.findClass RL = some m.cls := findClass_of_methodNamed B.named
  have hlocks := B.notSynchronized
  have hl := lv_entry ([.ref (x), .int (p0)]) (n := 3) (Nat.le_of_ble_eq_true rfl)
  rw [lg_entry_eq]
  generalize (lg_sl ([.ref (x), .int (p0)]) ++ List.replicate (3 - (lg_sl ([.ref (x), .int (p0)])).length) Slot.unset).toArray = ls at hl ⊢
  have hl : lv_has ls 3 [(0, .ref (x)), (1, .int (p0))] := hl
  refine mw_start (fun H locs hw => ?_) hw
  refine lv_aload_n hx hb dL_restart_0 rfl (lv_at hl 0 rfl) ?_
  refine lv_iload_n hx hb dL_restart_1 rfl (lv_at hl 1 rfl) ?_
  refine mw_cv hC hw (va_runV (As := [.int (p0)]) (rest := []) ⟨hx, hb, hml, hown, hts⟩ (hc H.size) (cwV 1 hts gL_restart_X6_restart rfl hrc hrs (by decide +kernel) ⟨show rm.frames + 1 ≤ 10 by omega, show 8 + (2 + 11) + rm.locals ≤ 232 by omega⟩) (mw_preV (ci := 6) hC hw rfl ex) rfl rfl hl.1 rfl (lv_room (Nat.le_of_ble_eq_true rfl)) dL_restart_2 ⟨Nat.le_of_ble_eq_true rfl, Nat.le_of_ble_eq_true rfl⟩) (fun H locs hz hw => ?_)
  refine lv_goto (tgt := 11) hx hb dL_restart_5 (by decide) ?_
  refine lv_iconst (v := nI 0) hx hb dL_restart_11 (by decide) ?_
  exact mw_iret hx hb hr hlocks hw rfl (fun _ _ h9 => h9) dL_restart_12
def RM_L_restart_exA : Room := { frames := 10, cells := 1, slots := 6, locals := 232 }
set_option maxHeartbeats 4000000 in
set_option maxRecDepth 100000 in
theorem h_L_restart_exA (l : Launch) (G : mw_G) (M : mw_M) (sz : Nat) (x : Nat) (p0 : Int32) {fs : List Value} {rm : Room} (ex : M x = some (.inr (6, fs))) (hrc : rm.cells = 1) (hrs : rm.slots = 6) (hR1 : rm.frames ≤ 9) (hR2 : rm.locals ≤ 200) (hc : ∀ sz, vx_Met l yX6_restart wsX6_restart rm (mw_pre G M sz [.ref (x), .int (p0)]) mw_no (mw_X G M sz exA M) 1 6 (mw_A M sz)) : Met l yL_restart wsL_restart RM_L_restart_exA (mw_pre G M sz [.ref (x), .int (p0)]) (mw_Qi G M sz (nI (1)) M) 1 6 (mw_A M sz) := by
  refine mw_ofWH (cc := cL_restart) (maxL := 3) (ret := (some .int)) (hh := [(0, 5, 8, 13)]) (by decide) rfl ?_
  intro p e s m args below meth c s₁ B hml hv
  obtain ⟨rfl, rfl, hC, hw⟩ := mw_in hv
  have hx := B.exec
  have hb := B.bytes
  have hr := B.returns
  have hts := atoms_spec (ws := wsL_restart) B.pre
  have hown : s.vm.findClass RL = some m.cls := findClass_of_methodNamed B.named
  have hlocks := B.notSynchronized
  have hTab : c.exceptionTable.toList = tableOf [(0, 5, 8, 13)] := vx_table (x := yL_restart) B (hts (.codeWith yL_restart cL_restart 3 (some .int) [(0, 5, 8, 13)]) (by decide +kernel))
  have hl := lv_entry ([.ref (x), .int (p0)]) (n := 3) (Nat.le_of_ble_eq_true rfl)
  rw [lg_entry_eq]
  generalize (lg_sl ([.ref (x), .int (p0)]) ++ List.replicate (3 - (lg_sl ([.ref (x), .int (p0)])).length) Slot.unset).toArray = ls at hl ⊢
  have hl : lv_has ls 3 [(0, .ref (x)), (1, .int (p0))] := hl
  refine mw_start (fun H locs hw => ?_) hw
  refine lv_aload_n hx hb dL_restart_0 rfl (lv_at hl 0 rfl) ?_
  refine lv_iload_n hx hb dL_restart_1 rfl (lv_at hl 1 rfl) ?_
  refine mw_ct hC hw (vx_runV (As := [.int (p0)]) (rest := []) ⟨hx, hb, hml, hown, hts⟩ (hc H.size) (cwV 1 hts gL_restart_X6_restart rfl hrc hrs (by decide +kernel) ⟨show rm.frames + 1 ≤ 10 by omega, show 8 + (2 + 11) + rm.locals ≤ 232 by omega⟩) (mw_preV (ci := 6) hC hw rfl ex) rfl rfl hl.1 rfl (lv_room (Nat.le_of_ble_eq_true rfl)) dL_restart_2 ⟨Nat.le_of_ble_eq_true rfl, Nat.le_of_ble_eq_true rfl⟩) (fun ce q9 H locs hw hce hcv hcl => ?_)
  refine mw_catch1 (own := RL) (name := exA) (E := exA) hown ⟨0, 5, 8, 13⟩ [] (by rw [hTab]; rfl) (by decide) (by decide) (hts (.classLink RL 13 exA) (by decide +kernel)) (va_Nw.use rfl (hC.1.2.2.2.2.2.1 (.castable exA exA) (by decide +kernel))) hce hcv hcl ?_
  refine lv_astore_n (lv' := [(2, .ref (q9)), (0, .ref (x)), (1, .int (p0))]) hx hb dL_restart_8 rfl hl (by decide) rfl (fun ls hl => ?_)
  refine lv_iconst (v := nI 1) hx hb dL_restart_9 (by decide) ?_
  exact mw_iret hx hb hr hlocks hw rfl (fun _ _ h9 => h9) dL_restart_10
