/-! ===== throwing ===== -/
abbrev exA : String := "java/lang/IllegalArgumentException"
abbrev exS : String := "java/lang/IllegalStateException"
abbrev exN : List String := ["java/lang/RuntimeException", "java/lang/Exception"]
def mw_X (G : mw_G) (M : mw_M) (sz : Nat) (E : String) (M' : mw_M) : String → State → State → Prop := vx_X (fun (_ : Unit) => True) (fun E' _ t => E' = E ∧ mw_end G M M' sz t) (mw_A M sz)
abbrev mw_no : Array Value → State → Outcome → State → Prop := fun _ _ _ _ => False
theorem exA_bad : ∀ w ∈ (vx_at0 RX6 29 exA exN).filter (fun w => !goodWord w), w ∈ mw_xw := by decide +kernel
theorem exS_bad : ∀ w ∈ (vx_at0 RX6 46 exS exN).filter (fun w => !goodWord w), w ∈ mw_xw := by decide +kernel
theorem exA_ot : ∀ w ∈ Cond.classLink RX6 27 exA :: Cond.initialized exA :: vx_at0 RX6 29 exA exN, vx_ot w = true := by decide +kernel
theorem exS_ot : ∀ w ∈ Cond.classLink RX6 44 exS :: Cond.initialized exS :: vx_at0 RX6 46 exS exN, vx_ot w = true := by decide +kernel
section MWX
variable {p : Program} {l : Launch} {e : Env} {R : Room} {s : State} {m : MethodId} {args : Array Value} {below : List Frame} {meth : Method} {c : Code} {H : Heap} {locs : List Loc} {cells slots : Nat} {Q : State → Prop}
variable {cc : ByteArray} {pc : Nat} {ls : Array Slot} {rest : List Value} {G : mw_G} {A : Nat → Prop} {a : Nat} {M : mw_M}
theorem mw_throw {E : String} {ik ic : Nat} {M0 : mw_M} {Qc : Array Value → State → Outcome → State → Prop} (hexec : p.tables.exec = Jvm.exec) (hb : c.code = cc) (hlt : l.stackTraces = false) (hown : s.vm.findClass RX6 = some m.cls) (hcls : Bundle.fit E = true)
    (hk : (Cond.classLink RX6 ik E).before args s = true) (hini : (Cond.initialized E).before args s = true) (hat : ∀ w ∈ (vx_at0 RX6 ic E exN).filter goodWord, w.before args s = true) (hbad : ∀ w ∈ (vx_at0 RX6 ic E exN).filter (fun w => !goodWord w), w ∈ mw_xw)
    (hot : ∀ w ∈ Cond.classLink RX6 ik E :: Cond.initialized E :: vx_at0 RX6 ic E exN, vx_ot w = true)
    (hC : mw_C G (mw_A M0 s.heap.size) s) (hw : mw_St G (mw_A M0 s.heap.size) s M H locs) (hsize : ls.size = c.maxLocals) (hex : ∀ x ∈ c.exceptionTable.toList, False)
    (d0 : decode cc pc = .ok (.new ik, 3)) (d3 : decode cc (pc + 3) = .ok (.dup, 1)) (d4 : decode cc (pc + 4) = .ok (.invokespecial ic, 3)) (d7 : decode cc (pc + 7) = .ok (.athrow, 1))
    (hRf : 5 < R.frames) (hRl : (rest.map fun v => v.category).sum + 81 ≤ R.locals) (hRc : cells + 1 ≤ R.cells) (hRs : slots + 6 ≤ R.slots) (hlocks : meth.locks = false) {mc ms : Nat} (hc : cells + 1 ≤ mc) (hs : slots + 6 ≤ ms) :
    W p l e R s m args below meth c H locs cells slots (vx_MQ below Qc (mw_X G M0 s.heap.size E M) args s mc ms (mw_A M0 s.heap.size)) (F0 m pc ls rest) := by
  refine vx_throw0 hexec hb hlt hown hcls (by decide +kernel) hk hini (vx_hat hat hbad (fun w hw => va_Nw.use (mw_xw_ot w hw) (hC.1.2.2.2.2.2.1 w hw))) hot hC.2.1.1 hC.2.1.2 hw.2.2 hsize d0 d3 d4 d7 (fun x hx => (hex x hx).elim) hRf hRl hRc hRs hlocks (fun t hvm hz ho => ?_) hw.2.2.2.2 hc hs
  refine ⟨(), trivial, ⟨rfl, fun q x hx => (hw.1 q x hx).kept (ho q (hw.1 q x hx).lt), hw.2.1⟩, Nat.le_trans hw.2.2.1 hz, fun q h1 h2 => (ho q (Nat.lt_of_lt_of_le h1 hw.2.2.1)).trans (hw.2.2.2.1 q h1 h2)⟩
/-- a call that throws -/
theorem mw_ct {mc ms : Nat} {st0 : List Value} {E : String} {M' : mw_M} {a9 : Array Value} (hC : mw_C G A s) (hw : mw_St G A s M H locs) (hr : vx_Run p l e R s m args below meth c H locs cells slots mc ms (F0 m pc ls st0) rest (mw_no a9) (mw_X G M H.size E M') (mw_A M H.size))
    (kx : ∀ (ce : Cell) (q9 : Addr) (H1 : Heap) (locs1 : List Loc), mw_St G A s M' H1 locs1 → H1[q9]? = some ce → ce.vm = .none → s.vm.findClass E = some ce.cls → vx_W p l e R s m args below meth c H1 locs1 (cells + mc) (slots + ms) Q (F0 m pc ls rest) q9) : W p l e R s m args below meth c H locs cells slots Q (F0 m pc ls st0) := by
  intro T hT X
  rcases hr T hT X with ⟨v, st₀, t, T', L, h0, X', hL, e1, e2, hq, st⟩ | ⟨q, st₀, t, T', L, E', ce, h0, X', hL, e1, e2, ⟨u, hp, ⟨rfl, hb⟩, hF⟩, hce, hcv, hcl, st⟩
  · exact hq.elim
  · obtain ⟨k1, k2, k3⟩ := vx_keep h0 e1 hw.2.2 (fun q _ h => mw_sub hC hw q h) (mw_sub hC hw) hL hF
    obtain ⟨t2, a1, b1⟩ := kx ce q T'.heap (locs ++ L) ⟨by rw [e1]; exact hb.1, fun q x hx => mw_sub hC hw q (hb.2 q x hx), k3⟩ (by rw [e1]; exact hce) hcv hcl T' rfl X'
    exact ⟨t2, st.trans a1, b1⟩
/-- .. and isn't caught -/
theorem mw_pass {E : String} {M0 : mw_M} {Qc : Array Value → State → Outcome → State → Prop} {ce : Cell} {q9 : Addr} {mc ms : Nat} (hlocks : meth.locks = false) (hex : ∀ x ∈ c.exceptionTable.toList, False) (hw : mw_St G (mw_A M0 s.heap.size) s M H locs) (hcell : H[q9]? = some ce) (hv : ce.vm = .none) (hcl : s.vm.findClass E = some ce.cls) (hc : cells ≤ mc) (hs : slots ≤ ms) :
    vx_W p l e R s m args below meth c H locs cells slots (vx_MQ below Qc (mw_X G M0 s.heap.size E M) args s mc ms (mw_A M0 s.heap.size)) (F0 m pc ls rest) q9 :=
  vx_out (fun x hx => (hex x hx).elim) hlocks hcell hv hcl (fun t ht hvm => ⟨(), trivial, ⟨rfl, by rw [ht]; exact hw.1, hw.2.1⟩, hw.2.2.F ht⟩) hw.2.2.2.2 hc hs
end MWX
