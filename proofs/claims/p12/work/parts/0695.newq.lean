/-! ===== constructors: what is new is said with 'there are' ===== -/
def mw_Qn (G : mw_G) (M : mw_M) (sz : Nat) (R : mw_M → Prop) : Array Value → State → Outcome → State → Prop := va_Qv (fun (M' : mw_M) => R M') (fun M' t => mw_end G M M' sz t) (mw_A M sz)
section MWN
variable {p : Program} {l : Launch} {e : Env} {R : Room} {s : State} {m : MethodId} {args : Array Value} {below : List Frame} {meth : Method} {c : Code} {H : Heap} {locs : List Loc} {cells slots : Nat} {Q : State → Prop}
variable {cc : ByteArray} {pc : Nat} {ls : Array Slot} {rest : List Value} {G : mw_G} {A : Nat → Prop} {M : mw_M}
theorem mw_cn {mc ms : Nat} {st0 : List Value} {a9 : Array Value} {P : mw_M → Prop} (hC : mw_C G A s) (hw : mw_St G A s M H locs) (hr : va_Run p l e R s m args below meth c H locs cells slots mc ms (F0 m pc ls st0) rest (mw_Qn G M H.size P a9) (mw_A M H.size))
    (kk : ∀ (M1 : mw_M) (H1 : Heap) (locs1 : List Loc), H.size ≤ H1.size → P M1 → mw_St G A s M1 H1 locs1 → W p l e R s m args below meth c H1 locs1 (cells + mc) (slots + ms) Q (F0 m (pc + 3) ls rest)) : W p l e R s m args below meth c H locs cells slots Q (F0 m pc ls st0) := by
  refine va_callv hr hw.2.2 (fun q _ h => mw_sub hC hw q h) (mw_sub hC hw) (fun M1 t H1 locs1 ht hvm hp hB hz hk hS => ?_)
  exact kk M1 H1 locs1 hz hp ⟨by rw [← ht]; exact hB.1, fun q x hx => mw_sub hC hw q (hB.2 q x hx), hS⟩
theorem mw_nret {M0 : mw_M} {P : mw_M → Prop} (hexec : p.tables.exec = Jvm.exec) (hb : c.code = cc) (hr : meth.sig.returnType = none) (hlocks : meth.locks = false) (hw : mw_St G (mw_A M0 s.heap.size) s M H locs) (hP : P M) (hdg : decode cc pc = .ok (.return_, 1)) :
    W p l e R s m args below meth c H locs cells slots (MQ below (mw_Qn G M0 s.heap.size P) args s cells slots (mw_A M0 s.heap.size)) (F0 m pc ls []) :=
  W.vret hexec hb hr (fun t ht hW => ⟨⟨M, rfl, hP, by rw [ht]; exact hw.1, hw.2.1⟩, hw.2.2.F ht⟩) hw.2.2.2.2 hdg hlocks
end MWN
theorem mw_ha_i (cA : ClassId) (n : Nat) : vp_cell cA (n, .inl (fun _ => 0)) = arrV cA n (fun _ => defaultValue .int) := rfl
theorem mw_ha_b (cA : ClassId) (n : Nat) : vp_cell cA (n, .inl (fun _ => 0)) = arrV cA n (fun _ => defaultValue .byte) := rfl
theorem mw_ha_z (cA : ClassId) (n : Nat) : vp_cell cA (n, .inl (fun _ => 0)) = arrV cA n (fun _ => defaultValue .boolean) := rfl
theorem mw_ha_l (cA : ClassId) (n : Nat) : vp_cell cA (n, .inr (.inl (fun _ => 0))) = arrV cA n (fun _ => defaultValue .long) := rfl
