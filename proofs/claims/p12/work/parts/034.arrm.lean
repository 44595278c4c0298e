section MWM
variable {p : Program} {l : Launch} {e : Env} {R : Room} {s : State} {m : MethodId} {args : Array Value} {below : List Frame} {meth : Method} {c : Code} {H : Heap} {locs : List Loc} {cells slots : Nat} {Q : State → Prop}
variable {cc : ByteArray} {pc : Nat} {ls : Array Slot} {rest : List Value} {G : mw_G} {A : Nat → Prop} {a : Nat} {M : mw_M}
/-- int arrays whose contents are told as Nats -/
theorem mw_ildM (hexec : p.tables.exec = Jvm.exec) (hb : c.code = cc) (hC : mw_C G A s) (hw : mw_St G A s M H locs) {n : Nat} {g : Nat → Nat} (he : M a = some (.inl (G.2 1, n, .inl (fun j => nI (g j))))) {i : Nat} (hi : i < n) (hn : n < 2 ^ 31) (hdg : decode cc pc = .ok (.iaload, 1))
    (kk : W p l e R s m args below meth c H locs cells slots Q (F0 m (pc + 1) ls (.int (nI (g i)) :: rest))) : W p l e R s m args below meth c H locs cells slots Q (F0 m pc ls (.int (nI i) :: .ref a :: rest)) := mw_ialdN hexec hb hC hw he hi hn hdg kk
theorem mw_istM (hexec : p.tables.exec = Jvm.exec) (hb : c.code = cc) (hC : mw_C G A s) (hw : mw_St G A s M H locs) {n : Nat} {g : Nat → Nat} (he : M a = some (.inl (G.2 1, n, .inl (fun j => nI (g j))))) {i v : Nat} (hi : i < n) (hn : n < 2 ^ 31) (hdg : decode cc pc = .ok (.iastore, 1))
    (kk : ∀ (H1 : Heap) (locs1 : List Loc), mw_St G A s (va_up M a (some (.inl (G.2 1, n, .inl (fun j => nI (va_up g i v j)))))) H1 locs1 → W p l e R s m args below meth c H1 locs1 cells slots Q (F0 m (pc + 1) ls rest)) : W p l e R s m args below meth c H locs cells slots Q (F0 m pc ls (.int (nI v) :: .int (nI i) :: .ref a :: rest)) := by
  refine mw_iastN hexec hb hC hw he hi hn hdg (fun H1 locs1 h1 => ?_)
  rw [mw_iset] at h1
  exact kk H1 locs1 h1
/-- byte arrays: each holds the byte of a Nat -/
theorem mw_bset (g : Nat → Nat) (i v : Nat) : upd (fun j => sb_b (g j)) i (vp_nar .byte (sb_b v)) = fun j => sb_b (va_up g i v j) := by
  have h1 : vp_nar .byte (sb_b v) = sb_b v := pk_vb _
  rw [h1]
  funext j
  by_cases h : j = i
  · simp [upd, va_up, h]
  · simp [upd, va_up, h]
theorem mw_bldM (hexec : p.tables.exec = Jvm.exec) (hb : c.code = cc) (hC : mw_C G A s) (hw : mw_St G A s M H locs) {n : Nat} {g : Nat → Nat} (he : M a = some (.inl (G.2 0, n, .inl (fun j => sb_b (g j))))) {i : Nat} (hi : i < n) (hn : n < 2 ^ 31) (hdg : decode cc pc = .ok (.baload, 1))
    (kk : W p l e R s m args below meth c H locs cells slots Q (F0 m (pc + 1) ls (.int (sb_b (g i)) :: rest))) : W p l e R s m args below meth c H locs cells slots Q (F0 m pc ls (.int (nI i) :: .ref a :: rest)) := mw_baldN hexec hb hC hw he hi hn hdg kk
theorem mw_bstM (hexec : p.tables.exec = Jvm.exec) (hb : c.code = cc) (hC : mw_C G A s) (hw : mw_St G A s M H locs) {n : Nat} {g : Nat → Nat} (he : M a = some (.inl (G.2 0, n, .inl (fun j => sb_b (g j))))) {i v : Nat} (hi : i < n) (hn : n < 2 ^ 31) (hdg : decode cc pc = .ok (.bastore, 1))
    (kk : ∀ (H1 : Heap) (locs1 : List Loc), mw_St G A s (va_up M a (some (.inl (G.2 0, n, .inl (fun j => sb_b (va_up g i v j)))))) H1 locs1 → W p l e R s m args below meth c H1 locs1 cells slots Q (F0 m (pc + 1) ls rest)) : W p l e R s m args below meth c H locs cells slots Q (F0 m pc ls (.int (sb_b v) :: .int (nI i) :: .ref a :: rest)) := by
  refine mw_bastN hexec hb hC hw he hi hn hdg (fun H1 locs1 h1 => ?_)
  rw [mw_bset] at h1
  exact kk H1 locs1 h1
end MWM
theorem mw_min {x y : Nat} (hx : x < 2 ^ 31) (hy : y < 2 ^ 31) : (if nI y < nI x then nI y else nI x) = nI (min x y) := by
  by_cases h : y < x
  · rw [if_pos ((nI_ltI hy hx).mpr h), Nat.min_eq_right (Nat.le_of_lt h)]
  · rw [if_neg (fun q => h ((nI_ltI hy hx).mp q)), Nat.min_eq_left (Nat.not_lt.mp h)]
theorem md_u_k {A : md_S} {k k2 i v j : Nat} (h : k ≠ k2) : md_u A k2 i v k j = A k j := by rw [md_u, va_up_ne _ _ h]
theorem md_u_s {A : md_S} {k i v : Nat} : md_u A k i v k i = v := by rw [md_u, va_up_self, va_up_self]
theorem md_u_i {A : md_S} {k i v j : Nat} (h : j ≠ i) : md_u A k i v k j = A k j := by rw [md_u, va_up_self, va_up_ne _ _ h]
