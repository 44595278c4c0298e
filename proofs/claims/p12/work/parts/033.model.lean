/-! ===== the reference: one object, 25 arrays; what they hold is A k (array k), c (code), u (unitLength) ===== -/
def md_obj (a : Nat → Nat) (c u : Nat) : va_E := .inr (7, [.int (nI c), .ref (a 1), .ref (a 2), .ref (a 3), .ref (a 4), .ref (a 5), .ref (a 6), .ref (a 7), .ref (a 8), .ref (a 9), .ref (a 10), .ref (a 11), .ref (a 12), .ref (a 13), .ref (a 14), .ref (a 15), .ref (a 16), .ref (a 17), .ref (a 18), .ref (a 19), .ref (a 20), .ref (a 21), .ref (a 22), .ref (a 23), .ref (a 24), .int (nI u), .ref (a 26)])
def md_len (k : Nat) : Nat := match k with
  | 1 => 2
  | 2 => 80
  | 3 => 240000
  | 4 => 2
  | 5 => 2
  | 6 => 2
  | 7 => 2
  | 8 => 2
  | 9 => 2
  | 10 => 120
  | 11 => 120
  | 12 => 2
  | 13 => 254
  | 14 => 254
  | 15 => 254
  | 16 => 2
  | 17 => 2
  | 18 => 2
  | 19 => 2
  | 20 => 2
  | 21 => 2
  | 22 => 100
  | 23 => 27200
  | 24 => 280
  | 26 => 3000
  | _ => 0
def md_arr (G : mw_G) (k : Nat) (g : Nat → Nat) : va_E := .inl (G.2 (if k = 20 then 3 else 1), md_len k, .inl (fun j => nI (g j)))
def md_ok (k : Nat) : Bool := decide (1 ≤ k) && decide (k ≤ 26) && decide (k ≠ 25)
abbrev md_S : Type := Nat → Nat → Nat
def md_at (G : mw_G) (M : mw_M) (h0 : Nat) (a : Nat → Nat) (c u : Nat) (A : md_S) : Prop := M h0 = some (md_obj a c u) ∧ (∀ k, md_ok k = true → M (a k) = some (md_arr G k (A k))) ∧ ∀ i j, md_ok i = true → md_ok j = true → a i = a j → i = j
def md_fr (h0 : Nat) (a : Nat → Nat) (M M' : mw_M) : Prop := ∀ q, q ≠ h0 → (∀ k, md_ok k = true → q ≠ a k) → M' q = M q
def md_u (A : md_S) (k i v : Nat) : md_S := va_up A k (va_up (A k) i v)
theorem md_fr.rf {h0 : Nat} {a : Nat → Nat} {M : mw_M} : md_fr h0 a M M := fun _ _ _ => rfl
theorem md_fr.tr {h0 : Nat} {a : Nat → Nat} {M M1 M2 : mw_M} (h : md_fr h0 a M M1) (h2 : md_fr h0 a M1 M2) : md_fr h0 a M M2 := fun q a1 a2 => (h2 q a1 a2).trans (h q a1 a2)
theorem md_ne0 {G : mw_G} {M : mw_M} {h0 : Nat} {a : Nat → Nat} {c u : Nat} {A : md_S} (hm : md_at G M h0 a c u A) {k : Nat} (hk : md_ok k = true) : a k ≠ h0 := fun e => by
  have h := hm.2.1 k hk
  rw [e, hm.1] at h
  cases h
theorem md_at.st {G : mw_G} {M : mw_M} {h0 : Nat} {a : Nat → Nat} {c u : Nat} {A : md_S} (hm : md_at G M h0 a c u A) {k : Nat} (hk : md_ok k = true) (i v : Nat) : md_at G (va_up M (a k) (some (md_arr G k (va_up (A k) i v)))) h0 a c u (md_u A k i v) := by
  refine ⟨(va_up_ne _ _ (Ne.symm (md_ne0 hm hk))).trans hm.1, fun j hj => ?_, hm.2.2⟩
  by_cases h : j = k
  · subst h
    rw [va_up_self, md_u, va_up_self]
  · rw [va_up_ne _ _ (fun e => h (hm.2.2 j k hj hk e)), hm.2.1 j hj, md_u, va_up_ne _ _ h]
theorem md_at.co {G : mw_G} {M : mw_M} {h0 : Nat} {a : Nat → Nat} {c u : Nat} {A : md_S} (hm : md_at G M h0 a c u A) (c' u' : Nat) : md_at G (va_up M h0 (some (md_obj a c' u'))) h0 a c' u' A :=
  ⟨va_up_self _ _ _, fun j hj => (va_up_ne _ _ (md_ne0 hm hj)).trans (hm.2.1 j hj), hm.2.2⟩
theorem md_fr.st {h0 : Nat} {a : Nat → Nat} {M : mw_M} {k : Nat} (hk : md_ok k = true) {x : Option va_E} : md_fr h0 a M (va_up M (a k) x) := fun q _ h2 => va_up_ne _ _ (h2 k hk)
theorem md_fr.co {h0 : Nat} {a : Nat → Nat} {M : mw_M} {x : Option va_E} : md_fr h0 a M (va_up M h0 x) := fun q h1 _ => va_up_ne _ _ h1
def md_Qi (G : mw_G) (M : mw_M) (sz h0 : Nat) (a : Nat → Nat) (r : Int32) (c u : Nat) (A : md_S) : Array Value → State → Outcome → State → Prop := va_Qi (fun (r' : Int32) (M' : mw_M) => r' = r ∧ md_at G M' h0 a c u A ∧ md_fr h0 a M M') (fun M' t => mw_end G M M' sz t) (mw_A M sz)
def md_Qv (G : mw_G) (M : mw_M) (sz h0 : Nat) (a : Nat → Nat) (c u : Nat) (A : md_S) : Array Value → State → Outcome → State → Prop := va_Qv (fun (M' : mw_M) => md_at G M' h0 a c u A ∧ md_fr h0 a M M') (fun M' t => mw_end G M M' sz t) (mw_A M sz)
theorem mw_iset (g : Nat → Nat) (i v : Nat) : upd (fun j => nI (g j)) i (nI v) = fun j => nI (va_up g i v j) := by
  funext j
  by_cases h : j = i
  · simp [upd, va_up, h]
  · simp [upd, va_up, h]
theorem mw_zset (g : Nat → Nat) (i v : Nat) (hv : v ≤ 1) : upd (fun j => nI (g j)) i (vp_nar .boolean (nI v)) = fun j => nI (va_up g i v j) := by
  have h1 : vp_nar .boolean (nI v) = nI v := by
    rcases (show v = 0 ∨ v = 1 by omega) with rfl | rfl <;> decide
  rw [h1, mw_iset]
section MDR
variable {p : Program} {l : Launch} {e : Env} {R : Room} {s : State} {m : MethodId} {args : Array Value} {below : List Frame} {meth : Method} {c0 : Code} {H : Heap} {locs : List Loc} {cells slots : Nat} {Q : State → Prop}
variable {cc : ByteArray} {pc : Nat} {ls : Array Slot} {rest : List Value} {G : mw_G} {A0 : Nat → Prop} {a : Nat → Nat} {M : mw_M} {h0 c u : Nat} {A : md_S}
theorem md_ald (k : Nat) {n : Nat} (hexec : p.tables.exec = Jvm.exec) (hb : c0.code = cc) (hC : mw_C G A0 s) (hw : mw_St G A0 s M H locs) (hm : md_at G M h0 a c u A) (hk : md_ok k = true) (h20 : k ≠ 20) (hn : md_len k = n) {i : Nat} (hi : i < n) (hn2 : n < 2 ^ 31) (hdg : decode cc pc = .ok (.iaload, 1))
    (kk : W p l e R s m args below meth c0 H locs cells slots Q (F0 m (pc + 1) ls (.int (nI (A k i)) :: rest))) : W p l e R s m args below meth c0 H locs cells slots Q (F0 m pc ls (.int (nI i) :: .ref (a k) :: rest)) := by
  subst hn
  refine mw_ialdN (f := fun j => nI (A k j)) hexec hb hC hw (n := md_len k) ?_ hi hn2 hdg kk
  rw [hm.2.1 k hk, md_arr, if_neg h20]
theorem md_zld (k : Nat) {n : Nat} (hexec : p.tables.exec = Jvm.exec) (hb : c0.code = cc) (hC : mw_C G A0 s) (hw : mw_St G A0 s M H locs) (hm : md_at G M h0 a c u A) (hk : md_ok k = true) (h20 : k = 20) (hn : md_len k = n) {i : Nat} (hi : i < n) (hn2 : n < 2 ^ 31) (hdg : decode cc pc = .ok (.baload, 1))
    (kk : W p l e R s m args below meth c0 H locs cells slots Q (F0 m (pc + 1) ls (.int (nI (A k i)) :: rest))) : W p l e R s m args below meth c0 H locs cells slots Q (F0 m pc ls (.int (nI i) :: .ref (a k) :: rest)) := by
  subst hn
  refine mw_zaldN (f := fun j => nI (A k j)) hexec hb hC hw (n := md_len k) ?_ hi hn2 hdg kk
  rw [hm.2.1 k hk, md_arr, if_pos h20]
theorem md_ast (k : Nat) {n v : Nat} (hexec : p.tables.exec = Jvm.exec) (hb : c0.code = cc) (hC : mw_C G A0 s) (hw : mw_St G A0 s M H locs) (hm : md_at G M h0 a c u A) (hk : md_ok k = true) (h20 : k ≠ 20) (hn : md_len k = n) {i : Nat} (hi : i < n) (hn2 : n < 2 ^ 31) (hdg : decode cc pc = .ok (.iastore, 1))
    (kk : ∀ (M1 : mw_M) (H1 : Heap) (locs1 : List Loc), md_at G M1 h0 a c u (md_u A k i v) → md_fr h0 a M M1 → mw_St G A0 s M1 H1 locs1 → W p l e R s m args below meth c0 H1 locs1 cells slots Q (F0 m (pc + 1) ls rest)) : W p l e R s m args below meth c0 H locs cells slots Q (F0 m pc ls (.int (nI v) :: .int (nI i) :: .ref (a k) :: rest)) := by
  subst hn
  refine mw_iastN (f := fun j => nI (A k j)) hexec hb hC hw (n := md_len k) (by rw [hm.2.1 k hk, md_arr, if_neg h20]) hi hn2 hdg (fun H1 locs1 h1 => ?_)
  rw [mw_iset] at h1
  have e9 : (.inl (G.2 1, md_len k, .inl (fun j => nI (va_up (A k) i v j))) : va_E) = md_arr G k (va_up (A k) i v) := by rw [md_arr, if_neg h20]
  rw [e9] at h1
  exact kk _ H1 locs1 (hm.st hk i v) (md_fr.st hk) h1
theorem md_zst (k : Nat) {n v : Nat} (hexec : p.tables.exec = Jvm.exec) (hb : c0.code = cc) (hC : mw_C G A0 s) (hw : mw_St G A0 s M H locs) (hm : md_at G M h0 a c u A) (hk : md_ok k = true) (h20 : k = 20) (hn : md_len k = n) {i : Nat} (hi : i < n) (hn2 : n < 2 ^ 31) (hv : v ≤ 1) (hdg : decode cc pc = .ok (.bastore, 1))
    (kk : ∀ (M1 : mw_M) (H1 : Heap) (locs1 : List Loc), md_at G M1 h0 a c u (md_u A k i v) → md_fr h0 a M M1 → mw_St G A0 s M1 H1 locs1 → W p l e R s m args below meth c0 H1 locs1 cells slots Q (F0 m (pc + 1) ls rest)) : W p l e R s m args below meth c0 H locs cells slots Q (F0 m pc ls (.int (nI v) :: .int (nI i) :: .ref (a k) :: rest)) := by
  subst hn
  refine mw_zastN (f := fun j => nI (A k j)) hexec hb hC hw (n := md_len k) (by rw [hm.2.1 k hk, md_arr, if_pos h20]) hi hn2 hdg (fun H1 locs1 h1 => ?_)
  rw [mw_zset _ _ _ hv] at h1
  have e9 : (.inl (G.2 3, md_len k, .inl (fun j => nI (va_up (A k) i v j))) : va_E) = md_arr G k (va_up (A k) i v) := by rw [md_arr, if_pos h20]
  rw [e9] at h1
  exact kk _ H1 locs1 (hm.st hk i v) (md_fr.st hk) h1
theorem md_ci {mc ms : Nat} {st0 : List Value} {r : Int32} {a9 : Array Value} {c' u' : Nat} {A' : md_S} (hC : mw_C G A0 s) (hw : mw_St G A0 s M H locs) (hr : va_Run p l e R s m args below meth c0 H locs cells slots mc ms (F0 m pc ls st0) rest (md_Qi G M H.size h0 a r c' u' A' a9) (mw_A M H.size))
    (kk : ∀ (M1 : mw_M) (H1 : Heap) (locs1 : List Loc), md_at G M1 h0 a c' u' A' → md_fr h0 a M M1 → mw_St G A0 s M1 H1 locs1 → W p l e R s m args below meth c0 H1 locs1 (cells + mc) (slots + ms) Q (F0 m (pc + 3) ls (.int r :: rest))) : W p l e R s m args below meth c0 H locs cells slots Q (F0 m pc ls st0) := by
  refine va_calli hr hw.2.2 (fun q _ h => mw_sub hC hw q h) (mw_sub hC hw) (fun r' M1 t H1 locs1 ht hvm hp hB hz hk hS => ?_)
  obtain ⟨rfl, hm, hf⟩ := hp
  exact kk M1 H1 locs1 hm hf ⟨by rw [← ht]; exact hB.1, fun q x hx => mw_sub hC hw q (hB.2 q x hx), hS⟩
theorem md_cv {mc ms : Nat} {st0 : List Value} {a9 : Array Value} {c' u' : Nat} {A' : md_S} (hC : mw_C G A0 s) (hw : mw_St G A0 s M H locs) (hr : va_Run p l e R s m args below meth c0 H locs cells slots mc ms (F0 m pc ls st0) rest (md_Qv G M H.size h0 a c' u' A' a9) (mw_A M H.size))
    (kk : ∀ (M1 : mw_M) (H1 : Heap) (locs1 : List Loc), md_at G M1 h0 a c' u' A' → md_fr h0 a M M1 → mw_St G A0 s M1 H1 locs1 → W p l e R s m args below meth c0 H1 locs1 (cells + mc) (slots + ms) Q (F0 m (pc + 3) ls rest)) : W p l e R s m args below meth c0 H locs cells slots Q (F0 m pc ls st0) := by
  refine va_callv hr hw.2.2 (fun q _ h => mw_sub hC hw q h) (mw_sub hC hw) (fun M1 t H1 locs1 ht hvm hp hB hz hk hS => ?_)
  obtain ⟨hm, hf⟩ := hp
  exact kk M1 H1 locs1 hm hf ⟨by rw [← ht]; exact hB.1, fun q x hx => mw_sub hC hw q (hB.2 q x hx), hS⟩
theorem md_iret {M0 : mw_M} {v r : Int32} (hexec : p.tables.exec = Jvm.exec) (hb : c0.code = cc) (hr : meth.sig.returnType = some .int) (hlocks : meth.locks = false) (hw : mw_St G (mw_A M0 s.heap.size) s M H locs) (hm : md_at G M h0 a c u A) (hf : md_fr h0 a M0 M) (hv : v = r) (hdg : decode cc pc = .ok (.ireturn, 1)) :
    W p l e R s m args below meth c0 H locs cells slots (MQ below (md_Qi G M0 s.heap.size h0 a r c u A) args s cells slots (mw_A M0 s.heap.size)) (F0 m pc ls [.int v]) :=
  W.iret (v := v) hexec hb hr (fun t ht hW => ⟨⟨v, M, rfl, ⟨hv, hm, hf⟩, by rw [ht]; exact hw.1, hw.2.1⟩, hw.2.2.F ht⟩) hw.2.2.2.2 hdg hlocks
theorem md_zret {M0 : mw_M} {v r : Int32} (hexec : p.tables.exec = Jvm.exec) (hb : c0.code = cc) (hr : meth.sig.returnType = some .boolean) (hlocks : meth.locks = false) (hw : mw_St G (mw_A M0 s.heap.size) s M H locs) (hm : md_at G M h0 a c u A) (hf : md_fr h0 a M0 M) (hn : narrow .boolean (.int v) = .int v) (hv : v = r) (hdg : decode cc pc = .ok (.ireturn, 1)) :
    W p l e R s m args below meth c0 H locs cells slots (MQ below (md_Qi G M0 s.heap.size h0 a r c u A) args s cells slots (mw_A M0 s.heap.size)) (F0 m pc ls [.int v]) :=
  W.zret (v := v) hexec hb hr hn (fun t ht hW => ⟨⟨v, M, rfl, ⟨hv, hm, hf⟩, by rw [ht]; exact hw.1, hw.2.1⟩, hw.2.2.F ht⟩) hw.2.2.2.2 hdg hlocks
theorem md_vret {M0 : mw_M} (hexec : p.tables.exec = Jvm.exec) (hb : c0.code = cc) (hr : meth.sig.returnType = none) (hlocks : meth.locks = false) (hw : mw_St G (mw_A M0 s.heap.size) s M H locs) (hm : md_at G M h0 a c u A) (hf : md_fr h0 a M0 M) (hdg : decode cc pc = .ok (.return_, 1)) :
    W p l e R s m args below meth c0 H locs cells slots (MQ below (md_Qv G M0 s.heap.size h0 a c u A) args s cells slots (mw_A M0 s.heap.size)) (F0 m pc ls []) :=
  W.vret hexec hb hr (fun t ht hW => ⟨⟨M, rfl, ⟨hm, hf⟩, by rw [ht]; exact hw.1, hw.2.1⟩, hw.2.2.F ht⟩) hw.2.2.2.2 hdg hlocks
end MDR
