/-! ===== worlds as maps: what lies at an address; a callee gets the caller's whole map, so no cells are cut out or joined ===== -/
abbrev mw_M : Type := Nat → Option va_E
abbrev mw_G : Type := va_G × (Nat → ClassId)
def mw_tys (G : mw_G) : List (ClassId × FieldType) := [(G.2 0, .byte), (G.2 1, .int), (G.2 2, .long), (G.2 3, .boolean), (G.2 4, .object "LinkPair$End"), (G.2 5, .object "LinkPair$Frame")]
def mw_P (G : mw_G) (M : mw_M) (H : Heap) : Prop := ∀ (q : Nat) (x : va_E), M q = some x → va_at G.1 vwCl (q, x) H
/-- what a method may change: its map's addresses, and what it makes -/
def mw_A (M : mw_M) (sz : Nat) : Nat → Prop := fun q => (∃ x, M q = some x) ∨ sz ≤ q
/-- the words of nest mates, and arrays of references -/
def mw_E (G : mw_G) (U : State) : Prop := va_K G.1 vwCl (mw_tys G) U ∧ (∀ w ∈ mw_nestF, va_Nw w U) ∧ (∀ w ∈ mw_nestM, va_Nw w U) ∧ va_AO "LinkPair$End" U ∧ va_AO "LinkPair$Frame" U ∧ (∀ w ∈ mw_xw, va_Nw w U) ∧ va_Nc "java/lang/IllegalStateException" "java/lang/IllegalArgumentException" U
def mw_Z (A : Nat → Prop) (U : State) (H : Heap) : Prop := vx_Zq Bundle.tN "UNASSIGNED_STACK" Bundle.steD A U H ∧ vx_Zq Bundle.tN "SUPPRESSED_SENTINEL" Bundle.listD A U H
/-- what stays the same all through a body -/
def mw_C (G : mw_G) (A : Nat → Prop) (s : State) : Prop := mw_E G s ∧ mw_Z A s s.heap ∧ ∀ q : Nat, s.heap.size ≤ q → A q
/-- where a body stands -/
def mw_St (G : mw_G) (A : Nat → Prop) (s : State) (M : mw_M) (H : Heap) (locs : List Loc) : Prop := mw_P G M H ∧ (∀ (q : Nat) (x : va_E), M q = some x → A q) ∧ va_S A s.heap H locs
def mw_pre (G : mw_G) (M : mw_M) (sz : Nat) (av : List Value) : Array Value → State → Prop := va_Pc av (fun U => U.heap.size = sz ∧ mw_P G M U.heap ∧ mw_E G U ∧ mw_Z (mw_A M sz) U U.heap)
def mw_end (G : mw_G) (M M' : mw_M) (sz : Nat) (t : State) : Prop := mw_P G M' t.heap ∧ ∀ (q : Nat) (x : va_E), M' q = some x → mw_A M sz q
def mw_Qi (G : mw_G) (M : mw_M) (sz : Nat) (r : Int32) (M' : mw_M) : Array Value → State → Outcome → State → Prop := va_Qi (fun (r' : Int32) (_ : Unit) => r' = r) (fun _ t => mw_end G M M' sz t) (mw_A M sz)
def mw_Qv (G : mw_G) (M : mw_M) (sz : Nat) (M' : mw_M) : Array Value → State → Outcome → State → Prop := va_Qv (fun (_ : Unit) => True) (fun _ t => mw_end G M M' sz t) (mw_A M sz)
def mw_Qr (G : mw_G) (M : mw_M) (sz : Nat) (r : Nat) (M' : mw_M) : Array Value → State → Outcome → State → Prop := va_Qr (fun (_ : Unit) => True) (fun _ a t => a = r ∧ mw_end G M M' sz t) (mw_A M sz)
theorem mw_E.warm {G : mw_G} {s U : State} (hW : s.WarmedH U.vm) (h : mw_E G s) : mw_E G U := by
  obtain ⟨h1, h2, h3, h4, h5, h6, h7⟩ := h
  refine ⟨va_K.moved hW.alike h1, fun w hw => ?_, fun w hw => ?_, va_AO.moved hW.alike h4, va_AO.moved hW.alike h5, fun w hw => ?_, h7.moved hW.alike⟩
  · obtain ⟨a, i, b, n, d, g, rfl⟩ := mw_nestF_form w hw
    exact va_Nw.warmF hW (h2 _ hw)
  · obtain ⟨a, i, x, g, rfl⟩ := mw_nestM_form w hw
    exact va_Nw.warmM hW (h3 _ hw)
  · rcases mw_xw_form w hw with ⟨x, rfl⟩ | ⟨a, b, rfl⟩
    · exact va_Nw.warmD hW (h6 _ hw)
    · exact va_Nw.warmC hW (h6 _ hw)
theorem mw_Z.moved {A : Nat → Prop} {u U : State} {H : Heap} (hvm : u.vm.Alike U.vm) (h : mw_Z A u H) : mw_Z A U H := ⟨vx_Zq.moved hvm h.1, vx_Zq.moved hvm h.2⟩
theorem mw_Z.kept {A : Nat → Prop} {U : State} {H H1 : Heap} (h : mw_Z A U H) (hq : ∀ a : Nat, a < H.size → ¬ A a → H1[a]? = H[a]?) : mw_Z A U H1 := ⟨h.1.kept hq, h.2.kept hq⟩
theorem mw_Z.narrow {A B : Nat → Prop} {U : State} {H : Heap} (h : mw_Z A U H) (hAB : ∀ q, B q → A q) : mw_Z B U H := ⟨h.1.narrow hAB, h.2.narrow hAB⟩
theorem mw_blind {G : mw_G} {M : mw_M} {sz : Nat} {av : List Value} : FrameBlind (mw_pre G M sz av) := by
  intro a U g mk h
  obtain ⟨h1, h2, h3, h4, h5⟩ := h
  exact ⟨h1, h2, h3, mw_E.warm (s := U) (U := U.calling g mk a) (State.WarmedH.refl U) h4, mw_Z.moved (u := U) (U := U.calling g mk a) (Vm.Alike.refl U.vm) h5⟩
theorem mw_sub {G : mw_G} {A : Nat → Prop} {s : State} {M : mw_M} {H : Heap} {locs : List Loc} (hC : mw_C G A s) (hw : mw_St G A s M H locs) : ∀ q, mw_A M H.size q → A q := by
  intro q h
  rcases h with ⟨x, h⟩ | h
  · exact hw.2.1 q x h
  · exact hC.2.2 q (Nat.le_trans hw.2.2.1 h)
theorem mw_preS {G : mw_G} {A : Nat → Prop} {s : State} {M : mw_M} {H : Heap} {locs : List Loc} {av : List Value} (hC : mw_C G A s) (hw : mw_St G A s M H locs) : PreS s H (mw_pre G M H.size av) av := by
  refine ⟨mw_blind, fun U hU hW => ⟨rfl, by rw [hU], by rw [hU]; exact hw.1, hC.1.warm hW, ?_⟩⟩
  rw [hU]
  exact ((hC.2.1.kept hw.2.2.2.1).moved hW.alike).narrow (mw_sub hC hw)
theorem mw_recv {G : mw_G} {A : Nat → Prop} {s : State} {M : mw_M} {H : Heap} {locs : List Loc} {b ci : Nat} {q : vw_C} {fs : List Value} (hC : mw_C G A s) (hw : mw_St G A s M H locs) (hc : vwCl[ci]? = some q) (he : M b = some (.inr (ci, fs))) : ∃ cell : Cell, H[b]? = some cell ∧ cell.vm.isStatics = false ∧ s.vm.findClass q.1 = some cell.cls := by
  obtain ⟨q', h1, cell, g1, g2, g3, -⟩ := hw.1 b _ he
  exact ⟨cell, g1, by rw [g3]; rfl, by rw [g2]; exact (hC.1.1.1 ci q hc).2.1⟩
theorem mw_preV {G : mw_G} {A : Nat → Prop} {s : State} {M : mw_M} {H : Heap} {locs : List Loc} {b ci : Nat} {q : vw_C} {fs As : List Value} (hC : mw_C G A s) (hw : mw_St G A s M H locs) (hc : vwCl[ci]? = some q) (he : M b = some (.inr (ci, fs))) : PreV s H q.1 b (mw_pre G M H.size (.ref b :: As)) As :=
  ⟨mw_blind, mw_recv hC hw hc he, (mw_preS hC hw).2⟩
/-- at the entry of a body -/
theorem mw_in {G : mw_G} {M : mw_M} {sz : Nat} {av : List Value} {args : Array Value} {s : State} (h : mw_pre G M sz av args s) : args = av.toArray ∧ s.heap.size = sz ∧ mw_C G (mw_A M sz) s ∧ mw_St G (mw_A M sz) s M s.heap [] := by
  obtain ⟨h1, h2, h3, h4, h5⟩ := h
  refine ⟨h1, h2, ⟨h4, h5, fun q hq => Or.inr (by rw [← h2]; exact hq)⟩, h3, fun q x hx => Or.inl ⟨x, hx⟩, va_S.rf⟩
theorem mw_upd {G : mw_G} {A : Nat → Prop} {s : State} {M : mw_M} {H H1 : Heap} {locs : List Loc} {a i : Nat} {x0 x : va_E} (hw : mw_St G A s M H locs) (he : M a = some x0) (hx : va_at G.1 vwCl (a, x) H1) (z : H1.size = H.size) (oq : ∀ q : Nat, q ≠ a → H1[q]? = H[q]?) : mw_St G A s (va_up M a (some x)) H1 (locs ++ [⟨a, i⟩]) := by
  refine ⟨fun q y hy => ?_, fun q y hy => ?_, hw.2.2.put z oq (hw.2.1 a _ he)⟩
  · by_cases hq : q = a
    · subst hq
      rw [va_up_self] at hy
      cases hy
      exact hx
    · rw [va_up_ne _ _ hq] at hy
      exact (hw.1 q y hy).kept (oq q hq)
  · by_cases hq : q = a
    · subst hq
      exact hw.2.1 q _ he
    · rw [va_up_ne _ _ hq] at hy
      exact hw.2.1 q y hy
theorem mw_add {G : mw_G} {A : Nat → Prop} {s : State} {M : mw_M} {H H1 : Heap} {locs : List Loc} {a : Nat} {x : va_E} (hC : mw_C G A s) (hw : mw_St G A s M H locs) (ha : a = H.size) (hx : va_at G.1 vwCl (a, x) H1) (z : H1.size = H.size + 1) (oq : ∀ q : Nat, q < H.size → H1[q]? = H[q]?) : mw_St G A s (va_up M a (some x)) H1 locs := by
  subst ha
  refine ⟨fun q y hy => ?_, fun q y hy => ?_, Nat.le_trans hw.2.2.1 (by omega), fun q h1 h2 => (oq q (Nat.lt_of_lt_of_le h1 hw.2.2.1)).trans (hw.2.2.2.1 q h1 h2), hw.2.2.2.2⟩
  · by_cases hq : q = H.size
    · subst hq
      rw [va_up_self] at hy
      cases hy
      exact hx
    · rw [va_up_ne _ _ hq] at hy
      exact (hw.1 q y hy).kept (oq q (hw.1 q y hy).lt)
  · by_cases hq : q = H.size
    · subst hq
      exact hC.2.2 _ hw.2.2.1
    · rw [va_up_ne _ _ hq] at hy
      exact hw.2.1 q y hy
theorem mw_fresh {G : mw_G} {A : Nat → Prop} {s : State} {M : mw_M} {H : Heap} {locs : List Loc} {q : Nat} {x : va_E} (hw : mw_St G A s M H locs) (h : M q = some x) : q < H.size := (hw.1 q x h).lt
/-- another map of the same things -/
theorem mw_St.to {G : mw_G} {A : Nat → Prop} {s : State} {M M' : mw_M} {H : Heap} {locs : List Loc} (hw : mw_St G A s M H locs) (h : ∀ (q : Nat) (x : va_E), M' q = some x → M q = some x) : mw_St G A s M' H locs :=
  ⟨fun q x hx => hw.1 q x (h q x hx), fun q x hx => hw.2.1 q x (h q x hx), hw.2.2⟩
theorem mw_ne {M : mw_M} {a b : Nat} {x y : va_E} (ha : M a = some x) (hb : M b = some y) (h : x ≠ y) : a ≠ b := fun e => h (by subst e; exact Option.some.inj (ha.symm.trans hb))
theorem mw_u0 {M : mw_M} {a : Nat} {x : Option va_E} : va_up M a x a = x := va_up_self _ _ _
theorem mw_u1 {M : mw_M} {a b : Nat} {x y : Option va_E} (h : b ≠ a) (e : M b = y) : va_up M a x b = y := (va_up_ne _ _ h).trans e
section MWR
variable {p : Program} {l : Launch} {e : Env} {R : Room} {s : State} {m : MethodId} {args : Array Value} {below : List Frame} {meth : Method} {c : Code} {H : Heap} {locs : List Loc} {cells slots : Nat} {Q : State → Prop}
variable {cc : ByteArray} {pc : Nat} {ls : Array Slot} {rest : List Value} {G : mw_G} {A : Nat → Prop} {a : Nat} {M : mw_M}
theorem mw_get (hexec : p.tables.exec = Jvm.exec) (hb : c.code = cc) {own C : String} {T : u_T} {N ci index : Nat} {Ts : List Cond} (hts : ∀ w ∈ Ts, w.before args s = true) (hin : ∀ w ∈ u_ws C T N, w ∈ Ts) (hown : s.vm.findClass own = some m.cls) (hC : mw_C G A s) (hw : mw_St G A s M H locs) {fs : List Value} (he : M a = some (.inr (ci, fs))) (hc : vwCl[ci]? = some (C, T, N)) (k : Nat) (hk : k < N) (hlink : (Cond.fieldLink own index (T k).1 (T k).2.1 (T k).2.2.1).before args s = true) {v : Value} (hv : fs[k]? = some v) (hdg : decode cc pc = .ok (.getfield index, 3))
    (kk : W p l e R s m args below meth c H locs cells slots Q (F0 m (pc + 3) ls (v :: rest))) : W p l e R s m args below meth c H locs cells slots Q (F0 m pc ls (.ref a :: rest)) := by
  obtain ⟨r, h1, cell, q1, q2, q3, q4⟩ := hw.1 a _ he
  have hr : r = (C, T, N) := Option.some.inj (h1.symm.trans hc)
  subst hr
  obtain ⟨hS, hfc, kC, hkC, hkind⟩ := hC.1.1.1 ci _ hc
  obtain ⟨cf, kf, fi, f, hi, hsl⟩ := hS k hk
  refine W.getf hexec hb hown hlink hi (u_facts hfc hkC (u_lays hts hin hk) hi).1 q1 (by rw [q3]; exact fun h => by cases h) (v := v) ?_ rfl rfl hdg kk
  rw [hsl, q4 k hk]
  simp [vp_V, hv]
theorem mw_getN (hexec : p.tables.exec = Jvm.exec) (hb : c.code = cc) {own C host : String} {T : u_T} {N ci index : Nat} {Ts : List Cond} (hts : ∀ w ∈ Ts, w.before args s = true) (hin : ∀ w ∈ u_ws C T N, w ∈ Ts) (hown : s.vm.findClass own = some m.cls) (hC : mw_C G A s) (hw : mw_St G A s M H locs) {fs : List Value} (he : M a = some (.inr (ci, fs))) (hc : vwCl[ci]? = some (C, T, N)) (k : Nat) (hk : k < N) (hlink : Cond.fieldLinkNest own index (T k).1 (T k).2.1 (T k).2.2.1 host ∈ mw_nestF) {v : Value} (hv : fs[k]? = some v) (hdg : decode cc pc = .ok (.getfield index, 3))
    (kk : W p l e R s m args below meth c H locs cells slots Q (F0 m (pc + 3) ls (v :: rest))) : W p l e R s m args below meth c H locs cells slots Q (F0 m pc ls (.ref a :: rest)) := by
  obtain ⟨r, h1, cell, q1, q2, q3, q4⟩ := hw.1 a _ he
  have hr : r = (C, T, N) := Option.some.inj (h1.symm.trans hc)
  subst hr
  obtain ⟨hS, hfc, kC, hkC, hkind⟩ := hC.1.1.1 ci _ hc
  obtain ⟨cf, kf, fi, f, hi, hsl⟩ := hS k hk
  refine va_Wgetf hexec hb hown (va_Nw.use rfl (hC.1.2.1 _ hlink)) hi (u_facts hfc hkC (u_lays hts hin hk) hi).1 q1 (by rw [q3]; exact fun h => by cases h) (v := v) ?_ rfl rfl hdg kk
  rw [hsl, q4 k hk]
  simp [vp_V, hv]
theorem mw_put (hexec : p.tables.exec = Jvm.exec) (hb : c.code = cc) {own C : String} {T : u_T} {N ci index : Nat} {Ts : List Cond} (hts : ∀ w ∈ Ts, w.before args s = true) (hin : ∀ w ∈ u_ws C T N, w ∈ Ts) (ty0 : Nat → FieldType) (hty : ∀ k, k < N → parseFieldDescriptor (T k).2.2.1 = some (ty0 k)) (hnm : ∀ a, a < N → ∀ b, b < N → a ≠ b → (T a).2.1 ≠ (T b).2.1) (hown : s.vm.findClass own = some m.cls) (hC : mw_C G A s) (hw : mw_St G A s M H locs) {fs : List Value} (he : M a = some (.inr (ci, fs))) (hc : vwCl[ci]? = some (C, T, N)) (k : Nat) (hk : k < N) (hlink : (Cond.fieldLink own index (T k).1 (T k).2.1 (T k).2.2.1).before args s = true) (hfin : (T k).2.2.2 = false) {v : Value} (hn : narrow (ty0 k) v = v) (hfit : fits (ty0 k) v = true) (hl : k < fs.length)
    (hdg : decode cc pc = .ok (.putfield index, 3)) (kk : ∀ (H1 : Heap) (locs1 : List Loc), mw_St G A s (va_up M a (some (.inr (ci, fs.set k v)))) H1 locs1 → W p l e R s m args below meth c H1 locs1 cells slots Q (F0 m (pc + 3) ls rest)) : W p l e R s m args below meth c H locs cells slots Q (F0 m pc ls (v :: .ref a :: rest)) := by
  have hap := va_apart (own := own) hts hin ty0 hty hnm hC.1.1 hc
  obtain ⟨r, h1, cell, q1, q2, q3, q4⟩ := hw.1 a _ he
  have hr : r = (C, T, N) := Option.some.inj (h1.symm.trans hc)
  subst hr
  obtain ⟨hS, hfc, kC, hkC, hkind⟩ := hC.1.1.1 ci _ hc
  obtain ⟨cf, kf, fi, f, hi, hsl⟩ := hS k hk
  have hlay := hts _ (hin _ (u_in_lay hk))
  unfold u_lay at hlay
  rw [if_neg (by rw [hfin]; decide)] at hlay
  have hst := (u_facts hfc hkC (u_lays hts hin hk) hi).1
  have h6 := u_store hfc hkC hkind hlay hi (hty k hk) hn hfit
  refine W.putK hexec hb (f := f) ⟨hown, hlink, ⟨_, _, _, hi⟩, hst⟩ (by rw [q2]; exact h6) q1 q3 (by rw [hsl]; exact k2_hasslot (q4 k hk)) rfl rfl hdg fun H' e1 e2 e3 => ?_
  rw [hsl] at e1 ⊢
  exact kk H' _ (mw_upd hw he ⟨_, hc, t_OB.to (V := updV (vp_V fs) k v) ⟨_, e1, q2, q3, t_set q4 hap hk v⟩ (fun j _ => vp_updV_set hl v j)⟩ e2 e3)
theorem mw_putN (hexec : p.tables.exec = Jvm.exec) (hb : c.code = cc) {own C host : String} {T : u_T} {N ci index : Nat} {Ts : List Cond} (hts : ∀ w ∈ Ts, w.before args s = true) (hin : ∀ w ∈ u_ws C T N, w ∈ Ts) (ty0 : Nat → FieldType) (hty : ∀ k, k < N → parseFieldDescriptor (T k).2.2.1 = some (ty0 k)) (hnm : ∀ a, a < N → ∀ b, b < N → a ≠ b → (T a).2.1 ≠ (T b).2.1) (hown : s.vm.findClass own = some m.cls) (hC : mw_C G A s) (hw : mw_St G A s M H locs) {fs : List Value} (he : M a = some (.inr (ci, fs))) (hc : vwCl[ci]? = some (C, T, N)) (k : Nat) (hk : k < N) (hlink : Cond.fieldLinkNest own index (T k).1 (T k).2.1 (T k).2.2.1 host ∈ mw_nestF) (hfin : (T k).2.2.2 = false) {v : Value} (hn : narrow (ty0 k) v = v) (hfit : fits (ty0 k) v = true) (hl : k < fs.length)
    (hdg : decode cc pc = .ok (.putfield index, 3)) (kk : ∀ (H1 : Heap) (locs1 : List Loc), mw_St G A s (va_up M a (some (.inr (ci, fs.set k v)))) H1 locs1 → W p l e R s m args below meth c H1 locs1 cells slots Q (F0 m (pc + 3) ls rest)) : W p l e R s m args below meth c H locs cells slots Q (F0 m pc ls (v :: .ref a :: rest)) := by
  have hap := va_apart (own := own) hts hin ty0 hty hnm hC.1.1 hc
  obtain ⟨r, h1, cell, q1, q2, q3, q4⟩ := hw.1 a _ he
  have hr : r = (C, T, N) := Option.some.inj (h1.symm.trans hc)
  subst hr
  obtain ⟨hS, hfc, kC, hkC, hkind⟩ := hC.1.1.1 ci _ hc
  obtain ⟨cf, kf, fi, f, hi, hsl⟩ := hS k hk
  have hlay := hts _ (hin _ (u_in_lay hk))
  unfold u_lay at hlay
  rw [if_neg (by rw [hfin]; decide)] at hlay
  have hst := (u_facts hfc hkC (u_lays hts hin hk) hi).1
  have h6 := u_store hfc hkC hkind hlay hi (hty k hk) hn hfit
  refine va_WputK hexec hb (f := f) hown (va_Nw.use rfl (hC.1.2.1 _ hlink)) hi hst (by rw [q2]; exact h6) q1 q3 (by rw [hsl]; exact k2_hasslot (q4 k hk)) rfl rfl hdg fun H' e1 e2 e3 => ?_
  rw [hsl] at e1 ⊢
  exact kk H' _ (mw_upd hw he ⟨_, hc, t_OB.to (V := updV (vp_V fs) k v) ⟨_, e1, q2, q3, t_set q4 hap hk v⟩ (fun j _ => vp_updV_set hl v j)⟩ e2 e3)
theorem mw_putF (hexec : p.tables.exec = Jvm.exec) (hb : c.code = cc) {own C : String} {T : u_T} {N ci index : Nat} {Ts : List Cond} (hts : ∀ w ∈ Ts, w.before args s = true) (hin : ∀ w ∈ u_ws C T N, w ∈ Ts) (ty0 : Nat → FieldType) (hty : ∀ k, k < N → parseFieldDescriptor (T k).2.2.1 = some (ty0 k)) (hnm : ∀ a, a < N → ∀ b, b < N → a ≠ b → (T a).2.1 ≠ (T b).2.1) (hown : s.vm.findClass own = some m.cls) (hC : mw_C G A s) (hw : mw_St G A s M H locs) {fs : List Value} (he : M a = some (.inr (ci, fs))) (hc : vwCl[ci]? = some (C, T, N)) (k : Nat) (hk : k < N) (hlink : (Cond.fieldLink own index (T k).1 (T k).2.1 (T k).2.2.1).before args s = true) (hfin : (T k).2.2.2 = true) (hin2 : meth.name = "<init>") (hdecl : (T k).1 = own) {v : Value} (hn : narrow (ty0 k) v = v) (hfit : fits (ty0 k) v = true) (hl : k < fs.length)
    (hdg : decode cc pc = .ok (.putfield index, 3)) (kk : ∀ (H1 : Heap) (locs1 : List Loc), mw_St G A s (va_up M a (some (.inr (ci, fs.set k v)))) H1 locs1 → W p l e R s m args below meth c H1 locs1 cells slots Q (F0 m (pc + 3) ls rest)) : W p l e R s m args below meth c H locs cells slots Q (F0 m pc ls (v :: .ref a :: rest)) := by
  have hap := va_apart (own := own) hts hin ty0 hty hnm hC.1.1 hc
  obtain ⟨r, h1, cell, q1, q2, q3, q4⟩ := hw.1 a _ he
  have hr : r = (C, T, N) := Option.some.inj (h1.symm.trans hc)
  subst hr
  obtain ⟨hS, hfc, kC, hkC, hkind⟩ := hC.1.1.1 ci _ hc
  obtain ⟨cf, kf, fi, f, hi, hsl⟩ := hS k hk
  have hlay := hts _ (hin _ (u_in_lay hk))
  unfold u_lay at hlay
  rw [if_pos hfin] at hlay
  have hst := (u_facts hfc hkC (u_lays hts hin hk) hi).1
  have hcf : m.cls = cf := by
    obtain ⟨_, _, c', _, _, _, -, -, hf', -, -, -, hown2, -⟩ := Cond.laysFinal_spec hlay
    have e1 : c' = cf := by have := hi.symm.trans hf'; simp at this; exact this.1.symm
    rw [hdecl] at hown2
    rw [← e1]; exact Option.some.inj (hown.symm.trans hown2)
  have h6 := u_fits hfc hkC hkind (Or.inr hlay) hi (hty k hk) hn hfit
  refine W.putFinK hexec hb hown hlink hi hst hcf hin2 (by rw [q2]; exact h6) q1 q3 (by rw [hsl]; exact k2_hasslot (q4 k hk)) rfl rfl hdg fun H' e1 e2 e3 => ?_
  rw [hsl] at e1 ⊢
  exact kk H' _ (mw_upd hw he ⟨_, hc, t_OB.to (V := updV (vp_V fs) k v) ⟨_, e1, q2, q3, t_set q4 hap hk v⟩ (fun j _ => vp_updV_set hl v j)⟩ e2 e3)
theorem mw_iald (hexec : p.tables.exec = Jvm.exec) (hb : c.code = cc) (hC : mw_C G A s) (hw : mw_St G A s M H locs) {n : Nat} {f : Nat → Int32} (he : M a = some (.inl (G.2 1, n, .inl f))) {i : Int32} (hin : vp_in i n) (hdg : decode cc pc = .ok (.iaload, 1))
    (kk : W p l e R s m args below meth c H locs cells slots Q (F0 m (pc + 1) ls (.int (f i.toNatClampNeg) :: rest))) : W p l e R s m args below meth c H locs cells slots Q (F0 m pc ls (.int i :: .ref a :: rest)) := by
  have hlt : i.toNatClampNeg < n := Nat.not_le.mp fun q => hin (Or.inr q)
  exact W.iald (v := .int (f i.toNatClampNeg)) hexec hb (hw.1 a _ he) ((hC.1.1.2 1 _ rfl).1 n (fun j => .int (f j))) (fun q => by cases q) (by show ¬ (i < 0 ∨ (arrV _ _ _).slots.size ≤ _); rw [arrV_size]; exact hin) (by show (arrV _ _ _).slots[_]? = _; rw [arrV_read _ _ hlt]) rfl rfl hdg kk
theorem mw_bald (hexec : p.tables.exec = Jvm.exec) (hb : c.code = cc) (hC : mw_C G A s) (hw : mw_St G A s M H locs) {n : Nat} {f : Nat → Int32} (he : M a = some (.inl (G.2 0, n, .inl f))) {i : Int32} (hin : vp_in i n) (hdg : decode cc pc = .ok (.baload, 1))
    (kk : W p l e R s m args below meth c H locs cells slots Q (F0 m (pc + 1) ls (.int (f i.toNatClampNeg) :: rest))) : W p l e R s m args below meth c H locs cells slots Q (F0 m pc ls (.int i :: .ref a :: rest)) := by
  have hlt : i.toNatClampNeg < n := Nat.not_le.mp fun q => hin (Or.inr q)
  exact W.bald (v := .int (f i.toNatClampNeg)) hexec hb (hw.1 a _ he) ((hC.1.1.2 0 _ rfl).1 n (fun j => .int (f j))) (fun q => by cases q) (by show ¬ (i < 0 ∨ (arrV _ _ _).slots.size ≤ _); rw [arrV_size]; exact hin) (by show (arrV _ _ _).slots[_]? = _; rw [arrV_read _ _ hlt]) rfl rfl hdg kk
theorem mw_zald (hexec : p.tables.exec = Jvm.exec) (hb : c.code = cc) (hC : mw_C G A s) (hw : mw_St G A s M H locs) {n : Nat} {f : Nat → Int32} (he : M a = some (.inl (G.2 3, n, .inl f))) {i : Int32} (hin : vp_in i n) (hdg : decode cc pc = .ok (.baload, 1))
    (kk : W p l e R s m args below meth c H locs cells slots Q (F0 m (pc + 1) ls (.int (f i.toNatClampNeg) :: rest))) : W p l e R s m args below meth c H locs cells slots Q (F0 m pc ls (.int i :: .ref a :: rest)) := by
  have hlt : i.toNatClampNeg < n := Nat.not_le.mp fun q => hin (Or.inr q)
  exact W.zald (v := .int (f i.toNatClampNeg)) hexec hb (hw.1 a _ he) ((hC.1.1.2 3 _ rfl).1 n (fun j => .int (f j))) (fun q => by cases q) (by show ¬ (i < 0 ∨ (arrV _ _ _).slots.size ≤ _); rw [arrV_size]; exact hin) (by show (arrV _ _ _).slots[_]? = _; rw [arrV_read _ _ hlt]) rfl rfl hdg kk
theorem mw_lald (hexec : p.tables.exec = Jvm.exec) (hb : c.code = cc) (hC : mw_C G A s) (hw : mw_St G A s M H locs) {n : Nat} {f : Nat → Int64} (he : M a = some (.inl (G.2 2, n, .inr (.inl f)))) {i : Int32} (hin : vp_in i n) (hdg : decode cc pc = .ok (.laload, 1))
    (kk : W p l e R s m args below meth c H locs cells slots Q (F0 m (pc + 1) ls (.long (f i.toNatClampNeg) :: rest))) : W p l e R s m args below meth c H locs cells slots Q (F0 m pc ls (.int i :: .ref a :: rest)) := by
  have hlt : i.toNatClampNeg < n := Nat.not_le.mp fun q => hin (Or.inr q)
  exact W.lald (v := .long (f i.toNatClampNeg)) hexec hb (hw.1 a _ he) ((hC.1.1.2 2 _ rfl).1 n (fun j => .long (f j))) (fun q => by cases q) (by show ¬ (i < 0 ∨ (arrV _ _ _).slots.size ≤ _); rw [arrV_size]; exact hin) (by show (arrV _ _ _).slots[_]? = _; rw [arrV_read _ _ hlt]) rfl rfl hdg kk
theorem mw_eald (hexec : p.tables.exec = Jvm.exec) (hb : c.code = cc) (hC : mw_C G A s) (hw : mw_St G A s M H locs) {n : Nat} {f : Nat → Option Nat} (he : M a = some (.inl (G.2 4, n, .inr (.inr (.inr (.inr f)))))) {i : Int32} (hin : vp_in i n) (hdg : decode cc pc = .ok (.aaload, 1))
    (kk : W p l e R s m args below meth c H locs cells slots Q (F0 m (pc + 1) ls (va_rf (f i.toNatClampNeg) :: rest))) : W p l e R s m args below meth c H locs cells slots Q (F0 m pc ls (.int i :: .ref a :: rest)) := by
  have hlt : i.toNatClampNeg < n := Nat.not_le.mp fun q => hin (Or.inr q)
  exact W.aald (v := va_rf (f i.toNatClampNeg)) (ty := .object "LinkPair$End") hexec hb (hw.1 a _ he) ((hC.1.1.2 4 _ rfl).1 n (fun j => va_rf (f j))) rfl (fun q => by cases q) (by show ¬ (i < 0 ∨ (arrV _ _ _).slots.size ≤ _); rw [arrV_size]; exact hin) (by show (arrV _ _ _).slots[_]? = _; rw [arrV_read _ _ hlt]) rfl rfl hdg kk
theorem mw_fald (hexec : p.tables.exec = Jvm.exec) (hb : c.code = cc) (hC : mw_C G A s) (hw : mw_St G A s M H locs) {n : Nat} {f : Nat → Option Nat} (he : M a = some (.inl (G.2 5, n, .inr (.inr (.inr (.inr f)))))) {i : Int32} (hin : vp_in i n) (hdg : decode cc pc = .ok (.aaload, 1))
    (kk : W p l e R s m args below meth c H locs cells slots Q (F0 m (pc + 1) ls (va_rf (f i.toNatClampNeg) :: rest))) : W p l e R s m args below meth c H locs cells slots Q (F0 m pc ls (.int i :: .ref a :: rest)) := by
  have hlt : i.toNatClampNeg < n := Nat.not_le.mp fun q => hin (Or.inr q)
  exact W.aald (v := va_rf (f i.toNatClampNeg)) (ty := .object "LinkPair$Frame") hexec hb (hw.1 a _ he) ((hC.1.1.2 5 _ rfl).1 n (fun j => va_rf (f j))) rfl (fun q => by cases q) (by show ¬ (i < 0 ∨ (arrV _ _ _).slots.size ≤ _); rw [arrV_size]; exact hin) (by show (arrV _ _ _).slots[_]? = _; rw [arrV_read _ _ hlt]) rfl rfl hdg kk
theorem mw_iast (hexec : p.tables.exec = Jvm.exec) (hb : c.code = cc) (hC : mw_C G A s) (hw : mw_St G A s M H locs) {n : Nat} {f : Nat → Int32} (he : M a = some (.inl (G.2 1, n, .inl f))) {i : Int32} {x : Int32} (hin : vp_in i n) (hdg : decode cc pc = .ok (.iastore, 1))
    (kk : ∀ (H1 : Heap) (locs1 : List Loc), mw_St G A s (va_up M a (some (.inl (G.2 1, n, .inl (upd f i.toNatClampNeg x))))) H1 locs1 → W p l e R s m args below meth c H1 locs1 cells slots Q (F0 m (pc + 1) ls rest)) : W p l e R s m args below meth c H locs cells slots Q (F0 m pc ls (.int x :: .int i :: .ref a :: rest)) := by
  refine W.iast hexec hb (hw.1 a _ he) ((hC.1.1.2 1 _ rfl).1 n (fun j => .int (f j))) (fun q => by cases q) (by show ¬ (i < 0 ∨ (arrV _ _ _).slots.size ≤ _); rw [arrV_size]; exact hin) rfl rfl hdg fun H1 e z oq => ?_
  refine kk H1 _ (mw_upd hw he ?_ z oq)
  show H1[a]? = some (vp_cell _ _)
  rw [e]
  rw [vp_cell_i, vp_cell_i, arrV_store]
  congr 2
  funext q
  by_cases hq : q = i.toNatClampNeg
  · subst hq
    simp [updV, upd]
    try rfl
  · simp [updV, upd, hq]
theorem mw_bast (hexec : p.tables.exec = Jvm.exec) (hb : c.code = cc) (hC : mw_C G A s) (hw : mw_St G A s M H locs) {n : Nat} {f : Nat → Int32} (he : M a = some (.inl (G.2 0, n, .inl f))) {i : Int32} {x : Int32} (hin : vp_in i n) (hdg : decode cc pc = .ok (.bastore, 1))
    (kk : ∀ (H1 : Heap) (locs1 : List Loc), mw_St G A s (va_up M a (some (.inl (G.2 0, n, .inl (upd f i.toNatClampNeg (vp_nar .byte x)))))) H1 locs1 → W p l e R s m args below meth c H1 locs1 cells slots Q (F0 m (pc + 1) ls rest)) : W p l e R s m args below meth c H locs cells slots Q (F0 m pc ls (.int x :: .int i :: .ref a :: rest)) := by
  refine W.bast hexec hb (hw.1 a _ he) ((hC.1.1.2 0 _ rfl).1 n (fun j => .int (f j))) (fun q => by cases q) (by show ¬ (i < 0 ∨ (arrV _ _ _).slots.size ≤ _); rw [arrV_size]; exact hin) rfl rfl hdg fun H1 e z oq => ?_
  refine kk H1 _ (mw_upd hw he ?_ z oq)
  show H1[a]? = some (vp_cell _ _)
  rw [e]
  rw [vp_cell_i, vp_cell_i, arrV_store]
  congr 2
  funext q
  by_cases hq : q = i.toNatClampNeg
  · subst hq
    simp [updV, upd, vp_nar]
    try rfl
  · simp [updV, upd, vp_nar, hq]
theorem mw_zast (hexec : p.tables.exec = Jvm.exec) (hb : c.code = cc) (hC : mw_C G A s) (hw : mw_St G A s M H locs) {n : Nat} {f : Nat → Int32} (he : M a = some (.inl (G.2 3, n, .inl f))) {i : Int32} {x : Int32} (hin : vp_in i n) (hdg : decode cc pc = .ok (.bastore, 1))
    (kk : ∀ (H1 : Heap) (locs1 : List Loc), mw_St G A s (va_up M a (some (.inl (G.2 3, n, .inl (upd f i.toNatClampNeg (vp_nar .boolean x)))))) H1 locs1 → W p l e R s m args below meth c H1 locs1 cells slots Q (F0 m (pc + 1) ls rest)) : W p l e R s m args below meth c H locs cells slots Q (F0 m pc ls (.int x :: .int i :: .ref a :: rest)) := by
  refine W.zast hexec hb (hw.1 a _ he) ((hC.1.1.2 3 _ rfl).1 n (fun j => .int (f j))) (fun q => by cases q) (by show ¬ (i < 0 ∨ (arrV _ _ _).slots.size ≤ _); rw [arrV_size]; exact hin) rfl rfl hdg fun H1 e z oq => ?_
  refine kk H1 _ (mw_upd hw he ?_ z oq)
  show H1[a]? = some (vp_cell _ _)
  rw [e]
  rw [vp_cell_i, vp_cell_i, arrV_store]
  congr 2
  funext q
  by_cases hq : q = i.toNatClampNeg
  · subst hq
    simp [updV, upd, vp_nar]
    try rfl
  · simp [updV, upd, vp_nar, hq]
theorem mw_last (hexec : p.tables.exec = Jvm.exec) (hb : c.code = cc) (hC : mw_C G A s) (hw : mw_St G A s M H locs) {n : Nat} {f : Nat → Int64} (he : M a = some (.inl (G.2 2, n, .inr (.inl f)))) {i : Int32} {x : Int64} (hin : vp_in i n) (hdg : decode cc pc = .ok (.lastore, 1))
    (kk : ∀ (H1 : Heap) (locs1 : List Loc), mw_St G A s (va_up M a (some (.inl (G.2 2, n, .inr (.inl (vp_updL f i.toNatClampNeg x)))))) H1 locs1 → W p l e R s m args below meth c H1 locs1 cells slots Q (F0 m (pc + 1) ls rest)) : W p l e R s m args below meth c H locs cells slots Q (F0 m pc ls (.long x :: .int i :: .ref a :: rest)) := by
  refine W.last hexec hb (hw.1 a _ he) ((hC.1.1.2 2 _ rfl).1 n (fun j => .long (f j))) (fun q => by cases q) (by show ¬ (i < 0 ∨ (arrV _ _ _).slots.size ≤ _); rw [arrV_size]; exact hin) rfl rfl hdg fun H1 e z oq => ?_
  refine kk H1 _ (mw_upd hw he ?_ z oq)
  show H1[a]? = some (vp_cell _ _)
  rw [e]
  rw [vp_cell_l, vp_cell_l, arrV_store]
  congr 2
  funext q
  by_cases hq : q = i.toNatClampNeg
  · subst hq
    simp [updV, vp_updL]
    try rfl
  · simp [updV, vp_updL, hq]
theorem mw_east (hexec : p.tables.exec = Jvm.exec) (hb : c.code = cc) (hC : mw_C G A s) (hw : mw_St G A s M H locs) {n v : Nat} {vs : List Value} {f : Nat → Option Nat} (he : M a = some (.inl (G.2 4, n, .inr (.inr (.inr (.inr f)))))) (hv : M v = some (.inr (0, vs))) {i : Int32} (hin : vp_in i n) (hdg : decode cc pc = .ok (.aastore, 1))
    (kk : ∀ (H1 : Heap) (locs1 : List Loc), mw_St G A s (va_up M a (some (.inl (G.2 4, n, .inr (.inr (.inr (.inr (va_up f i.toNatClampNeg (some v)))))))))  H1 locs1 → W p l e R s m args below meth c H1 locs1 cells slots Q (F0 m (pc + 1) ls rest)) : W p l e R s m args below meth c H locs cells slots Q (F0 m pc ls (.ref v :: .int i :: .ref a :: rest)) := by
  have hlt : i.toNatClampNeg < n := Nat.not_le.mp fun q => hin (Or.inr q)
  have h0 : ¬ i < 0 := fun q => hin (Or.inl q)
  obtain ⟨r', hr', cellV, g1, g2, g3, -⟩ := hw.1 v _ hv
  have hcls := (hC.1.1.1 0 (RX0, TX0, 12) rfl).2
  obtain ⟨kA, comp, k1, k2, k3, -⟩ := (hC.1.1.2 4 _ rfl).2
  have hcomp : comp = G.1.1 0 := Option.some.inj (k3.symm.trans hcls.1)
  subst hcomp
  obtain ⟨kC, hkC, -⟩ := hcls.2
  refine W.aast hexec hb (hw.1 a _ he) (fun q h => by cases h) (fun h => by cases h) k1 k2 rfl hkC ⟨h0, by show _ < (arrV _ _ _).slots.size; rw [arrV_size]; exact hlt⟩ g1 (fun q h => by rw [g3] at h; cases h) (by rw [g2]; exact hkC) (by rw [g2]; exact va_assign hcls) rfl rfl hdg fun H1 e z oq => ?_
  refine kk H1 _ (mw_upd hw he ?_ z oq)
  show H1[a]? = some (vp_cell _ _)
  rw [e]
  rw [vp_cell_q, vp_cell_q, arrV_store]
  congr 2
  funext q
  by_cases hq : q = i.toNatClampNeg
  · subst hq
    simp [updV, va_up, va_rf]
  · simp [updV, va_up, hq]
theorem mw_fast (hexec : p.tables.exec = Jvm.exec) (hb : c.code = cc) (hC : mw_C G A s) (hw : mw_St G A s M H locs) {n v : Nat} {vs : List Value} {f : Nat → Option Nat} (he : M a = some (.inl (G.2 5, n, .inr (.inr (.inr (.inr f)))))) (hv : M v = some (.inr (1, vs))) {i : Int32} (hin : vp_in i n) (hdg : decode cc pc = .ok (.aastore, 1))
    (kk : ∀ (H1 : Heap) (locs1 : List Loc), mw_St G A s (va_up M a (some (.inl (G.2 5, n, .inr (.inr (.inr (.inr (va_up f i.toNatClampNeg (some v)))))))))  H1 locs1 → W p l e R s m args below meth c H1 locs1 cells slots Q (F0 m (pc + 1) ls rest)) : W p l e R s m args below meth c H locs cells slots Q (F0 m pc ls (.ref v :: .int i :: .ref a :: rest)) := by
  have hlt : i.toNatClampNeg < n := Nat.not_le.mp fun q => hin (Or.inr q)
  have h0 : ¬ i < 0 := fun q => hin (Or.inl q)
  obtain ⟨r', hr', cellV, g1, g2, g3, -⟩ := hw.1 v _ hv
  have hcls := (hC.1.1.1 1 (RX1, TX1, 2) rfl).2
  obtain ⟨kA, comp, k1, k2, k3, -⟩ := (hC.1.1.2 5 _ rfl).2
  have hcomp : comp = G.1.1 1 := Option.some.inj (k3.symm.trans hcls.1)
  subst hcomp
  obtain ⟨kC, hkC, -⟩ := hcls.2
  refine W.aast hexec hb (hw.1 a _ he) (fun q h => by cases h) (fun h => by cases h) k1 k2 rfl hkC ⟨h0, by show _ < (arrV _ _ _).slots.size; rw [arrV_size]; exact hlt⟩ g1 (fun q h => by rw [g3] at h; cases h) (by rw [g2]; exact hkC) (by rw [g2]; exact va_assign hcls) rfl rfl hdg fun H1 e z oq => ?_
  refine kk H1 _ (mw_upd hw he ?_ z oq)
  show H1[a]? = some (vp_cell _ _)
  rw [e]
  rw [vp_cell_q, vp_cell_q, arrV_store]
  congr 2
  funext q
  by_cases hq : q = i.toNatClampNeg
  · subst hq
    simp [updV, va_up, va_rf]
  · simp [updV, va_up, hq]
theorem mw_alen (hexec : p.tables.exec = Jvm.exec) (hb : c.code = cc) (hC : mw_C G A s) (hw : mw_St G A s M H locs) (t0 : Nat) {cA : ClassId} {x : vp_A} (he : M a = some (.inl (cA, x))) {ty : FieldType} (ht : (mw_tys G)[t0]? = some (cA, ty)) (hdg : decode cc pc = .ok (.arraylength, 1))
    (kk : W p l e R s m args below meth c H locs cells slots Q (F0 m (pc + 1) ls (.int (nI x.1) :: rest))) : W p l e R s m args below meth c H locs cells slots Q (F0 m pc ls (.ref a :: rest)) := by
  refine va_alen (D := G.1) (cl := vwCl) (ws := [(a, .inl (cA, x))]) hexec hb hC.1.1 (fun k q hq => ?_) 0 t0 rfl ht rfl hdg kk
  match k, hq with
  | 0, hq => cases hq; exact hw.1 a _ he
  | k + 1, hq => simp at hq
theorem mw_newa (hexec : p.tables.exec = Jvm.exec) (hb : c.code = cc) {atype : ArrayType} (harr : (Cond.arrayClass (newarray.typeOf atype)).before args s = true) {ty : FieldType} (hty : newarray.typeOf atype = ty) (hC : mw_C G A s) (hw : mw_St G A s M H locs) (t0 : Nat) {cA : ClassId} (ht : (mw_tys G)[t0]? = some (cA, ty)) (hprim : ∀ C, ty ≠ .object C)
    {n : Int32} {N' : Nat} {a0 : vp_A} (ha : ∀ cA : ClassId, vp_cell cA a0 = arrV cA N' (fun _ => defaultValue ty)) (hn : ¬ n < 0) (hN : n.toNatClampNeg = N') (hbytes : N' * componentBytes ty ≤ 536870912) (hcells : cells + 1 ≤ R.cells) (hslots : slots + N' ≤ R.slots) (hdg : decode cc pc = .ok (.newarray atype, 2))
    (kk : ∀ (H1 : Heap), M H.size = none → mw_St G A s (va_up M H.size (some (.inl (cA, a0)))) H1 locs →
      W p l e R s m args below meth c H1 locs (cells + 1) (slots + N') Q (F0 m (pc + 2) ls (.ref H.size :: rest))) : W p l e R s m args below meth c H locs cells slots Q (F0 m pc ls (.int n :: rest)) := by
  subst hty
  refine va_newaK hexec hb harr rfl hdg rfl hn hN hbytes hcells hslots rfl fun H1 cB e1 z1 o1 hAr hNm => ?_
  have hcc : cB = cA := by
    have h2 := (hC.1.1.2 t0 _ ht).2
    have h3 : s.vm.findClass ("[" ++ (newarray.typeOf atype).toString) = some cA := by
      cases atype <;> exact h2
    exact Option.some.inj (hNm.symm.trans h3)
  subst hcc
  refine kk H1 ?_ (mw_add hC hw rfl ?_ z1 o1)
  · cases hm : M H.size with
    | none => rfl
    | some x => exact absurd (mw_fresh hw hm) (Nat.lt_irrefl _)
  · show H1[H.size]? = some (vp_cell _ _)
    rw [ha]
    exact e1
theorem mw_new {C : String} {T : u_T} {N ci index : Nat} {own : String} {Ts : List Cond} (hexec : p.tables.exec = Jvm.exec) (hb : c.code = cc) (hts : ∀ w ∈ Ts, w.before args s = true) (hin : ∀ w ∈ u_ws C T N, w ∈ Ts) (ty : Nat → FieldType) (hty : ∀ k, k < N → parseFieldDescriptor (T k).2.2.1 = some (ty k)) (hown : s.vm.findClass own = some m.cls) (hcl : (Cond.classLink own index C).before args s = true) (hinst : (Cond.instantiable C N).before args s = true) (hini : (Cond.initialized C).before args s = true)
    (hC : mw_C G A s) (hw : mw_St G A s M H locs) (hc : vwCl[ci]? = some (C, T, N)) {fs : List Value} (hfs : ∀ j, j < N → defaultValue (ty j) = vp_V fs j) (hcells : cells + 1 ≤ R.cells) (hslots : slots + N ≤ R.slots) (hdg : decode cc pc = .ok (.new index, 3))
    (kk : ∀ (H1 : Heap), M H.size = none → mw_St G A s (va_up M H.size (some (.inr (ci, fs)))) H1 locs →
      W p l e R s m args below meth c H1 locs (cells + 1) (slots + N) Q (F0 m (pc + 3) ls (.ref H.size :: rest))) : W p l e R s m args below meth c H locs cells slots Q (F0 m pc ls rest) := by
  have hKn := hC.1.1.1 ci _ hc
  refine W.newcK hexec hb hown hcl hinst hini rfl hdg hcells hslots hKn.2.1 rfl fun H1 kC hkC e1 z1 o1 => ?_
  refine kk H1 ?_ (mw_add hC hw rfl ?_ z1 o1)
  · cases hm : M H.size with
    | none => rfl
    | some x => exact absurd (mw_fresh hw hm) (Nat.lt_irrefl _)
  · exact ⟨_, hc, (u_born ty hts hin hKn hkC e1 hty).to hfs⟩
theorem mw_newE (hexec : p.tables.exec = Jvm.exec) (hb : c.code = cc) {own : String} {index : Nat} (hown : s.vm.findClass own = some m.cls) (hclink : (Cond.classLink own index "LinkPair$End").before args s = true) (hC : mw_C G A s) (hw : mw_St G A s M H locs)
    {n : Int32} {N' : Nat} (hn : ¬ n < 0) (hN : n.toNatClampNeg = N') (hbytes : N' * 4 ≤ 536870912) (hcells : cells + 1 ≤ R.cells) (hslots : slots + N' ≤ R.slots) (hdg : decode cc pc = .ok (.anewarray index, 3))
    (kk : ∀ (H1 : Heap), M H.size = none → mw_St G A s (va_up M H.size (some (.inl (G.2 4, N', .inr (.inr (.inr (.inr (fun _ => none)))))))) H1 locs →
      W p l e R s m args below meth c H1 locs (cells + 1) (slots + N') Q (F0 m (pc + 3) ls (.ref H.size :: rest))) : W p l e R s m args below meth c H locs cells slots Q (F0 m pc ls (.int n :: rest)) := by
  subst hN
  refine W.anew hexec hb hown hclink (va_AO.use hC.1.2.2.2.1) rfl hdg rfl hn hbytes hcells hslots fun cA kA comp f1 f2 f3 f4 => ?_
  generalize hH1 : H.push ({ cls := cA, slots := Array.replicate n.toNatClampNeg .null, vm := .none } : Cell) = H1
  have z1 : H1.size = H.size + 1 := by rw [← hH1, Array.size_push]
  have e1 : H1[H.size]? = some (arrV cA n.toNatClampNeg (fun _ => .null)) := by rw [← hH1, Array.getElem?_push_size, ← arrV_new]
  have o1 : ∀ q : Nat, q < H.size → H1[q]? = H[q]? := fun q hq => by rw [← hH1, Array.getElem?_push, if_neg (Nat.ne_of_lt hq)]
  obtain ⟨kB, compB, k1, k2, k3, k4⟩ := (hC.1.1.2 4 (G.2 4, .object "LinkPair$End") rfl).2
  have hcc : cA = G.2 4 := Option.some.inj (f1.symm.trans k4)
  subst hcc
  refine kk H1 ?_ (mw_add hC hw rfl ?_ z1 o1)
  · cases hm : M H.size with
    | none => rfl
    | some x => exact absurd (mw_fresh hw hm) (Nat.lt_irrefl _)
  · show H1[H.size]? = some (vp_cell _ _)
    rw [vp_cell_q]
    exact e1
theorem mw_newF (hexec : p.tables.exec = Jvm.exec) (hb : c.code = cc) {own : String} {index : Nat} (hown : s.vm.findClass own = some m.cls) (hclink : (Cond.classLink own index "LinkPair$Frame").before args s = true) (hC : mw_C G A s) (hw : mw_St G A s M H locs)
    {n : Int32} {N' : Nat} (hn : ¬ n < 0) (hN : n.toNatClampNeg = N') (hbytes : N' * 4 ≤ 536870912) (hcells : cells + 1 ≤ R.cells) (hslots : slots + N' ≤ R.slots) (hdg : decode cc pc = .ok (.anewarray index, 3))
    (kk : ∀ (H1 : Heap), M H.size = none → mw_St G A s (va_up M H.size (some (.inl (G.2 5, N', .inr (.inr (.inr (.inr (fun _ => none)))))))) H1 locs →
      W p l e R s m args below meth c H1 locs (cells + 1) (slots + N') Q (F0 m (pc + 3) ls (.ref H.size :: rest))) : W p l e R s m args below meth c H locs cells slots Q (F0 m pc ls (.int n :: rest)) := by
  subst hN
  refine W.anew hexec hb hown hclink (va_AO.use hC.1.2.2.2.2.1) rfl hdg rfl hn hbytes hcells hslots fun cA kA comp f1 f2 f3 f4 => ?_
  generalize hH1 : H.push ({ cls := cA, slots := Array.replicate n.toNatClampNeg .null, vm := .none } : Cell) = H1
  have z1 : H1.size = H.size + 1 := by rw [← hH1, Array.size_push]
  have e1 : H1[H.size]? = some (arrV cA n.toNatClampNeg (fun _ => .null)) := by rw [← hH1, Array.getElem?_push_size, ← arrV_new]
  have o1 : ∀ q : Nat, q < H.size → H1[q]? = H[q]? := fun q hq => by rw [← hH1, Array.getElem?_push, if_neg (Nat.ne_of_lt hq)]
  obtain ⟨kB, compB, k1, k2, k3, k4⟩ := (hC.1.1.2 5 (G.2 5, .object "LinkPair$Frame") rfl).2
  have hcc : cA = G.2 5 := Option.some.inj (f1.symm.trans k4)
  subst hcc
  refine kk H1 ?_ (mw_add hC hw rfl ?_ z1 o1)
  · cases hm : M H.size with
    | none => rfl
    | some x => exact absurd (mw_fresh hw hm) (Nat.lt_irrefl _)
  · show H1[H.size]? = some (vp_cell _ _)
    rw [vp_cell_q]
    exact e1
theorem mw_ci {mc ms : Nat} {st0 : List Value} {r : Int32} {M' : mw_M} {a9 : Array Value} (hC : mw_C G A s) (hw : mw_St G A s M H locs) (hr : va_Run p l e R s m args below meth c H locs cells slots mc ms (F0 m pc ls st0) rest (mw_Qi G M H.size r M' a9) (mw_A M H.size))
    (kk : ∀ (H1 : Heap) (locs1 : List Loc), H.size ≤ H1.size → mw_St G A s M' H1 locs1 → W p l e R s m args below meth c H1 locs1 (cells + mc) (slots + ms) Q (F0 m (pc + 3) ls (.int r :: rest))) : W p l e R s m args below meth c H locs cells slots Q (F0 m pc ls st0) := by
  refine va_calli hr hw.2.2 (fun q _ h => mw_sub hC hw q h) (mw_sub hC hw) (fun r' u t H1 locs1 ht hvm hp hB hz hk hS => ?_)
  rw [hp]
  refine kk H1 locs1 hz ⟨by rw [← ht]; exact hB.1, fun q x hx => mw_sub hC hw q (hB.2 q x hx), hS⟩
theorem mw_cv {mc ms : Nat} {st0 : List Value} {M' : mw_M} {a9 : Array Value} (hC : mw_C G A s) (hw : mw_St G A s M H locs) (hr : va_Run p l e R s m args below meth c H locs cells slots mc ms (F0 m pc ls st0) rest (mw_Qv G M H.size M' a9) (mw_A M H.size))
    (kk : ∀ (H1 : Heap) (locs1 : List Loc), H.size ≤ H1.size → mw_St G A s M' H1 locs1 → W p l e R s m args below meth c H1 locs1 (cells + mc) (slots + ms) Q (F0 m (pc + 3) ls rest)) : W p l e R s m args below meth c H locs cells slots Q (F0 m pc ls st0) := by
  refine va_callv hr hw.2.2 (fun q _ h => mw_sub hC hw q h) (mw_sub hC hw) (fun u t H1 locs1 ht hvm hp hB hz hk hS => ?_)
  refine kk H1 locs1 hz ⟨by rw [← ht]; exact hB.1, fun q x hx => mw_sub hC hw q (hB.2 q x hx), hS⟩
theorem mw_cr {mc ms : Nat} {st0 : List Value} {r : Nat} {M' : mw_M} {a9 : Array Value} (hC : mw_C G A s) (hw : mw_St G A s M H locs) (hr : va_Run p l e R s m args below meth c H locs cells slots mc ms (F0 m pc ls st0) rest (mw_Qr G M H.size r M' a9) (mw_A M H.size))
    (kk : ∀ (H1 : Heap) (locs1 : List Loc), H.size ≤ H1.size → mw_St G A s M' H1 locs1 → W p l e R s m args below meth c H1 locs1 (cells + mc) (slots + ms) Q (F0 m (pc + 3) ls (.ref r :: rest))) : W p l e R s m args below meth c H locs cells slots Q (F0 m pc ls st0) := by
  refine va_callr hr hw.2.2 (fun q _ h => mw_sub hC hw q h) (mw_sub hC hw) (fun u ra t H1 locs1 ht hvm hp hB hz hk hS => ?_)
  rw [hB.1]
  refine kk H1 locs1 hz ⟨by rw [← ht]; exact hB.2.1, fun q x hx => mw_sub hC hw q (hB.2.2 q x hx), hS⟩
theorem mw_iret {M0 M' : mw_M} {v r : Int32} (hexec : p.tables.exec = Jvm.exec) (hb : c.code = cc) (hr : meth.sig.returnType = some .int) (hlocks : meth.locks = false) (hw : mw_St G (mw_A M0 s.heap.size) s M H locs) (hv : v = r) (hM : ∀ (q : Nat) (x : va_E), M' q = some x → M q = some x) (hdg : decode cc pc = .ok (.ireturn, 1)) :
    W p l e R s m args below meth c H locs cells slots (MQ below (mw_Qi G M0 s.heap.size r M') args s cells slots (mw_A M0 s.heap.size)) (F0 m pc ls [.int v]) := by
  have hw2 := hw.to hM
  exact W.iret (v := v) hexec hb hr (fun t ht hW => ⟨⟨v, (), rfl, hv, by rw [ht]; exact hw2.1, hw2.2.1⟩, hw.2.2.F ht⟩) hw.2.2.2.2 hdg hlocks
theorem mw_zret {M0 M' : mw_M} {v r : Int32} (hexec : p.tables.exec = Jvm.exec) (hb : c.code = cc) (hr : meth.sig.returnType = some .boolean) (hlocks : meth.locks = false) (hw : mw_St G (mw_A M0 s.heap.size) s M H locs) (hn : narrow .boolean (.int v) = .int v) (hv : v = r) (hM : ∀ (q : Nat) (x : va_E), M' q = some x → M q = some x) (hdg : decode cc pc = .ok (.ireturn, 1)) :
    W p l e R s m args below meth c H locs cells slots (MQ below (mw_Qi G M0 s.heap.size r M') args s cells slots (mw_A M0 s.heap.size)) (F0 m pc ls [.int v]) := by
  have hw2 := hw.to hM
  exact W.zret (v := v) hexec hb hr hn (fun t ht hW => ⟨⟨v, (), rfl, hv, by rw [ht]; exact hw2.1, hw2.2.1⟩, hw.2.2.F ht⟩) hw.2.2.2.2 hdg hlocks
theorem mw_vret {M0 M' : mw_M} (hexec : p.tables.exec = Jvm.exec) (hb : c.code = cc) (hr : meth.sig.returnType = none) (hlocks : meth.locks = false) (hw : mw_St G (mw_A M0 s.heap.size) s M H locs) (hM : ∀ (q : Nat) (x : va_E), M' q = some x → M q = some x) (hdg : decode cc pc = .ok (.return_, 1)) :
    W p l e R s m args below meth c H locs cells slots (MQ below (mw_Qv G M0 s.heap.size M') args s cells slots (mw_A M0 s.heap.size)) (F0 m pc ls []) := by
  have hw2 := hw.to hM
  exact W.vret hexec hb hr (fun t ht hW => ⟨⟨(), rfl, trivial, by rw [ht]; exact hw2.1, hw2.2.1⟩, hw.2.2.F ht⟩) hw.2.2.2.2 hdg hlocks
theorem mw_aret {M0 M' : mw_M} {v r : Nat} {rt : FieldType} (hexec : p.tables.exec = Jvm.exec) (hb : c.code = cc) (hr : meth.sig.returnType = some rt) (hrt : ∃ n, rt = .object n) (hlocks : meth.locks = false) (hw : mw_St G (mw_A M0 s.heap.size) s M H locs) (hv : v = r) (hM : ∀ (q : Nat) (x : va_E), M' q = some x → M q = some x) (hdg : decode cc pc = .ok (.areturn, 1)) :
    W p l e R s m args below meth c H locs cells slots (MQ below (mw_Qr G M0 s.heap.size r M') args s cells slots (mw_A M0 s.heap.size)) (F0 m pc ls [.ref v]) := by
  have hw2 := hw.to hM
  exact W.aret (v := .ref v) hexec hb hr (Or.inl hrt) (Or.inr ⟨v, rfl⟩) (fun t ht hW => ⟨⟨(), v, rfl, trivial, hv, by rw [ht]; exact hw2.1, hw2.2.1⟩, hw.2.2.F ht⟩) hw.2.2.2.2 hdg hlocks
end MWR
