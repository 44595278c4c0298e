section MWN
variable {p : Program} {l : Launch} {e : Env} {R : Room} {s : State} {m : MethodId} {args : Array Value} {below : List Frame} {meth : Method} {c : Code} {H : Heap} {locs : List Loc} {cells slots : Nat} {Q : State → Prop}
variable {cc : ByteArray} {pc : Nat} {ls : Array Slot} {rest : List Value} {G : mw_G} {A : Nat → Prop} {a : Nat} {M : mw_M}
theorem mw_ti {v v' : Int32} (h : v = v') (kk : W p l e R s m args below meth c H locs cells slots Q (F0 m pc ls (.int v' :: rest))) : W p l e R s m args below meth c H locs cells slots Q (F0 m pc ls (.int v :: rest)) := h ▸ kk
theorem mw_tl {v v' : Int64} (h : v = v') (kk : W p l e R s m args below meth c H locs cells slots Q (F0 m pc ls (.long v' :: rest))) : W p l e R s m args below meth c H locs cells slots Q (F0 m pc ls (.long v :: rest)) := h ▸ kk
theorem mw_tr {v : Option Nat} {v' : Nat} (h : v = some v') (kk : W p l e R s m args below meth c H locs cells slots Q (F0 m pc ls (.ref v' :: rest))) : W p l e R s m args below meth c H locs cells slots Q (F0 m pc ls (va_rf v :: rest)) := by subst h; exact kk
theorem mw_start {M0 : mw_M} {g : JFrame} (kk : ∀ (H : Heap) (locs : List Loc), mw_St G A s M0 H locs → W p l e R s m args below meth c H locs cells slots Q g) (hw : mw_St G A s M0 s.heap []) : W p l e R s m args below meth c s.heap [] cells slots Q g := kk _ _ hw
theorem mw_ialdN (hexec : p.tables.exec = Jvm.exec) (hb : c.code = cc) (hC : mw_C G A s) (hw : mw_St G A s M H locs) {n : Nat} {f : Nat → Int32} (he : M a = some (.inl (G.2 1, n, .inl f))) {i : Nat} (hi : i < n) (hn : n < 2 ^ 31) (hdg : decode cc pc = .ok (.iaload, 1))
    (kk : W p l e R s m args below meth c H locs cells slots Q (F0 m (pc + 1) ls (.int (f i) :: rest))) : W p l e R s m args below meth c H locs cells slots Q (F0 m pc ls (.int (nI i) :: .ref a :: rest)) := by
  refine mw_iald hexec hb hC hw he (vp_in_nI hi hn) hdg ?_
  rw [nI_clamp (Nat.lt_trans hi hn)]
  exact kk
theorem mw_baldN (hexec : p.tables.exec = Jvm.exec) (hb : c.code = cc) (hC : mw_C G A s) (hw : mw_St G A s M H locs) {n : Nat} {f : Nat → Int32} (he : M a = some (.inl (G.2 0, n, .inl f))) {i : Nat} (hi : i < n) (hn : n < 2 ^ 31) (hdg : decode cc pc = .ok (.baload, 1))
    (kk : W p l e R s m args below meth c H locs cells slots Q (F0 m (pc + 1) ls (.int (f i) :: rest))) : W p l e R s m args below meth c H locs cells slots Q (F0 m pc ls (.int (nI i) :: .ref a :: rest)) := by
  refine mw_bald hexec hb hC hw he (vp_in_nI hi hn) hdg ?_
  rw [nI_clamp (Nat.lt_trans hi hn)]
  exact kk
theorem mw_zaldN (hexec : p.tables.exec = Jvm.exec) (hb : c.code = cc) (hC : mw_C G A s) (hw : mw_St G A s M H locs) {n : Nat} {f : Nat → Int32} (he : M a = some (.inl (G.2 3, n, .inl f))) {i : Nat} (hi : i < n) (hn : n < 2 ^ 31) (hdg : decode cc pc = .ok (.baload, 1))
    (kk : W p l e R s m args below meth c H locs cells slots Q (F0 m (pc + 1) ls (.int (f i) :: rest))) : W p l e R s m args below meth c H locs cells slots Q (F0 m pc ls (.int (nI i) :: .ref a :: rest)) := by
  refine mw_zald hexec hb hC hw he (vp_in_nI hi hn) hdg ?_
  rw [nI_clamp (Nat.lt_trans hi hn)]
  exact kk
theorem mw_laldN (hexec : p.tables.exec = Jvm.exec) (hb : c.code = cc) (hC : mw_C G A s) (hw : mw_St G A s M H locs) {n : Nat} {f : Nat → Int64} (he : M a = some (.inl (G.2 2, n, .inr (.inl f)))) {i : Nat} (hi : i < n) (hn : n < 2 ^ 31) (hdg : decode cc pc = .ok (.laload, 1))
    (kk : W p l e R s m args below meth c H locs cells slots Q (F0 m (pc + 1) ls (.long (f i) :: rest))) : W p l e R s m args below meth c H locs cells slots Q (F0 m pc ls (.int (nI i) :: .ref a :: rest)) := by
  refine mw_lald hexec hb hC hw he (vp_in_nI hi hn) hdg ?_
  rw [nI_clamp (Nat.lt_trans hi hn)]
  exact kk
theorem mw_ealdN (hexec : p.tables.exec = Jvm.exec) (hb : c.code = cc) (hC : mw_C G A s) (hw : mw_St G A s M H locs) {n : Nat} {f : Nat → Option Nat} (he : M a = some (.inl (G.2 4, n, .inr (.inr (.inr (.inr f)))))) {i : Nat} (hi : i < n) (hn : n < 2 ^ 31) (hdg : decode cc pc = .ok (.aaload, 1))
    (kk : W p l e R s m args below meth c H locs cells slots Q (F0 m (pc + 1) ls (va_rf (f i) :: rest))) : W p l e R s m args below meth c H locs cells slots Q (F0 m pc ls (.int (nI i) :: .ref a :: rest)) := by
  refine mw_eald hexec hb hC hw he (vp_in_nI hi hn) hdg ?_
  rw [nI_clamp (Nat.lt_trans hi hn)]
  exact kk
theorem mw_faldN (hexec : p.tables.exec = Jvm.exec) (hb : c.code = cc) (hC : mw_C G A s) (hw : mw_St G A s M H locs) {n : Nat} {f : Nat → Option Nat} (he : M a = some (.inl (G.2 5, n, .inr (.inr (.inr (.inr f)))))) {i : Nat} (hi : i < n) (hn : n < 2 ^ 31) (hdg : decode cc pc = .ok (.aaload, 1))
    (kk : W p l e R s m args below meth c H locs cells slots Q (F0 m (pc + 1) ls (va_rf (f i) :: rest))) : W p l e R s m args below meth c H locs cells slots Q (F0 m pc ls (.int (nI i) :: .ref a :: rest)) := by
  refine mw_fald hexec hb hC hw he (vp_in_nI hi hn) hdg ?_
  rw [nI_clamp (Nat.lt_trans hi hn)]
  exact kk
theorem mw_iastN (hexec : p.tables.exec = Jvm.exec) (hb : c.code = cc) (hC : mw_C G A s) (hw : mw_St G A s M H locs) {n : Nat} {f : Nat → Int32} (he : M a = some (.inl (G.2 1, n, .inl f))) {i : Nat} {x : Int32} (hi : i < n) (hn : n < 2 ^ 31) (hdg : decode cc pc = .ok (.iastore, 1))
    (kk : ∀ (H1 : Heap) (locs1 : List Loc), mw_St G A s (va_up M a (some (.inl (G.2 1, n, .inl (upd f i x))))) H1 locs1 → W p l e R s m args below meth c H1 locs1 cells slots Q (F0 m (pc + 1) ls rest)) : W p l e R s m args below meth c H locs cells slots Q (F0 m pc ls (.int x :: .int (nI i) :: .ref a :: rest)) := by
  refine mw_iast hexec hb hC hw he (vp_in_nI hi hn) hdg (fun H1 locs1 h1 => ?_)
  rw [nI_clamp (Nat.lt_trans hi hn)] at h1
  exact kk H1 locs1 h1
theorem mw_bastN (hexec : p.tables.exec = Jvm.exec) (hb : c.code = cc) (hC : mw_C G A s) (hw : mw_St G A s M H locs) {n : Nat} {f : Nat → Int32} (he : M a = some (.inl (G.2 0, n, .inl f))) {i : Nat} {x : Int32} (hi : i < n) (hn : n < 2 ^ 31) (hdg : decode cc pc = .ok (.bastore, 1))
    (kk : ∀ (H1 : Heap) (locs1 : List Loc), mw_St G A s (va_up M a (some (.inl (G.2 0, n, .inl (upd f i (vp_nar .byte x)))))) H1 locs1 → W p l e R s m args below meth c H1 locs1 cells slots Q (F0 m (pc + 1) ls rest)) : W p l e R s m args below meth c H locs cells slots Q (F0 m pc ls (.int x :: .int (nI i) :: .ref a :: rest)) := by
  refine mw_bast hexec hb hC hw he (vp_in_nI hi hn) hdg (fun H1 locs1 h1 => ?_)
  rw [nI_clamp (Nat.lt_trans hi hn)] at h1
  exact kk H1 locs1 h1
theorem mw_zastN (hexec : p.tables.exec = Jvm.exec) (hb : c.code = cc) (hC : mw_C G A s) (hw : mw_St G A s M H locs) {n : Nat} {f : Nat → Int32} (he : M a = some (.inl (G.2 3, n, .inl f))) {i : Nat} {x : Int32} (hi : i < n) (hn : n < 2 ^ 31) (hdg : decode cc pc = .ok (.bastore, 1))
    (kk : ∀ (H1 : Heap) (locs1 : List Loc), mw_St G A s (va_up M a (some (.inl (G.2 3, n, .inl (upd f i (vp_nar .boolean x)))))) H1 locs1 → W p l e R s m args below meth c H1 locs1 cells slots Q (F0 m (pc + 1) ls rest)) : W p l e R s m args below meth c H locs cells slots Q (F0 m pc ls (.int x :: .int (nI i) :: .ref a :: rest)) := by
  refine mw_zast hexec hb hC hw he (vp_in_nI hi hn) hdg (fun H1 locs1 h1 => ?_)
  rw [nI_clamp (Nat.lt_trans hi hn)] at h1
  exact kk H1 locs1 h1
theorem mw_lastN (hexec : p.tables.exec = Jvm.exec) (hb : c.code = cc) (hC : mw_C G A s) (hw : mw_St G A s M H locs) {n : Nat} {f : Nat → Int64} (he : M a = some (.inl (G.2 2, n, .inr (.inl f)))) {i : Nat} {x : Int64} (hi : i < n) (hn : n < 2 ^ 31) (hdg : decode cc pc = .ok (.lastore, 1))
    (kk : ∀ (H1 : Heap) (locs1 : List Loc), mw_St G A s (va_up M a (some (.inl (G.2 2, n, .inr (.inl (vp_updL f i x)))))) H1 locs1 → W p l e R s m args below meth c H1 locs1 cells slots Q (F0 m (pc + 1) ls rest)) : W p l e R s m args below meth c H locs cells slots Q (F0 m pc ls (.long x :: .int (nI i) :: .ref a :: rest)) := by
  refine mw_last hexec hb hC hw he (vp_in_nI hi hn) hdg (fun H1 locs1 h1 => ?_)
  rw [nI_clamp (Nat.lt_trans hi hn)] at h1
  exact kk H1 locs1 h1
theorem mw_eastN (hexec : p.tables.exec = Jvm.exec) (hb : c.code = cc) (hC : mw_C G A s) (hw : mw_St G A s M H locs) {n : Nat} {f : Nat → Option Nat} (he : M a = some (.inl (G.2 4, n, .inr (.inr (.inr (.inr f)))))) {i : Nat} {x : Nat} {vs : List Value} (hv : M x = some (.inr (0, vs))) (hi : i < n) (hn : n < 2 ^ 31) (hdg : decode cc pc = .ok (.aastore, 1))
    (kk : ∀ (H1 : Heap) (locs1 : List Loc), mw_St G A s (va_up M a (some (.inl (G.2 4, n, .inr (.inr (.inr (.inr (va_up f i (some x))))))))) H1 locs1 → W p l e R s m args below meth c H1 locs1 cells slots Q (F0 m (pc + 1) ls rest)) : W p l e R s m args below meth c H locs cells slots Q (F0 m pc ls (.ref x :: .int (nI i) :: .ref a :: rest)) := by
  refine mw_east hexec hb hC hw he hv (vp_in_nI hi hn) hdg (fun H1 locs1 h1 => ?_)
  rw [nI_clamp (Nat.lt_trans hi hn)] at h1
  exact kk H1 locs1 h1
theorem mw_fastN (hexec : p.tables.exec = Jvm.exec) (hb : c.code = cc) (hC : mw_C G A s) (hw : mw_St G A s M H locs) {n : Nat} {f : Nat → Option Nat} (he : M a = some (.inl (G.2 5, n, .inr (.inr (.inr (.inr f)))))) {i : Nat} {x : Nat} {vs : List Value} (hv : M x = some (.inr (1, vs))) (hi : i < n) (hn : n < 2 ^ 31) (hdg : decode cc pc = .ok (.aastore, 1))
    (kk : ∀ (H1 : Heap) (locs1 : List Loc), mw_St G A s (va_up M a (some (.inl (G.2 5, n, .inr (.inr (.inr (.inr (va_up f i (some x))))))))) H1 locs1 → W p l e R s m args below meth c H1 locs1 cells slots Q (F0 m (pc + 1) ls rest)) : W p l e R s m args below meth c H locs cells slots Q (F0 m pc ls (.ref x :: .int (nI i) :: .ref a :: rest)) := by
  refine mw_fast hexec hb hC hw he hv (vp_in_nI hi hn) hdg (fun H1 locs1 h1 => ?_)
  rw [nI_clamp (Nat.lt_trans hi hn)] at h1
  exact kk H1 locs1 h1
end MWN
