/-! ===== constructors: what was there stays, what is new was free ===== -/
def mw_kp (M M' : mw_M) (h0 : Nat) : Prop := ∀ q x, M q = some x → q ≠ h0 → M' q = some x
def mw_nw (M M' : mw_M) (a : Nat) (c : va_E) : Prop := M' a = some c ∧ M a = none
def mw_kn (M0 Ma Mb : mw_M) : Prop := ∀ q x, Ma q = some x → M0 q = none → Mb q = some x
theorem mw_sn {M : mw_M} {a : Nat} {x : va_E} {P : Prop} (h : M a = some x) (hn : M a = none) : P := by rw [h] at hn; cases hn
theorem mw_nen {M : mw_M} {a b : Nat} {x : va_E} (h : M a = some x) (hn : M b = none) : a ≠ b := fun e => mw_sn (e ▸ h) hn
theorem mw_kp.rf {M : mw_M} {h0 : Nat} : mw_kp M M h0 := fun _ _ h _ => h
theorem mw_kp.self {M Mb : mw_M} {h0 : Nat} {c : Option va_E} (h : mw_kp M Mb h0) : mw_kp M (va_up Mb h0 c) h0 := fun q x hq hn => mw_u1 hn (h q x hq hn)
theorem mw_kp.new {M Mb : mw_M} {h0 a : Nat} {c : Option va_E} (h : mw_kp M Mb h0) (hn : Mb a = none) : mw_kp M (va_up Mb a c) h0 := fun q x hq hne => mw_u1 (mw_nen (h q x hq hne) hn) (h q x hq hne)
theorem mw_kp.fr {M Mb : mw_M} {h0 a : Nat} {c : Option va_E} (h : mw_kp M Mb h0) (hn : M a = none) : mw_kp M (va_up Mb a c) h0 := fun q x hq hne => mw_u1 (mw_nen hq hn) (h q x hq hne)
theorem mw_kp.dn {M Mb : mw_M} {h0 q : Nat} {y : va_E} (h : mw_kp M Mb h0) (e0 : Mb h0 = some y) (hn : Mb q = none) : M q = none := by
  cases hq : M q with
  | none => rfl
  | some x =>
    by_cases e : q = h0
    · rw [e] at hn; exact mw_sn e0 hn
    · exact mw_sn (h q x hq e) hn
theorem mw_kp.tr {M Mb M9 : mw_M} {h0 q : Nat} (h : mw_kp M Mb h0) (hq : M q = none) (h2 : mw_kp Mb M9 q) : mw_kp M M9 h0 := fun r x hr hne => h2 r x (h r x hr hne) (mw_nen hr hq)
theorem mw_kn.rf {M0 Ma : mw_M} : mw_kn M0 Ma Ma := fun _ _ h _ => h
theorem mw_kn.old {M0 Ma Mb : mw_M} {a : Nat} {y : va_E} {c : Option va_E} (h : mw_kn M0 Ma Mb) (ho : M0 a = some y) : mw_kn M0 Ma (va_up Mb a c) := fun q x hq hn => mw_u1 (Ne.symm (mw_nen ho hn)) (h q x hq hn)
theorem mw_kn.new {M0 Ma Mb : mw_M} {a : Nat} {c : Option va_E} (h : mw_kn M0 Ma Mb) (hn : Mb a = none) : mw_kn M0 Ma (va_up Mb a c) := fun q x hq hm => mw_u1 (mw_nen (h q x hq hm) hn) (h q x hq hm)
theorem mw_kn.far {M0 Ma Mb : mw_M} {a : Nat} {c : Option va_E} (h : mw_kn M0 Ma Mb) (hf : ∀ x, Ma a = some x → M0 a = none → False) : mw_kn M0 Ma (va_up Mb a c) := fun q x hq hm => mw_u1 (fun e => hf x (e ▸ hq) (e ▸ hm)) (h q x hq hm)
theorem mw_kn.tr {M0 Ma Mb M9 : mw_M} {q : Nat} (h : mw_kn M0 Ma Mb) (hf : ∀ x, Ma q = some x → M0 q = none → False) (h2 : mw_kp Mb M9 q) : mw_kn M0 Ma M9 := fun r x hr hm => h2 r x (h r x hr hm) (fun e => hf x (e ▸ hr) (e ▸ hm))
theorem mw_kn.nw {M0 Ma Mb M : mw_M} {a : Nat} {c : va_E} (h : mw_kn M0 Ma Mb) (hd : ∀ q, M0 q = none → M q = none) (e : mw_nw M0 Ma a c) : mw_nw M Mb a c := ⟨h a c e.1 e.2, hd a e.2⟩
/-- a line's frames, new and empty -/
def fr_new (G : mw_G) (M M1 : mw_M) (fr : Nat → Option Nat) (ya wa : Nat → Nat) (i : Nat) : Prop :=
  (∀ k, k < i → fr k = some (ya k) ∧ mw_nw M M1 (ya k) (.inr (1, [.ref (wa k), .int (nI (0))])) ∧ mw_nw M M1 (wa k) (.inl (G.2 2, 47, .inr (.inl (fun _ => 0))))) ∧ ∀ j k, j < k → k < i → ya j ≠ ya k ∧ wa j ≠ wa k
theorem fr_new.mono {G : mw_G} {M0 Ma Mb M : mw_M} {fr : Nat → Option Nat} {ya wa : Nat → Nat} {i : Nat} (h : fr_new G M0 Ma fr ya wa i) (hk : mw_kn M0 Ma Mb) (hd : ∀ q, M0 q = none → M q = none) : fr_new G M Mb fr ya wa i :=
  ⟨fun k hk2 => ⟨(h.1 k hk2).1, hk.nw hd (h.1 k hk2).2.1, hk.nw hd (h.1 k hk2).2.2⟩, h.2⟩
theorem fr_new.zero {G : mw_G} {M M1 : mw_M} {fr : Nat → Option Nat} {ya wa : Nat → Nat} : fr_new G M M1 fr ya wa 0 := ⟨fun k h => absurd h (Nat.not_lt_zero _), fun j k _ h => absurd h (Nat.not_lt_zero _)⟩
theorem fr_new.step {G : mw_G} {M M1 Mk : mw_M} {fr : Nat → Option Nat} {ya wa : Nat → Nat} {i fa q w : Nat} {g : Nat → Option Nat} (h : fr_new G M M1 fr ya wa i) (hfa : M1 fa = some (.inl (G.2 5, 40, .inr (.inr (.inr (.inr g)))))) (hk : mw_kp M1 Mk fa) (hq1 : M1 q = none) (hw1 : M1 w = none) (hq : mw_nw M Mk q (.inr (1, [.ref (w), .int (nI (0))]))) (hw : mw_nw M Mk w (.inl (G.2 2, 47, .inr (.inl (fun _ => 0))))) : fr_new G M Mk (va_up fr i (some q)) (va_up ya i q) (va_up wa i w) (i + 1) := by
  refine ⟨fun k hk2 => ?_, fun j k hjk hk2 => ?_⟩
  · by_cases e : k = i
    · rw [e, va_up_self, va_up_self, va_up_self]; exact ⟨rfl, hq, hw⟩
    · rw [va_up_ne _ _ e, va_up_ne _ _ e, va_up_ne _ _ e]
      obtain ⟨h1, h2, h3⟩ := h.1 k (by omega)
      exact ⟨h1, ⟨hk _ _ h2.1 (mw_ne h2.1 hfa (by intro h9; cases h9)), h2.2⟩, ⟨hk _ _ h3.1 (mw_ne h3.1 hfa (by simp)), h3.2⟩⟩
  · have hj : j ≠ i := by omega
    rw [va_up_ne _ _ hj, va_up_ne _ _ hj]
    by_cases e : k = i
    · rw [e, va_up_self, va_up_self]
      obtain ⟨h1, h2, h3⟩ := h.1 j (by omega)
      exact ⟨mw_nen h2.1 hq1, mw_nen h3.1 hw1⟩
    · rw [va_up_ne _ _ e, va_up_ne _ _ e]; exact h.2 j k hjk (by omega)
/-- what belongs to an end, new -/
def en_new (G : mw_G) (M M1 : mw_M) (li fa me la sa so ba sl : Nat) (fr : Nat → Option Nat) (ya wa : Nat → Nat) : Prop :=
  mw_nw M M1 li (.inr (2, [.ref fa, .int (nI (0))])) ∧ mw_nw M M1 fa (.inl (G.2 5, 40, .inr (.inr (.inr (.inr fr))))) ∧ fr_new G M M1 fr ya wa 40 ∧ mw_nw M M1 me (.inr (3, [.ref la, .ref sa, .int (nI (0)), .int (nI (0)), .int (nI (0)), .int (nI (0))])) ∧ mw_nw M M1 la (.inl (G.2 1, 187, .inl (fun j => nI ((fun _ => 0) j)))) ∧ mw_nw M M1 sa (.inl (G.2 1, 187, .inl (fun j => nI ((fun _ => 0) j)))) ∧ la ≠ sa ∧ mw_nw M M1 so (.inr (4, [.ref ba, .ref sl, .int (nI (0))])) ∧ mw_nw M M1 ba (.inl (G.2 0, 13600, .inl (fun j => sb_b ((fun _ => 0) j)))) ∧ mw_nw M M1 sl (.inl (G.2 1, 50, .inl (fun j => nI ((fun _ => 0) j))))
theorem en_new.mono {G : mw_G} {M0 Ma Mb M : mw_M} {li fa me la sa so ba sl : Nat} {fr : Nat → Option Nat} {ya wa : Nat → Nat} (h : en_new G M0 Ma li fa me la sa so ba sl fr ya wa) (hk : mw_kn M0 Ma Mb) (hd : ∀ q, M0 q = none → M q = none) : en_new G M Mb li fa me la sa so ba sl fr ya wa := by
  obtain ⟨h1, h2, h3, h4, h5, h6, h7, h8, h9, h10⟩ := h
  exact ⟨hk.nw hd h1, hk.nw hd h2, h3.mono hk hd, hk.nw hd h4, hk.nw hd h5, hk.nw hd h6, h7, hk.nw hd h8, hk.nw hd h9, hk.nw hd h10⟩
def en_obj (li me so : Nat) : va_E := .inr (0, [.ref (li), .ref (me), .ref (so), .int (nI (1)), .int (nI (1)), .int (nI (127)), .int (nI (127)), .int (nI (0)), .int (nI (0)), .int (nI (b2n false)), .int (nI (b2n false)), .int (nI (b2n false))])
/-- the reference's arrays, as far as they are made -/
def md_pt (G : mw_G) (M M1 : mw_M) (L : List (Nat × Nat)) : Prop := (∀ x ∈ L, mw_nw M M1 x.2 (md_arr G x.1 (fun _ => 0))) ∧ L.Pairwise (fun x y => x.2 ≠ y.2)
theorem md_pt.nil {G : mw_G} {M M1 : mw_M} : md_pt G M M1 [] := ⟨(fun x h => nomatch h), List.Pairwise.nil⟩
theorem md_step {P : Prop} {G : mw_G} {A : Nat → Prop} {s : State} {H : Heap} {locs : List Loc} {M M1 : mw_M} {h0 q : Nat} {L : List (Nat × Nat)} {y c1 : va_E} (k : Nat) (hk : mw_kp M M1 h0) (hp : md_pt G M M1 L) (e0 : M1 h0 = some y) (hy : ∃ z, y = .inr z) (hn : M1 q = none) (hw : mw_St G A s (va_up (va_up M1 q (some (md_arr G k (fun _ => 0)))) h0 (some c1)) H locs) (kk : ∀ M2, mw_kp M M2 h0 → md_pt G M M2 ((k, q) :: L) → M2 h0 = some c1 → mw_St G A s M2 H locs → P) : P := by
  obtain ⟨z, rfl⟩ := hy
  have hq0 : q ≠ h0 := Ne.symm (mw_nen e0 hn)
  refine kk _ (hk.new hn).self ⟨fun x hx => ?_, ?_⟩ mw_u0 hw
  · rcases List.mem_cons.mp hx with rfl | hx
    · exact ⟨mw_u1 hq0 mw_u0, hk.dn e0 hn⟩
    · have h := hp.1 x hx
      exact ⟨mw_u1 (mw_ne h.1 e0 (by intro h9; cases h9)) (mw_u1 (mw_nen h.1 hn) h.1), h.2⟩
  · exact List.Pairwise.cons (fun x hx => Ne.symm (mw_nen (hp.1 x hx).1 hn)) hp.2
theorem pw_inj {L : List (Nat × Nat)} (h : L.Pairwise (fun x y => x.2 ≠ y.2)) : ∀ x ∈ L, ∀ y ∈ L, x.2 = y.2 → x = y := by
  induction h with
  | nil => intro x hx; cases hx
  | cons hd _ ih =>
    intro x hx y hy e
    rcases List.mem_cons.mp hx with h1 | h1
    · rcases List.mem_cons.mp hy with h2 | h2
      · rw [h1, h2]
      · rw [h1] at e; exact absurd e (hd y h2)
    · rcases List.mem_cons.mp hy with h2 | h2
      · rw [h2] at e; exact absurd e.symm (hd x h1)
      · exact ih x h1 y h2 e
theorem md_mk {G : mw_G} {M M1 : mw_M} {h0 c u : Nat} {L : List (Nat × Nat)} {a : Nat → Nat} (hp : md_pt G M M1 L) (hL : ∀ k, md_ok k = true → (k, a k) ∈ L) (e0 : M1 h0 = some (md_obj a c u)) : md_at G M1 h0 a c u (fun _ _ => 0) ∧ ∀ k, md_ok k = true → M (a k) = none :=
  ⟨⟨e0, fun k hk => (hp.1 _ (hL k hk)).1, fun i j hi hj e => congrArg Prod.fst (pw_inj hp.2 _ (hL i hi) _ (hL j hj) e)⟩, fun k hk => (hp.1 _ (hL k hk)).2⟩
theorem md_kp {M M1 M2 : mw_M} {h0 : Nat} {a : Nat → Nat} (hk : mw_kp M M1 h0) (ha : ∀ k, md_ok k = true → M (a k) = none) (hf : md_fr h0 a M1 M2) : mw_kp M M2 h0 := fun q x hq hne => (hf q hne (fun k hk => mw_nen hq (ha k hk))).trans (hk q x hq hne)
def md_fn (L : List (Nat × Nat)) (k : Nat) : Nat := match L with
  | [] => 0
  | x :: L => if k = x.1 then x.2 else md_fn L k
theorem md_fn_mem {k : Nat} : ∀ {L : List (Nat × Nat)}, k ∈ L.map Prod.fst → (k, md_fn L k) ∈ L := by
  intro L
  induction L with
  | nil => intro h; cases h
  | cons x L ih =>
    intro h
    unfold md_fn
    by_cases e : k = x.1
    · rw [if_pos e, e]; exact List.mem_cons_self
    · rw [if_neg e]
      refine List.mem_cons_of_mem _ (ih ?_)
      rcases List.mem_cons.mp h with h | h
      · exact absurd h e
      · exact h
theorem md_all {k : Nat} (h : md_ok k = true) : k ∈ [26, 24, 23, 22, 21, 20, 19, 18, 17, 16, 15, 14, 13, 12, 11, 10, 9, 8, 7, 6, 5, 4, 3, 2, 1] := by
  simp [md_ok] at h
  simp
  omega
/-- an end as at first, in the reference -/
def md_bg (A : md_S) (ed : Nat) : md_S := md_u (md_u (md_u (md_u (md_u (md_u (md_u (md_u (md_u (md_u (md_u (md_u (md_u A 1 ed 0) 4 ed 1) 5 ed 1) 6 ed 127) 7 ed 127) 8 ed 127) 9 ed 0) 12 ed 0) 16 ed 0) 17 ed 0) 18 ed 0) 19 ed 0) 20 ed 0
