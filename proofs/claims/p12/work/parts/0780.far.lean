/-! ===== p1: a fresh object ===== -/
def md_own (mh : Nat) (a : Nat → Nat) (z : Nat) : Prop := z = mh ∨ ∃ k, md_ok k = true ∧ z = a k
def md_far (x : va_E) : Bool := match x with
  | .inr z => decide (z.1 ≠ 7)
  | .inl z => decide (z.2.1 = 1 ∨ z.2.1 = 40 ∨ z.2.1 = 47 ∨ z.2.1 = 50 ∨ z.2.1 = 187 ∨ z.2.1 = 277 ∨ z.2.1 = 13600)
theorem md_len_far {k : Nat} (hk : md_ok k = true) : ¬ (md_len k = 1 ∨ md_len k = 40 ∨ md_len k = 47 ∨ md_len k = 50 ∨ md_len k = 187 ∨ md_len k = 277 ∨ md_len k = 13600) := by
  have h := md_all hk
  simp only [List.mem_cons, List.not_mem_nil, or_false] at h
  rcases h with h | h | h | h | h | h | h | h | h | h | h | h | h | h | h | h | h | h | h | h | h | h | h | h | h <;> (subst h; decide)
theorem md_far_ne {G : mw_G} {M : mw_M} {mh : Nat} {a : Nat → Nat} {c u : Nat} {A : md_S} (hm : md_at G M mh a c u A) {q : Nat} {x : va_E} (e : M q = some x) (hx : md_far x = true) {z : Nat} (hz : md_own mh a z) : z ≠ q := by
  intro hq
  subst hq
  rcases hz with h | ⟨k, hk, h⟩
  · subst h
    rw [hm.1] at e
    cases Option.some.inj e
    simp [md_far, md_obj] at hx
  · subst h
    rw [hm.2.1 k hk] at e
    cases Option.some.inj e
    exact md_len_far hk (of_decide_eq_true hx)
theorem md_at.eq {G : mw_G} {M M' : mw_M} {mh : Nat} {a : Nat → Nat} {c u : Nat} {A : md_S} (hm : md_at G M mh a c u A) (h : ∀ z, md_own mh a z → M' z = M z) : md_at G M' mh a c u A :=
  ⟨(h mh (Or.inl rfl)).trans hm.1, fun k hk => (h (a k) (Or.inr ⟨k, hk, rfl⟩)).trans (hm.2.1 k hk), hm.2.2⟩
theorem lw_ov (f : Nat → Int64) (v : Int64) : vp_updL f 0 v 0 = v := by simp [vp_updL]
abbrev A0 : md_S := md_bg (md_bg (fun _ _ => 0) 0) 1
theorem A0_at (k v : Nat) (h0 : A0 k 0 = v) (h1 : A0 k 1 = v) {ed : Nat} (hed : ed ≤ 1) : A0 k ed = v := by
  rcases (show ed = 0 ∨ ed = 1 by omega) with rfl | rfl
  · exact h0
  · exact h1
def fend (G : mw_G) (M : mw_M) (x ed : Nat) : Prop := ∃ (ea hu ub : Nat) (en : Nat → Option Nat) (xe li fa me la sa so ba sl y w x2 li2 fa2 me2 so2 : Nat) (fr : Nat → Option Nat), M x = some (.inr (6, [.ref (ea), .ref (hu)])) ∧ M ea = some (.inl (G.2 4, 2, .inr (.inr (.inr (.inr (en)))))) ∧ en ed = some xe ∧ en (1 - ed) = some x2 ∧ M xe = some (en_obj li me so) ∧ M li = some (.inr (2, [.ref (fa), .int (nI (0))])) ∧ M fa = some (.inl (G.2 5, 40, .inr (.inr (.inr (.inr (fr)))))) ∧ fr 0 = some y ∧ M y = some (.inr (1, [.ref (w), .int (nI (0))])) ∧ M w = some (.inl (G.2 2, 47, .inr (.inl (fun _ => 0)))) ∧ M me = some (.inr (3, [.ref (la), .ref (sa), .int (nI (0)), .int (nI (0)), .int (nI (0)), .int (nI (0))])) ∧ M la = some (.inl (G.2 1, 187, .inl (fun j => nI ((fun _ => 0) j)))) ∧ M sa = some (.inl (G.2 1, 187, .inl (fun j => nI ((fun _ => 0) j)))) ∧ la ≠ sa ∧ M so = some (.inr (4, [.ref (ba), .ref (sl), .int (nI (0))])) ∧ M hu = some (.inr (5, [.ref (ub), .int (nI (0))])) ∧ M ub = some (.inl (G.2 1, 277, .inl (fun j => nI ((fun _ => 0) j)))) ∧ M x2 = some (en_obj li2 me2 so2) ∧ M li2 = some (.inr (2, [.ref (fa2), .int (nI (0))]))
theorem i32_nI (p : Int32) (h : ¬ p < 0) : p = nI p.toNatClampNeg := by
  apply Int32.toInt_inj.mp
  have h1 : 0 ≤ p.toInt := by
    have := Int32.not_lt.mp h
    simpa [Int32.le_iff_toInt_le] using this
  have h2 : p.toInt < 2 ^ 31 := Int32.toInt_lt p
  show p.toInt = (Int32.ofNat p.toInt.toNat).toInt
  rw [Int32.toInt_ofNat_of_lt (by omega)]
  omega
theorem i32_rng (p : Int32) (n : Nat) (hn : n < 2 ^ 31) : (p < 0 ∨ nI n < p) ∨ ∃ k, k ≤ n ∧ p = nI k := by
  by_cases h0 : p < 0
  · exact Or.inl (Or.inl h0)
  · by_cases h1 : nI n < p
    · exact Or.inl (Or.inr h1)
    · have h2 := i32_nI p h0
      refine Or.inr ⟨p.toNatClampNeg, ?_, h2⟩
      have h3 := Int32.not_lt.mp h1
      rw [h2] at h3
      have h4 : p.toNatClampNeg < 2 ^ 31 := by
        have := Int32.toInt_lt p
        show p.toInt.toNat < 2 ^ 31
        omega
      exact (nI_leI (a := p.toNatClampNeg) (b := n) (by omega) (by omega)).mp h3
theorem i32_rng1 (p : Int32) (n : Nat) (hn : n < 2 ^ 31) : (p < nI 1 ∨ nI n < p) ∨ ∃ k, 1 ≤ k ∧ k ≤ n ∧ p = nI k := by
  rcases i32_rng p n hn with (h | h) | ⟨k, hk, e⟩
  · exact Or.inl (Or.inl (Int32.lt_trans h (by decide)))
  · exact Or.inl (Or.inr h)
  · by_cases h0 : k = 0
    · subst h0; exact Or.inl (Or.inl (by rw [e]; decide))
    · exact Or.inr ⟨k, by omega, hk, e⟩
theorem i32_neg (p : Int32) : p < 0 ∨ nI 0 ≤ p := by
  by_cases h : p < 0
  · exact Or.inl h
  · exact Or.inr (Int32.not_lt.mp h)
theorem i32_top {p : Int32} (h : p < 0 ∨ nI 2147483647 < p) : p < 0 := by
  rcases h with h | h
  · exact h
  · exfalso
    have h1 := Int32.toInt_lt p
    have h2 := Int32.lt_iff_toInt_lt.mp h
    have h3 : (nI 2147483647).toInt = 2147483647 := by decide
    omega
