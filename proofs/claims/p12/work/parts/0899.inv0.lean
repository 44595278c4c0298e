/-! ===== the invariant of a fresh object ===== -/
def kd (x : va_E) : Nat := match x with
  | .inr z => z.1
  | .inl z => 100 + z.2.1
def tg (r : Nat) : Nat := match r with
  | 0 => 6
  | 1 => 102
  | 2 => 5
  | 3 => 377
  | 4 => 0
  | 5 => 2
  | 6 => 140
  | 7 => 3
  | 8 => 287
  | 9 => 287
  | 10 => 4
  | 11 => 13700
  | 12 => 150
  | 13 => 1
  | _ => 147
set_option maxRecDepth 100000 in
theorem tg_inj : ∀ r, r < 15 → ∀ r', r' < 15 → tg r = tg r' → r = r' ∨ (r = 8 ∧ r' = 9) ∨ (r = 9 ∧ r' = 8) := by decide
def ad0 (x ea hu ub x0 x1 li0 fa0 me0 la0 sa0 so0 ba0 sl0 li1 fa1 me1 la1 sa1 so1 ba1 sl1 : Nat) (ya0 wa0 ya1 wa1 : Nat → Nat) (r e k : Nat) : Nat := match r with
  | 0 => x
  | 1 => ea
  | 2 => hu
  | 3 => ub
  | 4 => if e = 0 then x0 else x1
  | 5 => if e = 0 then li0 else li1
  | 6 => if e = 0 then fa0 else fa1
  | 7 => if e = 0 then me0 else me1
  | 8 => if e = 0 then la0 else la1
  | 9 => if e = 0 then sa0 else sa1
  | 10 => if e = 0 then so0 else so1
  | 11 => if e = 0 then ba0 else ba1
  | 12 => if e = 0 then sl0 else sl1
  | 13 => if e = 0 then ya0 k else ya1 k
  | _ => if e = 0 then wa0 k else wa1 k
def v0 (_ k : Nat) : Nat := if k = 0 ∨ k = 1 then 1 else if k = 2 ∨ k = 3 then 127 else 0
theorem A0_ar {k i : Nat} (h : k ∉ [1, 4, 5, 6, 7, 8, 9, 12, 16, 17, 18, 19, 20]) : A0 k i = 0 := by
  unfold A0
  rw [bg_o _ _ h, bg_o _ _ h]
set_option maxRecDepth 100000 in
theorem inv0 {G : mw_G} {M Mx Mb : mw_M} {x mh o ea hu ub x0 x1 : Nat} {en : Nat → Option Nat} {a : Nat → Nat} {li0 fa0 me0 la0 sa0 so0 ba0 sl0 li1 fa1 me1 la1 sa1 so1 ba1 sl1 : Nat} {fr0 fr1 : Nat → Option Nat} {ya0 wa0 ya1 wa1 : Nat → Nat} {ov : Nat → Int64}
    (f1 : M x = some (.inr (6, [.ref (ea), .ref (hu)]))) (f2 : M ea = some (.inl (G.2 4, 2, .inr (.inr (.inr (.inr en)))))) (f3 : en 0 = some x0) (f4 : en 1 = some x1) (f5 : x0 ≠ x1) (f6 : M x0 = some (en_obj li0 me0 so0)) (f7 : M x1 = some (en_obj li1 me1 so1)) (f8 : M hu = some (.inr (5, [.ref ub, .int (nI (0))]))) (f9 : M ub = some (.inl (G.2 1, 277, .inl (fun j => nI ((fun _ => 0) j)))))
    (n00 : en_new G Mx Mb li0 fa0 me0 la0 sa0 so0 ba0 sl0 fr0 ya0 wa0) (n0 : en_new G Mx M li0 fa0 me0 la0 sa0 so0 ba0 sl0 fr0 ya0 wa0) (n1 : en_new G Mb M li1 fa1 me1 la1 sa1 so1 ba1 sl1 fr1 ya1 wa1) (hmd : md_at G M mh a 0 0 A0) (eo : M o = some (.inl (G.2 2, 1, .inr (.inl (ov))))) : Inv G M x mh o a 0 := by
  obtain ⟨p1, p2, p3, p4, p5, p6, p7, p8, p9, p10⟩ := n00
  obtain ⟨q1, q2, q3, q4, q5, q6, q7, q8, q9, q10⟩ := n0
  obtain ⟨r1, r2, r3, r4, r5, r6, r7, r8, r9, r10⟩ := n1
  have hT : ∀ r e k, cw_ok r e k → M (ad0 x ea hu ub x0 x1 li0 fa0 me0 la0 sa0 so0 ba0 sl0 li1 fa1 me1 la1 sa1 so1 ba1 sl1 ya0 wa0 ya1 wa1 r e k) = some (cw_T G (ad0 x ea hu ub x0 x1 li0 fa0 me0 la0 sa0 so0 ba0 sl0 li1 fa1 me1 la1 sa1 so1 ba1 sl1 ya0 wa0 ya1 wa1) en v0 (fun _ _ => false) (fun _ _ _ => 0) (fun _ _ => 0) (fun _ _ _ => 0) (fun e => if e = 0 then fr0 else fr1) 0 (fun _ => 0) r e k) := by
    intro r e k hk
    have hk2 := hk
    unfold cw_ok at hk2
    rcases cw_rs hk with rfl | rfl | rfl | rfl | rfl | rfl | rfl | rfl | rfl | rfl | rfl | rfl | rfl | rfl | rfl
    · exact f1
    · exact f2
    · exact f8
    · exact f9
    · rcases (show e = 0 ∨ e = 1 by omega) with rfl | rfl
      · exact f6
      · exact f7
    · rcases (show e = 0 ∨ e = 1 by omega) with rfl | rfl
      · exact q1.1
      · exact r1.1
    · rcases (show e = 0 ∨ e = 1 by omega) with rfl | rfl
      · exact q2.1
      · exact r2.1
    · rcases (show e = 0 ∨ e = 1 by omega) with rfl | rfl
      · exact q4.1
      · exact r4.1
    · rcases (show e = 0 ∨ e = 1 by omega) with rfl | rfl
      · exact q5.1
      · exact r5.1
    · rcases (show e = 0 ∨ e = 1 by omega) with rfl | rfl
      · exact q6.1
      · exact r6.1
    · rcases (show e = 0 ∨ e = 1 by omega) with rfl | rfl
      · exact q8.1
      · exact r8.1
    · rcases (show e = 0 ∨ e = 1 by omega) with rfl | rfl
      · exact q9.1
      · exact r9.1
    · rcases (show e = 0 ∨ e = 1 by omega) with rfl | rfl
      · exact q10.1
      · exact r10.1
    · rcases (show e = 0 ∨ e = 1 by omega) with rfl | rfl
      · exact (q3.1 k (by omega)).2.1.1
      · exact (r3.1 k (by omega)).2.1.1
    · rcases (show e = 0 ∨ e = 1 by omega) with rfl | rfl
      · exact (q3.1 k (by omega)).2.2.1
      · exact (r3.1 k (by omega)).2.2.1
  have hK : ∀ r e k, cw_ok r e k → kd (cw_T G (ad0 x ea hu ub x0 x1 li0 fa0 me0 la0 sa0 so0 ba0 sl0 li1 fa1 me1 la1 sa1 so1 ba1 sl1 ya0 wa0 ya1 wa1) en v0 (fun _ _ => false) (fun _ _ _ => 0) (fun _ _ => 0) (fun _ _ _ => 0) (fun e => if e = 0 then fr0 else fr1) 0 (fun _ => 0) r e k) = tg r := by
    intro r e k hk
    rcases cw_rs hk with rfl | rfl | rfl | rfl | rfl | rfl | rfl | rfl | rfl | rfl | rfl | rfl | rfl | rfl | rfl <;> rfl
  have hB : ∀ r e k, cw_ok r e k → 5 ≤ r → (e = 0 → ∃ c, Mb (ad0 x ea hu ub x0 x1 li0 fa0 me0 la0 sa0 so0 ba0 sl0 li1 fa1 me1 la1 sa1 so1 ba1 sl1 ya0 wa0 ya1 wa1 r e k) = some c) ∧ (e = 1 → Mb (ad0 x ea hu ub x0 x1 li0 fa0 me0 la0 sa0 so0 ba0 sl0 li1 fa1 me1 la1 sa1 so1 ba1 sl1 ya0 wa0 ya1 wa1 r e k) = none) := by
    intro r e k hk h5
    have hk2 := hk
    unfold cw_ok at hk2
    refine ⟨fun he => ?_, fun he => ?_⟩
    · subst he
      rcases cw_rs hk with rfl | rfl | rfl | rfl | rfl | rfl | rfl | rfl | rfl | rfl | rfl | rfl | rfl | rfl | rfl
      all_goals first | (exfalso; omega) | exact ⟨_, p1.1⟩ | exact ⟨_, p2.1⟩ | exact ⟨_, p4.1⟩ | exact ⟨_, p5.1⟩ | exact ⟨_, p6.1⟩ | exact ⟨_, p8.1⟩ | exact ⟨_, p9.1⟩ | exact ⟨_, p10.1⟩ | exact ⟨_, (p3.1 k (by omega)).2.1.1⟩ | exact ⟨_, (p3.1 k (by omega)).2.2.1⟩
    · subst he
      rcases cw_rs hk with rfl | rfl | rfl | rfl | rfl | rfl | rfl | rfl | rfl | rfl | rfl | rfl | rfl | rfl | rfl
      all_goals first | (exfalso; omega) | exact r1.2 | exact r2.2 | exact r4.2 | exact r5.2 | exact r6.2 | exact r8.2 | exact r9.2 | exact r10.2 | exact (r3.1 k (by omega)).2.1.2 | exact (r3.1 k (by omega)).2.2.2
  refine ⟨0, 0, A0, _, en, v0, fun _ _ => false, fun _ _ _ => 0, fun _ _ => 0, fun _ _ _ => 0, fun e => if e = 0 then fr0 else fr1, 0, fun _ => 0, ov, ⟨hT, ?_, ?_, ?_⟩, rfl, hmd, eo, fun i _ => show 0 < 256 by decide, by decide, ⟨fun i _ => by rw [A0_ar (by decide)]; decide, fun j _ => by rw [A0_ar (by decide)]; decide, fun i _ => by rw [A0_ar (by decide)]; decide⟩, fun e he => ?_⟩
  · intro r e k r' e' k' hk hk' heq
    have c1 := hT r e k hk
    rw [heq, hT r' e' k' hk'] at c1
    have c2 := congrArg kd (Option.some.inj c1)
    rw [hK _ _ _ hk, hK _ _ _ hk'] at c2
    have hr := tg_inj r' (by unfold cw_ok at hk'; omega) r (by unfold cw_ok at hk; omega) c2
    have hk2 := hk
    have hk2' := hk'
    unfold cw_ok at hk2 hk2'
    have hee : r ≥ 5 → r' ≥ 5 → e = e' := by
      intro h5 h5'
      rcases (show (e = 0 ∨ e = 1) ∧ (e' = 0 ∨ e' = 1) by omega) with ⟨ha | ha, hb | hb⟩
      · omega
      · obtain ⟨c, hc⟩ := (hB r e k hk h5).1 ha
        have hn := (hB r' e' k' hk' h5').2 hb
        rw [heq, hn] at hc; cases hc
      · have hn := (hB r e k hk h5).2 ha
        obtain ⟨c, hc⟩ := (hB r' e' k' hk' h5').1 hb
        rw [← heq, hn] at hc; cases hc
      · omega
    rcases hr with h | ⟨h, h'⟩ | ⟨h, h'⟩
    · subst h
      refine ⟨rfl, ?_⟩
      by_cases h4 : r' ≤ 3
      · omega
      · by_cases h44 : r' = 4
        · subst h44
          refine ⟨?_, by omega⟩
          rcases (show (e = 0 ∨ e = 1) ∧ (e' = 0 ∨ e' = 1) by omega) with ⟨rfl | rfl, rfl | rfl⟩
          · rfl
          · exact absurd heq f5
          · exact absurd heq.symm f5
          · rfl
        · have he := hee (by omega) (by omega)
          subst he
          refine ⟨rfl, ?_⟩
          by_cases h13 : r' ≤ 12
          · omega
          · have hk40 : k < 40 ∧ k' < 40 := by omega
            have key : ∀ {y : Nat → Nat}, (∀ j k, j < k → k < 40 → y j ≠ y k) → y k = y k' → k = k' := by
              intro y hy h9
              rcases Nat.lt_trichotomy k k' with h | h | h
              · exact absurd h9 (hy _ _ h hk40.2)
              · exact h
              · exact absurd h9.symm (hy _ _ h hk40.1)
            rcases (show (r' = 13 ∨ r' = 14) ∧ (e = 0 ∨ e = 1) by omega) with ⟨rfl | rfl, rfl | rfl⟩
            · exact key (fun j k h1 h2 => (q3.2 j k h1 h2).1) heq
            · exact key (fun j k h1 h2 => (r3.2 j k h1 h2).1) heq
            · exact key (fun j k h1 h2 => (q3.2 j k h1 h2).2) heq
            · exact key (fun j k h1 h2 => (r3.2 j k h1 h2).2) heq
    · subst h; subst h'
      have he := hee (by omega) (by omega)
      subst he
      rcases (show e = 0 ∨ e = 1 by omega) with rfl | rfl
      · exact absurd heq.symm q7
      · exact absurd heq.symm r7
    · subst h; subst h'
      have he := hee (by omega) (by omega)
      subst he
      rcases (show e = 0 ∨ e = 1 by omega) with rfl | rfl
      · exact absurd heq q7
      · exact absurd heq r7
  · intro e he
    rcases (show e = 0 ∨ e = 1 by omega) with rfl | rfl
    · exact f3
    · exact f4
  · intro e k he hk
    rcases (show e = 0 ∨ e = 1 by omega) with rfl | rfl
    · exact (q3.1 k hk).1
    · exact (r3.1 k hk).1
  · have hz : ∀ k, A0 k e = md_bg (md_bg (fun _ _ => 0) 0) 1 k e := fun k => rfl
    refine ⟨⟨show 1 ≤ 1 by decide, show 1 ≤ 1 by decide, show 127 < 128 by decide, show 127 < 128 by decide, show 0 ≤ 64 by decide, fun _ => show 0 ≤ 63 by decide, show 0 ≤ 0 by decide, show 0 ≤ 40 by decide, show 0 < 187 by decide, show 0 ≤ 127 by decide, show 0 ≤ 0 by decide, show 0 ≤ 60 by decide, show 0 ≤ 0 by decide, fun _ => show 0 ≤ 272 by decide, fun _ => show 0 < 256 by decide, fun _ => show 0 < 256 by decide, fun _ _ => show 0 ≤ 272 by decide⟩, ⟨A0_at 4 1 rfl rfl he, A0_at 5 1 rfl rfl he, A0_at 6 127 rfl rfl he, A0_at 7 127 rfl rfl he, A0_at 17 0 rfl rfl he, A0_at 18 0 rfl rfl he, A0_at 20 0 rfl rfl he, by rw [A0_at 19 0 rfl rfl he]; rfl, by rw [A0_at 19 0 rfl rfl he]; decide⟩, ⟨show A0 8 e = (127 + 128 - 0) % 128 from A0_at 8 127 rfl rfl he, A0_at 9 0 rfl rfl he, A0_at 12 0 rfl rfl he, A0_at 16 0 rfl rfl he, fun j hj => absurd hj (Nat.not_lt_zero _), fun j hj => absurd hj (Nat.not_lt_zero _)⟩, ⟨A0_at 1 0 rfl rfl he, fun k hk => absurd hk (Nat.not_lt_zero _)⟩, ⟨A0_ar (by decide), fun r _ => A0_ar (by decide), fun r _ i hi => absurd hi (Nat.not_lt_zero _)⟩⟩
