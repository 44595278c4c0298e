section
-- ===== PART A: goes FIRST, ahead of the names: the tables' words, and 'selects' of the private methods out of them =====
/-- a private method of a class that the tables say can be made, by its rows of tables_1 -/
def lw_okq (q : MethodName × Nat) : Prop := (q.1.cls ≠ "java/lang/invoke/MethodHandle" ∧ q.1.cls ≠ "java/lang/invoke/VarHandle") ∧ Cond.instantiable q.1.cls q.2 ∈ tables_1 ∧ Cond.privateMethod q.1 ∈ tables_1 ∧ Cond.instanceMethod q.1 ∈ tables_1
theorem lw_p0 : lw_okq (⟨"LinkPair", "endOf", "(I)LLinkPair$End;"⟩, 2) := ⟨⟨by decide +kernel, by decide +kernel⟩, List.mem_of_getElem? (i := 16) (by decide +kernel), List.mem_of_getElem? (i := 185) (by decide +kernel), List.mem_of_getElem? (i := 186) (by decide +kernel)⟩
theorem lw_p1 : lw_okq (⟨"java/lang/Throwable", "fillInStackTrace", "(I)Ljava/lang/Throwable;"⟩, 6) := ⟨⟨by decide +kernel, by decide +kernel⟩, List.mem_of_getElem? (i := 226) (by decide +kernel), List.mem_of_getElem? (i := 224) (by decide +kernel), List.mem_of_getElem? (i := 225) (by decide +kernel)⟩
theorem lw_p2 : lw_okq (⟨"LinkPair$End", "writeMessage", "(LLinkPair$Unit;I)V"⟩, 12) := ⟨⟨by decide +kernel, by decide +kernel⟩, List.mem_of_getElem? (i := 25) (by decide +kernel), List.mem_of_getElem? (i := 289) (by decide +kernel), List.mem_of_getElem? (i := 290) (by decide +kernel)⟩
theorem lw_p3 : lw_okq (⟨"LinkPair$End", "writeUnit", "(LLinkPair$Unit;III)V"⟩, 12) := ⟨⟨by decide +kernel, by decide +kernel⟩, List.mem_of_getElem? (i := 25) (by decide +kernel), List.mem_of_getElem? (i := 294) (by decide +kernel), List.mem_of_getElem? (i := 295) (by decide +kernel)⟩
theorem lw_p4 : lw_okq (⟨"LinkPair$Unit", "readBits", "(LLinkPair$Frame;)I"⟩, 2) := ⟨⟨by decide +kernel, by decide +kernel⟩, List.mem_of_getElem? (i := 156) (by decide +kernel), List.mem_of_getElem? (i := 389) (by decide +kernel), List.mem_of_getElem? (i := 390) (by decide +kernel)⟩
theorem lw_p5 : lw_okq (⟨"LinkPair$Unit", "writeBit", "(II)V"⟩, 2) := ⟨⟨by decide +kernel, by decide +kernel⟩, List.mem_of_getElem? (i := 156) (by decide +kernel), List.mem_of_getElem? (i := 394) (by decide +kernel), List.mem_of_getElem? (i := 395) (by decide +kernel)⟩
theorem lw_p6 : lw_okq (⟨"LinkPair$End", "isAbnormal", "(LLinkPair$Unit;)Z"⟩, 12) := ⟨⟨by decide +kernel, by decide +kernel⟩, List.mem_of_getElem? (i := 25) (by decide +kernel), List.mem_of_getElem? (i := 406) (by decide +kernel), List.mem_of_getElem? (i := 407) (by decide +kernel)⟩
theorem lw_p7 : lw_okq (⟨"LinkPair$End", "toldBy", "(LLinkPair$Unit;)I"⟩, 12) := ⟨⟨by decide +kernel, by decide +kernel⟩, List.mem_of_getElem? (i := 25) (by decide +kernel), List.mem_of_getElem? (i := 410) (by decide +kernel), List.mem_of_getElem? (i := 411) (by decide +kernel)⟩
theorem lw_p8 : lw_okq (⟨"LinkPair$End", "takeBackward", "(LLinkPair$Unit;)V"⟩, 12) := ⟨⟨by decide +kernel, by decide +kernel⟩, List.mem_of_getElem? (i := 25) (by decide +kernel), List.mem_of_getElem? (i := 418) (by decide +kernel), List.mem_of_getElem? (i := 419) (by decide +kernel)⟩
theorem lw_p9 : lw_okq (⟨"LinkPair$End", "takeForward", "(LLinkPair$Unit;)I"⟩, 12) := ⟨⟨by decide +kernel, by decide +kernel⟩, List.mem_of_getElem? (i := 25) (by decide +kernel), List.mem_of_getElem? (i := 431) (by decide +kernel), List.mem_of_getElem? (i := 432) (by decide +kernel)⟩
theorem lw_p10 : lw_okq (⟨"LinkPair", "frameOf", "(II)LLinkPair$Frame;"⟩, 2) := ⟨⟨by decide +kernel, by decide +kernel⟩, List.mem_of_getElem? (i := 16) (by decide +kernel), List.mem_of_getElem? (i := 460) (by decide +kernel), List.mem_of_getElem? (i := 461) (by decide +kernel)⟩
theorem lw_p11 : lw_okq (⟨"LinkPairModel", "begin", "(I)V"⟩, 27) := ⟨⟨by decide +kernel, by decide +kernel⟩, List.mem_of_getElem? (i := 539) (by decide +kernel), List.mem_of_getElem? (i := 546) (by decide +kernel), List.mem_of_getElem? (i := 547) (by decide +kernel)⟩
theorem lw_p12 : lw_okq (⟨"LinkPairModel", "refuses", "(I)Z"⟩, 27) := ⟨⟨by decide +kernel, by decide +kernel⟩, List.mem_of_getElem? (i := 539) (by decide +kernel), List.mem_of_getElem? (i := 641) (by decide +kernel), List.mem_of_getElem? (i := 642) (by decide +kernel)⟩
theorem lw_p13 : lw_okq (⟨"LinkPairModel", "frame", "(IIII)V"⟩, 27) := ⟨⟨by decide +kernel, by decide +kernel⟩, List.mem_of_getElem? (i := 539) (by decide +kernel), List.mem_of_getElem? (i := 662) (by decide +kernel), List.mem_of_getElem? (i := 663) (by decide +kernel)⟩
theorem lw_p14 : lw_okq (⟨"LinkPairModel", "unitCheck", "(I)I"⟩, 27) := ⟨⟨by decide +kernel, by decide +kernel⟩, List.mem_of_getElem? (i := 539) (by decide +kernel), List.mem_of_getElem? (i := 666) (by decide +kernel), List.mem_of_getElem? (i := 667) (by decide +kernel)⟩
theorem lw_p15 : lw_okq (⟨"LinkPairModel", "flag", "(I)V"⟩, 27) := ⟨⟨by decide +kernel, by decide +kernel⟩, List.mem_of_getElem? (i := 539) (by decide +kernel), List.mem_of_getElem? (i := 670) (by decide +kernel), List.mem_of_getElem? (i := 671) (by decide +kernel)⟩
def lw_privs_1 : List (MethodName × Nat) := [(⟨"LinkPair", "endOf", "(I)LLinkPair$End;"⟩, 2), (⟨"java/lang/Throwable", "fillInStackTrace", "(I)Ljava/lang/Throwable;"⟩, 6), (⟨"LinkPair$End", "writeMessage", "(LLinkPair$Unit;I)V"⟩, 12), (⟨"LinkPair$End", "writeUnit", "(LLinkPair$Unit;III)V"⟩, 12), (⟨"LinkPair$Unit", "readBits", "(LLinkPair$Frame;)I"⟩, 2), (⟨"LinkPair$Unit", "writeBit", "(II)V"⟩, 2), (⟨"LinkPair$End", "isAbnormal", "(LLinkPair$Unit;)Z"⟩, 12), (⟨"LinkPair$End", "toldBy", "(LLinkPair$Unit;)I"⟩, 12), (⟨"LinkPair$End", "takeBackward", "(LLinkPair$Unit;)V"⟩, 12), (⟨"LinkPair$End", "takeForward", "(LLinkPair$Unit;)I"⟩, 12), (⟨"LinkPair", "frameOf", "(II)LLinkPair$Frame;"⟩, 2), (⟨"LinkPairModel", "begin", "(I)V"⟩, 27), (⟨"LinkPairModel", "refuses", "(I)Z"⟩, 27), (⟨"LinkPairModel", "frame", "(IIII)V"⟩, 27), (⟨"LinkPairModel", "unitCheck", "(I)I"⟩, 27), (⟨"LinkPairModel", "flag", "(I)V"⟩, 27)]
theorem lw_r1 : ∀ q ∈ lw_privs_1, lw_okq q := List.forall_mem_cons.mpr ⟨lw_p0, List.forall_mem_cons.mpr ⟨lw_p1, List.forall_mem_cons.mpr ⟨lw_p2, List.forall_mem_cons.mpr ⟨lw_p3, List.forall_mem_cons.mpr ⟨lw_p4, List.forall_mem_cons.mpr ⟨lw_p5, List.forall_mem_cons.mpr ⟨lw_p6, List.forall_mem_cons.mpr ⟨lw_p7, List.forall_mem_cons.mpr ⟨lw_p8, List.forall_mem_cons.mpr ⟨lw_p9, List.forall_mem_cons.mpr ⟨lw_p10, List.forall_mem_cons.mpr ⟨lw_p11, List.forall_mem_cons.mpr ⟨lw_p12, List.forall_mem_cons.mpr ⟨lw_p13, List.forall_mem_cons.mpr ⟨lw_p14, List.forall_mem_cons.mpr ⟨lw_p15, fun _ h => absurd h List.not_mem_nil⟩⟩⟩⟩⟩⟩⟩⟩⟩⟩⟩⟩⟩⟩⟩⟩
theorem lw_p16 : lw_okq (⟨"LinkPairModel", "bit", "(II)V"⟩, 27) := ⟨⟨by decide +kernel, by decide +kernel⟩, List.mem_of_getElem? (i := 539) (by decide +kernel), List.mem_of_getElem? (i := 674) (by decide +kernel), List.mem_of_getElem? (i := 675) (by decide +kernel)⟩
theorem lw_p17 : lw_okq (⟨"LinkPairModel", "fault", "(I)I"⟩, 27) := ⟨⟨by decide +kernel, by decide +kernel⟩, List.mem_of_getElem? (i := 539) (by decide +kernel), List.mem_of_getElem? (i := 682) (by decide +kernel), List.mem_of_getElem? (i := 683) (by decide +kernel)⟩
theorem lw_p18 : lw_okq (⟨"LinkPairModel", "isFlag", "(I)I"⟩, 27) := ⟨⟨by decide +kernel, by decide +kernel⟩, List.mem_of_getElem? (i := 539) (by decide +kernel), List.mem_of_getElem? (i := 686) (by decide +kernel), List.mem_of_getElem? (i := 687) (by decide +kernel)⟩
theorem lw_p19 : lw_okq (⟨"LinkPairModel", "goes", "(II)V"⟩, 27) := ⟨⟨by decide +kernel, by decide +kernel⟩, List.mem_of_getElem? (i := 539) (by decide +kernel), List.mem_of_getElem? (i := 690) (by decide +kernel), List.mem_of_getElem? (i := 691) (by decide +kernel)⟩
theorem lw_p20 : lw_okq (⟨"LinkPairModel", "forwards", "(I)I"⟩, 27) := ⟨⟨by decide +kernel, by decide +kernel⟩, List.mem_of_getElem? (i := 539) (by decide +kernel), List.mem_of_getElem? (i := 694) (by decide +kernel), List.mem_of_getElem? (i := 695) (by decide +kernel)⟩
theorem lw_p21 : lw_okq (⟨"LinkPairModel", "isFrame", "(II)Z"⟩, 27) := ⟨⟨by decide +kernel, by decide +kernel⟩, List.mem_of_getElem? (i := 539) (by decide +kernel), List.mem_of_getElem? (i := 702) (by decide +kernel), List.mem_of_getElem? (i := 703) (by decide +kernel)⟩
def lw_privs_2 : List (MethodName × Nat) := [(⟨"LinkPairModel", "bit", "(II)V"⟩, 27), (⟨"LinkPairModel", "fault", "(I)I"⟩, 27), (⟨"LinkPairModel", "isFlag", "(I)I"⟩, 27), (⟨"LinkPairModel", "goes", "(II)V"⟩, 27), (⟨"LinkPairModel", "forwards", "(I)I"⟩, 27), (⟨"LinkPairModel", "isFrame", "(II)Z"⟩, 27)]
theorem lw_r2 : ∀ q ∈ lw_privs_2, lw_okq q := List.forall_mem_cons.mpr ⟨lw_p16, List.forall_mem_cons.mpr ⟨lw_p17, List.forall_mem_cons.mpr ⟨lw_p18, List.forall_mem_cons.mpr ⟨lw_p19, List.forall_mem_cons.mpr ⟨lw_p20, List.forall_mem_cons.mpr ⟨lw_p21, fun _ h => absurd h List.not_mem_nil⟩⟩⟩⟩⟩⟩
def lw_privs : List (MethodName × Nat) := lw_privs_1 ++ (lw_privs_2)
def lw_tbl : List Cond := k2_sels lw_privs ++ tables_1
theorem lw_privs_ok : ∀ q ∈ lw_privs, lw_okq q := by
  show ∀ q ∈ lw_privs_1 ++ (lw_privs_2), lw_okq q
  exact List.forall_mem_append.mpr ⟨lw_r1, lw_r2⟩
end
section
/-! ===== BEGIN words of one list among another's, by their places ===== -/
theorem goodIn_r {big : List Cond} (ws : List Cond) (ps : List Nat) (hp : ws = ps.filterMap (fun i => big[i]?)) (h : ws.all goodWord = true) : GoodIn big ws := by
  intro w hw
  have h1 := List.all_eq_true.mp h w hw
  rw [hp] at hw
  obtain ⟨i, -, hi⟩ := List.mem_filterMap.mp hw
  have hm : w ∈ big := by first | exact List.mem_of_getElem? hi | exact List.getElem?_mem hi
  exact ⟨hm, good_of_word h1⟩
theorem goodIn_app {big a b : List Cond} (ha : GoodIn big a) (hb : GoodIn big b) : GoodIn big (a ++ b) := fun w h => (List.mem_append.mp h).elim (ha w) (hb w)
theorem goodIn_ca {big a b : List Cond} {c : Cond} (ha : GoodIn big (c :: a)) (hb : GoodIn big b) : GoodIn big (c :: (a ++ b)) := fun w h => (List.mem_cons.mp h).elim (fun e => ha w (List.mem_cons.mpr (Or.inl e))) (fun h => (List.mem_append.mp h).elim (fun h => ha w (List.mem_cons.mpr (Or.inr h))) (hb w))
theorem goodIn_sub {big ws : List Cond} (hm : ∀ w ∈ ws, w ∈ big) (h : ws.all goodWord = true) : GoodIn big ws := fun w hw => ⟨hm w hw, good_of_word (List.all_eq_true.mp h w hw)⟩
/-! ===== END ===== -/

/-! ===== BEGIN exceptions that leave a method, and their catching by the caller (launches without stack traces) ===== -/
section VXA
/-! The laws vx_back, vx_callV, vx_callS, vx_callSW, vx_throw0, vx_throwS follow proofs of the library, with one case more: JvmDerived/Free/Laws.lean (Back.of_free), Shelf42/LK1.lean (callV, callS), Shelf/KitTraced.lean (throwNew0V, throwNewS). -/
/-- where a method has thrown q: the class by its name, the cell, what was written, the world -/
def vx_T (XC : String → State → State → Prop) (st : State) (q : Addr) (t : State) (mc ms : Nat) (free : Addr → Prop) : Prop :=
  ∃ (E : String) (ce : Cell) (L : List Loc), XC E st t ∧ t.heap[q]? = some ce ∧ ce.vm = .none ∧ st.vm.findClass E = some ce.cls ∧ st.WarmedH t.vm ∧ st.sameButNew ({ t with vm := st.vm } : State) L mc ms ∧ ∀ z ∈ L, free z.base
def vx_Q (Qc : Array Value → State → Outcome → State → Prop) (XC : String → State → State → Prop) (mc ms : Nat) (free : Addr → Prop) : Array Value → State → Outcome → State → Prop := fun a st o t =>
  (Qc a st o t ∧ ∃ L, FrameEnd st o t L mc ms ∧ ∀ q ∈ L, free q.base) ∨ ∃ q, o = .threw q ∧ vx_T XC st q t mc ms free
/-- a callee that returns or throws -/
def vx_Met (l : Launch) (y : MethodName) (ws : List Cond) (rm : Room) (Pc : Array Value → State → Prop) (Qc : Array Value → State → Outcome → State → Prop) (XC : String → State → State → Prop) (mc ms : Nat) (free : Addr → Prop) : Prop :=
  MetFree l y (headSpec ws rm) Pc (fun _ _ _ _ _ => True) (vx_Q Qc XC mc ms free)
def vx_Post (XC : String → State → State → Prop) (mc ms : Nat) (free : Addr → Prop) : Pt → Array Value → Addr → Pt → Prop := fun A a q B =>
  ∃ (g : JFrame) (mk : MethodId) (t : State) (L : List Loc) (E : String) (ce : Cell), B.U.heap = t.heap ∧ B.U.vm = t.vm ∧ XC E (A.U.calling g mk a) t ∧ t.heap[q]? = some ce ∧ ce.vm = .none ∧ A.U.vm.findClass E = some ce.cls ∧ B.locs = A.locs ++ L ∧ (∀ z ∈ L, free z.base) ∧ B.cells = A.cells + mc ∧ B.slots = A.slots + ms
def vx_Back (l : Launch) (R : Room) (p : Program) (e : Env) (below : List Frame) (s : State) (sargs : Array Value) (y : MethodName) (len W9 : Nat)
    (Pre : Pt → Array Value → Prop) (Post : Pt → Array Value → Option Value → Pt → Prop) (PostX : Pt → Array Value → Addr → Pt → Prop) : Prop :=
  ∀ (m : MethodId) (meth : Method) (c : Code) (A : Pt) (g : JFrame) (ig : Instr) (mk : MethodId) (a : Array Value),
    Stand p l e R s m sargs below meth c A.U A.locs A.cells A.slots → g.method = m → g.locals.size = c.maxLocals → decode c.code g.pc = .ok (ig, len) →
    2 * g.monitorRoom + (g.stack.map fun v => v.category).sum ≤ W9 → A.U.methodNamed? y = some mk → Pre A a →
    (∃ (v : Option Value) (B : Pt), Stand p l e R s m sargs below meth c B.U B.locs B.cells B.slots ∧ Post A a v B ∧
      Steps p.tables e below (doInvoke e (A.U.setTop g) [] mk a).1 (B.U.setTop { g with pc := g.pc + len, stack := v.toList ++ g.stack })) ∨
    (∃ (q : Addr) (B : Pt), Stand p l e R s m sargs below meth c B.U B.locs B.cells B.slots ∧ PostX A a q B ∧
      Steps p.tables e below (doInvoke e (A.U.setTop g) [] mk a).1 ((B.U.setTop g).pushFrame (.throwing q)))
section Payer
variable {l : Launch} {R : Room} {p : Program} {e : Env} {below : List Frame} {s : State} {sargs : Array Value} {y : MethodName} {len W9 : Nat}
theorem vx_back {ws : List Cond} {rm : Room} {Pc : Array Value → State → Prop} {Qc : Array Value → State → Outcome → State → Prop} {XC : String → State → State → Prop} {mc ms : Nat} {free : Addr → Prop} {bytes : ByteArray} {maxL : Nat} {ret : Option FieldType}
    (hM : vx_Met l y ws rm Pc Qc XC mc ms free) (hblind : FrameBlind Pc) (hrc : rm.cells = mc) (hrs : rm.slots = ms)
    (hframes : rm.frames + 1 ≤ R.frames) (hlocals : W9 + (maxL + 11) + rm.locals ≤ R.locals)
    (hws : ∀ w ∈ ws, ∀ a' U, s.WarmedH U.vm → w.before a' U = true) (hcode : Cond.code y bytes maxL ret ∈ ws) (hinit : ∀ a' U, s.WarmedH U.vm → (Cond.initialized y.cls).before a' U = true) :
    vx_Back l R p e below s sargs y len W9 (PreOf R mc ms Pc) (PostOf Qc mc ms free) (vx_Post XC mc ms free) := by
  intro m meth c A g ig mk a X hg hsize hdg hW hn hp
  have h1 : (headSpec ws rm).pre.before a A.U = true := atoms_intro fun w hw => hws w hw _ _ X.warmed
  have h2 : (Cond.code y bytes maxL ret).before a A.U = true := hws _ hcode _ _ X.warmed
  have h3 : (Cond.initialized y.cls).before a A.U = true := hinit _ _ X.warmed
  have h4 : A.cells + (headSpec ws rm).room.cells ≤ R.cells := by rw [show (headSpec ws rm).room.cells = mc from hrc]; exact hp.1
  have h5 : A.slots + (headSpec ws rm).room.slots ≤ R.slots := by rw [show (headSpec ws rm).room.slots = ms from hrs]; exact hp.2.1
  have hPc : Pc a (A.U.calling g mk a) := hblind _ _ _ _ hp.2.2
  obtain ⟨U, Ls, c0, s0⟩ := A
  dsimp only [Pt.U, Pt.locs, Pt.cells, Pt.slots] at h1 h2 h3 h4 h5 X hn hPc ⊢
  obtain ⟨methY, cY, hmY, hcY, -, hlY, -, -, -, -⟩ := Cond.code_spec hn h2
  obtain ⟨kY, hkY, -⟩ := className_of_methodNamed hn
  have hinitY : kY.init = .initialized := Cond.initialized_spec (findClass_of_methodNamed hn) hkY h3
  have h : At U g.method c below := by rw [hg]; exact X.here
  have hlocals9 : W9 + (maxL + 11) + (headSpec ws rm).room.locals ≤ R.locals := hlocals
  have happ : (headSpec ws rm).appliesLoose y e.platform (U.calling g mk a) = true :=
    Spec.appliesLoose_calling (g := g) h hdg hn hkY hinitY
      (X.room_calling (g := g) (R' := (headSpec ws rm).room) hsize hmY hcY hframes (by rw [hlY]; omega) h4 h5) h1
  obtain ⟨mid, hmid⟩ := h.above
  have hfr : (U.setTop g).frames = (.java g :: mid) ++ below := by rw [State.frames_setTop' g h.top, hmid]; rfl
  obtain ⟨o, s₂, hsteps, -, hend, hq⟩ := Steps.callFree hM p X.admits X.cas X.clock (acts := []) hfr happ hPc trivial
  have hq' : vx_Q Qc XC mc ms free a (U.calling g mk a) o s₂ := hq
  rw [State.frames_setTop' g h.top] at hend
  obtain ⟨g₀, hg0⟩ := Option.isSome_iff_exists.mp h.top
  obtain ⟨r, hr⟩ := State.topJava?_eq_some.mp hg0
  have hr' : (({ U with heap := s₂.heap, slotsUsed := s₂.slotsUsed } : State).setVm s₂.vm).frames = .java g₀ :: r := hr
  rcases hq' with ⟨hqc, L, hfe, hL⟩ | ⟨q, rfl, E, ce, L, hx, hce, hcv, hcl, hW₂, hsm, hL⟩
  · obtain ⟨⟨v, rfl⟩, hW₂, e2, q2, q3, q4, q5, q6⟩ := id hfe
    have e3 : s₂ = ({ (U.calling g mk a).setFrames s₂.frames with heap := s₂.heap, slotsUsed := s₂.slotsUsed } : State).setVm s₂.vm := by
      have : s₂ = ({ s₂ with vm := (U.calling g mk a).vm } : State).setVm s₂.vm := rfl
      rw [e2] at this
      exact this
    obtain ⟨c₂, i₂, len₂, hc₂, hd₂, hf₂⟩ := hend
    have hW' : U.WarmedH s₂.vm := hW₂
    have hcc : c₂ = c := by
      have h1 : s₂.code? g.method = U.code? g.method := by
        rw [State.code?_eq, State.code?_eq, hW'.alike.method?]
      exact Option.some.inj (hc₂.symm.trans (h1.trans h.code))
    subst hcc
    have hlen : len₂ = len := by rw [hdg] at hd₂; cases hd₂; rfl
    subst hlen
    have hs₂ : s₂ = (({ U with heap := s₂.heap, slotsUsed := s₂.slotsUsed } : State).setVm s₂.vm).setTop { g with pc := g.pc + len₂, stack := v.toList ++ g.stack } := by
      refine e3.trans ?_
      rw [hf₂, State.calling_eq h.top, State.setFrames_setFrames, State.setTop_of_frames _ hr', hr]
      rfl
    have hsame : U.sameButNew ({ U with heap := s₂.heap, slotsUsed := s₂.slotsUsed } : State) L mc ms := by
      refine ⟨?_, q2, q3, q4, q5, q6⟩
      obtain ⟨t, ht, -⟩ := State.frames_cons hr
      show ({ U with heap := s₂.heap, slotsUsed := s₂.slotsUsed } : State) = { U.setFrames U.frames with heap := s₂.heap, slotsUsed := s₂.slotsUsed }
      rw [State.setFrames_self ht]
    subst hg
    refine Or.inl ⟨v, ⟨(({ U with heap := s₂.heap, slotsUsed := s₂.slotsUsed } : State).setVm s₂.vm), Ls ++ L, c0 + mc, s0 + ms⟩,
      ⟨X.admits, X.cas, X.clock, X.frames, X.room, X.hears, X.method, X.code, (X.here.setHeapUsed s₂.heap s₂.slotsUsed).setVm hW'.alike, X.tail, State.WarmedH.trans X.warmed hW', X.limits, X.bytes, X.same.trans (hsame.setVm s.vm)⟩,
      ⟨g, mk, s₂, L, rfl, rfl, hqc, rfl, hL, rfl, rfl⟩, ?_⟩
    show Steps p.tables e below _ ((({ U with heap := s₂.heap, slotsUsed := s₂.slotsUsed } : State).setVm s₂.vm).setTop { g with pc := g.pc + len₂, stack := v.toList ++ g.stack })
    rw [← hs₂]
    exact hsteps
  · obtain ⟨e2, q2, q3, q4, q5, q6⟩ := id hsm
    have e3 : s₂ = ({ (U.calling g mk a).setFrames s₂.frames with heap := s₂.heap, slotsUsed := s₂.slotsUsed } : State).setVm s₂.vm := by
      have : s₂ = ({ s₂ with vm := (U.calling g mk a).vm } : State).setVm s₂.vm := rfl
      rw [e2] at this
      exact this
    have hf₂ : s₂.frames = .throwing q :: .java g :: U.frames.tail := hend
    have hW' : U.WarmedH s₂.vm := hW₂
    have hs₂ : s₂ = ((({ U with heap := s₂.heap, slotsUsed := s₂.slotsUsed } : State).setVm s₂.vm).setTop g).pushFrame (.throwing q) := by
      refine e3.trans ?_
      rw [hf₂, State.calling_eq h.top, State.setFrames_setFrames, State.pushFrame, State.frames_setTop _ hr', State.setTop_of_frames _ hr', State.setFrames_setFrames, hr]
      rfl
    have hsame : U.sameButNew ({ U with heap := s₂.heap, slotsUsed := s₂.slotsUsed } : State) L mc ms := by
      refine ⟨?_, q2, q3, q4, q5, q6⟩
      obtain ⟨t, ht, -⟩ := State.frames_cons hr
      show ({ U with heap := s₂.heap, slotsUsed := s₂.slotsUsed } : State) = { U.setFrames U.frames with heap := s₂.heap, slotsUsed := s₂.slotsUsed }
      rw [State.setFrames_self ht]
    subst hg
    refine Or.inr ⟨q, ⟨(({ U with heap := s₂.heap, slotsUsed := s₂.slotsUsed } : State).setVm s₂.vm), Ls ++ L, c0 + mc, s0 + ms⟩,
      ⟨X.admits, X.cas, X.clock, X.frames, X.room, X.hears, X.method, X.code, (X.here.setHeapUsed s₂.heap s₂.slotsUsed).setVm hW'.alike, X.tail, State.WarmedH.trans X.warmed hW', X.limits, X.bytes, X.same.trans (hsame.setVm s.vm)⟩,
      ⟨g, mk, s₂, L, E, ce, rfl, rfl, hx, hce, hcv, hcl, rfl, hL, rfl, rfl⟩, ?_⟩
    show Steps p.tables e below _ (((({ U with heap := s₂.heap, slotsUsed := s₂.slotsUsed } : State).setVm s₂.vm).setTop g).pushFrame (.throwing q))
    rw [← hs₂]
    exact hsteps
end Payer
section Calls
variable {p : Program} {l : Launch} {e : Env} {R : Room} {s : State} {m : MethodId} {args : Array Value} {below : List Frame} {meth : Method} {c : Code} {T : State} {locs : List Loc} {cells slots : Nat}
theorem vx_callV (X : Stand p l e R s m args below meth c T locs cells slots) (hexec : p.tables.exec = Jvm.exec) {own C : String} {index : Nat} {y : MethodName} {bytes : ByteArray} {maxL : Nat} {ret : Option FieldType}
    (hown : s.vm.findClass own = some m.cls) (hlink : (Cond.methodLink own index y).before args s = true) (hinst : (Cond.instanceMethod y).before args s = true) (hsel : (Cond.selects C y y).before args s = true)
    (hcode : (Cond.code y bytes maxL ret).before args s = true) (hy : y.cls ≠ "java/lang/invoke/MethodHandle" ∧ y.cls ≠ "java/lang/invoke/VarHandle")
    {W9 : Nat} {Pre : Pt → Array Value → Prop} {Post : Pt → Array Value → Option Value → Pt → Prop} {PostX : Pt → Array Value → Addr → Pt → Prop} (hK : vx_Back l R p e below s args y 3 W9 Pre Post PostX)
    {b : Addr} {cellB : Cell} (hcell : T.heap[b]? = some cellB) (hobj : cellB.vm.isStatics = false) (hcls : s.vm.findClass C = some cellB.cls)
    {g : JFrame} (hg : g.method = m) (hsize : g.locals.size = c.maxLocals) {argsL rest : List Value} (hlen : ∀ sig, parseMethodDescriptor y.desc = some sig → argsL.length = sig.parameters.length)
    (hstack : g.stack = argsL.reverse ++ .ref b :: rest) (hW : 2 * g.monitorRoom + (rest.map fun v => v.category).sum ≤ W9) (hdg : decode c.code g.pc = .ok (.invokevirtual index, 3))
    (hpre : ∀ vm₁, s.WarmedH vm₁ → Pre ⟨T.setVm vm₁, locs, cells, slots⟩ (Value.ref b :: argsL).toArray) :
    (∃ (v : Option Value) (vm₁ : Vm) (B : Pt), s.WarmedH vm₁ ∧ Stand p l e R s m args below meth c B.U B.locs B.cells B.slots ∧ Post ⟨T.setVm vm₁, locs, cells, slots⟩ (Value.ref b :: argsL).toArray v B ∧
      ∀ target, Steps p.tables e below (B.U.setTop { g with pc := g.pc + 3, stack := v.toList ++ rest }) target → Steps p.tables e below (T.setTop g) target) ∨
    (∃ (q : Addr) (vm₁ : Vm) (B : Pt), s.WarmedH vm₁ ∧ Stand p l e R s m args below meth c B.U B.locs B.cells B.slots ∧ PostX ⟨T.setVm vm₁, locs, cells, slots⟩ (Value.ref b :: argsL).toArray q B ∧
      Steps p.tables e below (T.setTop g) ((B.U.setTop { g with stack := rest }).pushFrame (.throwing q))) := by
  obtain ⟨mk, methM, hnamed, hmethM, hstM, habM⟩ := Cond.instanceMethod_spec hinst
  obtain ⟨methM', cM, hmethM', -, -, -, -, -, -, hsigM⟩ := Cond.code_spec hnamed hcode
  cases hmethM.symm.trans hmethM'
  obtain ⟨c2, r2, m2, q1, q2, q3, q4, kP, hkP, hkPi⟩ := Cond.selects_spec hsel
  cases hcls.symm.trans q1
  cases (State.methodFound?_of_named hnamed hy).symm.trans q2
  cases hnamed.symm.trans q3
  have hselP : selectMethod e.platform s.vm cellB.cls mk = .method mk := by rw [Launch.admits_selectMethod X.admits]; exact q4
  obtain ⟨vm₁, X₁, hstep₁⟩ := X.invokevirtual hexec hown hlink hnamed hmethM hstM hkP hkPi hy (a := b) (cell := cellB) hcell
    (fun z h => by rw [h] at hobj; cases hobj) hselP hmethM habM hkP hkPi (g := g) hg (argsL := argsL) (rest := rest) (hlen _ hsigM) hstack hdg
  rcases hK m meth c ⟨T.setVm vm₁, locs, cells, slots⟩ { g with stack := rest } (.invokevirtual index) mk (Value.ref b :: argsL).toArray X₁ hg hsize hdg hW (X₁.named hnamed) (hpre vm₁ X₁.warmed) with ⟨v, B, X', hpost, hsteps⟩ | ⟨q, B, X', hpost, hsteps⟩
  · exact Or.inl ⟨v, vm₁, B, X₁.warmed, X', hpost, fun target h => hstep₁ _ fun acts => by rw [doInvoke_state]; exact hsteps.trans h⟩
  · exact Or.inr ⟨q, vm₁, B, X₁.warmed, X', hpost, hstep₁ _ fun acts => by rw [doInvoke_state]; exact hsteps⟩
theorem vx_callS (X : Stand p l e R s m args below meth c T locs cells slots) (hexec : p.tables.exec = Jvm.exec) {own : String} {index : Nat} {y : MethodName} {bytes : ByteArray} {maxL : Nat} {ret : Option FieldType}
    (hown : s.vm.findClass own = some m.cls) (hlink : (Cond.methodLink own index y).before args s = true) (hstat : (Cond.static y).before args s = true) (hinit : (Cond.initialized y.cls).before args s = true)
    (hcode : (Cond.code y bytes maxL ret).before args s = true) (hy : y.cls ≠ "java/lang/invoke/MethodHandle" ∧ y.cls ≠ "java/lang/invoke/VarHandle")
    {W9 : Nat} {Pre : Pt → Array Value → Prop} {Post : Pt → Array Value → Option Value → Pt → Prop} {PostX : Pt → Array Value → Addr → Pt → Prop} (hK : vx_Back l R p e below s args y 3 W9 Pre Post PostX)
    {g : JFrame} (hg : g.method = m) (hsize : g.locals.size = c.maxLocals) {argsL rest : List Value} (hlen : ∀ sig, parseMethodDescriptor y.desc = some sig → argsL.length = sig.parameters.length)
    (hstack : g.stack = argsL.reverse ++ rest) (hW : 2 * g.monitorRoom + (rest.map fun v => v.category).sum ≤ W9) (hdg : decode c.code g.pc = .ok (.invokestatic index, 3))
    (hpre : ∀ vm₁, s.WarmedH vm₁ → Pre ⟨T.setVm vm₁, locs, cells, slots⟩ argsL.toArray) :
    (∃ (v : Option Value) (vm₁ : Vm) (B : Pt), s.WarmedH vm₁ ∧ Stand p l e R s m args below meth c B.U B.locs B.cells B.slots ∧ Post ⟨T.setVm vm₁, locs, cells, slots⟩ argsL.toArray v B ∧
      ∀ target, Steps p.tables e below (B.U.setTop { g with pc := g.pc + 3, stack := v.toList ++ rest }) target → Steps p.tables e below (T.setTop g) target) ∨
    (∃ (q : Addr) (vm₁ : Vm) (B : Pt), s.WarmedH vm₁ ∧ Stand p l e R s m args below meth c B.U B.locs B.cells B.slots ∧ PostX ⟨T.setVm vm₁, locs, cells, slots⟩ argsL.toArray q B ∧
      Steps p.tables e below (T.setTop g) ((B.U.setTop { g with stack := rest }).pushFrame (.throwing q))) := by
  obtain ⟨mk, hnamed⟩ := Cond.code_named hcode
  obtain ⟨methM, cM, hmethM, -, -, -, -, -, -, hsigM⟩ := Cond.code_spec hnamed hcode
  have hstatic : methM.isStatic = true := Cond.static_spec hnamed hmethM hstat
  obtain ⟨kP, hkP, -⟩ := className_of_methodNamed hnamed
  have hinitP : kP.init = .initialized := Cond.initialized_spec (findClass_of_methodNamed hnamed) hkP hinit
  obtain ⟨vm₁, X₁, hstep₁⟩ := X.invokestatic hexec hown hlink hnamed hmethM hstatic hkP hinitP hy (g := g) hg (argsL := argsL) (rest := rest) (hlen _ hsigM) hstack hdg
  rcases hK m meth c ⟨T.setVm vm₁, locs, cells, slots⟩ { g with stack := rest } (.invokestatic index) mk argsL.toArray X₁ hg hsize hdg hW (X₁.named hnamed) (hpre vm₁ X₁.warmed) with ⟨v, B, X', hpost, hsteps⟩ | ⟨q, B, X', hpost, hsteps⟩
  · exact Or.inl ⟨v, vm₁, B, X₁.warmed, X', hpost, fun target h => hstep₁ _ fun acts => by rw [doInvoke_state]; exact hsteps.trans h⟩
  · exact Or.inr ⟨q, vm₁, B, X₁.warmed, X', hpost, hstep₁ _ fun acts => by rw [doInvoke_state]; exact hsteps⟩
end Calls
theorem vx_cls {s : State} {T : State} {vm₁ : Vm} {E : String} {k : ClassId} (hW : s.WarmedH vm₁) (h : (T.setVm vm₁).vm.findClass E = some k) : s.vm.findClass E = some k := by
  have h1 : vm₁.findClass E = some k := h
  rw [hW.alike.findClass] at h1
  exact h1
/-- the method's frame g, with q thrown over it -/
def vx_W (p : Program) (l : Launch) (e : Env) (R : Room) (s : State) (m : MethodId) (args : Array Value) (below : List Frame) (meth : Method) (c : Code) (H : Heap) (locs : List Loc) (cells slots : Nat) (Q : State → Prop) (g : JFrame) (q : Addr) : Prop :=
  ∀ T : State, T.heap = H → Stand p l e R s m args below meth c T locs cells slots → ∃ t, Steps p.tables e below ((T.setTop g).pushFrame (.throwing q)) t ∧ Q t
def vx_Run (p : Program) (l : Launch) (e : Env) (R : Room) (s : State) (m : MethodId) (args : Array Value) (below : List Frame) (meth : Method) (c : Code) (H : Heap) (locs : List Loc) (cells slots mc ms : Nat) (g : JFrame) (rest : List Value) (Qa : State → Outcome → State → Prop) (XC : String → State → State → Prop) (free : Addr → Prop) : Prop :=
  ∀ T : State, T.heap = H → Stand p l e R s m args below meth c T locs cells slots →
    (∃ (v : Option Value) (st₀ t T' : State) (L : List Loc), st₀.heap = H ∧ Stand p l e R s m args below meth c T' (locs ++ L) (cells + mc) (slots + ms) ∧ (∀ q ∈ L, free q.base) ∧ T'.heap = t.heap ∧ T'.vm = t.vm ∧ Qa st₀ (.returned v) t ∧
      Goes p e below T g T' { g with pc := g.pc + 3, stack := v.toList ++ rest }) ∨
    (∃ (q : Addr) (st₀ t T' : State) (L : List Loc) (E : String) (ce : Cell), st₀.heap = H ∧ Stand p l e R s m args below meth c T' (locs ++ L) (cells + mc) (slots + ms) ∧ (∀ z ∈ L, free z.base) ∧ T'.heap = t.heap ∧ T'.vm = t.vm ∧ XC E st₀ t ∧ t.heap[q]? = some ce ∧ ce.vm = .none ∧ s.vm.findClass E = some ce.cls ∧
      Steps p.tables e below (T.setTop g) ((T'.setTop { g with stack := rest }).pushFrame (.throwing q)))
def vx_X {S : Type} (px : S → Prop) (B : String → S → State → Prop) (A : Nat → Prop) : String → State → State → Prop := fun E st t => ∃ u : S, px u ∧ B E u t ∧ va_F A st t
section Runs
variable {p : Program} {l : Launch} {e : Env} {R : Room} {s : State} {m : MethodId} {args : Array Value} {below : List Frame} {meth : Method} {c : Code} {H : Heap} {locs : List Loc} {cells slots : Nat}
variable {y : MethodName} {bytes cc : ByteArray} {maxL nL mc ms n index : Nat} {ret : Option FieldType} {ws : List Cond} {rm : Room} {Pc : Array Value → State → Prop} {Qc : Array Value → State → Outcome → State → Prop} {XC : String → State → State → Prop} {free : Addr → Prop} {Ts : List Cond} {own C : String} {b : Addr} {As rest : List Value} {g : JFrame}
theorem vx_callBack (cb : CallB R s args own index y bytes maxL ret ws rm mc ms n) (hM : vx_Met l y ws rm Pc Qc XC mc ms free) (hbl : FrameBlind Pc) : vx_Back l R p e below s args y 3 8 (PreOf R mc ms Pc) (PostOf Qc mc ms free) (vx_Post XC mc ms free) := by
  obtain ⟨hrc, hrs, hfr, hlo, hws, hcw, -, hini, -⟩ := cb
  exact vx_back (bytes := bytes) (maxL := maxL) (ret := ret) hM hbl hrc hrs hfr hlo hws hcw (fun a' U hW => word_at hW (Or.inl (by first | rfl | simp [Cond.onTables, Cond.keeps, Cond.steady])) hini)
theorem vx_runV (S : CallFix p m c cc nL s args Ts own) (hM : vx_Met l y ws rm Pc Qc XC mc ms free) (cw : CallW R s args own C index y bytes maxL ret ws rm mc ms n) (hp : PreV s H C b Pc As)
    (hg : g.method = m) (hn : As.length = n) (hsize : g.locals.size = nL) (hstack : g.stack = As.reverse ++ .ref b :: rest) (hW : 2 * g.monitorRoom + (rest.map fun v => v.category).sum ≤ 8) (hdg : decode cc g.pc = .ok (.invokevirtual index, 3)) (hf : cells + mc ≤ R.cells ∧ slots + ms ≤ R.slots) :
    vx_Run p l e R s m args below meth c H locs cells slots mc ms g rest (Qc (Value.ref b :: As).toArray) XC free := by
  have hK : vx_Back l R p e below s args y 3 8 (PreOf R mc ms Pc) (PostOf Qc mc ms free) (vx_Post XC mc ms free) := vx_callBack cw.1 hM hp.1
  obtain ⟨⟨-, -, -, -, -, -, hcode, -, hy, hlen, hl⟩, hin, hse⟩ := cw
  obtain ⟨hx, hb, hml, ho, -⟩ := S
  obtain ⟨-, ⟨cellB, hcB, hoB, hclB⟩, hPc⟩ := hp
  intro T hT X
  rcases vx_callV X hx (C := C) (bytes := bytes) (maxL := maxL) (ret := ret) ho hl hin hse hcode hy hK (by rw [hT]; exact hcB) hoB hclB hg (hsize.trans hml.symm) (argsL := As) (rest := rest) (fun sig h => hn.trans (hlen sig h)) hstack hW (by rw [hb]; exact hdg)
    (fun vm₁ hW₁ => ⟨hf.1, hf.2, hPc (T.setVm vm₁) hT hW₁⟩) with ⟨v, vm₁, ⟨U', l2, c2, s2⟩, hW₁, X', ⟨g', mk, t, L, e1, e2, hq, h1, hL, h2, h3⟩, st⟩ | ⟨q, vm₁, ⟨U', l2, c2, s2⟩, hW₁, X', ⟨g', mk, t, L, E, ce, e1, e2, hq, hce, hcv, hcl, h1, hL, h2, h3⟩, st⟩
  · dsimp only [Pt.U, Pt.locs, Pt.cells, Pt.slots] at X' e1 e2 h1 h2 h3 st
    subst h1; subst h2; subst h3
    exact Or.inl ⟨v, (T.setVm vm₁).calling g' mk (Value.ref b :: As).toArray, t, U', L, hT, X', hL, e1, e2, hq, st⟩
  · dsimp only [Pt.U, Pt.locs, Pt.cells, Pt.slots] at X' e1 e2 h1 h2 h3 st hcl
    subst h1; subst h2; subst h3
    exact Or.inr ⟨q, (T.setVm vm₁).calling g' mk (Value.ref b :: As).toArray, t, U', L, E, ce, hT, X', hL, e1, e2, hq, hce, hcv, vx_cls hW₁ hcl, st⟩
theorem vx_runS (S : CallFix p m c cc nL s args Ts own) (hM : vx_Met l y ws rm Pc Qc XC mc ms free) (cw : CallB R s args own index y bytes maxL ret ws rm mc ms n ∧ (Cond.static y).before args s = true) (hp : PreS s H Pc As)
    (hg : g.method = m) (hn : As.length = n) (hsize : g.locals.size = nL) (hstack : g.stack = As.reverse ++ rest) (hW : 2 * g.monitorRoom + (rest.map fun v => v.category).sum ≤ 8) (hdg : decode cc g.pc = .ok (.invokestatic index, 3)) (hf : cells + mc ≤ R.cells ∧ slots + ms ≤ R.slots) :
    vx_Run p l e R s m args below meth c H locs cells slots mc ms g rest (Qc As.toArray) XC free := by
  have hK : vx_Back l R p e below s args y 3 8 (PreOf R mc ms Pc) (PostOf Qc mc ms free) (vx_Post XC mc ms free) := vx_callBack cw.1 hM hp.1
  obtain ⟨⟨-, -, -, -, -, -, hcode, hini, hy, hlen, hl⟩, hstt⟩ := cw
  obtain ⟨hx, hb, hml, ho, -⟩ := S
  intro T hT X
  rcases vx_callS X hx (bytes := bytes) (maxL := maxL) (ret := ret) ho hl hstt hini hcode hy hK hg (hsize.trans hml.symm) (argsL := As) (rest := rest) (fun sig h => hn.trans (hlen sig h)) hstack hW (by rw [hb]; exact hdg)
    (fun vm₁ hW₁ => ⟨hf.1, hf.2, hp.2 (T.setVm vm₁) hT hW₁⟩) with ⟨v, vm₁, ⟨U', l2, c2, s2⟩, hW₁, X', ⟨g', mk, t, L, e1, e2, hq, h1, hL, h2, h3⟩, st⟩ | ⟨q, vm₁, ⟨U', l2, c2, s2⟩, hW₁, X', ⟨g', mk, t, L, E, ce, e1, e2, hq, hce, hcv, hcl, h1, hL, h2, h3⟩, st⟩
  · dsimp only [Pt.U, Pt.locs, Pt.cells, Pt.slots] at X' e1 e2 h1 h2 h3 st
    subst h1; subst h2; subst h3
    exact Or.inl ⟨v, (T.setVm vm₁).calling g' mk As.toArray, t, U', L, hT, X', hL, e1, e2, hq, st⟩
  · dsimp only [Pt.U, Pt.locs, Pt.cells, Pt.slots] at X' e1 e2 h1 h2 h3 st hcl
    subst h1; subst h2; subst h3
    exact Or.inr ⟨q, (T.setVm vm₁).calling g' mk As.toArray, t, U', L, E, ce, hT, X', hL, e1, e2, hq, hce, hcv, vx_cls hW₁ hcl, st⟩
end Runs
section Rows
variable {p : Program} {l : Launch} {e : Env} {R : Room} {s : State} {m : MethodId} {args : Array Value} {below : List Frame} {meth : Method} {c : Code} {H : Heap} {locs : List Loc} {cells slots : Nat} {Q : State → Prop}
variable {mc ms : Nat} {free : Addr → Prop} {A0 A1 : Nat → Prop} {H0 : Heap} {a : Array Value} {pc : Nat} {ls : Array Slot} {st0 rest : List Value}
theorem vx_keep {st₀ t T' : State} {L : List Loc} (h0 : st₀.heap = H) (e1 : T'.heap = t.heap) (hS : va_S A0 H0 H locs) (hA : ∀ q, q < H.size → A1 q → A0 q) (hf : ∀ q, free q → A0 q) (hL : ∀ q ∈ L, free q.base) (hF : va_F A1 st₀ t) :
    H.size ≤ T'.heap.size ∧ (∀ q : Nat, q < H.size → ¬ A1 q → T'.heap[q]? = H[q]?) ∧ va_S A0 H0 T'.heap (locs ++ L) := by
  obtain ⟨hz, hk⟩ := hF
  rw [h0] at hz hk
  exact ⟨by rw [e1]; exact hz, fun q h1 h2 => by rw [e1]; exact hk q h1 h2,
    ⟨Nat.le_trans hS.1 (by rw [e1]; exact hz), fun q h1 h2 => by rw [e1, hk q (Nat.lt_of_lt_of_le h1 hS.1) (fun z => h2 (hA q (Nat.lt_of_lt_of_le h1 hS.1) z))]; exact hS.2.1 q h1 h2, fun q hq => by
      rcases List.mem_append.mp hq with h | h
      · exact hS.2.2 q h
      · exact hf _ (hL q h)⟩⟩
theorem vx_calli {S SX : Type} {post : Int32 → S → Prop} {px : SX → Prop} {B : S → State → Prop} {BX : String → SX → State → Prop} {AX : Nat → Prop} (hr : vx_Run p l e R s m args below meth c H locs cells slots mc ms (F0 m pc ls st0) rest (va_Qi post B A1 a) (vx_X px BX AX) free) (hS : va_S A0 H0 H locs) (hA : ∀ q, q < H.size → A1 q → A0 q) (hf : ∀ q, free q → A0 q) (hAX : ∀ q, q < H.size → AX q → A0 q)
    (kx : ∀ (E : String) (ce : Cell) (q9 : Addr) (u : SX) (t : State) (H1 : Heap) (locs1 : List Loc), t.heap = H1 → s.vm.Alike t.vm → px u → BX E u t → H.size ≤ H1.size → (∀ q : Nat, q < H.size → ¬ AX q → H1[q]? = H[q]?) → va_S A0 H0 H1 locs1 → H1[q9]? = some ce → ce.vm = .none → s.vm.findClass E = some ce.cls → vx_W p l e R s m args below meth c H1 locs1 (cells + mc) (slots + ms) Q (F0 m pc ls rest) q9)
    (kk : ∀ (r : Int32) (u : S) (t : State) (H1 : Heap) (locs1 : List Loc), t.heap = H1 → s.vm.Alike t.vm → post r u → B u t → H.size ≤ H1.size → (∀ q : Nat, q < H.size → ¬ A1 q → H1[q]? = H[q]?) → va_S A0 H0 H1 locs1 → W p l e R s m args below meth c H1 locs1 (cells + mc) (slots + ms) Q (F0 m (pc + 3) ls (.int r :: rest))) : W p l e R s m args below meth c H locs cells slots Q (F0 m pc ls st0) := by
  intro T hT X
  rcases hr T hT X with ⟨v, st₀, t, T', L, h0, X', hL, e1, e2, ⟨⟨r, u, hv, hp, hb⟩, hF⟩, st⟩ | ⟨q, st₀, t, T', L, E, ce, h0, X', hL, e1, e2, ⟨u, hp, hb, hF⟩, hce, hcv, hcl, st⟩
  · cases hv
    obtain ⟨k1, k2, k3⟩ := vx_keep h0 e1 hS hA hf hL hF
    obtain ⟨t2, a1, b1⟩ := kk r u t T'.heap (locs ++ L) e1.symm (by rw [← e2]; exact X'.warmed.alike) hp hb k1 k2 k3 T' rfl X'
    exact ⟨t2, st t2 a1, b1⟩
  · obtain ⟨k1, k2, k3⟩ := vx_keep h0 e1 hS hAX hf hL hF
    obtain ⟨t2, a1, b1⟩ := kx E ce q u t T'.heap (locs ++ L) e1.symm (by rw [← e2]; exact X'.warmed.alike) hp hb k1 k2 k3 (by rw [e1]; exact hce) hcv hcl T' rfl X'
    exact ⟨t2, st.trans a1, b1⟩
theorem vx_calll {S SX : Type} {post : Int64 → S → Prop} {px : SX → Prop} {B : S → State → Prop} {BX : String → SX → State → Prop} {AX : Nat → Prop} (hr : vx_Run p l e R s m args below meth c H locs cells slots mc ms (F0 m pc ls st0) rest (va_Ql post B A1 a) (vx_X px BX AX) free) (hS : va_S A0 H0 H locs) (hA : ∀ q, q < H.size → A1 q → A0 q) (hf : ∀ q, free q → A0 q) (hAX : ∀ q, q < H.size → AX q → A0 q)
    (kx : ∀ (E : String) (ce : Cell) (q9 : Addr) (u : SX) (t : State) (H1 : Heap) (locs1 : List Loc), t.heap = H1 → s.vm.Alike t.vm → px u → BX E u t → H.size ≤ H1.size → (∀ q : Nat, q < H.size → ¬ AX q → H1[q]? = H[q]?) → va_S A0 H0 H1 locs1 → H1[q9]? = some ce → ce.vm = .none → s.vm.findClass E = some ce.cls → vx_W p l e R s m args below meth c H1 locs1 (cells + mc) (slots + ms) Q (F0 m pc ls rest) q9)
    (kk : ∀ (r : Int64) (u : S) (t : State) (H1 : Heap) (locs1 : List Loc), t.heap = H1 → s.vm.Alike t.vm → post r u → B u t → H.size ≤ H1.size → (∀ q : Nat, q < H.size → ¬ A1 q → H1[q]? = H[q]?) → va_S A0 H0 H1 locs1 → W p l e R s m args below meth c H1 locs1 (cells + mc) (slots + ms) Q (F0 m (pc + 3) ls (.long r :: rest))) : W p l e R s m args below meth c H locs cells slots Q (F0 m pc ls st0) := by
  intro T hT X
  rcases hr T hT X with ⟨v, st₀, t, T', L, h0, X', hL, e1, e2, ⟨⟨r, u, hv, hp, hb⟩, hF⟩, st⟩ | ⟨q, st₀, t, T', L, E, ce, h0, X', hL, e1, e2, ⟨u, hp, hb, hF⟩, hce, hcv, hcl, st⟩
  · cases hv
    obtain ⟨k1, k2, k3⟩ := vx_keep h0 e1 hS hA hf hL hF
    obtain ⟨t2, a1, b1⟩ := kk r u t T'.heap (locs ++ L) e1.symm (by rw [← e2]; exact X'.warmed.alike) hp hb k1 k2 k3 T' rfl X'
    exact ⟨t2, st t2 a1, b1⟩
  · obtain ⟨k1, k2, k3⟩ := vx_keep h0 e1 hS hAX hf hL hF
    obtain ⟨t2, a1, b1⟩ := kx E ce q u t T'.heap (locs ++ L) e1.symm (by rw [← e2]; exact X'.warmed.alike) hp hb k1 k2 k3 (by rw [e1]; exact hce) hcv hcl T' rfl X'
    exact ⟨t2, st.trans a1, b1⟩
theorem vx_callf {S SX : Type} {post : UInt32 → S → Prop} {px : SX → Prop} {B : S → State → Prop} {BX : String → SX → State → Prop} {AX : Nat → Prop} (hr : vx_Run p l e R s m args below meth c H locs cells slots mc ms (F0 m pc ls st0) rest (va_Qf post B A1 a) (vx_X px BX AX) free) (hS : va_S A0 H0 H locs) (hA : ∀ q, q < H.size → A1 q → A0 q) (hf : ∀ q, free q → A0 q) (hAX : ∀ q, q < H.size → AX q → A0 q)
    (kx : ∀ (E : String) (ce : Cell) (q9 : Addr) (u : SX) (t : State) (H1 : Heap) (locs1 : List Loc), t.heap = H1 → s.vm.Alike t.vm → px u → BX E u t → H.size ≤ H1.size → (∀ q : Nat, q < H.size → ¬ AX q → H1[q]? = H[q]?) → va_S A0 H0 H1 locs1 → H1[q9]? = some ce → ce.vm = .none → s.vm.findClass E = some ce.cls → vx_W p l e R s m args below meth c H1 locs1 (cells + mc) (slots + ms) Q (F0 m pc ls rest) q9)
    (kk : ∀ (r : UInt32) (u : S) (t : State) (H1 : Heap) (locs1 : List Loc), t.heap = H1 → s.vm.Alike t.vm → post r u → B u t → H.size ≤ H1.size → (∀ q : Nat, q < H.size → ¬ A1 q → H1[q]? = H[q]?) → va_S A0 H0 H1 locs1 → W p l e R s m args below meth c H1 locs1 (cells + mc) (slots + ms) Q (F0 m (pc + 3) ls (.float r :: rest))) : W p l e R s m args below meth c H locs cells slots Q (F0 m pc ls st0) := by
  intro T hT X
  rcases hr T hT X with ⟨v, st₀, t, T', L, h0, X', hL, e1, e2, ⟨⟨r, u, hv, hp, hb⟩, hF⟩, st⟩ | ⟨q, st₀, t, T', L, E, ce, h0, X', hL, e1, e2, ⟨u, hp, hb, hF⟩, hce, hcv, hcl, st⟩
  · cases hv
    obtain ⟨k1, k2, k3⟩ := vx_keep h0 e1 hS hA hf hL hF
    obtain ⟨t2, a1, b1⟩ := kk r u t T'.heap (locs ++ L) e1.symm (by rw [← e2]; exact X'.warmed.alike) hp hb k1 k2 k3 T' rfl X'
    exact ⟨t2, st t2 a1, b1⟩
  · obtain ⟨k1, k2, k3⟩ := vx_keep h0 e1 hS hAX hf hL hF
    obtain ⟨t2, a1, b1⟩ := kx E ce q u t T'.heap (locs ++ L) e1.symm (by rw [← e2]; exact X'.warmed.alike) hp hb k1 k2 k3 (by rw [e1]; exact hce) hcv hcl T' rfl X'
    exact ⟨t2, st.trans a1, b1⟩
theorem vx_calld {S SX : Type} {post : UInt64 → S → Prop} {px : SX → Prop} {B : S → State → Prop} {BX : String → SX → State → Prop} {AX : Nat → Prop} (hr : vx_Run p l e R s m args below meth c H locs cells slots mc ms (F0 m pc ls st0) rest (va_Qd post B A1 a) (vx_X px BX AX) free) (hS : va_S A0 H0 H locs) (hA : ∀ q, q < H.size → A1 q → A0 q) (hf : ∀ q, free q → A0 q) (hAX : ∀ q, q < H.size → AX q → A0 q)
    (kx : ∀ (E : String) (ce : Cell) (q9 : Addr) (u : SX) (t : State) (H1 : Heap) (locs1 : List Loc), t.heap = H1 → s.vm.Alike t.vm → px u → BX E u t → H.size ≤ H1.size → (∀ q : Nat, q < H.size → ¬ AX q → H1[q]? = H[q]?) → va_S A0 H0 H1 locs1 → H1[q9]? = some ce → ce.vm = .none → s.vm.findClass E = some ce.cls → vx_W p l e R s m args below meth c H1 locs1 (cells + mc) (slots + ms) Q (F0 m pc ls rest) q9)
    (kk : ∀ (r : UInt64) (u : S) (t : State) (H1 : Heap) (locs1 : List Loc), t.heap = H1 → s.vm.Alike t.vm → post r u → B u t → H.size ≤ H1.size → (∀ q : Nat, q < H.size → ¬ A1 q → H1[q]? = H[q]?) → va_S A0 H0 H1 locs1 → W p l e R s m args below meth c H1 locs1 (cells + mc) (slots + ms) Q (F0 m (pc + 3) ls (.double r :: rest))) : W p l e R s m args below meth c H locs cells slots Q (F0 m pc ls st0) := by
  intro T hT X
  rcases hr T hT X with ⟨v, st₀, t, T', L, h0, X', hL, e1, e2, ⟨⟨r, u, hv, hp, hb⟩, hF⟩, st⟩ | ⟨q, st₀, t, T', L, E, ce, h0, X', hL, e1, e2, ⟨u, hp, hb, hF⟩, hce, hcv, hcl, st⟩
  · cases hv
    obtain ⟨k1, k2, k3⟩ := vx_keep h0 e1 hS hA hf hL hF
    obtain ⟨t2, a1, b1⟩ := kk r u t T'.heap (locs ++ L) e1.symm (by rw [← e2]; exact X'.warmed.alike) hp hb k1 k2 k3 T' rfl X'
    exact ⟨t2, st t2 a1, b1⟩
  · obtain ⟨k1, k2, k3⟩ := vx_keep h0 e1 hS hAX hf hL hF
    obtain ⟨t2, a1, b1⟩ := kx E ce q u t T'.heap (locs ++ L) e1.symm (by rw [← e2]; exact X'.warmed.alike) hp hb k1 k2 k3 (by rw [e1]; exact hce) hcv hcl T' rfl X'
    exact ⟨t2, st.trans a1, b1⟩
theorem vx_callv {S SX : Type} {post : S → Prop} {px : SX → Prop} {B : S → State → Prop} {BX : String → SX → State → Prop} {AX : Nat → Prop} (hr : vx_Run p l e R s m args below meth c H locs cells slots mc ms (F0 m pc ls st0) rest (va_Qv post B A1 a) (vx_X px BX AX) free) (hS : va_S A0 H0 H locs) (hA : ∀ q, q < H.size → A1 q → A0 q) (hf : ∀ q, free q → A0 q) (hAX : ∀ q, q < H.size → AX q → A0 q)
    (kx : ∀ (E : String) (ce : Cell) (q9 : Addr) (u : SX) (t : State) (H1 : Heap) (locs1 : List Loc), t.heap = H1 → s.vm.Alike t.vm → px u → BX E u t → H.size ≤ H1.size → (∀ q : Nat, q < H.size → ¬ AX q → H1[q]? = H[q]?) → va_S A0 H0 H1 locs1 → H1[q9]? = some ce → ce.vm = .none → s.vm.findClass E = some ce.cls → vx_W p l e R s m args below meth c H1 locs1 (cells + mc) (slots + ms) Q (F0 m pc ls rest) q9)
    (kk : ∀ (u : S) (t : State) (H1 : Heap) (locs1 : List Loc), t.heap = H1 → s.vm.Alike t.vm → post u → B u t → H.size ≤ H1.size → (∀ q : Nat, q < H.size → ¬ A1 q → H1[q]? = H[q]?) → va_S A0 H0 H1 locs1 → W p l e R s m args below meth c H1 locs1 (cells + mc) (slots + ms) Q (F0 m (pc + 3) ls (rest))) : W p l e R s m args below meth c H locs cells slots Q (F0 m pc ls st0) := by
  intro T hT X
  rcases hr T hT X with ⟨v, st₀, t, T', L, h0, X', hL, e1, e2, ⟨⟨u, hv, hp, hb⟩, hF⟩, st⟩ | ⟨q, st₀, t, T', L, E, ce, h0, X', hL, e1, e2, ⟨u, hp, hb, hF⟩, hce, hcv, hcl, st⟩
  · cases hv
    obtain ⟨k1, k2, k3⟩ := vx_keep h0 e1 hS hA hf hL hF
    obtain ⟨t2, a1, b1⟩ := kk u t T'.heap (locs ++ L) e1.symm (by rw [← e2]; exact X'.warmed.alike) hp hb k1 k2 k3 T' rfl X'
    exact ⟨t2, st t2 a1, b1⟩
  · obtain ⟨k1, k2, k3⟩ := vx_keep h0 e1 hS hAX hf hL hF
    obtain ⟨t2, a1, b1⟩ := kx E ce q u t T'.heap (locs ++ L) e1.symm (by rw [← e2]; exact X'.warmed.alike) hp hb k1 k2 k3 (by rw [e1]; exact hce) hcv hcl T' rfl X'
    exact ⟨t2, st.trans a1, b1⟩
end Rows
section Ends
variable {p : Program} {l : Launch} {e : Env} {R : Room} {s : State} {m : MethodId} {args : Array Value} {below : List Frame} {meth : Method} {c : Code} {H : Heap} {locs : List Loc} {cells slots : Nat} {Q : State → Prop}
variable {mc ms : Nat} {free : Addr → Prop} {A0 A1 : Nat → Prop} {H0 : Heap} {a : Array Value} {ls : Array Slot} {st0 rest : List Value}
variable {Qc : Array Value → State → Outcome → State → Prop} {XC : String → State → State → Prop}
/-- what a body that may throw owes at its end -/
def vx_MQ (below : List Frame) (Qc : Array Value → State → Outcome → State → Prop) (XC : String → State → State → Prop) (a : Array Value) (s : State) (mc ms : Nat) (free : Addr → Prop) : State → Prop := fun t =>
  ∃ o, t.status = .running ∧ Ended t below o ∧ vx_Q Qc XC mc ms free a s o t
theorem vx_ret {g : JFrame} {mc ms : Nat} (k : W p l e R s m args below meth c H locs cells slots (MQ below Qc args s mc ms free) g) : W p l e R s m args below meth c H locs cells slots (vx_MQ below Qc XC args s mc ms free) g := by
  intro T hT X
  obtain ⟨t, a1, o, b1, b2, b3, b4⟩ := k T hT X
  exact ⟨t, a1, o, b1, b2, Or.inl ⟨b3, b4⟩⟩
/-- not caught here: it goes on to the caller -/
theorem vx_widen {g : JFrame} {q : Addr} {k n : Nat} (h1 : cells ≤ k) (h2 : slots ≤ n) (kk : vx_W p l e R s m args below meth c H locs k n Q g q) : vx_W p l e R s m args below meth c H locs cells slots Q g q := fun T hT X => kk T hT (stand_widen X h1 h2)
theorem vx_out {pc : Nat} {E : String} {ce : Cell} {q : Addr} {mc ms : Nat} (hout : ∀ x ∈ c.exceptionTable.toList, covers x pc = false) (hlocks : meth.locks = false) (hcell : H[q]? = some ce) (hv : ce.vm = .none) (hcl : s.vm.findClass E = some ce.cls)
    (hx : ∀ t : State, t.heap = H → s.vm.Alike t.vm → XC E s t) (hf : ∀ z ∈ locs, free z.base) (hc : cells ≤ mc) (hs : slots ≤ ms) :
    vx_W p l e R s m args below meth c H locs cells slots (vx_MQ below Qc XC args s mc ms free) (F0 m pc ls rest) q := by
  intro T hT X
  obtain ⟨st1, hrun, hend, hW, hsm⟩ := X.leaveThrown q (g := F0 m pc ls rest) rfl rfl rfl hout hlocks
  have hcell9 : (T.setFrames (.throwing q :: below)).heap[q]? = some ce := by
    show T.heap[q]? = some ce
    rw [hT]; exact hcell
  exact ⟨_, st1, .threw q, hrun, hend, Or.inr ⟨q, rfl, E, ce, locs, hx _ hT hW.alike, hcell9, hv, hcl, hW, hsm.mono hc hs, hf⟩⟩
theorem vx_frame {U : State} {k n : Nat} (h : s.sameButNew ({ U with vm := s.vm } : State) locs k n) : s.heap.size ≤ U.heap.size ∧ ∀ q : Nat, q < s.heap.size → (∀ z ∈ locs, z.base ≠ q) → U.heap[q]? = s.heap[q]? := by
  obtain ⟨-, h2, -, -, -, h6⟩ := h
  refine ⟨h2, fun q hq hz => ?_⟩
  obtain ⟨c9, e1, e2, e3, e4⟩ := h6 q _ (Array.getElem?_eq_getElem hq)
  have hs : c9.slots = (s.heap[q]).slots := Array.ext_getElem? fun i => e4 i fun hm => hz _ hm rfl
  have h9 : c9 = s.heap[q] := by
    rw [hs] at e2
    exact e2
  have e5 : U.heap[q]? = some c9 := e1
  rw [e5, h9, Array.getElem?_eq_getElem hq]
/-- the words of a throw but the four that speak of the heap -/
def vx_no (w : Cond) : Bool := decide (w ≠ .isRef (.static Bundle.tN "UNASSIGNED_STACK" Bundle.steD)) && decide (w ≠ .isRef (.static Bundle.tN "SUPPRESSED_SENTINEL" Bundle.listD)) && decide (w ≠ .laysStatic Bundle.tN "UNASSIGNED_STACK" Bundle.steD) && decide (w ≠ .laysStatic Bundle.tN "SUPPRESSED_SENTINEL" Bundle.listD)
def vx_at0 (own : String) (ic : Nat) (X : String) (names : List String) : List Cond := (Bundle.ownAtoms0 own ic X names).filter vx_no
def vx_atS (own : String) (ic : Nat) (X : String) (names : List String) : List Cond := (Bundle.ownAtoms own ic X names).filter vx_no
/-- a word that the tables alone decide, or a good one -/
def vx_ot (w : Cond) : Bool := w.onTables || goodWord w
theorem vx_ot_at {args a' : Array Value} {s U : State} {w : Cond} (hW : s.WarmedH U.vm) (hvm : s.vm = U.vm) (hg : vx_ot w = true) (h : w.before args s = true) : w.before a' U = true := by
  simp only [vx_ot, Bool.or_eq_true] at hg
  rcases hg with hg | hg
  · exact va_tabs hg hvm h
  · exact word_at hW (good_of_word hg) h
/-- a list's words: the good ones out of the method's own list, the others by premises of their own -/
theorem vx_hat {args : Array Value} {s : State} {L B : List Cond} (h1 : ∀ w ∈ L.filter goodWord, w.before args s = true) (h2 : ∀ w ∈ L.filter (fun w => !goodWord w), w ∈ B) (h3 : ∀ w ∈ B, w.before args s = true) : ∀ w ∈ L, w.before args s = true := by
  intro w hw
  by_cases g : goodWord w = true
  · exact h1 w (List.mem_filter.mpr ⟨hw, g⟩)
  · refine h3 w (h2 w (List.mem_filter.mpr ⟨hw, ?_⟩))
    show (!goodWord w) = true
    cases hgw : goodWord w
    · rfl
    · exact absurd hgw g
theorem vx_c {args : Array Value} {s : State} {w : Cond} {B : List Cond} (h : w.before args s = true) (t : ∀ w ∈ B, w.before args s = true) : ∀ w' ∈ w :: B, w'.before args s = true := fun w' h' => (List.mem_cons.mp h').elim (fun e => by rw [e]; exact h) (t w')
theorem vx_n {args : Array Value} {s : State} : ∀ w ∈ ([] : List Cond), w.before args s = true := fun _ h => nomatch h
theorem vx_own {args : Array Value} {s : State} {L : List Cond} (h1 : ∀ w ∈ L.filter vx_no, w.before args s = true)
    (hU : (Cond.isRef (.static Bundle.tN "UNASSIGNED_STACK" Bundle.steD)).before args s = true) (hN : (Cond.isRef (.static Bundle.tN "SUPPRESSED_SENTINEL" Bundle.listD)).before args s = true)
    (lU : (Cond.laysStatic Bundle.tN "UNASSIGNED_STACK" Bundle.steD).before args s = true) (lN : (Cond.laysStatic Bundle.tN "SUPPRESSED_SENTINEL" Bundle.listD).before args s = true) : ∀ w ∈ L, w.before args s = true := by
  intro w hw
  by_cases e1 : w = .isRef (.static Bundle.tN "UNASSIGNED_STACK" Bundle.steD)
  · rw [e1]; exact hU
  · by_cases e2 : w = .isRef (.static Bundle.tN "SUPPRESSED_SENTINEL" Bundle.listD)
    · rw [e2]; exact hN
    · by_cases e3 : w = .laysStatic Bundle.tN "UNASSIGNED_STACK" Bundle.steD
      · rw [e3]; exact lU
      · by_cases e4 : w = .laysStatic Bundle.tN "SUPPRESSED_SENTINEL" Bundle.listD
        · rw [e4]; exact lN
        · exact h1 w (List.mem_filter.mpr ⟨hw, by unfold vx_no; rw [decide_eq_true e1, decide_eq_true e2, decide_eq_true e3, decide_eq_true e4]; rfl⟩)
/-- where a static field lies, its class's statics cell in H -/
def vx_L (C n d : String) (A : Nat → Prop) (U : State) (H : Heap) : Prop := ∃ (c : ClassId) (k : Class) (i : Nat) (f : Field) (a : Nat) (cell : Cell), U.vm.findClass C = some c ∧ U.fieldFound? C n d = some (c, k, i, f) ∧ f.isStatic = true ∧ k.statics = some a ∧ H[a]? = some cell ∧ cell.vm.isStatics = true ∧ cell.cls = c ∧ f.slot < cell.slots.size ∧ k.staticTypes[f.slot]? = some f.type ∧ ¬ A a
theorem vx_L.moved {C n d : String} {A : Nat → Prop} {u U : State} {H : Heap} (hvm : u.vm.Alike U.vm) (h : vx_L C n d A u H) : vx_L C n d A U H := by
  obtain ⟨c, k, i, f, a, cell, h1, h2, h3, h4, h5, h6, h7, h8, h9, h10⟩ := h
  obtain ⟨k', hi', he⟩ := State.fieldFound?_setVm hvm h2
  exact ⟨c, k', i, f, a, cell, by rw [hvm.findClass]; exact h1, hi', h3, by rw [he]; exact h4, h5, h6, h7, h8, by rw [he]; exact h9, h10⟩
theorem vx_L.kept {C n d : String} {A : Nat → Prop} {U : State} {H H1 : Heap} (h : vx_L C n d A U H) (hq : ∀ a : Nat, a < H.size → ¬ A a → H1[a]? = H[a]?) : vx_L C n d A U H1 := by
  obtain ⟨c, k, i, f, a, cell, h1, h2, h3, h4, h5, h6, h7, h8, h9, h10⟩ := h
  exact ⟨c, k, i, f, a, cell, h1, h2, h3, h4, by rw [hq a (Array.getElem?_eq_some_iff.mp h5).1 h10]; exact h5, h6, h7, h8, h9, h10⟩
theorem vx_L.narrow {C n d : String} {A B : Nat → Prop} {U : State} {H : Heap} (h : vx_L C n d A U H) (hAB : ∀ q, B q → A q) : vx_L C n d B U H := by
  obtain ⟨c, k, i, f, a, cell, h1, h2, h3, h4, h5, h6, h7, h8, h9, h10⟩ := h
  exact ⟨c, k, i, f, a, cell, h1, h2, h3, h4, h5, h6, h7, h8, h9, fun z => h10 (hAB _ z)⟩
theorem vx_L.word {C n d : String} {A : Nat → Prop} {s : State} {args : Array Value} (h : vx_L C n d A s s.heap) : (Cond.laysStatic C n d).before args s = true := by
  obtain ⟨c, k, i, f, a, cell, h1, h2, h3, h4, h5, h6, h7, h8, h9, -⟩ := h
  show (Cond.laysStatic C n d).holds args s none s [] = true
  exact Cond.laysStatic_of h1 h2 h3 h4 h5 h6 h7 h8 h9
/-- .. and what it holds: null or some reference -/
def vx_Zq (C n d : String) (A : Nat → Prop) (U : State) (H : Heap) : Prop := va_Zq C n d A U H ∧ vx_L C n d A U H
theorem vx_Zq.moved {C n d : String} {A : Nat → Prop} {u U : State} {H : Heap} (hvm : u.vm.Alike U.vm) (h : vx_Zq C n d A u H) : vx_Zq C n d A U H := ⟨va_Zq.moved hvm h.1, vx_L.moved hvm h.2⟩
theorem vx_Zq.kept {C n d : String} {A : Nat → Prop} {U : State} {H H1 : Heap} (h : vx_Zq C n d A U H) (hq : ∀ a : Nat, a < H.size → ¬ A a → H1[a]? = H[a]?) : vx_Zq C n d A U H1 := ⟨va_Zq.kept h.1 hq, vx_L.kept h.2 hq⟩
theorem vx_Zq.narrow {C n d : String} {A B : Nat → Prop} {U : State} {H : Heap} (h : vx_Zq C n d A U H) (hAB : ∀ q, B q → A q) : vx_Zq C n d B U H := ⟨va_Zq.narrow h.1 hAB, vx_L.narrow h.2 hAB⟩
theorem vx_Zqof {args : Array Value} {s : State} {C n d : String} {A : Nat → Prop} (hl : (Cond.laysStatic C n d).before args s = true) (hini : (Cond.initialized C).before args s = true) (h : (Cond.isRef (.static C n d)).before args s = true) (hA : ∀ a : Nat, a < s.heap.size → ¬ A a) : vx_Zq C n d A s s.heap := by
  refine ⟨va_Zqof hl hini h hA, ?_⟩
  obtain ⟨c, k, i, f, a, cell, h1, h2, h3, h4, h5, h6, h7, h8, h9⟩ := Cond.laysStatic_spec hl
  exact ⟨c, k, i, f, a, cell, h1, h2, h3, h4, h5, h6, h7, h8, h9, hA a (Array.getElem?_eq_some_iff.mp h5).1⟩
theorem vx_isRef {C n d : String} {v : Value} {A : Nat → Prop} {s : State} {args : Array Value} (h : va_Z C n d v A s s.heap) (hv : v.isRef = true) : (Cond.isRef (.static C n d)).before args s = true := by
  obtain ⟨cf, kf, fi, f, a, cell, h1, h2, h3, h4, h5, h6, h7, -⟩ := h
  have he : (Term.static C n d).eval args s none [] s = some v := by
    simp [Term.eval, State.fieldNamed?, h1, h2, h4, h5, h6, h7]
  simp only [Cond.before, Cond.holds, Cond.value, he]
  cases v <;> simp_all [Value.isRef]
theorem vx_isRefq {C n d : String} {A : Nat → Prop} {s : State} {args : Array Value} (h : va_Zq C n d A s s.heap) : (Cond.isRef (.static C n d)).before args s = true := by
  rcases h with h | ⟨t, h⟩
  · exact vx_isRef h rfl
  · exact vx_isRef h rfl
/-- the same frame, seen from here: as if the method were called anew in this heap -/
theorem vx_rebase {T : State} (X : Stand p l e R s m args below meth c T locs cells slots) {R' : Room} (hf : R'.frames ≤ R.frames) (hl : R'.locals ≤ R.locals) (hc : cells + R'.cells ≤ R.cells) (hs : slots + R'.slots ≤ R.slots) :
    Stand p l e R' ((T.setVm s.vm).setFrames (.invoking m args :: below)) m args below meth c T [] 0 0 := by
  have htop : (T.setVm s.vm).topJava?.isSome := X.here.top
  have hF : ((T.setVm s.vm).setFrames (.invoking m args :: below)).frames = .invoking m args :: below := State.frames_setFrames _ (State.cur_lt_of_top htop)
  obtain ⟨g₀, hg0⟩ := Option.isSome_iff_exists.mp htop
  obtain ⟨r, hr⟩ := State.topJava?_eq_some.mp hg0
  have hl9 : e.platform.stackLimits (T.setVm s.vm).me = e.platform.stackLimits s.me := X.limits
  have hb9 : (T.setVm s.vm).me.stackBytes = s.me.stackBytes := X.bytes
  refine ⟨X.admits, X.cas, X.clock, hF, ?_, X.hears, X.method, X.code, X.here, X.tail, X.warmed, ?_, ?_, ?_⟩
  · have h := X.room
    have hU : ((T.setVm s.vm).setFrames (.invoking m args :: below)).localsInUse = s.localsInUse := by
      rw [State.localsInUse_invoking hF (meth := meth) (c := c) X.method X.code, State.localsInUse_invoking X.frames X.method X.code]
    simp only [State.hasRoom, Bool.and_eq_true, decide_eq_true_eq] at h ⊢
    obtain ⟨⟨⟨⟨h1, h2, h3, h4, h5, h6⟩, h7⟩, h8⟩, h9⟩ := h
    rw [X.frames, List.length_cons] at h2 h3
    have q1 := X.heapSize
    have q2 := X.used
    simp only [hF, hU, List.length_cons, State.stackLimits_setFrames, State.stackBytes_setFrames, hl9, hb9]
    refine ⟨⟨⟨⟨by omega, by omega, by omega, by omega, by omega, h6⟩, ?_⟩, ?_⟩, X.book⟩
    · show T.heap.size + R'.cells ≤ e.platform.maxCells
      omega
    · show T.slotsUsed + R'.slots ≤ e.platform.maxSlots
      omega
  · rw [State.stackLimits_setFrames]; rfl
  · rw [State.stackBytes_setFrames]; rfl
  · refine ⟨?_, Nat.le_refl _, Nat.le_refl _, ?_, ?_, fun a c9 h9 => ⟨c9, h9, rfl, rfl, fun _ _ => rfl⟩⟩
    · obtain ⟨t, ht, -⟩ := State.frames_cons hr
      show T.setVm s.vm = { ((T.setVm s.vm).setFrames (.invoking m args :: below)).setFrames (T.setVm s.vm).frames with heap := T.heap, slotsUsed := T.slotsUsed }
      rw [State.setFrames_setFrames, State.setFrames_self ht]
      rfl
    · show T.slotsUsed = T.slotsUsed + ((T.heap.toList.drop T.heap.size).map (·.slots.size)).sum
      rw [List.drop_eq_nil_of_le (Nat.le_of_eq Array.length_toList)]
      rfl
    · show ((T.heap.toList.drop T.heap.size).map (·.slots.size)).sum ≤ 0
      rw [List.drop_eq_nil_of_le (Nat.le_of_eq Array.length_toList)]
      exact Nat.le_refl _
/-- 'throw new E()': new; dup; invokespecial; athrow -/
theorem vx_throw0 {cc : ByteArray} {pc : Nat} (hexec : p.tables.exec = Jvm.exec) (hb : c.code = cc) (hl : l.stackTraces = false) {own cls : String} {names : List String} {ik ic mc ms : Nat} {A : Nat → Prop}
    (hown : s.vm.findClass own = some m.cls) (hcls : Bundle.fit cls = true) (hnames : ∀ n ∈ names, Bundle.fit n = true)
    (hk : (Cond.classLink own ik cls).before args s = true) (hini : (Cond.initialized cls).before args s = true) (hat : ∀ w ∈ vx_at0 own ic cls names, w.before args s = true)
    (hgood : ∀ w ∈ Cond.classLink own ik cls :: Cond.initialized cls :: vx_at0 own ic cls names, vx_ot w = true)
    (hU : vx_Zq Bundle.tN "UNASSIGNED_STACK" Bundle.steD A s s.heap) (hN : vx_Zq Bundle.tN "SUPPRESSED_SENTINEL" Bundle.listD A s s.heap) (hS : va_S A s.heap H locs) (hsize : ls.size = c.maxLocals)
    (d0 : decode cc pc = .ok (.new ik, 3)) (d3 : decode cc (pc + 3) = .ok (.dup, 1)) (d4 : decode cc (pc + 4) = .ok (.invokespecial ic, 3)) (d7 : decode cc (pc + 7) = .ok (.athrow, 1))
    (hout : ∀ x ∈ c.exceptionTable.toList, covers x (pc + 7) = false)
    (hRframes : names.length + 3 < R.frames) (hRlocals : (rest.map fun v => v.category).sum + (13 * (names.length + 1) + 42) ≤ R.locals) (hRcells : cells + 1 ≤ R.cells) (hRslots : slots + 6 ≤ R.slots) (hlocks : meth.locks = false)
    (hx : ∀ t : State, s.vm.Alike t.vm → H.size ≤ t.heap.size → (∀ q : Nat, q < H.size → t.heap[q]? = H[q]?) → XC cls s t)
    (hf : ∀ z ∈ locs, free z.base) (hc : cells + 1 ≤ mc) (hs : slots + 6 ≤ ms) :
    W p l e R s m args below meth c H locs cells slots (vx_MQ below Qc XC args s mc ms free) (F0 m pc ls rest) := by
  intro T hT X
  have htr : e.platform.stackTraces = false := (show e.platform.stackTraces = l.stackTraces by rw [X.admits.platform]).trans hl
  have Y := vx_rebase X (R' := { frames := R.frames, locals := R.locals, cells := 1, slots := 6 }) (Nat.le_refl _) (Nat.le_refl _) hRcells hRslots
  obtain ⟨s', hA⟩ : ∃ z, z = (T.setVm s.vm).setFrames (.invoking m args :: below) := ⟨_, rfl⟩
  rw [← hA] at Y
  have hvm : s'.vm = s.vm := by rw [hA]; rfl
  have hhp : s'.heap = H := by rw [hA]; exact hT
  have hW0 : s.WarmedH s'.vm := by rw [hvm]; exact State.WarmedH.refl s
  have hat' : ∀ w ∈ vx_at0 own ic cls names, w.before args s' = true := fun w hw => vx_ot_at hW0 hvm.symm (hgood w (List.mem_cons_of_mem _ (List.mem_cons_of_mem _ hw))) (hat w hw)
  have hk' : (Cond.classLink own ik cls).before args s' = true := vx_ot_at hW0 hvm.symm (hgood _ List.mem_cons_self) hk
  have hini' : (Cond.initialized cls).before args s' = true := vx_ot_at hW0 hvm.symm (hgood _ (List.mem_cons_of_mem _ List.mem_cons_self)) hini
  have hU' : vx_Zq Bundle.tN "UNASSIGNED_STACK" Bundle.steD A s' s'.heap := by rw [hhp]; exact vx_Zq.moved hW0.alike (hU.kept hS.2.1)
  have hN' : vx_Zq Bundle.tN "SUPPRESSED_SENTINEL" Bundle.listD A s' s'.heap := by rw [hhp]; exact vx_Zq.moved hW0.alike (hN.kept hS.2.1)
  have h : ∀ w ∈ Bundle.ownAtoms0 own ic cls names, w.before args s' = true := vx_own hat' (vx_isRefq hU'.1) (vx_isRefq hN'.1) hU'.2.word hN'.2.word
  have hown' : s'.vm.findClass own = some m.cls := by rw [hvm]; exact hown
  have hins : (Cond.instantiable cls 6).before args s' = true := h _ (by simp [Bundle.ownAtoms0])
  obtain ⟨vm₁, cX, kX, hfX, hkX, -, -, X₁, st1⟩ := Y.newCold hexec (own := own) (C := cls) (index := ik) (n := 6) hown' hk' hins hini'
    (g := F0 m pc ls rest) rfl (by rw [hb]; exact d0) (Nat.le_refl _) (Nat.le_refl _)
  generalize hT1 : (T.setVm vm₁).pushCell { cls := cX, slots := kX.instanceTypes.map defaultValue, vm := .none } = T1 at X₁ st1
  have hcat : (Value.ref T.heap.size).category = 1 := rfl
  have hcellA : T1.heap[T.heap.size]? = some (freshCell cX kX) := by rw [← hT1]; exact State.heap_pushCell_size _ _
  have d3' : decode c.code (pc + 3) = .ok (.dup, 1) := by rw [hb]; exact d3
  obtain ⟨U, hsteps, hrun, hend, hW, hsame, ce, hce, hO⟩ := X₁.ctorThrow0 hexec htr (own := own) (cls := cls) (names := names) (ic := ic) hown' hcls hnames h (fun x hx => nomatch hx) hfX hkX hcellA (by rw [hhp, hT]; exact Nat.le_refl _)
    (g := { method := m, pc := pc + 4, locals := ls, stack := .ref T.heap.size :: .ref T.heap.size :: rest, locked := none }) rfl hsize rfl rfl (rest := rest) rfl
    (by rw [hb]; exact d4) (by rw [hb]; exact d7) hout hRframes (by simp only [List.map_cons, List.sum_cons, hcat]; omega) hlocks
  obtain ⟨f1, f2⟩ := vx_frame hsame
  rw [hhp] at f1 f2
  have hWs : s.WarmedH U.vm := State.WarmedH.trans hW0 hW
  have hcl : s.vm.findClass cls = some ce.cls := by
    have h9 := hO.cls
    rw [hvm] at h9
    exact h9
  have hall : s.sameButNew ({ U with vm := s.vm } : State) locs mc ms := by
    subst hA
    obtain ⟨e1, e2⟩ := hsame
    rw [State.setFrames_setFrames] at e1
    have h2 : (T.setVm s.vm).sameButNew ({ U with vm := s.vm } : State) [] (0 + 1) (0 + 6) := ⟨e1, e2⟩
    have h3 := X.same.trans h2
    rw [List.append_nil] at h3
    exact h3.mono hc hs
  refine ⟨U, ?_, .threw T.heap.size, hrun, hend, Or.inr ⟨T.heap.size, rfl, cls, ce, locs, hx U hWs.alike f1 (fun q hq => f2 q hq (fun z hz => nomatch hz)), hce, hO.vm, hcl, hWs, hall, hf⟩⟩
  refine st1 _ ?_
  show Steps p.tables e below (T1.setTop { method := m, pc := pc + 3, locals := ls, stack := .ref T.heap.size :: rest, locked := none }) _
  jvm_step X₁.here [X₁.here.top, hexec, d3', Value.category]
  exact hsteps
/-- 'throw new E("text")': new; dup; ldc; invokespecial; athrow -/
theorem vx_throwS {cc : ByteArray} {pc : Nat} (hexec : p.tables.exec = Jvm.exec) (hb : c.code = cc) (hl : l.stackTraces = false) {own cls text : String} {names : List String} {ik is ic mc ms sa : Nat} {A : Nat → Prop}
    (hown : s.vm.findClass own = some m.cls) (hcls : Bundle.fit cls = true) (hnames : ∀ n ∈ names, Bundle.fit n = true)
    (hk : (Cond.classLink own ik cls).before args s = true) (hini : (Cond.initialized cls).before args s = true) (hstr : vk_R own is text sa s) (hat : ∀ w ∈ vx_atS own ic cls names, w.before args s = true)
    (hgood : ∀ w ∈ Cond.classLink own ik cls :: Cond.initialized cls :: vx_atS own ic cls names, vx_ot w = true)
    (hU : vx_Zq Bundle.tN "UNASSIGNED_STACK" Bundle.steD A s s.heap) (hN : vx_Zq Bundle.tN "SUPPRESSED_SENTINEL" Bundle.listD A s s.heap) (hS : va_S A s.heap H locs) (hsize : ls.size = c.maxLocals)
    (d0 : decode cc pc = .ok (.new ik, 3)) (d3 : decode cc (pc + 3) = .ok (.dup, 1)) (d4 : decode cc (pc + 4) = .ok (.ldc is, 2)) (d6 : decode cc (pc + 6) = .ok (.invokespecial ic, 3)) (d9 : decode cc (pc + 9) = .ok (.athrow, 1))
    (hout : ∀ x ∈ c.exceptionTable.toList, covers x (pc + 9) = false)
    (hRframes : names.length + 3 < R.frames) (hRlocals : (rest.map fun v => v.category).sum + (13 * (names.length + 1) + 43) ≤ R.locals) (hRcells : cells + 1 ≤ R.cells) (hRslots : slots + 6 ≤ R.slots) (hlocks : meth.locks = false)
    (hx : ∀ t : State, s.vm.Alike t.vm → H.size ≤ t.heap.size → (∀ q : Nat, q < H.size → t.heap[q]? = H[q]?) → XC cls s t)
    (hf : ∀ z ∈ locs, free z.base) (hc : cells + 1 ≤ mc) (hs : slots + 6 ≤ ms) :
    W p l e R s m args below meth c H locs cells slots (vx_MQ below Qc XC args s mc ms free) (F0 m pc ls rest) := by
  intro T hT X
  have htr : e.platform.stackTraces = false := (show e.platform.stackTraces = l.stackTraces by rw [X.admits.platform]).trans hl
  have Y := vx_rebase X (R' := { frames := R.frames, locals := R.locals, cells := 1, slots := 6 }) (Nat.le_refl _) (Nat.le_refl _) hRcells hRslots
  obtain ⟨s', hA⟩ : ∃ z, z = (T.setVm s.vm).setFrames (.invoking m args :: below) := ⟨_, rfl⟩
  rw [← hA] at Y
  have hvm : s'.vm = s.vm := by rw [hA]; rfl
  have hhp : s'.heap = H := by rw [hA]; exact hT
  have hW0 : s.WarmedH s'.vm := by rw [hvm]; exact State.WarmedH.refl s
  have hat' : ∀ w ∈ vx_atS own ic cls names, w.before args s' = true := fun w hw => vx_ot_at hW0 hvm.symm (hgood w (List.mem_cons_of_mem _ (List.mem_cons_of_mem _ hw))) (hat w hw)
  have hk' : (Cond.classLink own ik cls).before args s' = true := vx_ot_at hW0 hvm.symm (hgood _ List.mem_cons_self) hk
  have hini' : (Cond.initialized cls).before args s' = true := vx_ot_at hW0 hvm.symm (hgood _ (List.mem_cons_of_mem _ List.mem_cons_self)) hini
  have hU' : vx_Zq Bundle.tN "UNASSIGNED_STACK" Bundle.steD A s' s'.heap := by rw [hhp]; exact vx_Zq.moved hW0.alike (hU.kept hS.2.1)
  have hN' : vx_Zq Bundle.tN "SUPPRESSED_SENTINEL" Bundle.listD A s' s'.heap := by rw [hhp]; exact vx_Zq.moved hW0.alike (hN.kept hS.2.1)
  have h : ∀ w ∈ Bundle.ownAtoms own ic cls names, w.before args s' = true := vx_own hat' (vx_isRefq hU'.1) (vx_isRefq hN'.1) hU'.2.word hN'.2.word
  have hown' : s'.vm.findClass own = some m.cls := by rw [hvm]; exact hown
  have hins : (Cond.instantiable cls 6).before args s' = true := h _ (by simp [Bundle.ownAtoms])
  obtain ⟨vm₁, cX, kX, hfX, hkX, -, -, X₁, st1⟩ := Y.newCold hexec (own := own) (C := cls) (index := ik) (n := 6) hown' hk' hins hini'
    (g := F0 m pc ls rest) rfl (by rw [hb]; exact d0) (Nat.le_refl _) (Nat.le_refl _)
  generalize hT1 : (T.setVm vm₁).pushCell { cls := cX, slots := kX.instanceTypes.map defaultValue, vm := .none } = T1 at X₁ st1
  have hcat : (Value.ref T.heap.size).category = 1 := rfl
  have hcellA : T1.heap[T.heap.size]? = some (freshCell cX kX) := by rw [← hT1]; exact State.heap_pushCell_size _ _
  have d3' : decode c.code (pc + 3) = .ok (.dup, 1) := by rw [hb]; exact d3
  have d4' : decode c.code (pc + 4) = .ok (.ldc is, 2) := by rw [hb]; exact d4
  have hstr' : vk_R own is text sa s' := vk_R.warm hW0 hstr
  obtain ⟨U, hsteps, hrun, hend, hW, hsame, ce, hce, hO⟩ := X₁.ctorThrowS hexec htr (own := own) (cls := cls) (names := names) (ic := ic) hown' hcls hnames h (fun x hx => nomatch hx) hfX hkX hcellA (by rw [hhp, hT]; exact Nat.le_refl _) (msg := .ref sa) rfl
    (g := { method := m, pc := pc + 6, locals := ls, stack := .ref sa :: .ref T.heap.size :: .ref T.heap.size :: rest, locked := none }) rfl hsize rfl rfl (rest := rest) rfl
    (by rw [hb]; exact d6) (by rw [hb]; exact d9) hout hRframes (by simp only [List.map_cons, List.sum_cons, hcat]; omega) hlocks
  obtain ⟨f1, f2⟩ := vx_frame hsame
  rw [hhp] at f1 f2
  have hWs : s.WarmedH U.vm := State.WarmedH.trans hW0 hW
  have hcl : s.vm.findClass cls = some ce.cls := by
    have h9 := hO.cls
    rw [hvm] at h9
    exact h9
  have hall : s.sameButNew ({ U with vm := s.vm } : State) locs mc ms := by
    subst hA
    obtain ⟨e1, e2⟩ := hsame
    rw [State.setFrames_setFrames] at e1
    have h2 : (T.setVm s.vm).sameButNew ({ U with vm := s.vm } : State) [] (0 + 1) (0 + 6) := ⟨e1, e2⟩
    have h3 := X.same.trans h2
    rw [List.append_nil] at h3
    exact h3.mono hc hs
  refine ⟨U, ?_, .threw T.heap.size, hrun, hend, Or.inr ⟨T.heap.size, rfl, cls, ce, locs, hx U hWs.alike f1 (fun q hq => f2 q hq (fun z hz => nomatch hz)), hce, hO.vm, hcl, hWs, hall, hf⟩⟩
  refine st1 _ ?_
  show Steps p.tables e below (T1.setTop { method := m, pc := pc + 3, locals := ls, stack := .ref T.heap.size :: rest, locked := none }) _
  jvm_step X₁.here [X₁.here.top, hexec, d3', Value.category]
  exact X₁.ldcString hexec (own := own) (text := text) (index := is) (a := sa) hown' hstr'.1 hstr'.2
    (g := { method := m, pc := pc + 4, locals := ls, stack := .ref T.heap.size :: .ref T.heap.size :: rest, locked := none }) rfl d4' _ hsteps
/-- 'throw new E("text")', the text by a wide index -/
theorem vx_throwSW {cc : ByteArray} {pc : Nat} (hexec : p.tables.exec = Jvm.exec) (hb : c.code = cc) (hl : l.stackTraces = false) {own cls text : String} {names : List String} {ik is ic mc ms sa : Nat} {A : Nat → Prop}
    (hown : s.vm.findClass own = some m.cls) (hcls : Bundle.fit cls = true) (hnames : ∀ n ∈ names, Bundle.fit n = true)
    (hk : (Cond.classLink own ik cls).before args s = true) (hini : (Cond.initialized cls).before args s = true) (hstr : vk_R own is text sa s) (hat : ∀ w ∈ vx_atS own ic cls names, w.before args s = true)
    (hgood : ∀ w ∈ Cond.classLink own ik cls :: Cond.initialized cls :: vx_atS own ic cls names, vx_ot w = true)
    (hU : vx_Zq Bundle.tN "UNASSIGNED_STACK" Bundle.steD A s s.heap) (hN : vx_Zq Bundle.tN "SUPPRESSED_SENTINEL" Bundle.listD A s s.heap) (hS : va_S A s.heap H locs) (hsize : ls.size = c.maxLocals)
    (d0 : decode cc pc = .ok (.new ik, 3)) (d3 : decode cc (pc + 3) = .ok (.dup, 1)) (d4 : decode cc (pc + 4) = .ok (.ldc_w is, 3)) (d7 : decode cc (pc + 7) = .ok (.invokespecial ic, 3)) (d10 : decode cc (pc + 10) = .ok (.athrow, 1))
    (hout : ∀ x ∈ c.exceptionTable.toList, covers x (pc + 10) = false)
    (hRframes : names.length + 3 < R.frames) (hRlocals : (rest.map fun v => v.category).sum + (13 * (names.length + 1) + 43) ≤ R.locals) (hRcells : cells + 1 ≤ R.cells) (hRslots : slots + 6 ≤ R.slots) (hlocks : meth.locks = false)
    (hx : ∀ t : State, s.vm.Alike t.vm → H.size ≤ t.heap.size → (∀ q : Nat, q < H.size → t.heap[q]? = H[q]?) → XC cls s t)
    (hf : ∀ z ∈ locs, free z.base) (hc : cells + 1 ≤ mc) (hs : slots + 6 ≤ ms) :
    W p l e R s m args below meth c H locs cells slots (vx_MQ below Qc XC args s mc ms free) (F0 m pc ls rest) := by
  intro T hT X
  have htr : e.platform.stackTraces = false := (show e.platform.stackTraces = l.stackTraces by rw [X.admits.platform]).trans hl
  have Y := vx_rebase X (R' := { frames := R.frames, locals := R.locals, cells := 1, slots := 6 }) (Nat.le_refl _) (Nat.le_refl _) hRcells hRslots
  obtain ⟨s', hA⟩ : ∃ z, z = (T.setVm s.vm).setFrames (.invoking m args :: below) := ⟨_, rfl⟩
  rw [← hA] at Y
  have hvm : s'.vm = s.vm := by rw [hA]; rfl
  have hhp : s'.heap = H := by rw [hA]; exact hT
  have hW0 : s.WarmedH s'.vm := by rw [hvm]; exact State.WarmedH.refl s
  have hat' : ∀ w ∈ vx_atS own ic cls names, w.before args s' = true := fun w hw => vx_ot_at hW0 hvm.symm (hgood w (List.mem_cons_of_mem _ (List.mem_cons_of_mem _ hw))) (hat w hw)
  have hk' : (Cond.classLink own ik cls).before args s' = true := vx_ot_at hW0 hvm.symm (hgood _ List.mem_cons_self) hk
  have hini' : (Cond.initialized cls).before args s' = true := vx_ot_at hW0 hvm.symm (hgood _ (List.mem_cons_of_mem _ List.mem_cons_self)) hini
  have hU' : vx_Zq Bundle.tN "UNASSIGNED_STACK" Bundle.steD A s' s'.heap := by rw [hhp]; exact vx_Zq.moved hW0.alike (hU.kept hS.2.1)
  have hN' : vx_Zq Bundle.tN "SUPPRESSED_SENTINEL" Bundle.listD A s' s'.heap := by rw [hhp]; exact vx_Zq.moved hW0.alike (hN.kept hS.2.1)
  have h : ∀ w ∈ Bundle.ownAtoms own ic cls names, w.before args s' = true := vx_own hat' (vx_isRefq hU'.1) (vx_isRefq hN'.1) hU'.2.word hN'.2.word
  have hown' : s'.vm.findClass own = some m.cls := by rw [hvm]; exact hown
  have hins : (Cond.instantiable cls 6).before args s' = true := h _ (by simp [Bundle.ownAtoms])
  obtain ⟨vm₁, cX, kX, hfX, hkX, -, -, X₁, st1⟩ := Y.newCold hexec (own := own) (C := cls) (index := ik) (n := 6) hown' hk' hins hini'
    (g := F0 m pc ls rest) rfl (by rw [hb]; exact d0) (Nat.le_refl _) (Nat.le_refl _)
  generalize hT1 : (T.setVm vm₁).pushCell { cls := cX, slots := kX.instanceTypes.map defaultValue, vm := .none } = T1 at X₁ st1
  have hcat : (Value.ref T.heap.size).category = 1 := rfl
  have hcellA : T1.heap[T.heap.size]? = some (freshCell cX kX) := by rw [← hT1]; exact State.heap_pushCell_size _ _
  have d3' : decode c.code (pc + 3) = .ok (.dup, 1) := by rw [hb]; exact d3
  have d4' : decode c.code (pc + 4) = .ok (.ldc_w is, 3) := by rw [hb]; exact d4
  have hstr' : vk_R own is text sa s' := vk_R.warm hW0 hstr
  obtain ⟨U, hsteps, hrun, hend, hW, hsame, ce, hce, hO⟩ := X₁.ctorThrowS hexec htr (own := own) (cls := cls) (names := names) (ic := ic) hown' hcls hnames h (fun x hx => nomatch hx) hfX hkX hcellA (by rw [hhp, hT]; exact Nat.le_refl _) (msg := .ref sa) rfl
    (g := { method := m, pc := pc + 7, locals := ls, stack := .ref sa :: .ref T.heap.size :: .ref T.heap.size :: rest, locked := none }) rfl hsize rfl rfl (rest := rest) rfl
    (by rw [hb]; exact d7) (by rw [hb]; exact d10) hout hRframes (by simp only [List.map_cons, List.sum_cons, hcat]; omega) hlocks
  obtain ⟨f1, f2⟩ := vx_frame hsame
  rw [hhp] at f1 f2
  have hWs : s.WarmedH U.vm := State.WarmedH.trans hW0 hW
  have hcl : s.vm.findClass cls = some ce.cls := by
    have h9 := hO.cls
    rw [hvm] at h9
    exact h9
  have hall : s.sameButNew ({ U with vm := s.vm } : State) locs mc ms := by
    subst hA
    obtain ⟨e1, e2⟩ := hsame
    rw [State.setFrames_setFrames] at e1
    have h2 : (T.setVm s.vm).sameButNew ({ U with vm := s.vm } : State) [] (0 + 1) (0 + 6) := ⟨e1, e2⟩
    have h3 := X.same.trans h2
    rw [List.append_nil] at h3
    exact h3.mono hc hs
  refine ⟨U, ?_, .threw T.heap.size, hrun, hend, Or.inr ⟨T.heap.size, rfl, cls, ce, locs, hx U hWs.alike f1 (fun q hq => f2 q hq (fun z hz => nomatch hz)), hce, hO.vm, hcl, hWs, hall, hf⟩⟩
  refine st1 _ ?_
  show Steps p.tables e below (T1.setTop { method := m, pc := pc + 3, locals := ls, stack := .ref T.heap.size :: rest, locked := none }) _
  jvm_step X₁.here [X₁.here.top, hexec, d3', Value.category]
  exact X₁.ldcStringW hexec (own := own) (text := text) (index := is) (a := sa) hown' hstr'.1 hstr'.2
    (g := { method := m, pc := pc + 4, locals := ls, stack := .ref T.heap.size :: .ref T.heap.size :: rest, locked := none }) rfl d4' _ hsteps
end Ends
section Bodies
variable {l : Launch}
theorem vx_ofW {y : MethodName} {ws ws' : List Cond} {rm : Room} {Pc : Array Value → State → Prop} {Qc : Array Value → State → Outcome → State → Prop} {XC : String → State → State → Prop} {mc ms : Nat} {free : Addr → Prop} {cc : ByteArray} {maxL : Nat} {ret : Option FieldType}
    (hy : plainName y.cls = true) (hw : ws = Cond.code y cc maxL ret :: ws')
    (body : ∀ p e s m args below meth c s₁, BodyLoose p l y (headSpec ws rm) cc maxL ret e s m args below meth c s₁ → c.maxLocals = maxL → (∀ x ∈ c.exceptionTable.toList, False) → Pc args s →
      W p l e (headSpec ws rm).room s m args below meth c s.heap [] 0 0 (vx_MQ below Qc XC args s mc ms free) (entryFrame m args maxL)) : vx_Met l y ws rm Pc Qc XC mc ms free := by
  refine MetFree.of_bodyS (code := cc) (maxLocals := maxL) (ret := ret) hy ?_ ?_
  · intro args s m h hn
    obtain ⟨meth, c, h1, h2, h3, h4, h5, h6, -, -⟩ := Cond.code_spec hn (atoms_spec (ws := ws) h _ (by rw [hw]; exact List.mem_cons_self))
    exact ⟨meth, c, h1, h2, h3, h4, h5, h6⟩
  · intro p e s m args below meth c s₁ B hml hP _
    have hh0 : s₁.heap = s.heap := by rw [B.state]; rfl
    have ht : ∀ x ∈ c.exceptionTable.toList, False := by
      obtain ⟨meth9, c9, h1, h2, -, -, -, -, h7, -⟩ := Cond.code_spec B.named (atoms_spec (ws := ws) B.pre _ (by rw [hw]; exact List.mem_cons_self))
      cases Option.some.inj (h1.symm.trans B.method)
      cases Option.some.inj (h2.symm.trans (Stand.of_body B).code)
      intro x hx
      rw [Array.isEmpty_iff.mp h7] at hx
      cases hx
    obtain ⟨t, a1, o, b1, b2, b3⟩ := body p e s m args below meth c s₁ B hml ht hP s₁ hh0 (Stand.of_body B)
    exact ⟨t, o, a1, b1, b2, b3⟩
/-- the table of a body with handlers -/
theorem vx_table {p : Program} {x y : MethodName} {S : Spec} {cc bytes : ByteArray} {maxL maxL' : Nat} {ret ret' : Option FieldType} {e : Env} {s s₁ : State} {m : MethodId} {args : Array Value} {below : List Frame} {meth : Method} {c : Code} {hh : List (Nat × Nat × Nat × Nat)}
    (B : BodyLoose p l y S cc maxL ret e s m args below meth c s₁) (h : (Cond.codeWith y bytes maxL' ret' hh).before args s = true) : c.exceptionTable.toList = tableOf hh := by
  obtain ⟨m9, meth9, c9, hn9, h1, h2, -, -, h6, -⟩ := Cond.codeWith_spec h
  cases Option.some.inj (hn9.symm.trans B.named)
  cases Option.some.inj (h1.symm.trans B.method)
  cases Option.some.inj (h2.symm.trans (Stand.of_body B).code)
  rw [← h6, table_eq]
end Bodies
end VXA
/-! ===== END ===== -/
/-! ===== BEGIN a static call of a method with an exception table ===== -/
section VXS
variable {p : Program} {l : Launch} {e : Env} {R : Room} {s : State} {m : MethodId} {args : Array Value} {below : List Frame} {meth : Method} {c : Code} {T : State} {H : Heap} {locs : List Loc} {cells slots : Nat}
abbrev vx_CSW (R : Room) (s : State) (args : Array Value) (own : String) (index : Nat) (y : MethodName) (bytes : ByteArray) (maxL : Nat) (ret : Option FieldType) (hh : List (Nat × Nat × Nat × Nat)) (ws : List Cond) (rm : Room) (mc ms n : Nat) : Prop :=
  (rm.cells = mc ∧ rm.slots = ms ∧ rm.frames + 1 ≤ R.frames ∧ 8 + (maxL + 11) + rm.locals ≤ R.locals ∧ (∀ w ∈ ws, ∀ (a' : Array Value) (U : State), s.WarmedH U.vm → w.before a' U = true) ∧ Cond.codeWith y bytes maxL ret hh ∈ ws) ∧
  (Cond.codeWith y bytes maxL ret hh).before args s = true ∧ (Cond.initialized y.cls).before args s = true ∧ (y.cls ≠ "java/lang/invoke/MethodHandle" ∧ y.cls ≠ "java/lang/invoke/VarHandle") ∧
  (∀ sig, parseMethodDescriptor y.desc = some sig → n = sig.parameters.length) ∧ (Cond.methodLink own index y).before args s = true ∧ (Cond.static y).before args s = true
theorem vx_cwSW {own : String} {index maxL mc ms : Nat} {y : MethodName} {bytes : ByteArray} {ret : Option FieldType} {hh : List (Nat × Nat × Nat × Nat)} {Ts ws ws' : List Cond} {rm : Room} (n : Nat) (ht : ∀ w ∈ Ts, w.before args s = true) (hT : GoodIn Ts (va_wsS own index y ws)) (hw : ws = Cond.codeWith y bytes maxL ret hh :: ws') (hrc : rm.cells = mc) (hrs : rm.slots = ms)
    (hd : y.cls ≠ "java/lang/invoke/MethodHandle" ∧ y.cls ≠ "java/lang/invoke/VarHandle" ∧ (parseMethodDescriptor y.desc).map (fun d => d.parameters.length) = some n) (hR : rm.frames + 1 ≤ R.frames ∧ 8 + (maxL + 11) + rm.locals ≤ R.locals) :
    vx_CSW R s args own index y bytes maxL ret hh ws rm mc ms n := by
  have ok : ∀ w ∈ va_wsS own index y ws, w.before args s = true := fun w h => ht w (hT w h).1
  have hG : GoodIn Ts ws := fun w h => hT w (by unfold va_wsS; exact List.mem_append_right _ h)
  have hc : Cond.codeWith y bytes maxL ret hh ∈ ws := by rw [hw]; exact List.mem_cons_self
  refine ⟨⟨hrc, hrs, hR.1, hR.2, pay_in ht hG, hc⟩, ht _ (hG _ hc).1, ok _ (by simp [va_wsS]), ⟨hd.1, hd.2.1⟩, fun sig h => ?_, ok _ (by simp [va_wsS]), ok _ (by simp [va_wsS])⟩
  have h2 := hd.2.2
  rw [h] at h2
  exact (Option.some.inj h2).symm
theorem vx_callSW (X : Stand p l e R s m args below meth c T locs cells slots) (hexec : p.tables.exec = Jvm.exec) {own : String} {index : Nat} {y : MethodName} {bytes : ByteArray} {maxL : Nat} {ret : Option FieldType} {hh : List (Nat × Nat × Nat × Nat)}
    (hown : s.vm.findClass own = some m.cls) (hlink : (Cond.methodLink own index y).before args s = true) (hstat : (Cond.static y).before args s = true) (hinit : (Cond.initialized y.cls).before args s = true)
    (hcode : (Cond.codeWith y bytes maxL ret hh).before args s = true) (hy : y.cls ≠ "java/lang/invoke/MethodHandle" ∧ y.cls ≠ "java/lang/invoke/VarHandle")
    {W9 : Nat} {Pre : Pt → Array Value → Prop} {Post : Pt → Array Value → Option Value → Pt → Prop} (hK : Back l R p e below s args y 3 W9 Pre Post)
    {g : JFrame} (hg : g.method = m) (hsize : g.locals.size = c.maxLocals) {argsL rest : List Value} (hlen : ∀ sig, parseMethodDescriptor y.desc = some sig → argsL.length = sig.parameters.length)
    (hstack : g.stack = argsL.reverse ++ rest) (hW : 2 * g.monitorRoom + (rest.map fun v => v.category).sum ≤ W9) (hdg : decode c.code g.pc = .ok (.invokestatic index, 3))
    (hpre : ∀ vm₁, s.WarmedH vm₁ → Pre ⟨T.setVm vm₁, locs, cells, slots⟩ argsL.toArray) :
    ∃ (v : Option Value) (vm₁ : Vm) (B : Pt), s.WarmedH vm₁ ∧ Stand p l e R s m args below meth c B.U B.locs B.cells B.slots ∧ Post ⟨T.setVm vm₁, locs, cells, slots⟩ argsL.toArray v B ∧
      ∀ target, Steps p.tables e below (B.U.setTop { g with pc := g.pc + 3, stack := v.toList ++ rest }) target → Steps p.tables e below (T.setTop g) target := by
  obtain ⟨mk, methM, cM, hnamed, hmethM, -, -, -, -, -, -, hsigM⟩ := Cond.codeWith_spec hcode
  have hstatic : methM.isStatic = true := Cond.static_spec hnamed hmethM hstat
  obtain ⟨kP, hkP, -⟩ := className_of_methodNamed hnamed
  have hinitP : kP.init = .initialized := Cond.initialized_spec (findClass_of_methodNamed hnamed) hkP hinit
  obtain ⟨vm₁, X₁, hstep₁⟩ := X.invokestatic hexec hown hlink hnamed hmethM hstatic hkP hinitP hy (g := g) hg (argsL := argsL) (rest := rest) (hlen _ hsigM) hstack hdg
  obtain ⟨v, B, X', hpost, hsteps⟩ := hK m meth c ⟨T.setVm vm₁, locs, cells, slots⟩ { g with stack := rest } (.invokestatic index) mk argsL.toArray X₁ hg hsize hdg hW (X₁.named hnamed) (hpre vm₁ X₁.warmed)
  exact ⟨v, vm₁, B, X₁.warmed, X', hpost, fun target h => hstep₁ _ fun acts => by rw [doInvoke_state]; exact hsteps.trans h⟩
theorem vx_runSW {y : MethodName} {bytes cc : ByteArray} {maxL nL mc ms n index : Nat} {ret : Option FieldType} {hh : List (Nat × Nat × Nat × Nat)} {ws : List Cond} {rm : Room} {Pc : Array Value → State → Prop} {Qc : Array Value → State → Outcome → State → Prop} {free : Addr → Prop} {Ts : List Cond} {own : String} {As rest : List Value} {g : JFrame}
    (S : CallFix p m c cc nL s args Ts own) (hM : Met l y ws rm Pc Qc mc ms free) (cw : vx_CSW R s args own index y bytes maxL ret hh ws rm mc ms n) (hp : PreS s H Pc As)
    (hg : g.method = m) (hn : As.length = n) (hsize : g.locals.size = nL) (hstack : g.stack = As.reverse ++ rest) (hW : 2 * g.monitorRoom + (rest.map fun v => v.category).sum ≤ 8) (hdg : decode cc g.pc = .ok (.invokestatic index, 3)) (hf : cells + mc ≤ R.cells ∧ slots + ms ≤ R.slots) :
    va_Run p l e R s m args below meth c H locs cells slots mc ms g rest (Qc As.toArray) (free) := by
  obtain ⟨⟨hrc, hrs, hfr, hlo, hws, hcw⟩, hcode, hini, hy, hlen, hl, hstt⟩ := cw
  have hK : Back l R p e below s args y 3 8 (PreOf R mc ms Pc) (PostOf Qc mc ms free) := va_backW (hh := hh) (bytes := bytes) (maxL := maxL) (ret := ret) hM hp.1 hrc hrs hfr hlo hws hcw (fun a' U hW => word_at hW (Or.inl (by first | rfl | simp [Cond.onTables, Cond.keeps, Cond.steady])) hini)
  obtain ⟨hx, hb, hml, ho, -⟩ := S
  intro T hT X
  obtain ⟨v, vm₁, ⟨U', l2, c2, s2⟩, hW₁, X', ⟨g', mk, t, L, e1, e2, hq, h1, hL, h2, h3⟩, st⟩ := vx_callSW X hx (hh := hh) (bytes := bytes) (maxL := maxL) (ret := ret) ho hl hstt hini hcode hy hK hg (hsize.trans hml.symm) (argsL := As) (rest := rest) (fun sig h => hn.trans (hlen sig h)) hstack hW (by rw [hb]; exact hdg)
    (fun vm₁ hW₁ => ⟨hf.1, hf.2, hp.2 (T.setVm vm₁) hT hW₁⟩)
  dsimp only [Pt.U, Pt.locs, Pt.cells, Pt.slots] at X' e1 e2 h1 h2 h3 st
  subst h1; subst h2; subst h3
  exact ⟨v, (T.setVm vm₁).calling g' mk As.toArray, t, U', L, hT, X', hL, e1, e2, hq, st⟩
/-- a thing of a world lies in the heap -/
theorem vx_lt {D : va_G} {cl : List vw_C} {ws : va_W} {H1 : Heap} (h : va_P D cl ws H1) {k : Nat} {q : Nat × va_E} (hk : ws[k]? = some q) : q.1 < H1.size := (h k q hk).lt
end VXS
/-! ===== END ===== -/
/-! ===== BEGIN methods with a table of their own: called by a name, returning or throwing ===== -/
section VXH
/-! vx_backW, vx_callVX, vx_callSX, vx_callVW, vx_runVW, vx_runVX, vx_runSX, vx_ofWH follow the same proofs as their sisters above (Free/Laws.lean, Shelf42/LK1.lean); vx_outP calls Shelf42/NT130.lean (outThrough). -/
section
variable {l : Launch} {R : Room} {p : Program} {e : Env} {below : List Frame} {s : State} {sargs : Array Value} {y : MethodName} {len W9 : Nat}
theorem vx_backW {ws : List Cond} {rm : Room} {Pc : Array Value → State → Prop} {Qc : Array Value → State → Outcome → State → Prop} {XC : String → State → State → Prop} {mc ms : Nat} {free : Addr → Prop} {bytes : ByteArray} {maxL : Nat} {ret : Option FieldType} {hh : List (Nat × Nat × Nat × Nat)}
    (hM : vx_Met l y ws rm Pc Qc XC mc ms free) (hblind : FrameBlind Pc) (hrc : rm.cells = mc) (hrs : rm.slots = ms)
    (hframes : rm.frames + 1 ≤ R.frames) (hlocals : W9 + (maxL + 11) + rm.locals ≤ R.locals)
    (hws : ∀ w ∈ ws, ∀ a' U, s.WarmedH U.vm → w.before a' U = true) (hcode : Cond.codeWith y bytes maxL ret hh ∈ ws) (hinit : ∀ a' U, s.WarmedH U.vm → (Cond.initialized y.cls).before a' U = true) :
    vx_Back l R p e below s sargs y len W9 (PreOf R mc ms Pc) (PostOf Qc mc ms free) (vx_Post XC mc ms free) := by
  intro m meth c A g ig mk a X hg hsize hdg hW hn hp
  have h1 : (headSpec ws rm).pre.before a A.U = true := atoms_intro fun w hw => hws w hw _ _ X.warmed
  have h2 : (Cond.codeWith y bytes maxL ret hh).before a A.U = true := hws _ hcode _ _ X.warmed
  have h3 : (Cond.initialized y.cls).before a A.U = true := hinit _ _ X.warmed
  have h4 : A.cells + (headSpec ws rm).room.cells ≤ R.cells := by rw [show (headSpec ws rm).room.cells = mc from hrc]; exact hp.1
  have h5 : A.slots + (headSpec ws rm).room.slots ≤ R.slots := by rw [show (headSpec ws rm).room.slots = ms from hrs]; exact hp.2.1
  have hPc : Pc a (A.U.calling g mk a) := hblind _ _ _ _ hp.2.2
  obtain ⟨U, Ls, c0, s0⟩ := A
  dsimp only [Pt.U, Pt.locs, Pt.cells, Pt.slots] at h1 h2 h3 h4 h5 X hn hPc ⊢
  obtain ⟨m9, methY, cY, hn9, hmY, hcY, -, hlY, -⟩ := Cond.codeWith_spec h2
  cases Option.some.inj (hn9.symm.trans hn)
  obtain ⟨kY, hkY, -⟩ := className_of_methodNamed hn
  have hinitY : kY.init = .initialized := Cond.initialized_spec (findClass_of_methodNamed hn) hkY h3
  have h : At U g.method c below := by rw [hg]; exact X.here
  have hlocals9 : W9 + (maxL + 11) + (headSpec ws rm).room.locals ≤ R.locals := hlocals
  have happ : (headSpec ws rm).appliesLoose y e.platform (U.calling g mk a) = true :=
    Spec.appliesLoose_calling (g := g) h hdg hn hkY hinitY
      (X.room_calling (g := g) (R' := (headSpec ws rm).room) hsize hmY hcY hframes (by rw [hlY]; omega) h4 h5) h1
  obtain ⟨mid, hmid⟩ := h.above
  have hfr : (U.setTop g).frames = (.java g :: mid) ++ below := by rw [State.frames_setTop' g h.top, hmid]; rfl
  obtain ⟨o, s₂, hsteps, -, hend, hq⟩ := Steps.callFree hM p X.admits X.cas X.clock (acts := []) hfr happ hPc trivial
  have hq' : vx_Q Qc XC mc ms free a (U.calling g mk a) o s₂ := hq
  rw [State.frames_setTop' g h.top] at hend
  obtain ⟨g₀, hg0⟩ := Option.isSome_iff_exists.mp h.top
  obtain ⟨r, hr⟩ := State.topJava?_eq_some.mp hg0
  have hr' : (({ U with heap := s₂.heap, slotsUsed := s₂.slotsUsed } : State).setVm s₂.vm).frames = .java g₀ :: r := hr
  rcases hq' with ⟨hqc, L, hfe, hL⟩ | ⟨q, rfl, E, ce, L, hx, hce, hcv, hcl, hW₂, hsm, hL⟩
  · obtain ⟨⟨v, rfl⟩, hW₂, e2, q2, q3, q4, q5, q6⟩ := id hfe
    have e3 : s₂ = ({ (U.calling g mk a).setFrames s₂.frames with heap := s₂.heap, slotsUsed := s₂.slotsUsed } : State).setVm s₂.vm := by
      have : s₂ = ({ s₂ with vm := (U.calling g mk a).vm } : State).setVm s₂.vm := rfl
      rw [e2] at this
      exact this
    obtain ⟨c₂, i₂, len₂, hc₂, hd₂, hf₂⟩ := hend
    have hW' : U.WarmedH s₂.vm := hW₂
    have hcc : c₂ = c := by
      have h1 : s₂.code? g.method = U.code? g.method := by
        rw [State.code?_eq, State.code?_eq, hW'.alike.method?]
      exact Option.some.inj (hc₂.symm.trans (h1.trans h.code))
    subst hcc
    have hlen : len₂ = len := by rw [hdg] at hd₂; cases hd₂; rfl
    subst hlen
    have hs₂ : s₂ = (({ U with heap := s₂.heap, slotsUsed := s₂.slotsUsed } : State).setVm s₂.vm).setTop { g with pc := g.pc + len₂, stack := v.toList ++ g.stack } := by
      refine e3.trans ?_
      rw [hf₂, State.calling_eq h.top, State.setFrames_setFrames, State.setTop_of_frames _ hr', hr]
      rfl
    have hsame : U.sameButNew ({ U with heap := s₂.heap, slotsUsed := s₂.slotsUsed } : State) L mc ms := by
      refine ⟨?_, q2, q3, q4, q5, q6⟩
      obtain ⟨t, ht, -⟩ := State.frames_cons hr
      show ({ U with heap := s₂.heap, slotsUsed := s₂.slotsUsed } : State) = { U.setFrames U.frames with heap := s₂.heap, slotsUsed := s₂.slotsUsed }
      rw [State.setFrames_self ht]
    subst hg
    refine Or.inl ⟨v, ⟨(({ U with heap := s₂.heap, slotsUsed := s₂.slotsUsed } : State).setVm s₂.vm), Ls ++ L, c0 + mc, s0 + ms⟩,
      ⟨X.admits, X.cas, X.clock, X.frames, X.room, X.hears, X.method, X.code, (X.here.setHeapUsed s₂.heap s₂.slotsUsed).setVm hW'.alike, X.tail, State.WarmedH.trans X.warmed hW', X.limits, X.bytes, X.same.trans (hsame.setVm s.vm)⟩,
      ⟨g, mk, s₂, L, rfl, rfl, hqc, rfl, hL, rfl, rfl⟩, ?_⟩
    show Steps p.tables e below _ ((({ U with heap := s₂.heap, slotsUsed := s₂.slotsUsed } : State).setVm s₂.vm).setTop { g with pc := g.pc + len₂, stack := v.toList ++ g.stack })
    rw [← hs₂]
    exact hsteps
  · obtain ⟨e2, q2, q3, q4, q5, q6⟩ := id hsm
    have e3 : s₂ = ({ (U.calling g mk a).setFrames s₂.frames with heap := s₂.heap, slotsUsed := s₂.slotsUsed } : State).setVm s₂.vm := by
      have : s₂ = ({ s₂ with vm := (U.calling g mk a).vm } : State).setVm s₂.vm := rfl
      rw [e2] at this
      exact this
    have hf₂ : s₂.frames = .throwing q :: .java g :: U.frames.tail := hend
    have hW' : U.WarmedH s₂.vm := hW₂
    have hs₂ : s₂ = ((({ U with heap := s₂.heap, slotsUsed := s₂.slotsUsed } : State).setVm s₂.vm).setTop g).pushFrame (.throwing q) := by
      refine e3.trans ?_
      rw [hf₂, State.calling_eq h.top, State.setFrames_setFrames, State.pushFrame, State.frames_setTop _ hr', State.setTop_of_frames _ hr', State.setFrames_setFrames, hr]
      rfl
    have hsame : U.sameButNew ({ U with heap := s₂.heap, slotsUsed := s₂.slotsUsed } : State) L mc ms := by
      refine ⟨?_, q2, q3, q4, q5, q6⟩
      obtain ⟨t, ht, -⟩ := State.frames_cons hr
      show ({ U with heap := s₂.heap, slotsUsed := s₂.slotsUsed } : State) = { U.setFrames U.frames with heap := s₂.heap, slotsUsed := s₂.slotsUsed }
      rw [State.setFrames_self ht]
    subst hg
    refine Or.inr ⟨q, ⟨(({ U with heap := s₂.heap, slotsUsed := s₂.slotsUsed } : State).setVm s₂.vm), Ls ++ L, c0 + mc, s0 + ms⟩,
      ⟨X.admits, X.cas, X.clock, X.frames, X.room, X.hears, X.method, X.code, (X.here.setHeapUsed s₂.heap s₂.slotsUsed).setVm hW'.alike, X.tail, State.WarmedH.trans X.warmed hW', X.limits, X.bytes, X.same.trans (hsame.setVm s.vm)⟩,
      ⟨g, mk, s₂, L, E, ce, rfl, rfl, hx, hce, hcv, hcl, rfl, hL, rfl, rfl⟩, ?_⟩
    show Steps p.tables e below _ (((({ U with heap := s₂.heap, slotsUsed := s₂.slotsUsed } : State).setVm s₂.vm).setTop g).pushFrame (.throwing q))
    rw [← hs₂]
    exact hsteps
end
variable {p : Program} {l : Launch} {e : Env} {R : Room} {s : State} {m : MethodId} {args : Array Value} {below : List Frame} {meth : Method} {c : Code} {T : State} {H : Heap} {locs : List Loc} {cells slots : Nat}
theorem vx_callVX (X : Stand p l e R s m args below meth c T locs cells slots) (hexec : p.tables.exec = Jvm.exec) {own C : String} {index : Nat} {y : MethodName} {bytes : ByteArray} {maxL : Nat} {ret : Option FieldType} {hh : List (Nat × Nat × Nat × Nat)}
    (hown : s.vm.findClass own = some m.cls) (hlink : (Cond.methodLink own index y).before args s = true) (hinst : (Cond.instanceMethod y).before args s = true) (hsel : (Cond.selects C y y).before args s = true)
    (hcode : (Cond.codeWith y bytes maxL ret hh).before args s = true) (hy : y.cls ≠ "java/lang/invoke/MethodHandle" ∧ y.cls ≠ "java/lang/invoke/VarHandle")
    {W9 : Nat} {Pre : Pt → Array Value → Prop} {Post : Pt → Array Value → Option Value → Pt → Prop} {PostX : Pt → Array Value → Addr → Pt → Prop} (hK : vx_Back l R p e below s args y 3 W9 Pre Post PostX)
    {b : Addr} {cellB : Cell} (hcell : T.heap[b]? = some cellB) (hobj : cellB.vm.isStatics = false) (hcls : s.vm.findClass C = some cellB.cls)
    {g : JFrame} (hg : g.method = m) (hsize : g.locals.size = c.maxLocals) {argsL rest : List Value} (hlen : ∀ sig, parseMethodDescriptor y.desc = some sig → argsL.length = sig.parameters.length)
    (hstack : g.stack = argsL.reverse ++ .ref b :: rest) (hW : 2 * g.monitorRoom + (rest.map fun v => v.category).sum ≤ W9) (hdg : decode c.code g.pc = .ok (.invokevirtual index, 3))
    (hpre : ∀ vm₁, s.WarmedH vm₁ → Pre ⟨T.setVm vm₁, locs, cells, slots⟩ (Value.ref b :: argsL).toArray) :
    (∃ (v : Option Value) (vm₁ : Vm) (B : Pt), s.WarmedH vm₁ ∧ Stand p l e R s m args below meth c B.U B.locs B.cells B.slots ∧ Post ⟨T.setVm vm₁, locs, cells, slots⟩ (Value.ref b :: argsL).toArray v B ∧
      ∀ target, Steps p.tables e below (B.U.setTop { g with pc := g.pc + 3, stack := v.toList ++ rest }) target → Steps p.tables e below (T.setTop g) target) ∨
    (∃ (q : Addr) (vm₁ : Vm) (B : Pt), s.WarmedH vm₁ ∧ Stand p l e R s m args below meth c B.U B.locs B.cells B.slots ∧ PostX ⟨T.setVm vm₁, locs, cells, slots⟩ (Value.ref b :: argsL).toArray q B ∧
      Steps p.tables e below (T.setTop g) ((B.U.setTop { g with stack := rest }).pushFrame (.throwing q))) := by
  obtain ⟨mk, methM, hnamed, hmethM, hstM, habM⟩ := Cond.instanceMethod_spec hinst
  obtain ⟨m8, methM', cM, hn8, hmethM', -, -, -, -, -, -, hsigM⟩ := Cond.codeWith_spec hcode
  cases Option.some.inj (hn8.symm.trans hnamed)
  cases hmethM.symm.trans hmethM'
  obtain ⟨c2, r2, m2, q1, q2, q3, q4, kP, hkP, hkPi⟩ := Cond.selects_spec hsel
  cases hcls.symm.trans q1
  cases (State.methodFound?_of_named hnamed hy).symm.trans q2
  cases hnamed.symm.trans q3
  have hselP : selectMethod e.platform s.vm cellB.cls mk = .method mk := by rw [Launch.admits_selectMethod X.admits]; exact q4
  obtain ⟨vm₁, X₁, hstep₁⟩ := X.invokevirtual hexec hown hlink hnamed hmethM hstM hkP hkPi hy (a := b) (cell := cellB) hcell
    (fun z h => by rw [h] at hobj; cases hobj) hselP hmethM habM hkP hkPi (g := g) hg (argsL := argsL) (rest := rest) (hlen _ hsigM) hstack hdg
  rcases hK m meth c ⟨T.setVm vm₁, locs, cells, slots⟩ { g with stack := rest } (.invokevirtual index) mk (Value.ref b :: argsL).toArray X₁ hg hsize hdg hW (X₁.named hnamed) (hpre vm₁ X₁.warmed) with ⟨v, B, X', hpost, hsteps⟩ | ⟨q, B, X', hpost, hsteps⟩
  · exact Or.inl ⟨v, vm₁, B, X₁.warmed, X', hpost, fun target h => hstep₁ _ fun acts => by rw [doInvoke_state]; exact hsteps.trans h⟩
  · exact Or.inr ⟨q, vm₁, B, X₁.warmed, X', hpost, hstep₁ _ fun acts => by rw [doInvoke_state]; exact hsteps⟩
theorem vx_callSX (X : Stand p l e R s m args below meth c T locs cells slots) (hexec : p.tables.exec = Jvm.exec) {own : String} {index : Nat} {y : MethodName} {bytes : ByteArray} {maxL : Nat} {ret : Option FieldType} {hh : List (Nat × Nat × Nat × Nat)}
    (hown : s.vm.findClass own = some m.cls) (hlink : (Cond.methodLink own index y).before args s = true) (hstat : (Cond.static y).before args s = true) (hinit : (Cond.initialized y.cls).before args s = true)
    (hcode : (Cond.codeWith y bytes maxL ret hh).before args s = true) (hy : y.cls ≠ "java/lang/invoke/MethodHandle" ∧ y.cls ≠ "java/lang/invoke/VarHandle")
    {W9 : Nat} {Pre : Pt → Array Value → Prop} {Post : Pt → Array Value → Option Value → Pt → Prop} {PostX : Pt → Array Value → Addr → Pt → Prop} (hK : vx_Back l R p e below s args y 3 W9 Pre Post PostX)
    {g : JFrame} (hg : g.method = m) (hsize : g.locals.size = c.maxLocals) {argsL rest : List Value} (hlen : ∀ sig, parseMethodDescriptor y.desc = some sig → argsL.length = sig.parameters.length)
    (hstack : g.stack = argsL.reverse ++ rest) (hW : 2 * g.monitorRoom + (rest.map fun v => v.category).sum ≤ W9) (hdg : decode c.code g.pc = .ok (.invokestatic index, 3))
    (hpre : ∀ vm₁, s.WarmedH vm₁ → Pre ⟨T.setVm vm₁, locs, cells, slots⟩ argsL.toArray) :
    (∃ (v : Option Value) (vm₁ : Vm) (B : Pt), s.WarmedH vm₁ ∧ Stand p l e R s m args below meth c B.U B.locs B.cells B.slots ∧ Post ⟨T.setVm vm₁, locs, cells, slots⟩ argsL.toArray v B ∧
      ∀ target, Steps p.tables e below (B.U.setTop { g with pc := g.pc + 3, stack := v.toList ++ rest }) target → Steps p.tables e below (T.setTop g) target) ∨
    (∃ (q : Addr) (vm₁ : Vm) (B : Pt), s.WarmedH vm₁ ∧ Stand p l e R s m args below meth c B.U B.locs B.cells B.slots ∧ PostX ⟨T.setVm vm₁, locs, cells, slots⟩ argsL.toArray q B ∧
      Steps p.tables e below (T.setTop g) ((B.U.setTop { g with stack := rest }).pushFrame (.throwing q))) := by
  obtain ⟨mk, methM, cM, hnamed, hmethM, -, -, -, -, -, -, hsigM⟩ := Cond.codeWith_spec hcode
  have hstatic : methM.isStatic = true := Cond.static_spec hnamed hmethM hstat
  obtain ⟨kP, hkP, -⟩ := className_of_methodNamed hnamed
  have hinitP : kP.init = .initialized := Cond.initialized_spec (findClass_of_methodNamed hnamed) hkP hinit
  obtain ⟨vm₁, X₁, hstep₁⟩ := X.invokestatic hexec hown hlink hnamed hmethM hstatic hkP hinitP hy (g := g) hg (argsL := argsL) (rest := rest) (hlen _ hsigM) hstack hdg
  rcases hK m meth c ⟨T.setVm vm₁, locs, cells, slots⟩ { g with stack := rest } (.invokestatic index) mk argsL.toArray X₁ hg hsize hdg hW (X₁.named hnamed) (hpre vm₁ X₁.warmed) with ⟨v, B, X', hpost, hsteps⟩ | ⟨q, B, X', hpost, hsteps⟩
  · exact Or.inl ⟨v, vm₁, B, X₁.warmed, X', hpost, fun target h => hstep₁ _ fun acts => by rw [doInvoke_state]; exact hsteps.trans h⟩
  · exact Or.inr ⟨q, vm₁, B, X₁.warmed, X', hpost, hstep₁ _ fun acts => by rw [doInvoke_state]; exact hsteps⟩
theorem vx_callVW (X : Stand p l e R s m args below meth c T locs cells slots) (hexec : p.tables.exec = Jvm.exec) {own C : String} {index : Nat} {y : MethodName} {bytes : ByteArray} {maxL : Nat} {ret : Option FieldType} {hh : List (Nat × Nat × Nat × Nat)}
    (hown : s.vm.findClass own = some m.cls) (hlink : (Cond.methodLink own index y).before args s = true) (hinst : (Cond.instanceMethod y).before args s = true) (hsel : (Cond.selects C y y).before args s = true)
    (hcode : (Cond.codeWith y bytes maxL ret hh).before args s = true) (hy : y.cls ≠ "java/lang/invoke/MethodHandle" ∧ y.cls ≠ "java/lang/invoke/VarHandle")
    {W9 : Nat} {Pre : Pt → Array Value → Prop} {Post : Pt → Array Value → Option Value → Pt → Prop} (hK : Back l R p e below s args y 3 W9 Pre Post)
    {b : Addr} {cellB : Cell} (hcell : T.heap[b]? = some cellB) (hobj : cellB.vm.isStatics = false) (hcls : s.vm.findClass C = some cellB.cls)
    {g : JFrame} (hg : g.method = m) (hsize : g.locals.size = c.maxLocals) {argsL rest : List Value} (hlen : ∀ sig, parseMethodDescriptor y.desc = some sig → argsL.length = sig.parameters.length)
    (hstack : g.stack = argsL.reverse ++ .ref b :: rest) (hW : 2 * g.monitorRoom + (rest.map fun v => v.category).sum ≤ W9) (hdg : decode c.code g.pc = .ok (.invokevirtual index, 3))
    (hpre : ∀ vm₁, s.WarmedH vm₁ → Pre ⟨T.setVm vm₁, locs, cells, slots⟩ (Value.ref b :: argsL).toArray) :
    ∃ (v : Option Value) (vm₁ : Vm) (B : Pt), s.WarmedH vm₁ ∧ Stand p l e R s m args below meth c B.U B.locs B.cells B.slots ∧ Post ⟨T.setVm vm₁, locs, cells, slots⟩ (Value.ref b :: argsL).toArray v B ∧
      ∀ target, Steps p.tables e below (B.U.setTop { g with pc := g.pc + 3, stack := v.toList ++ rest }) target → Steps p.tables e below (T.setTop g) target := by
  obtain ⟨mk, methM, hnamed, hmethM, hstM, habM⟩ := Cond.instanceMethod_spec hinst
  obtain ⟨m8, methM', cM, hn8, hmethM', -, -, -, -, -, -, hsigM⟩ := Cond.codeWith_spec hcode
  cases Option.some.inj (hn8.symm.trans hnamed)
  cases hmethM.symm.trans hmethM'
  obtain ⟨c2, r2, m2, q1, q2, q3, q4, kP, hkP, hkPi⟩ := Cond.selects_spec hsel
  cases hcls.symm.trans q1
  cases (State.methodFound?_of_named hnamed hy).symm.trans q2
  cases hnamed.symm.trans q3
  have hselP : selectMethod e.platform s.vm cellB.cls mk = .method mk := by rw [Launch.admits_selectMethod X.admits]; exact q4
  obtain ⟨vm₁, X₁, hstep₁⟩ := X.invokevirtual hexec hown hlink hnamed hmethM hstM hkP hkPi hy (a := b) (cell := cellB) hcell
    (fun z h => by rw [h] at hobj; cases hobj) hselP hmethM habM hkP hkPi (g := g) hg (argsL := argsL) (rest := rest) (hlen _ hsigM) hstack hdg
  obtain ⟨v, B, X', hpost, hsteps⟩ := hK m meth c ⟨T.setVm vm₁, locs, cells, slots⟩ { g with stack := rest } (.invokevirtual index) mk (Value.ref b :: argsL).toArray X₁ hg hsize hdg hW (X₁.named hnamed) (hpre vm₁ X₁.warmed)
  exact ⟨v, vm₁, B, X₁.warmed, X', hpost, fun target h => hstep₁ _ fun acts => by rw [doInvoke_state]; exact hsteps.trans h⟩
abbrev vx_CVW (R : Room) (s : State) (args : Array Value) (own C : String) (index : Nat) (y : MethodName) (bytes : ByteArray) (maxL : Nat) (ret : Option FieldType) (hh : List (Nat × Nat × Nat × Nat)) (ws : List Cond) (rm : Room) (mc ms n : Nat) : Prop :=
  (rm.cells = mc ∧ rm.slots = ms ∧ rm.frames + 1 ≤ R.frames ∧ 8 + (maxL + 11) + rm.locals ≤ R.locals ∧ (∀ w ∈ ws, ∀ (a' : Array Value) (U : State), s.WarmedH U.vm → w.before a' U = true) ∧ Cond.codeWith y bytes maxL ret hh ∈ ws) ∧
  (Cond.codeWith y bytes maxL ret hh).before args s = true ∧ (Cond.initialized y.cls).before args s = true ∧ (y.cls ≠ "java/lang/invoke/MethodHandle" ∧ y.cls ≠ "java/lang/invoke/VarHandle") ∧
  (∀ sig, parseMethodDescriptor y.desc = some sig → n = sig.parameters.length) ∧ (Cond.methodLink own index y).before args s = true ∧ (Cond.instanceMethod y).before args s = true ∧ (Cond.selects C y y).before args s = true
theorem vx_cwVW {own C : String} {index maxL mc ms : Nat} {y : MethodName} {bytes : ByteArray} {ret : Option FieldType} {hh : List (Nat × Nat × Nat × Nat)} {Ts ws ws' : List Cond} {rm : Room} (n : Nat) (ht : ∀ w ∈ Ts, w.before args s = true) (hT : GoodIn Ts (wsV own index C y ws)) (hw : ws = Cond.codeWith y bytes maxL ret hh :: ws') (hrc : rm.cells = mc) (hrs : rm.slots = ms)
    (hd : y.cls = C ∧ y.cls ≠ "java/lang/invoke/MethodHandle" ∧ y.cls ≠ "java/lang/invoke/VarHandle" ∧ (parseMethodDescriptor y.desc).map (fun d => d.parameters.length) = some n) (hR : rm.frames + 1 ≤ R.frames ∧ 8 + (maxL + 11) + rm.locals ≤ R.locals) :
    vx_CVW R s args own C index y bytes maxL ret hh ws rm mc ms n := by
  obtain ⟨hC, hd⟩ := hd
  subst hC
  have ok : ∀ w ∈ wsV own index y.cls y ws, w.before args s = true := fun w h => ht w (hT w h).1
  have hG : GoodIn Ts ws := fun w h => hT w (by unfold wsV; exact List.mem_append_right _ h)
  have hc : Cond.codeWith y bytes maxL ret hh ∈ ws := by rw [hw]; exact List.mem_cons_self
  refine ⟨⟨hrc, hrs, hR.1, hR.2, pay_in ht hG, hc⟩, ht _ (hG _ hc).1, ok _ (by simp [wsV]), ⟨hd.1, hd.2.1⟩, fun sig h => ?_, ok _ (by simp [wsV]), ok _ (by simp [wsV]), ok _ (by simp [wsV])⟩
  have h2 := hd.2.2
  rw [h] at h2
  exact (Option.some.inj h2).symm
theorem vx_runVW {y : MethodName} {bytes cc : ByteArray} {maxL nL mc ms n index : Nat} {ret : Option FieldType} {hh : List (Nat × Nat × Nat × Nat)} {ws : List Cond} {rm : Room} {Pc : Array Value → State → Prop} {Qc : Array Value → State → Outcome → State → Prop} {free : Addr → Prop} {Ts : List Cond} {own C : String} {b : Addr} {As rest : List Value} {g : JFrame}
    (S : CallFix p m c cc nL s args Ts own) (hM : Met l y ws rm Pc Qc mc ms free) (cw : vx_CVW R s args own C index y bytes maxL ret hh ws rm mc ms n) (hp : PreV s H C b Pc As)
    (hg : g.method = m) (hn : As.length = n) (hsize : g.locals.size = nL) (hstack : g.stack = As.reverse ++ .ref b :: rest) (hW : 2 * g.monitorRoom + (rest.map fun v => v.category).sum ≤ 8) (hdg : decode cc g.pc = .ok (.invokevirtual index, 3)) (hf : cells + mc ≤ R.cells ∧ slots + ms ≤ R.slots) :
    va_Run p l e R s m args below meth c H locs cells slots mc ms g rest (Qc (Value.ref b :: As).toArray) free := by
  obtain ⟨⟨hrc, hrs, hfr, hlo, hws, hcw⟩, hcode, hini, hy, hlen, hl, hin, hse⟩ := cw
  have hK : Back l R p e below s args y 3 8 (PreOf R mc ms Pc) (PostOf Qc mc ms free) := va_backW (hh := hh) (bytes := bytes) (maxL := maxL) (ret := ret) hM hp.1 hrc hrs hfr hlo hws hcw (fun a' U hW => word_at hW (Or.inl (by first | rfl | simp [Cond.onTables, Cond.keeps, Cond.steady])) hini)
  obtain ⟨hx, hb, hml, ho, -⟩ := S
  obtain ⟨-, ⟨cellB, hcB, hoB, hclB⟩, hPc⟩ := hp
  intro T hT X
  obtain ⟨v, vm₁, ⟨U', l2, c2, s2⟩, hW₁, X', ⟨g', mk, t, L, e1, e2, hq, h1, hL, h2, h3⟩, st⟩ := vx_callVW X hx (C := C) (hh := hh) (bytes := bytes) (maxL := maxL) (ret := ret) ho hl hin hse hcode hy hK (by rw [hT]; exact hcB) hoB hclB hg (hsize.trans hml.symm) (argsL := As) (rest := rest) (fun sig h => hn.trans (hlen sig h)) hstack hW (by rw [hb]; exact hdg)
    (fun vm₁ hW₁ => ⟨hf.1, hf.2, hPc (T.setVm vm₁) hT hW₁⟩)
  dsimp only [Pt.U, Pt.locs, Pt.cells, Pt.slots] at X' e1 e2 h1 h2 h3 st
  subst h1; subst h2; subst h3
  exact ⟨v, (T.setVm vm₁).calling g' mk (Value.ref b :: As).toArray, t, U', L, hT, X', hL, e1, e2, hq, st⟩
section
variable {y : MethodName} {bytes cc : ByteArray} {maxL nL mc ms n index : Nat} {ret : Option FieldType} {ws : List Cond} {rm : Room} {Pc : Array Value → State → Prop} {Qc : Array Value → State → Outcome → State → Prop} {XC : String → State → State → Prop} {free : Addr → Prop} {Ts : List Cond} {own C : String} {b : Addr} {As rest : List Value} {g : JFrame}
theorem vx_runVX {hh : List (Nat × Nat × Nat × Nat)} (S : CallFix p m c cc nL s args Ts own) (hM : vx_Met l y ws rm Pc Qc XC mc ms free) (cw : vx_CVW R s args own C index y bytes maxL ret hh ws rm mc ms n) (hp : PreV s H C b Pc As)
    (hg : g.method = m) (hn : As.length = n) (hsize : g.locals.size = nL) (hstack : g.stack = As.reverse ++ .ref b :: rest) (hW : 2 * g.monitorRoom + (rest.map fun v => v.category).sum ≤ 8) (hdg : decode cc g.pc = .ok (.invokevirtual index, 3)) (hf : cells + mc ≤ R.cells ∧ slots + ms ≤ R.slots) :
    vx_Run p l e R s m args below meth c H locs cells slots mc ms g rest (Qc (Value.ref b :: As).toArray) XC free := by
  obtain ⟨⟨hrc, hrs, hfr, hlo, hws, hcw⟩, hcode, hini, hy, hlen, hl, hin, hse⟩ := cw
  have hK : vx_Back l R p e below s args y 3 8 (PreOf R mc ms Pc) (PostOf Qc mc ms free) (vx_Post XC mc ms free) := vx_backW (hh := hh) (bytes := bytes) (maxL := maxL) (ret := ret) hM hp.1 hrc hrs hfr hlo hws hcw (fun a' U hW => word_at hW (Or.inl (by first | rfl | simp [Cond.onTables, Cond.keeps, Cond.steady])) hini)
  obtain ⟨hx, hb, hml, ho, -⟩ := S
  obtain ⟨-, ⟨cellB, hcB, hoB, hclB⟩, hPc⟩ := hp
  intro T hT X
  rcases vx_callVX X hx (C := C) (hh := hh) (bytes := bytes) (maxL := maxL) (ret := ret) ho hl hin hse hcode hy hK (by rw [hT]; exact hcB) hoB hclB hg (hsize.trans hml.symm) (argsL := As) (rest := rest) (fun sig h => hn.trans (hlen sig h)) hstack hW (by rw [hb]; exact hdg)
    (fun vm₁ hW₁ => ⟨hf.1, hf.2, hPc (T.setVm vm₁) hT hW₁⟩) with ⟨v, vm₁, ⟨U', l2, c2, s2⟩, hW₁, X', ⟨g', mk, t, L, e1, e2, hq, h1, hL, h2, h3⟩, st⟩ | ⟨q, vm₁, ⟨U', l2, c2, s2⟩, hW₁, X', ⟨g', mk, t, L, E, ce, e1, e2, hq, hce, hcv, hcl, h1, hL, h2, h3⟩, st⟩
  · dsimp only [Pt.U, Pt.locs, Pt.cells, Pt.slots] at X' e1 e2 h1 h2 h3 st
    subst h1; subst h2; subst h3
    exact Or.inl ⟨v, (T.setVm vm₁).calling g' mk (Value.ref b :: As).toArray, t, U', L, hT, X', hL, e1, e2, hq, st⟩
  · dsimp only [Pt.U, Pt.locs, Pt.cells, Pt.slots] at X' e1 e2 h1 h2 h3 st hcl
    subst h1; subst h2; subst h3
    exact Or.inr ⟨q, (T.setVm vm₁).calling g' mk (Value.ref b :: As).toArray, t, U', L, E, ce, hT, X', hL, e1, e2, hq, hce, hcv, vx_cls hW₁ hcl, st⟩
theorem vx_runSX {hh : List (Nat × Nat × Nat × Nat)} (S : CallFix p m c cc nL s args Ts own) (hM : vx_Met l y ws rm Pc Qc XC mc ms free) (cw : vx_CSW R s args own index y bytes maxL ret hh ws rm mc ms n) (hp : PreS s H Pc As)
    (hg : g.method = m) (hn : As.length = n) (hsize : g.locals.size = nL) (hstack : g.stack = As.reverse ++ rest) (hW : 2 * g.monitorRoom + (rest.map fun v => v.category).sum ≤ 8) (hdg : decode cc g.pc = .ok (.invokestatic index, 3)) (hf : cells + mc ≤ R.cells ∧ slots + ms ≤ R.slots) :
    vx_Run p l e R s m args below meth c H locs cells slots mc ms g rest (Qc As.toArray) XC free := by
  obtain ⟨⟨hrc, hrs, hfr, hlo, hws, hcw⟩, hcode, hini, hy, hlen, hl, hstt⟩ := cw
  have hK : vx_Back l R p e below s args y 3 8 (PreOf R mc ms Pc) (PostOf Qc mc ms free) (vx_Post XC mc ms free) := vx_backW (hh := hh) (bytes := bytes) (maxL := maxL) (ret := ret) hM hp.1 hrc hrs hfr hlo hws hcw (fun a' U hW => word_at hW (Or.inl (by first | rfl | simp [Cond.onTables, Cond.keeps, Cond.steady])) hini)
  obtain ⟨hx, hb, hml, ho, -⟩ := S
  intro T hT X
  rcases vx_callSX X hx (hh := hh) (bytes := bytes) (maxL := maxL) (ret := ret) ho hl hstt hini hcode hy hK hg (hsize.trans hml.symm) (argsL := As) (rest := rest) (fun sig h => hn.trans (hlen sig h)) hstack hW (by rw [hb]; exact hdg)
    (fun vm₁ hW₁ => ⟨hf.1, hf.2, hp.2 (T.setVm vm₁) hT hW₁⟩) with ⟨v, vm₁, ⟨U', l2, c2, s2⟩, hW₁, X', ⟨g', mk, t, L, e1, e2, hq, h1, hL, h2, h3⟩, st⟩ | ⟨q, vm₁, ⟨U', l2, c2, s2⟩, hW₁, X', ⟨g', mk, t, L, E, ce, e1, e2, hq, hce, hcv, hcl, h1, hL, h2, h3⟩, st⟩
  · dsimp only [Pt.U, Pt.locs, Pt.cells, Pt.slots] at X' e1 e2 h1 h2 h3 st
    subst h1; subst h2; subst h3
    exact Or.inl ⟨v, (T.setVm vm₁).calling g' mk As.toArray, t, U', L, hT, X', hL, e1, e2, hq, st⟩
  · dsimp only [Pt.U, Pt.locs, Pt.cells, Pt.slots] at X' e1 e2 h1 h2 h3 st hcl
    subst h1; subst h2; subst h3
    exact Or.inr ⟨q, (T.setVm vm₁).calling g' mk As.toArray, t, U', L, E, ce, hT, X', hL, e1, e2, hq, hce, hcv, vx_cls hW₁ hcl, st⟩
end
end VXH
theorem vx_ofWH {l : Launch} {y : MethodName} {ws ws' : List Cond} {rm : Room} {Pc : Array Value → State → Prop} {Qc : Array Value → State → Outcome → State → Prop} {XC : String → State → State → Prop} {mc ms : Nat} {free : Addr → Prop} {cc : ByteArray} {maxL : Nat} {ret : Option FieldType} {hh : List (Nat × Nat × Nat × Nat)}
    (hy : plainName y.cls = true) (hw : ws = Cond.codeWith y cc maxL ret hh :: ws')
    (body : ∀ p e s m args below meth c s₁, BodyLoose p l y (headSpec ws rm) cc maxL ret e s m args below meth c s₁ → c.maxLocals = maxL → Pc args s →
      W p l e (headSpec ws rm).room s m args below meth c s.heap [] 0 0 (vx_MQ below Qc XC args s mc ms free) (entryFrame m args maxL)) : vx_Met l y ws rm Pc Qc XC mc ms free := by
  refine MetFree.of_bodyS (code := cc) (maxLocals := maxL) (ret := ret) hy ?_ ?_
  · intro args s m h hn
    obtain ⟨m9, meth, c, hn9, h1, h2, h3, h4, -, h5, h6, -⟩ := Cond.codeWith_spec (atoms_spec (ws := ws) h _ (by rw [hw]; exact List.mem_cons_self))
    cases hn.symm.trans hn9
    exact ⟨meth, c, h1, h2, h3, h4, h5, h6⟩
  · intro p e s m args below meth c s₁ B hml hP _
    have hh0 : s₁.heap = s.heap := by rw [B.state]; rfl
    obtain ⟨t, a1, o, b1, b2, b3⟩ := body p e s m args below meth c s₁ B hml hP s₁ hh0 (Stand.of_body B)
    exact ⟨t, o, a1, b1, b2, b3⟩
/-! ===== END ===== -/
end
section
/-! ===== the words of nest mates ===== -/
def mw_nestF : List Cond := [.fieldLinkNest "LinkPair$Line" 26 "LinkPair$Frame" "length" "I" "LinkPair", .fieldLinkNest "LinkPair" 96 "LinkPair$Frame" "length" "I" "LinkPair", .fieldLinkNest "LinkPair$Unit" 56 "LinkPair$Frame" "length" "I" "LinkPair", .fieldLinkNest "LinkPair" 76 "LinkPair$Line" "frames" "[LLinkPair$Frame;" "LinkPair", .fieldLinkNest "LinkPair$End" 45 "LinkPair$Line" "count" "I" "LinkPair", .fieldLinkNest "LinkPair" 73 "LinkPair$Line" "count" "I" "LinkPair", .fieldLinkNest "LinkPair$End" 95 "LinkPair$Messages" "lengths" "[I" "LinkPair", .fieldLinkNest "LinkPair$End" 99 "LinkPair$Messages" "seeds" "[I" "LinkPair", .fieldLinkNest "LinkPair$End" 89 "LinkPair$Messages" "untold" "I" "LinkPair", .fieldLinkNest "LinkPair$End" 67 "LinkPair$Messages" "again" "I" "LinkPair", .fieldLinkNest "LinkPair" 38 "LinkPair$Messages" "waiting" "I" "LinkPair", .fieldLinkNest "LinkPair$End" 150 "LinkPair$Messages" "waiting" "I" "LinkPair", .fieldLinkNest "LinkPair$End" 153 "LinkPair$Store" "total" "I" "LinkPair", .fieldLinkNest "LinkPair" 51 "LinkPair$End" "line" "LLinkPair$Line;" "LinkPair", .fieldLinkNest "LinkPair" 34 "LinkPair$End" "messages" "LLinkPair$Messages;" "LinkPair", .fieldLinkNest "LinkPair" 114 "LinkPair$End" "store" "LLinkPair$Store;" "LinkPair", .fieldLinkNest "LinkPair" 30 "LinkPair$End" "failed" "Z" "LinkPair"]
def mw_nestM : List Cond := [.methodLinkNest "LinkPair" 11 ⟨"LinkPair$End", "<init>", "()V"⟩ "LinkPair", .methodLinkNest "LinkPair$Line" 17 ⟨"LinkPair$Frame", "<init>", "()V"⟩ "LinkPair", .methodLinkNest "LinkPair$End" 20 ⟨"LinkPair$Messages", "<init>", "()V"⟩ "LinkPair", .methodLinkNest "LinkPair$End" 27 ⟨"LinkPair$Store", "<init>", "()V"⟩ "LinkPair", .methodLinkNest "LinkPair" 18 ⟨"LinkPair$Unit", "<init>", "()V"⟩ "LinkPair", .methodLinkNest "LinkPair$Unit" 33 ⟨"LinkPair", "restBehind", "(II)I"⟩ "LinkPair", .methodLinkNest "LinkPair$End" 81 ⟨"LinkPair", "nextNumber", "(I)I"⟩ "LinkPair"]
def mw_isF (w : Cond) : Bool := match w with
  | .fieldLinkNest _ _ _ _ _ _ => true
  | _ => false
def mw_isM (w : Cond) : Bool := match w with
  | .methodLinkNest _ _ _ _ => true
  | _ => false
theorem mw_nestF_all : mw_nestF.all mw_isF = true := by decide +kernel
theorem mw_nestM_all : mw_nestM.all mw_isM = true := by decide +kernel
theorem mw_isF_form (w : Cond) (h : mw_isF w = true) : ∃ a i b n d g, w = .fieldLinkNest a i b n d g := by
  cases w <;> first | exact ⟨_, _, _, _, _, _, rfl⟩ | (simp [mw_isF] at h)
theorem mw_isM_form (w : Cond) (h : mw_isM w = true) : ∃ a i x g, w = .methodLinkNest a i x g := by
  cases w <;> first | exact ⟨_, _, _, _, rfl⟩ | (simp [mw_isM] at h)
theorem mw_nestF_form : ∀ w ∈ mw_nestF, ∃ a i b n d g, w = .fieldLinkNest a i b n d g := fun w hw => mw_isF_form w (List.all_eq_true.mp mw_nestF_all w hw)
theorem mw_nestM_form : ∀ w ∈ mw_nestM, ∃ a i x g, w = .methodLinkNest a i x g := fun w hw => mw_isM_form w (List.all_eq_true.mp mw_nestM_all w hw)
theorem mw_nestF_in : ∀ w ∈ mw_nestF, w ∈ lw_tbl := by decide +kernel
theorem mw_nestM_in : ∀ w ∈ mw_nestM, w ∈ lw_tbl := by decide +kernel
/-- words of a throw that are no good words -/
def mw_xw : List Cond := [.declares ⟨"java/lang/RuntimeException", "<init>", "()V"⟩, .declares ⟨"java/lang/Exception", "<init>", "()V"⟩, .declares ⟨"java/lang/Throwable", "<init>", "()V"⟩, .castable "java/lang/IllegalArgumentException" "java/lang/IllegalArgumentException", .castable "java/lang/IllegalStateException" "java/lang/IllegalStateException"]
theorem mw_xw_form : ∀ w ∈ mw_xw, (∃ x, w = .declares x) ∨ ∃ a b, w = .castable a b := by
  intro w hw
  simp only [mw_xw, List.mem_cons, List.not_mem_nil, or_false] at hw
  rcases hw with rfl | rfl | rfl | rfl | rfl
  · exact Or.inl ⟨_, rfl⟩
  · exact Or.inl ⟨_, rfl⟩
  · exact Or.inl ⟨_, rfl⟩
  · exact Or.inr ⟨_, _, rfl⟩
  · exact Or.inr ⟨_, _, rfl⟩
theorem mw_xw_in : ∀ w ∈ mw_xw, w ∈ lw_tbl := by decide +kernel
theorem mw_xw_ot : ∀ w ∈ mw_xw, w.onTables = true := by decide +kernel
end
section
/-! ===== BEGIN printed: names, fields, word lists, decode rows ===== -/
def RX0 : String := "LinkPair$End"
def TX0 : u_T := fun k => match k with
  | 0 => ("LinkPair$End", "line", "LLinkPair$Line;", true)
  | 1 => ("LinkPair$End", "messages", "LLinkPair$Messages;", true)
  | 2 => ("LinkPair$End", "store", "LLinkPair$Store;", true)
  | 3 => ("LinkPair$End", "forwardIndicator", "I", false)
  | 4 => ("LinkPair$End", "backwardIndicator", "I", false)
  | 5 => ("LinkPair$End", "sentNumber", "I", false)
  | 6 => ("LinkPair$End", "takenNumber", "I", false)
  | 7 => ("LinkPair$End", "errors", "I", false)
  | 8 => ("LinkPair$End", "units", "I", false)
  | 9 => ("LinkPair$End", "failed", "Z", false)
  | 10 => ("LinkPair$End", "abnormalLast", "Z", false)
  | _ => ("LinkPair$End", "abnormalLastButOne", "Z", false)
def tyX0 : Nat → FieldType := fun k => match k with
  | 0 => .object "LinkPair$Line"
  | 1 => .object "LinkPair$Messages"
  | 2 => .object "LinkPair$Store"
  | 3 => .int
  | 4 => .int
  | 5 => .int
  | 6 => .int
  | 7 => .int
  | 8 => .int
  | 9 => .boolean
  | 10 => .boolean
  | _ => .boolean
abbrev wsX00 : List Cond := u_ws RX0 TX0 12
theorem nmX0 : ∀ a, a < 12 → ∀ b, b < 12 → a ≠ b → (TX0 a).2.1 ≠ (TX0 b).2.1 := by decide +kernel
theorem tyX0_ok : ∀ k, k < 12 → parseFieldDescriptor (TX0 k).2.2.1 = some (tyX0 k) := by decide +kernel
abbrev cX0_init : ByteArray := prog_2_method_1_code
def yX0_init : MethodName := ⟨RX0, "<init>", "()V"⟩
abbrev cX0_beginAnew : ByteArray := prog_2_method_2_code
def yX0_beginAnew : MethodName := ⟨RX0, "beginAnew", "()V"⟩
abbrev cX0_nextUnit : ByteArray := prog_2_method_3_code
def yX0_nextUnit : MethodName := ⟨RX0, "nextUnit", "(LLinkPair$Unit;)I"⟩
abbrev cX0_writeMessage : ByteArray := prog_2_method_4_code
def yX0_writeMessage : MethodName := ⟨RX0, "writeMessage", "(LLinkPair$Unit;I)V"⟩
abbrev cX0_writeUnit : ByteArray := prog_2_method_5_code
def yX0_writeUnit : MethodName := ⟨RX0, "writeUnit", "(LLinkPair$Unit;III)V"⟩
abbrev cX0_takeUnit : ByteArray := prog_2_method_6_code
def yX0_takeUnit : MethodName := ⟨RX0, "takeUnit", "(LLinkPair$Unit;I)I"⟩
abbrev cX0_toldBy : ByteArray := prog_2_method_7_code
def yX0_toldBy : MethodName := ⟨RX0, "toldBy", "(LLinkPair$Unit;)I"⟩
abbrev cX0_isAbnormal : ByteArray := prog_2_method_8_code
def yX0_isAbnormal : MethodName := ⟨RX0, "isAbnormal", "(LLinkPair$Unit;)Z"⟩
abbrev cX0_takeBackward : ByteArray := prog_2_method_9_code
def yX0_takeBackward : MethodName := ⟨RX0, "takeBackward", "(LLinkPair$Unit;)V"⟩
abbrev cX0_takeForward : ByteArray := prog_2_method_10_code
def yX0_takeForward : MethodName := ⟨RX0, "takeForward", "(LLinkPair$Unit;)I"⟩
abbrev cX0_fact : ByteArray := prog_2_method_11_code
def yX0_fact : MethodName := ⟨RX0, "fact", "(I)I"⟩
def RX1 : String := "LinkPair$Frame"
def TX1 : u_T := fun k => match k with
  | 0 => ("LinkPair$Frame", "words", "[J", true)
  | _ => ("LinkPair$Frame", "length", "I", false)
def tyX1 : Nat → FieldType := fun k => match k with
  | 0 => .array .long
  | _ => .int
abbrev wsX10 : List Cond := u_ws RX1 TX1 2
theorem nmX1 : ∀ a, a < 2 → ∀ b, b < 2 → a ≠ b → (TX1 a).2.1 ≠ (TX1 b).2.1 := by decide +kernel
theorem tyX1_ok : ∀ k, k < 2 → parseFieldDescriptor (TX1 k).2.2.1 = some (tyX1 k) := by decide +kernel
abbrev cX1_init : ByteArray := prog_3_method_1_code
def yX1_init : MethodName := ⟨RX1, "<init>", "()V"⟩
abbrev cX1_valueAt : ByteArray := prog_3_method_2_code
def yX1_valueAt : MethodName := ⟨RX1, "valueAt", "(I)I"⟩
abbrev cX1_turn : ByteArray := prog_3_method_3_code
def yX1_turn : MethodName := ⟨RX1, "turn", "(I)V"⟩
abbrev cX1_add : ByteArray := prog_3_method_4_code
def yX1_add : MethodName := ⟨RX1, "add", "(I)V"⟩
abbrev cX1_addFlag : ByteArray := prog_3_method_5_code
def yX1_addFlag : MethodName := ⟨RX1, "addFlag", "()V"⟩
abbrev cX1_hasFlagAt : ByteArray := prog_3_method_6_code
def yX1_hasFlagAt : MethodName := ⟨RX1, "hasFlagAt", "(I)Z"⟩
abbrev cX1_isBetweenFlags : ByteArray := prog_3_method_7_code
def yX1_isBetweenFlags : MethodName := ⟨RX1, "isBetweenFlags", "()Z"⟩
abbrev cX1_hasSixOnesBetweenFlags : ByteArray := prog_3_method_8_code
def yX1_hasSixOnesBetweenFlags : MethodName := ⟨RX1, "hasSixOnesBetweenFlags", "()Z"⟩
def RX2 : String := "LinkPair$Line"
def TX2 : u_T := fun k => match k with
  | 0 => ("LinkPair$Line", "frames", "[LLinkPair$Frame;", true)
  | _ => ("LinkPair$Line", "count", "I", false)
def tyX2 : Nat → FieldType := fun k => match k with
  | 0 => .array (.object "LinkPair$Frame")
  | _ => .int
abbrev wsX20 : List Cond := u_ws RX2 TX2 2
theorem nmX2 : ∀ a, a < 2 → ∀ b, b < 2 → a ≠ b → (TX2 a).2.1 ≠ (TX2 b).2.1 := by decide +kernel
theorem tyX2_ok : ∀ k, k < 2 → parseFieldDescriptor (TX2 k).2.2.1 = some (tyX2 k) := by decide +kernel
abbrev cX2_init : ByteArray := prog_4_method_1_code
def yX2_init : MethodName := ⟨RX2, "<init>", "()V"⟩
abbrev cX2_isFull : ByteArray := prog_4_method_2_code
def yX2_isFull : MethodName := ⟨RX2, "isFull", "()Z"⟩
abbrev cX2_last : ByteArray := prog_4_method_3_code
def yX2_last : MethodName := ⟨RX2, "last", "()LLinkPair$Frame;"⟩
abbrev cX2_open : ByteArray := prog_4_method_4_code
def yX2_open : MethodName := ⟨RX2, "open", "()LLinkPair$Frame;"⟩
abbrev cX2_lose : ByteArray := prog_4_method_5_code
def yX2_lose : MethodName := ⟨RX2, "lose", "(I)V"⟩
def RX3 : String := "LinkPair$Messages"
def TX3 : u_T := fun k => match k with
  | 0 => ("LinkPair$Messages", "lengths", "[I", true)
  | 1 => ("LinkPair$Messages", "seeds", "[I", true)
  | 2 => ("LinkPair$Messages", "first", "I", false)
  | 3 => ("LinkPair$Messages", "untold", "I", false)
  | 4 => ("LinkPair$Messages", "again", "I", false)
  | _ => ("LinkPair$Messages", "waiting", "I", false)
def tyX3 : Nat → FieldType := fun k => match k with
  | 0 => .array .int
  | 1 => .array .int
  | 2 => .int
  | 3 => .int
  | 4 => .int
  | _ => .int
abbrev wsX30 : List Cond := u_ws RX3 TX3 6
theorem nmX3 : ∀ a, a < 6 → ∀ b, b < 6 → a ≠ b → (TX3 a).2.1 ≠ (TX3 b).2.1 := by decide +kernel
theorem tyX3_ok : ∀ k, k < 6 → parseFieldDescriptor (TX3 k).2.2.1 = some (tyX3 k) := by decide +kernel
abbrev cX3_init : ByteArray := prog_5_method_1_code
def yX3_init : MethodName := ⟨RX3, "<init>", "()V"⟩
abbrev cX3_placeOf : ByteArray := prog_5_method_2_code
def yX3_placeOf : MethodName := ⟨RX3, "placeOf", "(I)I"⟩
abbrev cX3_join : ByteArray := prog_5_method_3_code
def yX3_join : MethodName := ⟨RX3, "join", "(II)V"⟩
abbrev cX3_mayGoFirstTime : ByteArray := prog_5_method_4_code
def yX3_mayGoFirstTime : MethodName := ⟨RX3, "mayGoFirstTime", "()Z"⟩
abbrev cX3_goFirstTime : ByteArray := prog_5_method_5_code
def yX3_goFirstTime : MethodName := ⟨RX3, "goFirstTime", "()V"⟩
abbrev cX3_forget : ByteArray := prog_5_method_6_code
def yX3_forget : MethodName := ⟨RX3, "forget", "(I)V"⟩
abbrev cX3_empty : ByteArray := prog_5_method_7_code
def yX3_empty : MethodName := ⟨RX3, "empty", "()V"⟩
def RX4 : String := "LinkPair$Store"
def TX4 : u_T := fun k => match k with
  | 0 => ("LinkPair$Store", "bytes", "[B", true)
  | 1 => ("LinkPair$Store", "lengths", "[I", true)
  | _ => ("LinkPair$Store", "total", "I", false)
def tyX4 : Nat → FieldType := fun k => match k with
  | 0 => .array .byte
  | 1 => .array .int
  | _ => .int
abbrev wsX40 : List Cond := u_ws RX4 TX4 3
theorem nmX4 : ∀ a, a < 3 → ∀ b, b < 3 → a ≠ b → (TX4 a).2.1 ≠ (TX4 b).2.1 := by decide +kernel
theorem tyX4_ok : ∀ k, k < 3 → parseFieldDescriptor (TX4 k).2.2.1 = some (tyX4 k) := by decide +kernel
abbrev cX4_init : ByteArray := prog_6_method_1_code
def yX4_init : MethodName := ⟨RX4, "<init>", "()V"⟩
abbrev cX4_keep : ByteArray := prog_6_method_2_code
def yX4_keep : MethodName := ⟨RX4, "keep", "(LLinkPair$Unit;)V"⟩
abbrev cX4_has : ByteArray := prog_6_method_3_code
def yX4_has : MethodName := ⟨RX4, "has", "(I)Z"⟩
abbrev cX4_byteOf : ByteArray := prog_6_method_4_code
def yX4_byteOf : MethodName := ⟨RX4, "byteOf", "(II)I"⟩
def RX5 : String := "LinkPair$Unit"
def TX5 : u_T := fun k => match k with
  | 0 => ("LinkPair$Unit", "bytes", "[I", true)
  | _ => ("LinkPair$Unit", "count", "I", false)
def tyX5 : Nat → FieldType := fun k => match k with
  | 0 => .array .int
  | _ => .int
abbrev wsX50 : List Cond := u_ws RX5 TX5 2
theorem nmX5 : ∀ a, a < 2 → ∀ b, b < 2 → a ≠ b → (TX5 a).2.1 ≠ (TX5 b).2.1 := by decide +kernel
theorem tyX5_ok : ∀ k, k < 2 → parseFieldDescriptor (TX5 k).2.2.1 = some (tyX5 k) := by decide +kernel
abbrev cX5_init : ByteArray := prog_7_method_1_code
def yX5_init : MethodName := ⟨RX5, "<init>", "()V"⟩
abbrev cX5_backwardNumber : ByteArray := prog_7_method_2_code
def yX5_backwardNumber : MethodName := ⟨RX5, "backwardNumber", "()I"⟩
abbrev cX5_backwardIndicator : ByteArray := prog_7_method_3_code
def yX5_backwardIndicator : MethodName := ⟨RX5, "backwardIndicator", "()I"⟩
abbrev cX5_forwardNumber : ByteArray := prog_7_method_4_code
def yX5_forwardNumber : MethodName := ⟨RX5, "forwardNumber", "()I"⟩
abbrev cX5_forwardIndicator : ByteArray := prog_7_method_5_code
def yX5_forwardIndicator : MethodName := ⟨RX5, "forwardIndicator", "()I"⟩
abbrev cX5_bodyLength : ByteArray := prog_7_method_6_code
def yX5_bodyLength : MethodName := ⟨RX5, "bodyLength", "()I"⟩
abbrev cX5_bodyByte : ByteArray := prog_7_method_7_code
def yX5_bodyByte : MethodName := ⟨RX5, "bodyByte", "(I)I"⟩
abbrev cX5_writeHead : ByteArray := prog_7_method_8_code
def yX5_writeHead : MethodName := ⟨RX5, "writeHead", "(III)V"⟩
abbrev cX5_writeBody : ByteArray := prog_7_method_9_code
def yX5_writeBody : MethodName := ⟨RX5, "writeBody", "(I)V"⟩
abbrev cX5_writeCheck : ByteArray := prog_7_method_10_code
def yX5_writeCheck : MethodName := ⟨RX5, "writeCheck", "()V"⟩
abbrev cX5_checkDue : ByteArray := prog_7_method_11_code
def yX5_checkDue : MethodName := ⟨RX5, "checkDue", "()I"⟩
abbrev cX5_writeTo : ByteArray := prog_7_method_12_code
def yX5_writeTo : MethodName := ⟨RX5, "writeTo", "(LLinkPair$Frame;)V"⟩
abbrev cX5_readFrom : ByteArray := prog_7_method_13_code
def yX5_readFrom : MethodName := ⟨RX5, "readFrom", "(LLinkPair$Frame;)I"⟩
abbrev cX5_readBits : ByteArray := prog_7_method_14_code
def yX5_readBits : MethodName := ⟨RX5, "readBits", "(LLinkPair$Frame;)I"⟩
abbrev cX5_writeBit : ByteArray := prog_7_method_15_code
def yX5_writeBit : MethodName := ⟨RX5, "writeBit", "(II)V"⟩
def RX6 : String := "LinkPair"
def TX6 : u_T := fun k => match k with
  | 0 => ("LinkPair", "ends", "[LLinkPair$End;", true)
  | _ => ("LinkPair", "unit", "LLinkPair$Unit;", true)
def tyX6 : Nat → FieldType := fun k => match k with
  | 0 => .array (.object "LinkPair$End")
  | _ => .object "LinkPair$Unit"
abbrev wsX60 : List Cond := u_ws RX6 TX6 2
theorem nmX6 : ∀ a, a < 2 → ∀ b, b < 2 → a ≠ b → (TX6 a).2.1 ≠ (TX6 b).2.1 := by decide +kernel
theorem tyX6_ok : ∀ k, k < 2 → parseFieldDescriptor (TX6 k).2.2.1 = some (tyX6 k) := by decide +kernel
abbrev cX6_init : ByteArray := prog_1_method_1_code
def yX6_init : MethodName := ⟨RX6, "<init>", "()V"⟩
abbrev cX6_put : ByteArray := prog_1_method_2_code
def yX6_put : MethodName := ⟨RX6, "put", "(III)I"⟩
abbrev cX6_send : ByteArray := prog_1_method_3_code
def yX6_send : MethodName := ⟨RX6, "send", "(I)I"⟩
abbrev cX6_take : ByteArray := prog_1_method_4_code
def yX6_take : MethodName := ⟨RX6, "take", "(I)I"⟩
abbrev cX6_flip : ByteArray := prog_1_method_5_code
def yX6_flip : MethodName := ⟨RX6, "flip", "(III)I"⟩
abbrev cX6_drop : ByteArray := prog_1_method_6_code
def yX6_drop : MethodName := ⟨RX6, "drop", "(II)I"⟩
abbrev cX6_bits : ByteArray := prog_1_method_7_code
def yX6_bits : MethodName := ⟨RX6, "bits", "(IJIZ)I"⟩
abbrev cX6_bit : ByteArray := prog_1_method_8_code
def yX6_bit : MethodName := ⟨RX6, "bit", "(III)I"⟩
abbrev cX6_taken : ByteArray := prog_1_method_9_code
def yX6_taken : MethodName := ⟨RX6, "taken", "(III)I"⟩
abbrev cX6_check : ByteArray := prog_1_method_10_code
def yX6_check : MethodName := ⟨RX6, "check", "(JI)I"⟩
abbrev cX6_about : ByteArray := prog_1_method_11_code
def yX6_about : MethodName := ⟨RX6, "about", "(II)I"⟩
abbrev cX6_restart : ByteArray := prog_1_method_12_code
def yX6_restart : MethodName := ⟨RX6, "restart", "(I)V"⟩
abbrev cX6_endOf : ByteArray := prog_1_method_13_code
def yX6_endOf : MethodName := ⟨RX6, "endOf", "(I)LLinkPair$End;"⟩
abbrev cX6_frameOf : ByteArray := prog_1_method_14_code
def yX6_frameOf : MethodName := ⟨RX6, "frameOf", "(II)LLinkPair$Frame;"⟩
abbrev cX6_restBehind : ByteArray := prog_1_method_15_code
def yX6_restBehind : MethodName := ⟨RX6, "restBehind", "(II)I"⟩
abbrev cX6_nextNumber : ByteArray := prog_1_method_16_code
def yX6_nextNumber : MethodName := ⟨RX6, "nextNumber", "(I)I"⟩
def RX7 : String := "LinkPairModel"
def TX7 : u_T := fun k => match k with
  | 0 => ("LinkPairModel", "code", "I", false)
  | 1 => ("LinkPairModel", "frames", "[I", true)
  | 2 => ("LinkPairModel", "lengths", "[I", true)
  | 3 => ("LinkPairModel", "bits", "[I", true)
  | 4 => ("LinkPairModel", "fib", "[I", true)
  | 5 => ("LinkPairModel", "bib", "[I", true)
  | 6 => ("LinkPairModel", "sentLatest", "[I", true)
  | 7 => ("LinkPairModel", "takenLatest", "[I", true)
  | 8 => ("LinkPairModel", "toldLatest", "[I", true)
  | 9 => ("LinkPairModel", "waits", "[I", true)
  | 10 => ("LinkPairModel", "waitLength", "[I", true)
  | 11 => ("LinkPairModel", "waitSeed", "[I", true)
  | 12 => ("LinkPairModel", "open", "[I", true)
  | 13 => ("LinkPairModel", "openNumber", "[I", true)
  | 14 => ("LinkPairModel", "openLength", "[I", true)
  | 15 => ("LinkPairModel", "openSeed", "[I", true)
  | 16 => ("LinkPairModel", "again", "[I", true)
  | 17 => ("LinkPairModel", "errors", "[I", true)
  | 18 => ("LinkPairModel", "units", "[I", true)
  | 19 => ("LinkPairModel", "abnormal", "[I", true)
  | 20 => ("LinkPairModel", "failed", "[Z", true)
  | 21 => ("LinkPairModel", "takenCount", "[I", true)
  | 22 => ("LinkPairModel", "takenLength", "[I", true)
  | 23 => ("LinkPairModel", "takenBytes", "[I", true)
  | 24 => ("LinkPairModel", "unit", "[I", true)
  | 25 => ("LinkPairModel", "unitLength", "I", false)
  | _ => ("LinkPairModel", "plain", "[I", true)
def tyX7 : Nat → FieldType := fun k => match k with
  | 0 => .int
  | 1 => .array .int
  | 2 => .array .int
  | 3 => .array .int
  | 4 => .array .int
  | 5 => .array .int
  | 6 => .array .int
  | 7 => .array .int
  | 8 => .array .int
  | 9 => .array .int
  | 10 => .array .int
  | 11 => .array .int
  | 12 => .array .int
  | 13 => .array .int
  | 14 => .array .int
  | 15 => .array .int
  | 16 => .array .int
  | 17 => .array .int
  | 18 => .array .int
  | 19 => .array .int
  | 20 => .array .boolean
  | 21 => .array .int
  | 22 => .array .int
  | 23 => .array .int
  | 24 => .array .int
  | 25 => .int
  | _ => .array .int
abbrev wsX70 : List Cond := u_ws RX7 TX7 27
theorem nmX7 : ∀ a, a < 27 → ∀ b, b < 27 → a ≠ b → (TX7 a).2.1 ≠ (TX7 b).2.1 := by decide +kernel
theorem tyX7_ok : ∀ k, k < 27 → parseFieldDescriptor (TX7 k).2.2.1 = some (tyX7 k) := by decide +kernel
abbrev cX7_init : ByteArray := prog_9_method_1_code
def yX7_init : MethodName := ⟨RX7, "<init>", "()V"⟩
abbrev cX7_thrown : ByteArray := prog_9_method_2_code
def yX7_thrown : MethodName := ⟨RX7, "thrown", "()I"⟩
abbrev cX7_refuses : ByteArray := prog_9_method_3_code
def yX7_refuses : MethodName := ⟨RX7, "refuses", "(I)Z"⟩
abbrev cX7_isEnd : ByteArray := prog_9_method_4_code
def yX7_isEnd : MethodName := ⟨RX7, "isEnd", "(I)Z"⟩
abbrev cX7_begin : ByteArray := prog_9_method_5_code
def yX7_begin : MethodName := ⟨RX7, "begin", "(I)V"⟩
abbrev cX7_checked : ByteArray := prog_9_method_6_code
def yX7_checked : MethodName := ⟨RX7, "checked", "(II)I"⟩
abbrev cX7_unitCheck : ByteArray := prog_9_method_7_code
def yX7_unitCheck : MethodName := ⟨RX7, "unitCheck", "(I)I"⟩
abbrev cX7_check : ByteArray := prog_9_method_8_code
def yX7_check : MethodName := ⟨RX7, "check", "(JI)I"⟩
abbrev cX7_put : ByteArray := prog_9_method_9_code
def yX7_put : MethodName := ⟨RX7, "put", "(III)I"⟩
abbrev cX7_bit : ByteArray := prog_9_method_10_code
def yX7_bit : MethodName := ⟨RX7, "bit", "(II)V"⟩
abbrev cX7_flag : ByteArray := prog_9_method_11_code
def yX7_flag : MethodName := ⟨RX7, "flag", "(I)V"⟩
abbrev cX7_frame : ByteArray := prog_9_method_12_code
def yX7_frame : MethodName := ⟨RX7, "frame", "(IIII)V"⟩
abbrev cX7_send : ByteArray := prog_9_method_13_code
def yX7_send : MethodName := ⟨RX7, "send", "(I)I"⟩
abbrev cX7_isFlag : ByteArray := prog_9_method_14_code
def yX7_isFlag : MethodName := ⟨RX7, "isFlag", "(I)I"⟩
abbrev cX7_fault : ByteArray := prog_9_method_15_code
def yX7_fault : MethodName := ⟨RX7, "fault", "(I)I"⟩
abbrev cX7_goes : ByteArray := prog_9_method_16_code
def yX7_goes : MethodName := ⟨RX7, "goes", "(II)V"⟩
abbrev cX7_take : ByteArray := prog_9_method_17_code
def yX7_take : MethodName := ⟨RX7, "take", "(I)I"⟩
abbrev cX7_forwards : ByteArray := prog_9_method_18_code
def yX7_forwards : MethodName := ⟨RX7, "forwards", "(I)I"⟩
abbrev cX7_isFrame : ByteArray := prog_9_method_19_code
def yX7_isFrame : MethodName := ⟨RX7, "isFrame", "(II)Z"⟩
abbrev cX7_flip : ByteArray := prog_9_method_20_code
def yX7_flip : MethodName := ⟨RX7, "flip", "(III)I"⟩
abbrev cX7_drop : ByteArray := prog_9_method_21_code
def yX7_drop : MethodName := ⟨RX7, "drop", "(II)I"⟩
abbrev cX7_bits : ByteArray := prog_9_method_22_code
def yX7_bits : MethodName := ⟨RX7, "bits", "(IJIZ)I"⟩
abbrev cX7_bit_ : ByteArray := prog_9_method_23_code
def yX7_bit_ : MethodName := ⟨RX7, "bit", "(III)I"⟩
abbrev cX7_taken : ByteArray := prog_9_method_24_code
def yX7_taken : MethodName := ⟨RX7, "taken", "(III)I"⟩
abbrev cX7_about : ByteArray := prog_9_method_25_code
def yX7_about : MethodName := ⟨RX7, "about", "(II)I"⟩
abbrev cX7_restart : ByteArray := prog_9_method_26_code
def yX7_restart : MethodName := ⟨RX7, "restart", "(I)V"⟩
def RJ9 : String := "java/lang/Math"
def TJ9 : u_T := fun k => match k with
  | _ => ("", "", "", false)
def tyJ9 : Nat → FieldType := fun k => match k with
  | _ => .int
abbrev wsJ90 : List Cond := u_ws RJ9 TJ9 0
theorem nmJ9 : ∀ a, a < 0 → ∀ b, b < 0 → a ≠ b → (TJ9 a).2.1 ≠ (TJ9 b).2.1 := by decide +kernel
theorem tyJ9_ok : ∀ k, k < 0 → parseFieldDescriptor (TJ9 k).2.2.1 = some (tyJ9 k) := by decide +kernel
abbrev cJ9_min_7cf53 : ByteArray := prog_13_method_69_code
def yJ9_min_7cf53 : MethodName := ⟨RJ9, "min", "(II)I"⟩
def RL : String := "LinkPairLaw"
abbrev cL_put : ByteArray := method_3_code
def yL_put : MethodName := ⟨RL, "put", "(LLinkPair;III[J)I"⟩
abbrev cL_send : ByteArray := method_4_code
def yL_send : MethodName := ⟨RL, "send", "(LLinkPair;I[J)I"⟩
abbrev cL_take : ByteArray := method_5_code
def yL_take : MethodName := ⟨RL, "take", "(LLinkPair;I[J)I"⟩
abbrev cL_flip : ByteArray := method_6_code
def yL_flip : MethodName := ⟨RL, "flip", "(LLinkPair;III[J)I"⟩
abbrev cL_drop : ByteArray := method_7_code
def yL_drop : MethodName := ⟨RL, "drop", "(LLinkPair;II[J)I"⟩
abbrev cL_bits : ByteArray := method_8_code
def yL_bits : MethodName := ⟨RL, "bits", "(LLinkPair;IJIZ[J)I"⟩
abbrev cL_bit : ByteArray := method_9_code
def yL_bit : MethodName := ⟨RL, "bit", "(LLinkPair;III[J)I"⟩
abbrev cL_taken : ByteArray := method_10_code
def yL_taken : MethodName := ⟨RL, "taken", "(LLinkPair;III[J)I"⟩
abbrev cL_check : ByteArray := method_11_code
def yL_check : MethodName := ⟨RL, "check", "(LLinkPair;JI[J)I"⟩
abbrev cL_about : ByteArray := method_12_code
def yL_about : MethodName := ⟨RL, "about", "(LLinkPair;II[J)I"⟩
abbrev cL_restart : ByteArray := method_13_code
def yL_restart : MethodName := ⟨RL, "restart", "(LLinkPair;I)I"⟩
abbrev cL_law : ByteArray := code
def yL_law : MethodName := ⟨RL, "law", "([I)Z"⟩
def wsX1_init : List Cond := .code yX1_init cX1_init 1 none :: ([.methodLink RX1 3 objectInit, .instanceMethod objectInit, .code objectInit ⟨#[0xb1]⟩ 1 none, .arrayClass .long, .fieldLink RX1 9 "LinkPair$Frame" "words" "[J"] ++ wsX10)
def wsX2_init : List Cond := .code yX2_init cX2_init 2 none :: ([.methodLink RX2 3 objectInit, .instanceMethod objectInit, .code objectInit ⟨#[0xb1]⟩ 1 none, .classLink RX2 9 RX1, .fieldLink RX2 11 "LinkPair$Line" "frames" "[LLinkPair$Frame;", .instantiable RX1 2, .initialized RX1, .instanceMethod yX1_init, .code yX1_init cX1_init 1 none, .methodLink RX1 3 objectInit, .arrayClass .long, .fieldLink RX1 9 "LinkPair$Frame" "words" "[J"] ++ wsX20 ++ wsX10)
def wsX3_init : List Cond := .code yX3_init cX3_init 1 none :: ([.methodLink RX3 3 objectInit, .instanceMethod objectInit, .code objectInit ⟨#[0xb1]⟩ 1 none, .arrayClass .int, .fieldLink RX3 9 "LinkPair$Messages" "lengths" "[I", .fieldLink RX3 15 "LinkPair$Messages" "seeds" "[I"] ++ wsX30)
def wsX4_init : List Cond := .code yX4_init cX4_init 1 none :: ([.methodLink RX4 3 objectInit, .instanceMethod objectInit, .code objectInit ⟨#[0xb1]⟩ 1 none, .arrayClass .byte, .fieldLink RX4 9 "LinkPair$Store" "bytes" "[B", .arrayClass .int, .fieldLink RX4 15 "LinkPair$Store" "lengths" "[I"] ++ wsX40)
def wsX0_init_r1 : List Cond := [Cond.methodLink RX0 3 objectInit, Cond.instanceMethod objectInit, Cond.code objectInit ⟨#[0xb1]⟩ 1 none, Cond.classLink RX0 9 RX2, Cond.instantiable RX2 2, Cond.initialized RX2, Cond.fieldLink RX0 12 "LinkPair$End" "line" "LLinkPair$Line;", Cond.classLink RX0 18 RX3, Cond.instantiable RX3 6, Cond.initialized RX3, Cond.fieldLink RX0 21 "LinkPair$End" "messages" "LLinkPair$Messages;", Cond.classLink RX0 25 RX4, Cond.instantiable RX4 3, Cond.initialized RX4, Cond.fieldLink RX0 28 "LinkPair$End" "store" "LLinkPair$Store;", Cond.fieldLink RX0 32 "LinkPair$End" "forwardIndicator" "I", Cond.fieldLink RX0 36 "LinkPair$End" "backwardIndicator" "I", Cond.fieldLink RX0 39 "LinkPair$End" "sentNumber" "I", Cond.fieldLink RX0 42 "LinkPair$End" "takenNumber" "I", Cond.methodLink RX0 11 yX2_init, Cond.instanceMethod yX2_init, Cond.code yX2_init cX2_init 2 none, Cond.methodLink RX2 3 objectInit, Cond.classLink RX2 9 RX1]
def wsX0_init_r2 : List Cond := [Cond.fieldLink RX2 11 "LinkPair$Line" "frames" "[LLinkPair$Frame;", Cond.instantiable RX1 2, Cond.initialized RX1, Cond.instanceMethod yX1_init, Cond.code yX1_init cX1_init 1 none, Cond.methodLink RX1 3 objectInit, Cond.arrayClass .long, Cond.fieldLink RX1 9 "LinkPair$Frame" "words" "[J", Cond.instanceMethod yX3_init, Cond.code yX3_init cX3_init 1 none, Cond.methodLink RX3 3 objectInit, Cond.arrayClass .int, Cond.fieldLink RX3 9 "LinkPair$Messages" "lengths" "[I", Cond.fieldLink RX3 15 "LinkPair$Messages" "seeds" "[I", Cond.instanceMethod yX4_init, Cond.code yX4_init cX4_init 1 none, Cond.methodLink RX4 3 objectInit, Cond.arrayClass .byte, Cond.fieldLink RX4 9 "LinkPair$Store" "bytes" "[B", Cond.fieldLink RX4 15 "LinkPair$Store" "lengths" "[I"]
def wsX0_init : List Cond := .code yX0_init cX0_init 1 none :: ((wsX0_init_r1 ++ wsX0_init_r2) ++ wsX20 ++ wsX00 ++ wsX30 ++ wsX40 ++ wsX10)
def wsX3_empty : List Cond := .code yX3_empty cX3_empty 1 none :: ([.fieldLink RX3 22 "LinkPair$Messages" "untold" "I", .fieldLink RX3 32 "LinkPair$Messages" "again" "I", .fieldLink RX3 25 "LinkPair$Messages" "waiting" "I"] ++ wsX30)
def wsX0_beginAnew : List Cond := .code yX0_beginAnew cX0_beginAnew 1 none :: ([.fieldLink RX0 12 "LinkPair$End" "line" "LLinkPair$Line;", .fieldLink RX0 21 "LinkPair$End" "messages" "LLinkPair$Messages;", .fieldLink RX0 32 "LinkPair$End" "forwardIndicator" "I", .fieldLink RX0 36 "LinkPair$End" "backwardIndicator" "I", .fieldLink RX0 39 "LinkPair$End" "sentNumber" "I", .fieldLink RX0 42 "LinkPair$End" "takenNumber" "I", .fieldLink RX0 51 "LinkPair$End" "errors" "I", .fieldLink RX0 54 "LinkPair$End" "units" "I", .fieldLink RX0 57 "LinkPair$End" "failed" "Z", .fieldLink RX0 61 "LinkPair$End" "abnormalLast" "Z", .fieldLink RX0 64 "LinkPair$End" "abnormalLastButOne" "Z", .methodLink RX0 48 yX3_empty, .instanceMethod yX3_empty, .selects RX3 yX3_empty yX3_empty, .initialized RX3, .code yX3_empty cX3_empty 1 none, .fieldLink RX3 22 "LinkPair$Messages" "untold" "I", .fieldLink RX3 32 "LinkPair$Messages" "again" "I", .fieldLink RX3 25 "LinkPair$Messages" "waiting" "I"] ++ wsX00 ++ wsX20 ++ wsX30)
def wsX3_placeOf : List Cond := .code yX3_placeOf cX3_placeOf 2 (some .int) :: ([.fieldLink RX3 18 "LinkPair$Messages" "first" "I", .fieldLink RX3 9 "LinkPair$Messages" "lengths" "[I"] ++ wsX30)
def wsX5_writeHead : List Cond := .code yX5_writeHead cX5_writeHead 4 none :: ([.fieldLink RX5 9 "LinkPair$Unit" "bytes" "[I", .methodLink RX5 19 Lib.Math.min.name, .static Lib.Math.min.name, .initialized "java/lang/Math", .code Lib.Math.min.name Lib.Math.min.code 2 (some .int), .fieldLink RX5 15 "LinkPair$Unit" "count" "I"] ++ wsX50)
def wsX5_bodyLength : List Cond := .code yX5_bodyLength cX5_bodyLength 1 (some .int) :: ([.fieldLink RX5 15 "LinkPair$Unit" "count" "I"] ++ wsX50)
def wsX5_writeBody : List Cond := .code yX5_writeBody cX5_writeBody 3 none :: ([.fieldLink RX5 9 "LinkPair$Unit" "bytes" "[I", .methodLink RX5 25 yX5_bodyLength, .instanceMethod yX5_bodyLength, .selects RX5 yX5_bodyLength yX5_bodyLength, .initialized RX5, .code yX5_bodyLength cX5_bodyLength 1 (some .int), .fieldLink RX5 15 "LinkPair$Unit" "count" "I"] ++ wsX50)
def wsX6_restBehind : List Cond := .code yX6_restBehind cX6_restBehind 5 (some .int) :: ([.constant RX6 138 (33800)])
def wsX5_checkDue : List Cond := .code yX5_checkDue cX5_checkDue 3 (some .int) :: ([.constant RX5 32 (65535), .fieldLink RX5 15 "LinkPair$Unit" "count" "I", .fieldLink RX5 9 "LinkPair$Unit" "bytes" "[I", .static yX6_restBehind, .initialized RX6, .code yX6_restBehind cX6_restBehind 5 (some .int), .constant RX6 138 (33800)] ++ wsX50)
def wsX5_writeCheck : List Cond := .code yX5_writeCheck cX5_writeCheck 2 none :: ([.fieldLink RX5 9 "LinkPair$Unit" "bytes" "[I", .fieldLink RX5 15 "LinkPair$Unit" "count" "I", .methodLink RX5 29 yX5_checkDue, .instanceMethod yX5_checkDue, .selects RX5 yX5_checkDue yX5_checkDue, .initialized RX5, .code yX5_checkDue cX5_checkDue 3 (some .int), .constant RX5 32 (65535), .static yX6_restBehind, .initialized RX6, .code yX6_restBehind cX6_restBehind 5 (some .int), .constant RX6 138 (33800)] ++ wsX50)
def wsX0_writeUnit_r1 : List Cond := [Cond.fieldLink RX0 42 "LinkPair$End" "takenNumber" "I", Cond.fieldLink RX0 36 "LinkPair$End" "backwardIndicator" "I", Cond.fieldLink RX0 32 "LinkPair$End" "forwardIndicator" "I", Cond.methodLink RX0 102 yX5_writeHead, Cond.instanceMethod yX5_writeHead, Cond.selects RX5 yX5_writeHead yX5_writeHead, Cond.initialized RX5, Cond.code yX5_writeHead cX5_writeHead 4 none, Cond.fieldLink RX5 9 "LinkPair$Unit" "bytes" "[I", Cond.methodLink RX5 19 Lib.Math.min.name, Cond.static Lib.Math.min.name, Cond.initialized "java/lang/Math", Cond.code Lib.Math.min.name Lib.Math.min.code 2 (some .int), Cond.fieldLink RX5 15 "LinkPair$Unit" "count" "I", Cond.methodLink RX0 108 yX5_writeBody, Cond.instanceMethod yX5_writeBody, Cond.selects RX5 yX5_writeBody yX5_writeBody, Cond.code yX5_writeBody cX5_writeBody 3 none, Cond.methodLink RX5 25 yX5_bodyLength, Cond.instanceMethod yX5_bodyLength, Cond.selects RX5 yX5_bodyLength yX5_bodyLength, Cond.code yX5_bodyLength cX5_bodyLength 1 (some .int), Cond.methodLink RX0 112 yX5_writeCheck, Cond.instanceMethod yX5_writeCheck]
def wsX0_writeUnit_r2 : List Cond := [Cond.selects RX5 yX5_writeCheck yX5_writeCheck, Cond.code yX5_writeCheck cX5_writeCheck 2 none, Cond.methodLink RX5 29 yX5_checkDue, Cond.instanceMethod yX5_checkDue, Cond.selects RX5 yX5_checkDue yX5_checkDue, Cond.code yX5_checkDue cX5_checkDue 3 (some .int), Cond.constant RX5 32 (65535), Cond.static yX6_restBehind, Cond.initialized RX6, Cond.code yX6_restBehind cX6_restBehind 5 (some .int), Cond.constant RX6 138 (33800)]
def wsX0_writeUnit : List Cond := .code yX0_writeUnit cX0_writeUnit 6 none :: ((wsX0_writeUnit_r1 ++ wsX0_writeUnit_r2) ++ wsX00 ++ wsX50)
def wsX0_writeMessage_r1 : List Cond := [Cond.fieldLink RX0 21 "LinkPair$End" "messages" "LLinkPair$Messages;", Cond.fieldLink RX0 39 "LinkPair$End" "sentNumber" "I", Cond.methodLink RX0 92 yX3_placeOf, Cond.instanceMethod yX3_placeOf, Cond.selects RX3 yX3_placeOf yX3_placeOf, Cond.initialized RX3, Cond.code yX3_placeOf cX3_placeOf 2 (some .int), Cond.fieldLink RX3 18 "LinkPair$Messages" "first" "I", Cond.fieldLink RX3 9 "LinkPair$Messages" "lengths" "[I", Cond.methodLink RX0 85 yX0_writeUnit, Cond.instanceMethod yX0_writeUnit, Cond.selects RX0 yX0_writeUnit yX0_writeUnit, Cond.initialized RX0, Cond.code yX0_writeUnit cX0_writeUnit 6 none, Cond.fieldLink RX0 42 "LinkPair$End" "takenNumber" "I", Cond.fieldLink RX0 36 "LinkPair$End" "backwardIndicator" "I", Cond.fieldLink RX0 32 "LinkPair$End" "forwardIndicator" "I", Cond.methodLink RX0 102 yX5_writeHead, Cond.instanceMethod yX5_writeHead, Cond.selects RX5 yX5_writeHead yX5_writeHead, Cond.initialized RX5, Cond.code yX5_writeHead cX5_writeHead 4 none, Cond.fieldLink RX5 9 "LinkPair$Unit" "bytes" "[I", Cond.methodLink RX5 19 Lib.Math.min.name]
def wsX0_writeMessage_r2 : List Cond := [Cond.static Lib.Math.min.name, Cond.initialized "java/lang/Math", Cond.code Lib.Math.min.name Lib.Math.min.code 2 (some .int), Cond.fieldLink RX5 15 "LinkPair$Unit" "count" "I", Cond.methodLink RX0 108 yX5_writeBody, Cond.instanceMethod yX5_writeBody, Cond.selects RX5 yX5_writeBody yX5_writeBody, Cond.code yX5_writeBody cX5_writeBody 3 none, Cond.methodLink RX5 25 yX5_bodyLength, Cond.instanceMethod yX5_bodyLength, Cond.selects RX5 yX5_bodyLength yX5_bodyLength, Cond.code yX5_bodyLength cX5_bodyLength 1 (some .int), Cond.methodLink RX0 112 yX5_writeCheck, Cond.instanceMethod yX5_writeCheck, Cond.selects RX5 yX5_writeCheck yX5_writeCheck, Cond.code yX5_writeCheck cX5_writeCheck 2 none, Cond.methodLink RX5 29 yX5_checkDue, Cond.instanceMethod yX5_checkDue, Cond.selects RX5 yX5_checkDue yX5_checkDue, Cond.code yX5_checkDue cX5_checkDue 3 (some .int), Cond.constant RX5 32 (65535), Cond.static yX6_restBehind, Cond.initialized RX6, Cond.code yX6_restBehind cX6_restBehind 5 (some .int)]
def wsX0_writeMessage_r3 : List Cond := [Cond.constant RX6 138 (33800)]
def wsX0_writeMessage : List Cond := .code yX0_writeMessage cX0_writeMessage 5 none :: ((wsX0_writeMessage_r1 ++ (wsX0_writeMessage_r2 ++ wsX0_writeMessage_r3)) ++ wsX00 ++ wsX30 ++ wsX50)
def wsX3_mayGoFirstTime : List Cond := .code yX3_mayGoFirstTime cX3_mayGoFirstTime 1 (some .boolean) :: ([.fieldLink RX3 25 "LinkPair$Messages" "waiting" "I", .fieldLink RX3 22 "LinkPair$Messages" "untold" "I"] ++ wsX30)
def wsX3_goFirstTime : List Cond := .code yX3_goFirstTime cX3_goFirstTime 1 none :: ([.fieldLink RX3 25 "LinkPair$Messages" "waiting" "I", .fieldLink RX3 22 "LinkPair$Messages" "untold" "I"] ++ wsX30)
def wsX6_nextNumber : List Cond := .code yX6_nextNumber cX6_nextNumber 1 (some .int) :: ([])
def wsX0_nextUnit_r1 : List Cond := [Cond.fieldLink RX0 21 "LinkPair$End" "messages" "LLinkPair$Messages;", Cond.fieldLink RX0 39 "LinkPair$End" "sentNumber" "I", Cond.methodLink RX0 70 yX0_writeMessage, Cond.instanceMethod yX0_writeMessage, Cond.selects RX0 yX0_writeMessage yX0_writeMessage, Cond.initialized RX0, Cond.code yX0_writeMessage cX0_writeMessage 5 none, Cond.methodLink RX0 92 yX3_placeOf, Cond.instanceMethod yX3_placeOf, Cond.selects RX3 yX3_placeOf yX3_placeOf, Cond.initialized RX3, Cond.code yX3_placeOf cX3_placeOf 2 (some .int), Cond.fieldLink RX3 18 "LinkPair$Messages" "first" "I", Cond.fieldLink RX3 9 "LinkPair$Messages" "lengths" "[I", Cond.methodLink RX0 85 yX0_writeUnit, Cond.instanceMethod yX0_writeUnit, Cond.selects RX0 yX0_writeUnit yX0_writeUnit, Cond.code yX0_writeUnit cX0_writeUnit 6 none, Cond.fieldLink RX0 42 "LinkPair$End" "takenNumber" "I", Cond.fieldLink RX0 36 "LinkPair$End" "backwardIndicator" "I", Cond.fieldLink RX0 32 "LinkPair$End" "forwardIndicator" "I", Cond.methodLink RX0 102 yX5_writeHead, Cond.instanceMethod yX5_writeHead, Cond.selects RX5 yX5_writeHead yX5_writeHead]
def wsX0_nextUnit_r2 : List Cond := [Cond.initialized RX5, Cond.code yX5_writeHead cX5_writeHead 4 none, Cond.fieldLink RX5 9 "LinkPair$Unit" "bytes" "[I", Cond.methodLink RX5 19 Lib.Math.min.name, Cond.static Lib.Math.min.name, Cond.initialized "java/lang/Math", Cond.code Lib.Math.min.name Lib.Math.min.code 2 (some .int), Cond.fieldLink RX5 15 "LinkPair$Unit" "count" "I", Cond.methodLink RX0 108 yX5_writeBody, Cond.instanceMethod yX5_writeBody, Cond.selects RX5 yX5_writeBody yX5_writeBody, Cond.code yX5_writeBody cX5_writeBody 3 none, Cond.methodLink RX5 25 yX5_bodyLength, Cond.instanceMethod yX5_bodyLength, Cond.selects RX5 yX5_bodyLength yX5_bodyLength, Cond.code yX5_bodyLength cX5_bodyLength 1 (some .int), Cond.methodLink RX0 112 yX5_writeCheck, Cond.instanceMethod yX5_writeCheck, Cond.selects RX5 yX5_writeCheck yX5_writeCheck, Cond.code yX5_writeCheck cX5_writeCheck 2 none, Cond.methodLink RX5 29 yX5_checkDue, Cond.instanceMethod yX5_checkDue, Cond.selects RX5 yX5_checkDue yX5_checkDue, Cond.code yX5_checkDue cX5_checkDue 3 (some .int)]
def wsX0_nextUnit_r3 : List Cond := [Cond.constant RX5 32 (65535), Cond.static yX6_restBehind, Cond.initialized RX6, Cond.code yX6_restBehind cX6_restBehind 5 (some .int), Cond.constant RX6 138 (33800), Cond.methodLink RX0 74 yX3_mayGoFirstTime, Cond.instanceMethod yX3_mayGoFirstTime, Cond.selects RX3 yX3_mayGoFirstTime yX3_mayGoFirstTime, Cond.code yX3_mayGoFirstTime cX3_mayGoFirstTime 1 (some .boolean), Cond.fieldLink RX3 25 "LinkPair$Messages" "waiting" "I", Cond.fieldLink RX3 22 "LinkPair$Messages" "untold" "I", Cond.methodLink RX0 78 yX3_goFirstTime, Cond.instanceMethod yX3_goFirstTime, Cond.selects RX3 yX3_goFirstTime yX3_goFirstTime, Cond.code yX3_goFirstTime cX3_goFirstTime 1 none, Cond.static yX6_nextNumber, Cond.code yX6_nextNumber cX6_nextNumber 1 (some .int)]
def wsX0_nextUnit : List Cond := .code yX0_nextUnit cX0_nextUnit 3 (some .int) :: ((wsX0_nextUnit_r1 ++ (wsX0_nextUnit_r2 ++ wsX0_nextUnit_r3)) ++ wsX00 ++ wsX30 ++ wsX50)
def wsX5_backwardNumber : List Cond := .code yX5_backwardNumber cX5_backwardNumber 1 (some .int) :: ([.fieldLink RX5 9 "LinkPair$Unit" "bytes" "[I"] ++ wsX50)
def wsX0_toldBy : List Cond := .code yX0_toldBy cX0_toldBy 3 (some .int) :: ([.fieldLink RX0 39 "LinkPair$End" "sentNumber" "I", .fieldLink RX0 21 "LinkPair$End" "messages" "LLinkPair$Messages;", .methodLink RX0 127 yX5_backwardNumber, .instanceMethod yX5_backwardNumber, .selects RX5 yX5_backwardNumber yX5_backwardNumber, .initialized RX5, .code yX5_backwardNumber cX5_backwardNumber 1 (some .int), .fieldLink RX5 9 "LinkPair$Unit" "bytes" "[I"] ++ wsX00 ++ wsX30 ++ wsX50)
def wsX0_isAbnormal : List Cond := .code yX0_isAbnormal cX0_isAbnormal 2 (some .boolean) :: ([.fieldLink RX0 21 "LinkPair$End" "messages" "LLinkPair$Messages;", .methodLink RX0 131 yX0_toldBy, .instanceMethod yX0_toldBy, .selects RX0 yX0_toldBy yX0_toldBy, .initialized RX0, .code yX0_toldBy cX0_toldBy 3 (some .int), .fieldLink RX0 39 "LinkPair$End" "sentNumber" "I", .methodLink RX0 127 yX5_backwardNumber, .instanceMethod yX5_backwardNumber, .selects RX5 yX5_backwardNumber yX5_backwardNumber, .initialized RX5, .code yX5_backwardNumber cX5_backwardNumber 1 (some .int), .fieldLink RX5 9 "LinkPair$Unit" "bytes" "[I"] ++ wsX00 ++ wsX30 ++ wsX50)
def wsX3_forget : List Cond := .code yX3_forget cX3_forget 2 none :: ([.fieldLink RX3 18 "LinkPair$Messages" "first" "I", .fieldLink RX3 22 "LinkPair$Messages" "untold" "I", .fieldLink RX3 32 "LinkPair$Messages" "again" "I", .methodLink RX3 35 Lib.Math.min.name, .static Lib.Math.min.name, .initialized "java/lang/Math", .code Lib.Math.min.name Lib.Math.min.code 2 (some .int), .methodLink RX3 28 yX3_placeOf, .instanceMethod yX3_placeOf, .selects RX3 yX3_placeOf yX3_placeOf, .initialized RX3, .code yX3_placeOf cX3_placeOf 2 (some .int), .fieldLink RX3 9 "LinkPair$Messages" "lengths" "[I"] ++ wsX30)
def wsX5_backwardIndicator : List Cond := .code yX5_backwardIndicator cX5_backwardIndicator 1 (some .int) :: ([.fieldLink RX5 9 "LinkPair$Unit" "bytes" "[I"] ++ wsX50)
def wsX0_takeBackward_r1 : List Cond := [Cond.fieldLink RX0 21 "LinkPair$End" "messages" "LLinkPair$Messages;", Cond.fieldLink RX0 32 "LinkPair$End" "forwardIndicator" "I", Cond.methodLink RX0 131 yX0_toldBy, Cond.instanceMethod yX0_toldBy, Cond.selects RX0 yX0_toldBy yX0_toldBy, Cond.initialized RX0, Cond.code yX0_toldBy cX0_toldBy 3 (some .int), Cond.fieldLink RX0 39 "LinkPair$End" "sentNumber" "I", Cond.methodLink RX0 127 yX5_backwardNumber, Cond.instanceMethod yX5_backwardNumber, Cond.selects RX5 yX5_backwardNumber yX5_backwardNumber, Cond.initialized RX5, Cond.code yX5_backwardNumber cX5_backwardNumber 1 (some .int), Cond.fieldLink RX5 9 "LinkPair$Unit" "bytes" "[I", Cond.methodLink RX0 134 yX3_forget, Cond.instanceMethod yX3_forget, Cond.selects RX3 yX3_forget yX3_forget, Cond.initialized RX3, Cond.code yX3_forget cX3_forget 2 none, Cond.fieldLink RX3 18 "LinkPair$Messages" "first" "I", Cond.fieldLink RX3 22 "LinkPair$Messages" "untold" "I", Cond.fieldLink RX3 32 "LinkPair$Messages" "again" "I", Cond.methodLink RX3 35 Lib.Math.min.name, Cond.static Lib.Math.min.name]
def wsX0_takeBackward_r2 : List Cond := [Cond.initialized "java/lang/Math", Cond.code Lib.Math.min.name Lib.Math.min.code 2 (some .int), Cond.methodLink RX3 28 yX3_placeOf, Cond.instanceMethod yX3_placeOf, Cond.selects RX3 yX3_placeOf yX3_placeOf, Cond.code yX3_placeOf cX3_placeOf 2 (some .int), Cond.fieldLink RX3 9 "LinkPair$Messages" "lengths" "[I", Cond.methodLink RX0 137 yX5_backwardIndicator, Cond.instanceMethod yX5_backwardIndicator, Cond.selects RX5 yX5_backwardIndicator yX5_backwardIndicator, Cond.code yX5_backwardIndicator cX5_backwardIndicator 1 (some .int)]
def wsX0_takeBackward : List Cond := .code yX0_takeBackward cX0_takeBackward 2 none :: ((wsX0_takeBackward_r1 ++ wsX0_takeBackward_r2) ++ wsX00 ++ wsX30 ++ wsX50)
def wsX5_forwardIndicator : List Cond := .code yX5_forwardIndicator cX5_forwardIndicator 1 (some .int) :: ([.fieldLink RX5 9 "LinkPair$Unit" "bytes" "[I"] ++ wsX50)
def wsX5_forwardNumber : List Cond := .code yX5_forwardNumber cX5_forwardNumber 1 (some .int) :: ([.fieldLink RX5 9 "LinkPair$Unit" "bytes" "[I"] ++ wsX50)
def wsX5_bodyByte : List Cond := .code yX5_bodyByte cX5_bodyByte 2 (some .int) :: ([.fieldLink RX5 9 "LinkPair$Unit" "bytes" "[I"] ++ wsX50)
def wsX4_keep : List Cond := .code yX4_keep cX4_keep 4 none :: ([.fieldLink RX4 19 "LinkPair$Store" "total" "I", .fieldLink RX4 15 "LinkPair$Store" "lengths" "[I", .fieldLink RX4 9 "LinkPair$Store" "bytes" "[B", .methodLink RX4 23 yX5_bodyLength, .instanceMethod yX5_bodyLength, .selects RX5 yX5_bodyLength yX5_bodyLength, .initialized RX5, .code yX5_bodyLength cX5_bodyLength 1 (some .int), .fieldLink RX5 15 "LinkPair$Unit" "count" "I", .methodLink RX4 29 yX5_bodyByte, .instanceMethod yX5_bodyByte, .selects RX5 yX5_bodyByte yX5_bodyByte, .code yX5_bodyByte cX5_bodyByte 2 (some .int), .fieldLink RX5 9 "LinkPair$Unit" "bytes" "[I"] ++ wsX40 ++ wsX50)
def wsX0_takeForward_r1 : List Cond := [Cond.fieldLink RX0 36 "LinkPair$End" "backwardIndicator" "I", Cond.fieldLink RX0 42 "LinkPair$End" "takenNumber" "I", Cond.fieldLink RX0 28 "LinkPair$End" "store" "LLinkPair$Store;", Cond.methodLink RX0 139 yX5_forwardIndicator, Cond.instanceMethod yX5_forwardIndicator, Cond.selects RX5 yX5_forwardIndicator yX5_forwardIndicator, Cond.initialized RX5, Cond.code yX5_forwardIndicator cX5_forwardIndicator 1 (some .int), Cond.fieldLink RX5 9 "LinkPair$Unit" "bytes" "[I", Cond.methodLink RX0 141 yX5_forwardNumber, Cond.instanceMethod yX5_forwardNumber, Cond.selects RX5 yX5_forwardNumber yX5_forwardNumber, Cond.code yX5_forwardNumber cX5_forwardNumber 1 (some .int), Cond.methodLink RX0 144 yX5_bodyLength, Cond.instanceMethod yX5_bodyLength, Cond.selects RX5 yX5_bodyLength yX5_bodyLength, Cond.code yX5_bodyLength cX5_bodyLength 1 (some .int), Cond.fieldLink RX5 15 "LinkPair$Unit" "count" "I", Cond.static yX6_nextNumber, Cond.initialized RX6, Cond.code yX6_nextNumber cX6_nextNumber 1 (some .int), Cond.methodLink RX0 147 yX4_keep, Cond.instanceMethod yX4_keep, Cond.selects RX4 yX4_keep yX4_keep]
def wsX0_takeForward_r2 : List Cond := [Cond.initialized RX4, Cond.code yX4_keep cX4_keep 4 none, Cond.fieldLink RX4 19 "LinkPair$Store" "total" "I", Cond.fieldLink RX4 15 "LinkPair$Store" "lengths" "[I", Cond.fieldLink RX4 9 "LinkPair$Store" "bytes" "[B", Cond.methodLink RX4 23 yX5_bodyLength, Cond.methodLink RX4 29 yX5_bodyByte, Cond.instanceMethod yX5_bodyByte, Cond.selects RX5 yX5_bodyByte yX5_bodyByte, Cond.code yX5_bodyByte cX5_bodyByte 2 (some .int)]
def wsX0_takeForward : List Cond := .code yX0_takeForward cX0_takeForward 3 (some .int) :: ((wsX0_takeForward_r1 ++ wsX0_takeForward_r2) ++ wsX00 ++ wsX50 ++ wsX40)
def wsX0_takeUnit_r1 : List Cond := [Cond.fieldLink RX0 54 "LinkPair$End" "units" "I", Cond.fieldLink RX0 51 "LinkPair$End" "errors" "I", Cond.fieldLink RX0 57 "LinkPair$End" "failed" "Z", Cond.fieldLink RX0 61 "LinkPair$End" "abnormalLast" "Z", Cond.fieldLink RX0 64 "LinkPair$End" "abnormalLastButOne" "Z", Cond.methodLink RX0 115 yX0_isAbnormal, Cond.instanceMethod yX0_isAbnormal, Cond.selects RX0 yX0_isAbnormal yX0_isAbnormal, Cond.initialized RX0, Cond.code yX0_isAbnormal cX0_isAbnormal 2 (some .boolean), Cond.fieldLink RX0 21 "LinkPair$End" "messages" "LLinkPair$Messages;", Cond.methodLink RX0 131 yX0_toldBy, Cond.instanceMethod yX0_toldBy, Cond.selects RX0 yX0_toldBy yX0_toldBy, Cond.code yX0_toldBy cX0_toldBy 3 (some .int), Cond.fieldLink RX0 39 "LinkPair$End" "sentNumber" "I", Cond.methodLink RX0 127 yX5_backwardNumber, Cond.instanceMethod yX5_backwardNumber, Cond.selects RX5 yX5_backwardNumber yX5_backwardNumber, Cond.initialized RX5, Cond.code yX5_backwardNumber cX5_backwardNumber 1 (some .int), Cond.fieldLink RX5 9 "LinkPair$Unit" "bytes" "[I", Cond.methodLink RX0 119 yX0_takeBackward, Cond.instanceMethod yX0_takeBackward]
def wsX0_takeUnit_r2 : List Cond := [Cond.selects RX0 yX0_takeBackward yX0_takeBackward, Cond.code yX0_takeBackward cX0_takeBackward 2 none, Cond.fieldLink RX0 32 "LinkPair$End" "forwardIndicator" "I", Cond.methodLink RX0 134 yX3_forget, Cond.instanceMethod yX3_forget, Cond.selects RX3 yX3_forget yX3_forget, Cond.initialized RX3, Cond.code yX3_forget cX3_forget 2 none, Cond.fieldLink RX3 18 "LinkPair$Messages" "first" "I", Cond.fieldLink RX3 22 "LinkPair$Messages" "untold" "I", Cond.fieldLink RX3 32 "LinkPair$Messages" "again" "I", Cond.methodLink RX3 35 Lib.Math.min.name, Cond.static Lib.Math.min.name, Cond.initialized "java/lang/Math", Cond.code Lib.Math.min.name Lib.Math.min.code 2 (some .int), Cond.methodLink RX3 28 yX3_placeOf, Cond.instanceMethod yX3_placeOf, Cond.selects RX3 yX3_placeOf yX3_placeOf, Cond.code yX3_placeOf cX3_placeOf 2 (some .int), Cond.fieldLink RX3 9 "LinkPair$Messages" "lengths" "[I", Cond.methodLink RX0 137 yX5_backwardIndicator, Cond.instanceMethod yX5_backwardIndicator, Cond.selects RX5 yX5_backwardIndicator yX5_backwardIndicator, Cond.code yX5_backwardIndicator cX5_backwardIndicator 1 (some .int)]
def wsX0_takeUnit_r3 : List Cond := [Cond.methodLink RX0 123 yX0_takeForward, Cond.instanceMethod yX0_takeForward, Cond.selects RX0 yX0_takeForward yX0_takeForward, Cond.code yX0_takeForward cX0_takeForward 3 (some .int), Cond.fieldLink RX0 36 "LinkPair$End" "backwardIndicator" "I", Cond.fieldLink RX0 42 "LinkPair$End" "takenNumber" "I", Cond.fieldLink RX0 28 "LinkPair$End" "store" "LLinkPair$Store;", Cond.methodLink RX0 139 yX5_forwardIndicator, Cond.instanceMethod yX5_forwardIndicator, Cond.selects RX5 yX5_forwardIndicator yX5_forwardIndicator, Cond.code yX5_forwardIndicator cX5_forwardIndicator 1 (some .int), Cond.methodLink RX0 141 yX5_forwardNumber, Cond.instanceMethod yX5_forwardNumber, Cond.selects RX5 yX5_forwardNumber yX5_forwardNumber, Cond.code yX5_forwardNumber cX5_forwardNumber 1 (some .int), Cond.methodLink RX0 144 yX5_bodyLength, Cond.instanceMethod yX5_bodyLength, Cond.selects RX5 yX5_bodyLength yX5_bodyLength, Cond.code yX5_bodyLength cX5_bodyLength 1 (some .int), Cond.fieldLink RX5 15 "LinkPair$Unit" "count" "I", Cond.static yX6_nextNumber, Cond.initialized RX6, Cond.code yX6_nextNumber cX6_nextNumber 1 (some .int), Cond.methodLink RX0 147 yX4_keep]
def wsX0_takeUnit_r4 : List Cond := [Cond.instanceMethod yX4_keep, Cond.selects RX4 yX4_keep yX4_keep, Cond.initialized RX4, Cond.code yX4_keep cX4_keep 4 none, Cond.fieldLink RX4 19 "LinkPair$Store" "total" "I", Cond.fieldLink RX4 15 "LinkPair$Store" "lengths" "[I", Cond.fieldLink RX4 9 "LinkPair$Store" "bytes" "[B", Cond.methodLink RX4 23 yX5_bodyLength, Cond.methodLink RX4 29 yX5_bodyByte, Cond.instanceMethod yX5_bodyByte, Cond.selects RX5 yX5_bodyByte yX5_bodyByte, Cond.code yX5_bodyByte cX5_bodyByte 2 (some .int)]
def wsX0_takeUnit : List Cond := .code yX0_takeUnit cX0_takeUnit 4 (some .int) :: ((wsX0_takeUnit_r1 ++ (wsX0_takeUnit_r2 ++ (wsX0_takeUnit_r3 ++ wsX0_takeUnit_r4))) ++ wsX00 ++ wsX30 ++ wsX50 ++ wsX40)
def wsX0_fact : List Cond := .code yX0_fact cX0_fact 2 (some .int) :: ([.fieldLink RX0 32 "LinkPair$End" "forwardIndicator" "I", .fieldLink RX0 36 "LinkPair$End" "backwardIndicator" "I", .fieldLink RX0 39 "LinkPair$End" "sentNumber" "I", .fieldLink RX0 42 "LinkPair$End" "takenNumber" "I", .fieldLink RX0 21 "LinkPair$End" "messages" "LLinkPair$Messages;", .fieldLink RX0 28 "LinkPair$End" "store" "LLinkPair$Store;", .fieldLink RX0 12 "LinkPair$End" "line" "LLinkPair$Line;", .fieldLink RX0 51 "LinkPair$End" "errors" "I", .fieldLink RX0 54 "LinkPair$End" "units" "I", .fieldLink RX0 57 "LinkPair$End" "failed" "Z"] ++ wsX00 ++ wsX30 ++ wsX40 ++ wsX20)
def wsX1_valueAt : List Cond := .code yX1_valueAt cX1_valueAt 2 (some .int) :: ([.fieldLink RX1 9 "LinkPair$Frame" "words" "[J"] ++ wsX10)
def wsX1_turn : List Cond := .code yX1_turn cX1_turn 2 none :: ([.fieldLink RX1 9 "LinkPair$Frame" "words" "[J"] ++ wsX10)
def wsX1_add : List Cond := .code yX1_add cX1_add 2 none :: ([.fieldLink RX1 15 "LinkPair$Frame" "length" "I", .methodLink RX1 19 yX1_valueAt, .instanceMethod yX1_valueAt, .selects RX1 yX1_valueAt yX1_valueAt, .initialized RX1, .code yX1_valueAt cX1_valueAt 2 (some .int), .fieldLink RX1 9 "LinkPair$Frame" "words" "[J", .methodLink RX1 23 yX1_turn, .instanceMethod yX1_turn, .selects RX1 yX1_turn yX1_turn, .code yX1_turn cX1_turn 2 none] ++ wsX10)
def wsX1_addFlag : List Cond := .code yX1_addFlag cX1_addFlag 2 none :: ([.methodLink RX1 27 yX1_add, .instanceMethod yX1_add, .selects RX1 yX1_add yX1_add, .initialized RX1, .code yX1_add cX1_add 2 none, .fieldLink RX1 15 "LinkPair$Frame" "length" "I", .methodLink RX1 19 yX1_valueAt, .instanceMethod yX1_valueAt, .selects RX1 yX1_valueAt yX1_valueAt, .code yX1_valueAt cX1_valueAt 2 (some .int), .fieldLink RX1 9 "LinkPair$Frame" "words" "[J", .methodLink RX1 23 yX1_turn, .instanceMethod yX1_turn, .selects RX1 yX1_turn yX1_turn, .code yX1_turn cX1_turn 2 none] ++ wsX10)
def wsX1_hasFlagAt : List Cond := .code yX1_hasFlagAt cX1_hasFlagAt 4 (some .boolean) :: ([.methodLink RX1 19 yX1_valueAt, .instanceMethod yX1_valueAt, .selects RX1 yX1_valueAt yX1_valueAt, .initialized RX1, .code yX1_valueAt cX1_valueAt 2 (some .int), .fieldLink RX1 9 "LinkPair$Frame" "words" "[J"] ++ wsX10)
def wsX1_isBetweenFlags : List Cond := .code yX1_isBetweenFlags cX1_isBetweenFlags 1 (some .boolean) :: ([.fieldLink RX1 15 "LinkPair$Frame" "length" "I", .methodLink RX1 30 yX1_hasFlagAt, .instanceMethod yX1_hasFlagAt, .selects RX1 yX1_hasFlagAt yX1_hasFlagAt, .initialized RX1, .code yX1_hasFlagAt cX1_hasFlagAt 4 (some .boolean), .methodLink RX1 19 yX1_valueAt, .instanceMethod yX1_valueAt, .selects RX1 yX1_valueAt yX1_valueAt, .code yX1_valueAt cX1_valueAt 2 (some .int), .fieldLink RX1 9 "LinkPair$Frame" "words" "[J"] ++ wsX10)
def wsX1_hasSixOnesBetweenFlags : List Cond := .code yX1_hasSixOnesBetweenFlags cX1_hasSixOnesBetweenFlags 3 (some .boolean) :: ([.fieldLink RX1 15 "LinkPair$Frame" "length" "I", .methodLink RX1 19 yX1_valueAt, .instanceMethod yX1_valueAt, .selects RX1 yX1_valueAt yX1_valueAt, .initialized RX1, .code yX1_valueAt cX1_valueAt 2 (some .int), .fieldLink RX1 9 "LinkPair$Frame" "words" "[J"] ++ wsX10)
def wsX2_isFull : List Cond := .code yX2_isFull cX2_isFull 1 (some .boolean) :: ([.fieldLink RX2 18 "LinkPair$Line" "count" "I"] ++ wsX20)
def wsX2_last : List Cond := .code yX2_last cX2_last 1 (some (.object "LinkPair$Frame")) :: ([.fieldLink RX2 11 "LinkPair$Line" "frames" "[LLinkPair$Frame;", .fieldLink RX2 18 "LinkPair$Line" "count" "I"] ++ wsX20)
def wsX2_open : List Cond := .code yX2_open cX2_open 1 (some (.object "LinkPair$Frame")) :: ([.fieldLink RX2 18 "LinkPair$Line" "count" "I", .methodLink RX2 22 yX2_last, .instanceMethod yX2_last, .selects RX2 yX2_last yX2_last, .initialized RX2, .code yX2_last cX2_last 1 (some (.object "LinkPair$Frame")), .fieldLink RX2 11 "LinkPair$Line" "frames" "[LLinkPair$Frame;"] ++ wsX20 ++ wsX10)
def wsX2_lose : List Cond := .code yX2_lose cX2_lose 4 none :: ([.fieldLink RX2 11 "LinkPair$Line" "frames" "[LLinkPair$Frame;", .fieldLink RX2 18 "LinkPair$Line" "count" "I"] ++ wsX20)
def wsX3_join : List Cond := .code yX3_join cX3_join 4 none :: ([.fieldLink RX3 22 "LinkPair$Messages" "untold" "I", .fieldLink RX3 25 "LinkPair$Messages" "waiting" "I", .fieldLink RX3 9 "LinkPair$Messages" "lengths" "[I", .fieldLink RX3 15 "LinkPair$Messages" "seeds" "[I", .methodLink RX3 28 yX3_placeOf, .instanceMethod yX3_placeOf, .selects RX3 yX3_placeOf yX3_placeOf, .initialized RX3, .code yX3_placeOf cX3_placeOf 2 (some .int), .fieldLink RX3 18 "LinkPair$Messages" "first" "I"] ++ wsX30)
def wsX4_has : List Cond := .code yX4_has cX4_has 2 (some .boolean) :: ([.fieldLink RX4 19 "LinkPair$Store" "total" "I"] ++ wsX40)
def wsX4_byteOf : List Cond := .code yX4_byteOf cX4_byteOf 4 (some .int) :: ([.fieldLink RX4 15 "LinkPair$Store" "lengths" "[I", .fieldLink RX4 9 "LinkPair$Store" "bytes" "[B"] ++ wsX40)
def wsX5_init : List Cond := .code yX5_init cX5_init 1 none :: ([.methodLink RX5 3 objectInit, .instanceMethod objectInit, .code objectInit ⟨#[0xb1]⟩ 1 none, .arrayClass .int, .fieldLink RX5 9 "LinkPair$Unit" "bytes" "[I"] ++ wsX50)
def wsX5_writeTo : List Cond := .code yX5_writeTo cX5_writeTo 5 none :: ([.fieldLink RX5 15 "LinkPair$Unit" "count" "I", .fieldLink RX5 9 "LinkPair$Unit" "bytes" "[I", .methodLink RX5 36 yX1_addFlag, .instanceMethod yX1_addFlag, .selects RX1 yX1_addFlag yX1_addFlag, .initialized RX1, .code yX1_addFlag cX1_addFlag 2 none, .methodLink RX1 27 yX1_add, .instanceMethod yX1_add, .selects RX1 yX1_add yX1_add, .code yX1_add cX1_add 2 none, .fieldLink RX1 15 "LinkPair$Frame" "length" "I", .methodLink RX1 19 yX1_valueAt, .instanceMethod yX1_valueAt, .selects RX1 yX1_valueAt yX1_valueAt, .code yX1_valueAt cX1_valueAt 2 (some .int), .fieldLink RX1 9 "LinkPair$Frame" "words" "[J", .methodLink RX1 23 yX1_turn, .instanceMethod yX1_turn, .selects RX1 yX1_turn yX1_turn, .code yX1_turn cX1_turn 2 none, .methodLink RX5 41 yX1_add] ++ wsX50 ++ wsX10)
def wsX5_writeBit : List Cond := .code yX5_writeBit cX5_writeBit 4 none :: ([.fieldLink RX5 9 "LinkPair$Unit" "bytes" "[I"] ++ wsX50)
def wsX5_readBits : List Cond := .code yX5_readBits cX5_readBits 6 (some .int) :: ([.methodLink RX5 59 yX1_valueAt, .instanceMethod yX1_valueAt, .selects RX1 yX1_valueAt yX1_valueAt, .initialized RX1, .code yX1_valueAt cX1_valueAt 2 (some .int), .fieldLink RX1 9 "LinkPair$Frame" "words" "[J", .methodLink RX5 63 yX5_writeBit, .instanceMethod yX5_writeBit, .selects RX5 yX5_writeBit yX5_writeBit, .initialized RX5, .code yX5_writeBit cX5_writeBit 4 none, .fieldLink RX5 9 "LinkPair$Unit" "bytes" "[I"] ++ wsX10 ++ wsX50)
def wsX5_readFrom_r1 : List Cond := [Cond.fieldLink RX5 15 "LinkPair$Unit" "count" "I", Cond.fieldLink RX5 9 "LinkPair$Unit" "bytes" "[I", Cond.methodLink RX5 19 Lib.Math.min.name, Cond.static Lib.Math.min.name, Cond.initialized "java/lang/Math", Cond.code Lib.Math.min.name Lib.Math.min.code 2 (some .int), Cond.methodLink RX5 45 yX1_isBetweenFlags, Cond.instanceMethod yX1_isBetweenFlags, Cond.selects RX1 yX1_isBetweenFlags yX1_isBetweenFlags, Cond.initialized RX1, Cond.code yX1_isBetweenFlags cX1_isBetweenFlags 1 (some .boolean), Cond.fieldLink RX1 15 "LinkPair$Frame" "length" "I", Cond.methodLink RX1 30 yX1_hasFlagAt, Cond.instanceMethod yX1_hasFlagAt, Cond.selects RX1 yX1_hasFlagAt yX1_hasFlagAt, Cond.code yX1_hasFlagAt cX1_hasFlagAt 4 (some .boolean), Cond.methodLink RX1 19 yX1_valueAt, Cond.instanceMethod yX1_valueAt, Cond.selects RX1 yX1_valueAt yX1_valueAt, Cond.code yX1_valueAt cX1_valueAt 2 (some .int), Cond.fieldLink RX1 9 "LinkPair$Frame" "words" "[J", Cond.methodLink RX5 49 yX1_hasSixOnesBetweenFlags, Cond.instanceMethod yX1_hasSixOnesBetweenFlags, Cond.selects RX1 yX1_hasSixOnesBetweenFlags yX1_hasSixOnesBetweenFlags]
def wsX5_readFrom_r2 : List Cond := [Cond.code yX1_hasSixOnesBetweenFlags cX1_hasSixOnesBetweenFlags 3 (some .boolean), Cond.methodLink RX5 52 yX5_readBits, Cond.instanceMethod yX5_readBits, Cond.selects RX5 yX5_readBits yX5_readBits, Cond.initialized RX5, Cond.code yX5_readBits cX5_readBits 6 (some .int), Cond.methodLink RX5 59 yX1_valueAt, Cond.methodLink RX5 63 yX5_writeBit, Cond.instanceMethod yX5_writeBit, Cond.selects RX5 yX5_writeBit yX5_writeBit, Cond.code yX5_writeBit cX5_writeBit 4 none, Cond.methodLink RX5 29 yX5_checkDue, Cond.instanceMethod yX5_checkDue, Cond.selects RX5 yX5_checkDue yX5_checkDue, Cond.code yX5_checkDue cX5_checkDue 3 (some .int), Cond.constant RX5 32 (65535), Cond.static yX6_restBehind, Cond.initialized RX6, Cond.code yX6_restBehind cX6_restBehind 5 (some .int), Cond.constant RX6 138 (33800), Cond.methodLink RX5 25 yX5_bodyLength, Cond.instanceMethod yX5_bodyLength, Cond.selects RX5 yX5_bodyLength yX5_bodyLength, Cond.code yX5_bodyLength cX5_bodyLength 1 (some .int)]
def wsX5_readFrom : List Cond := .code yX5_readFrom cX5_readFrom 3 (some .int) :: ((wsX5_readFrom_r1 ++ wsX5_readFrom_r2) ++ wsX50 ++ wsX10)
def wsX6_init_r1 : List Cond := [Cond.methodLink RX6 3 objectInit, Cond.instanceMethod objectInit, Cond.code objectInit ⟨#[0xb1]⟩ 1 none, Cond.classLink RX6 9 RX0, Cond.instantiable RX0 12, Cond.initialized RX0, Cond.fieldLink RX6 12 "LinkPair" "ends" "[LLinkPair$End;", Cond.classLink RX6 16 RX5, Cond.instantiable RX5 2, Cond.initialized RX5, Cond.fieldLink RX6 19 "LinkPair" "unit" "LLinkPair$Unit;", Cond.instanceMethod yX0_init, Cond.code yX0_init cX0_init 1 none, Cond.methodLink RX0 3 objectInit, Cond.classLink RX0 9 RX2, Cond.instantiable RX2 2, Cond.initialized RX2, Cond.fieldLink RX0 12 "LinkPair$End" "line" "LLinkPair$Line;", Cond.classLink RX0 18 RX3, Cond.instantiable RX3 6, Cond.initialized RX3, Cond.fieldLink RX0 21 "LinkPair$End" "messages" "LLinkPair$Messages;", Cond.classLink RX0 25 RX4, Cond.instantiable RX4 3]
def wsX6_init_r2 : List Cond := [Cond.initialized RX4, Cond.fieldLink RX0 28 "LinkPair$End" "store" "LLinkPair$Store;", Cond.fieldLink RX0 32 "LinkPair$End" "forwardIndicator" "I", Cond.fieldLink RX0 36 "LinkPair$End" "backwardIndicator" "I", Cond.fieldLink RX0 39 "LinkPair$End" "sentNumber" "I", Cond.fieldLink RX0 42 "LinkPair$End" "takenNumber" "I", Cond.methodLink RX0 11 yX2_init, Cond.instanceMethod yX2_init, Cond.code yX2_init cX2_init 2 none, Cond.methodLink RX2 3 objectInit, Cond.classLink RX2 9 RX1, Cond.fieldLink RX2 11 "LinkPair$Line" "frames" "[LLinkPair$Frame;", Cond.instantiable RX1 2, Cond.initialized RX1, Cond.instanceMethod yX1_init, Cond.code yX1_init cX1_init 1 none, Cond.methodLink RX1 3 objectInit, Cond.arrayClass .long, Cond.fieldLink RX1 9 "LinkPair$Frame" "words" "[J", Cond.instanceMethod yX3_init, Cond.code yX3_init cX3_init 1 none, Cond.methodLink RX3 3 objectInit, Cond.arrayClass .int, Cond.fieldLink RX3 9 "LinkPair$Messages" "lengths" "[I"]
def wsX6_init_r3 : List Cond := [Cond.fieldLink RX3 15 "LinkPair$Messages" "seeds" "[I", Cond.instanceMethod yX4_init, Cond.code yX4_init cX4_init 1 none, Cond.methodLink RX4 3 objectInit, Cond.arrayClass .byte, Cond.fieldLink RX4 9 "LinkPair$Store" "bytes" "[B", Cond.fieldLink RX4 15 "LinkPair$Store" "lengths" "[I", Cond.instanceMethod yX5_init, Cond.code yX5_init cX5_init 1 none, Cond.methodLink RX5 3 objectInit, Cond.fieldLink RX5 9 "LinkPair$Unit" "bytes" "[I"]
def wsX6_init : List Cond := .code yX6_init cX6_init 1 none :: ((wsX6_init_r1 ++ (wsX6_init_r2 ++ wsX6_init_r3)) ++ wsX00 ++ wsX60 ++ wsX50 ++ wsX20 ++ wsX30 ++ wsX40 ++ wsX10)
def wsX6_endOf : List Cond := .code yX6_endOf cX6_endOf 2 (some (.object "LinkPair$End")) :: ([.classLink RX6 27 "java/lang/IllegalArgumentException", .initialized "java/lang/IllegalArgumentException", .fieldLink RX6 12 "LinkPair" "ends" "[LLinkPair$End;"] ++ wsX60 ++ (vx_at0 RX6 29 "java/lang/IllegalArgumentException" ["java/lang/RuntimeException", "java/lang/Exception"]).filter goodWord)
def wsX6_put : List Cond := .code yX6_put cX6_put 5 (some .int) :: ([.classLink RX6 27 "java/lang/IllegalArgumentException", .initialized "java/lang/IllegalArgumentException", .classLink RX6 44 "java/lang/IllegalStateException", .initialized "java/lang/IllegalStateException", .methodLink RX6 23 yX6_endOf, .instanceMethod yX6_endOf, .selects RX6 yX6_endOf yX6_endOf, .initialized RX6, .code yX6_endOf cX6_endOf 2 (some (.object "LinkPair$End")), .fieldLink RX6 12 "LinkPair" "ends" "[LLinkPair$End;", .methodLink RX6 47 yX3_join, .instanceMethod yX3_join, .selects RX3 yX3_join yX3_join, .initialized RX3, .code yX3_join cX3_join 4 none, .fieldLink RX3 22 "LinkPair$Messages" "untold" "I", .fieldLink RX3 25 "LinkPair$Messages" "waiting" "I", .fieldLink RX3 9 "LinkPair$Messages" "lengths" "[I", .fieldLink RX3 15 "LinkPair$Messages" "seeds" "[I", .methodLink RX3 28 yX3_placeOf, .instanceMethod yX3_placeOf, .selects RX3 yX3_placeOf yX3_placeOf, .code yX3_placeOf cX3_placeOf 2 (some .int), .fieldLink RX3 18 "LinkPair$Messages" "first" "I"] ++ wsX00 ++ wsX30 ++ wsX60 ++ (vx_at0 RX6 29 "java/lang/IllegalArgumentException" ["java/lang/RuntimeException", "java/lang/Exception"]).filter goodWord ++ (vx_at0 RX6 46 "java/lang/IllegalStateException" ["java/lang/RuntimeException", "java/lang/Exception"]).filter goodWord)
def wsX6_send_r1 : List Cond := [Cond.classLink RX6 44 "java/lang/IllegalStateException", Cond.initialized "java/lang/IllegalStateException", Cond.fieldLink RX6 19 "LinkPair" "unit" "LLinkPair$Unit;", Cond.methodLink RX6 23 yX6_endOf, Cond.instanceMethod yX6_endOf, Cond.selects RX6 yX6_endOf yX6_endOf, Cond.initialized RX6, Cond.code yX6_endOf cX6_endOf 2 (some (.object "LinkPair$End")), Cond.classLink RX6 27 "java/lang/IllegalArgumentException", Cond.initialized "java/lang/IllegalArgumentException", Cond.fieldLink RX6 12 "LinkPair" "ends" "[LLinkPair$End;", Cond.methodLink RX6 55 yX2_isFull, Cond.instanceMethod yX2_isFull, Cond.selects RX2 yX2_isFull yX2_isFull, Cond.initialized RX2, Cond.code yX2_isFull cX2_isFull 1 (some .boolean), Cond.fieldLink RX2 18 "LinkPair$Line" "count" "I", Cond.methodLink RX6 61 yX0_nextUnit, Cond.instanceMethod yX0_nextUnit, Cond.selects RX0 yX0_nextUnit yX0_nextUnit, Cond.initialized RX0, Cond.code yX0_nextUnit cX0_nextUnit 3 (some .int), Cond.fieldLink RX0 21 "LinkPair$End" "messages" "LLinkPair$Messages;", Cond.fieldLink RX0 39 "LinkPair$End" "sentNumber" "I"]
def wsX6_send_r2 : List Cond := [Cond.methodLink RX0 70 yX0_writeMessage, Cond.instanceMethod yX0_writeMessage, Cond.selects RX0 yX0_writeMessage yX0_writeMessage, Cond.code yX0_writeMessage cX0_writeMessage 5 none, Cond.methodLink RX0 92 yX3_placeOf, Cond.instanceMethod yX3_placeOf, Cond.selects RX3 yX3_placeOf yX3_placeOf, Cond.initialized RX3, Cond.code yX3_placeOf cX3_placeOf 2 (some .int), Cond.fieldLink RX3 18 "LinkPair$Messages" "first" "I", Cond.fieldLink RX3 9 "LinkPair$Messages" "lengths" "[I", Cond.methodLink RX0 85 yX0_writeUnit, Cond.instanceMethod yX0_writeUnit, Cond.selects RX0 yX0_writeUnit yX0_writeUnit, Cond.code yX0_writeUnit cX0_writeUnit 6 none, Cond.fieldLink RX0 42 "LinkPair$End" "takenNumber" "I", Cond.fieldLink RX0 36 "LinkPair$End" "backwardIndicator" "I", Cond.fieldLink RX0 32 "LinkPair$End" "forwardIndicator" "I", Cond.methodLink RX0 102 yX5_writeHead, Cond.instanceMethod yX5_writeHead, Cond.selects RX5 yX5_writeHead yX5_writeHead, Cond.initialized RX5, Cond.code yX5_writeHead cX5_writeHead 4 none, Cond.fieldLink RX5 9 "LinkPair$Unit" "bytes" "[I"]
def wsX6_send_r3 : List Cond := [Cond.methodLink RX5 19 Lib.Math.min.name, Cond.static Lib.Math.min.name, Cond.initialized "java/lang/Math", Cond.code Lib.Math.min.name Lib.Math.min.code 2 (some .int), Cond.fieldLink RX5 15 "LinkPair$Unit" "count" "I", Cond.methodLink RX0 108 yX5_writeBody, Cond.instanceMethod yX5_writeBody, Cond.selects RX5 yX5_writeBody yX5_writeBody, Cond.code yX5_writeBody cX5_writeBody 3 none, Cond.methodLink RX5 25 yX5_bodyLength, Cond.instanceMethod yX5_bodyLength, Cond.selects RX5 yX5_bodyLength yX5_bodyLength, Cond.code yX5_bodyLength cX5_bodyLength 1 (some .int), Cond.methodLink RX0 112 yX5_writeCheck, Cond.instanceMethod yX5_writeCheck, Cond.selects RX5 yX5_writeCheck yX5_writeCheck, Cond.code yX5_writeCheck cX5_writeCheck 2 none, Cond.methodLink RX5 29 yX5_checkDue, Cond.instanceMethod yX5_checkDue, Cond.selects RX5 yX5_checkDue yX5_checkDue, Cond.code yX5_checkDue cX5_checkDue 3 (some .int), Cond.constant RX5 32 (65535), Cond.static yX6_restBehind, Cond.code yX6_restBehind cX6_restBehind 5 (some .int)]
def wsX6_send_r4 : List Cond := [Cond.constant RX6 138 (33800), Cond.methodLink RX0 74 yX3_mayGoFirstTime, Cond.instanceMethod yX3_mayGoFirstTime, Cond.selects RX3 yX3_mayGoFirstTime yX3_mayGoFirstTime, Cond.code yX3_mayGoFirstTime cX3_mayGoFirstTime 1 (some .boolean), Cond.fieldLink RX3 25 "LinkPair$Messages" "waiting" "I", Cond.fieldLink RX3 22 "LinkPair$Messages" "untold" "I", Cond.methodLink RX0 78 yX3_goFirstTime, Cond.instanceMethod yX3_goFirstTime, Cond.selects RX3 yX3_goFirstTime yX3_goFirstTime, Cond.code yX3_goFirstTime cX3_goFirstTime 1 none, Cond.static yX6_nextNumber, Cond.code yX6_nextNumber cX6_nextNumber 1 (some .int), Cond.methodLink RX6 65 yX2_open, Cond.instanceMethod yX2_open, Cond.selects RX2 yX2_open yX2_open, Cond.code yX2_open cX2_open 1 (some (.object "LinkPair$Frame")), Cond.methodLink RX2 22 yX2_last, Cond.instanceMethod yX2_last, Cond.selects RX2 yX2_last yX2_last, Cond.code yX2_last cX2_last 1 (some (.object "LinkPair$Frame")), Cond.fieldLink RX2 11 "LinkPair$Line" "frames" "[LLinkPair$Frame;", Cond.methodLink RX6 69 yX5_writeTo, Cond.instanceMethod yX5_writeTo]
def wsX6_send_r5 : List Cond := [Cond.selects RX5 yX5_writeTo yX5_writeTo, Cond.code yX5_writeTo cX5_writeTo 5 none, Cond.methodLink RX5 36 yX1_addFlag, Cond.instanceMethod yX1_addFlag, Cond.selects RX1 yX1_addFlag yX1_addFlag, Cond.initialized RX1, Cond.code yX1_addFlag cX1_addFlag 2 none, Cond.methodLink RX1 27 yX1_add, Cond.instanceMethod yX1_add, Cond.selects RX1 yX1_add yX1_add, Cond.code yX1_add cX1_add 2 none, Cond.fieldLink RX1 15 "LinkPair$Frame" "length" "I", Cond.methodLink RX1 19 yX1_valueAt, Cond.instanceMethod yX1_valueAt, Cond.selects RX1 yX1_valueAt yX1_valueAt, Cond.code yX1_valueAt cX1_valueAt 2 (some .int), Cond.fieldLink RX1 9 "LinkPair$Frame" "words" "[J", Cond.methodLink RX1 23 yX1_turn, Cond.instanceMethod yX1_turn, Cond.selects RX1 yX1_turn yX1_turn, Cond.code yX1_turn cX1_turn 2 none, Cond.methodLink RX5 41 yX1_add]
def wsX6_send : List Cond := .code yX6_send cX6_send 4 (some .int) :: ((wsX6_send_r1 ++ (wsX6_send_r2 ++ (wsX6_send_r3 ++ (wsX6_send_r4 ++ wsX6_send_r5)))) ++ wsX00 ++ wsX60 ++ wsX20 ++ wsX30 ++ wsX50 ++ wsX10 ++ (vx_at0 RX6 46 "java/lang/IllegalStateException" ["java/lang/RuntimeException", "java/lang/Exception"]).filter goodWord ++ (vx_at0 RX6 29 "java/lang/IllegalArgumentException" ["java/lang/RuntimeException", "java/lang/Exception"]).filter goodWord)
def wsX6_take_r1 : List Cond := [Cond.classLink RX6 44 "java/lang/IllegalStateException", Cond.initialized "java/lang/IllegalStateException", Cond.fieldLink RX6 12 "LinkPair" "ends" "[LLinkPair$End;", Cond.fieldLink RX6 19 "LinkPair" "unit" "LLinkPair$Unit;", Cond.methodLink RX6 23 yX6_endOf, Cond.instanceMethod yX6_endOf, Cond.selects RX6 yX6_endOf yX6_endOf, Cond.initialized RX6, Cond.code yX6_endOf cX6_endOf 2 (some (.object "LinkPair$End")), Cond.classLink RX6 27 "java/lang/IllegalArgumentException", Cond.initialized "java/lang/IllegalArgumentException", Cond.methodLink RX6 80 yX5_readFrom, Cond.instanceMethod yX5_readFrom, Cond.selects RX5 yX5_readFrom yX5_readFrom, Cond.initialized RX5, Cond.code yX5_readFrom cX5_readFrom 3 (some .int), Cond.fieldLink RX5 15 "LinkPair$Unit" "count" "I", Cond.fieldLink RX5 9 "LinkPair$Unit" "bytes" "[I", Cond.methodLink RX5 19 Lib.Math.min.name, Cond.static Lib.Math.min.name, Cond.initialized "java/lang/Math", Cond.code Lib.Math.min.name Lib.Math.min.code 2 (some .int), Cond.methodLink RX5 45 yX1_isBetweenFlags, Cond.instanceMethod yX1_isBetweenFlags]
def wsX6_take_r2 : List Cond := [Cond.selects RX1 yX1_isBetweenFlags yX1_isBetweenFlags, Cond.initialized RX1, Cond.code yX1_isBetweenFlags cX1_isBetweenFlags 1 (some .boolean), Cond.fieldLink RX1 15 "LinkPair$Frame" "length" "I", Cond.methodLink RX1 30 yX1_hasFlagAt, Cond.instanceMethod yX1_hasFlagAt, Cond.selects RX1 yX1_hasFlagAt yX1_hasFlagAt, Cond.code yX1_hasFlagAt cX1_hasFlagAt 4 (some .boolean), Cond.methodLink RX1 19 yX1_valueAt, Cond.instanceMethod yX1_valueAt, Cond.selects RX1 yX1_valueAt yX1_valueAt, Cond.code yX1_valueAt cX1_valueAt 2 (some .int), Cond.fieldLink RX1 9 "LinkPair$Frame" "words" "[J", Cond.methodLink RX5 49 yX1_hasSixOnesBetweenFlags, Cond.instanceMethod yX1_hasSixOnesBetweenFlags, Cond.selects RX1 yX1_hasSixOnesBetweenFlags yX1_hasSixOnesBetweenFlags, Cond.code yX1_hasSixOnesBetweenFlags cX1_hasSixOnesBetweenFlags 3 (some .boolean), Cond.methodLink RX5 52 yX5_readBits, Cond.instanceMethod yX5_readBits, Cond.selects RX5 yX5_readBits yX5_readBits, Cond.code yX5_readBits cX5_readBits 6 (some .int), Cond.methodLink RX5 59 yX1_valueAt, Cond.methodLink RX5 63 yX5_writeBit, Cond.instanceMethod yX5_writeBit]
def wsX6_take_r3 : List Cond := [Cond.selects RX5 yX5_writeBit yX5_writeBit, Cond.code yX5_writeBit cX5_writeBit 4 none, Cond.methodLink RX5 29 yX5_checkDue, Cond.instanceMethod yX5_checkDue, Cond.selects RX5 yX5_checkDue yX5_checkDue, Cond.code yX5_checkDue cX5_checkDue 3 (some .int), Cond.constant RX5 32 (65535), Cond.static yX6_restBehind, Cond.code yX6_restBehind cX6_restBehind 5 (some .int), Cond.constant RX6 138 (33800), Cond.methodLink RX5 25 yX5_bodyLength, Cond.instanceMethod yX5_bodyLength, Cond.selects RX5 yX5_bodyLength yX5_bodyLength, Cond.code yX5_bodyLength cX5_bodyLength 1 (some .int), Cond.methodLink RX6 84 yX2_lose, Cond.instanceMethod yX2_lose, Cond.selects RX2 yX2_lose yX2_lose, Cond.initialized RX2, Cond.code yX2_lose cX2_lose 4 none, Cond.fieldLink RX2 11 "LinkPair$Line" "frames" "[LLinkPair$Frame;", Cond.fieldLink RX2 18 "LinkPair$Line" "count" "I", Cond.methodLink RX6 88 yX0_takeUnit, Cond.instanceMethod yX0_takeUnit, Cond.selects RX0 yX0_takeUnit yX0_takeUnit]
def wsX6_take_r4 : List Cond := [Cond.initialized RX0, Cond.code yX0_takeUnit cX0_takeUnit 4 (some .int), Cond.fieldLink RX0 54 "LinkPair$End" "units" "I", Cond.fieldLink RX0 51 "LinkPair$End" "errors" "I", Cond.fieldLink RX0 57 "LinkPair$End" "failed" "Z", Cond.fieldLink RX0 61 "LinkPair$End" "abnormalLast" "Z", Cond.fieldLink RX0 64 "LinkPair$End" "abnormalLastButOne" "Z", Cond.methodLink RX0 115 yX0_isAbnormal, Cond.instanceMethod yX0_isAbnormal, Cond.selects RX0 yX0_isAbnormal yX0_isAbnormal, Cond.code yX0_isAbnormal cX0_isAbnormal 2 (some .boolean), Cond.fieldLink RX0 21 "LinkPair$End" "messages" "LLinkPair$Messages;", Cond.methodLink RX0 131 yX0_toldBy, Cond.instanceMethod yX0_toldBy, Cond.selects RX0 yX0_toldBy yX0_toldBy, Cond.code yX0_toldBy cX0_toldBy 3 (some .int), Cond.fieldLink RX0 39 "LinkPair$End" "sentNumber" "I", Cond.methodLink RX0 127 yX5_backwardNumber, Cond.instanceMethod yX5_backwardNumber, Cond.selects RX5 yX5_backwardNumber yX5_backwardNumber, Cond.code yX5_backwardNumber cX5_backwardNumber 1 (some .int), Cond.methodLink RX0 119 yX0_takeBackward, Cond.instanceMethod yX0_takeBackward, Cond.selects RX0 yX0_takeBackward yX0_takeBackward]
def wsX6_take_r5 : List Cond := [Cond.code yX0_takeBackward cX0_takeBackward 2 none, Cond.fieldLink RX0 32 "LinkPair$End" "forwardIndicator" "I", Cond.methodLink RX0 134 yX3_forget, Cond.instanceMethod yX3_forget, Cond.selects RX3 yX3_forget yX3_forget, Cond.initialized RX3, Cond.code yX3_forget cX3_forget 2 none, Cond.fieldLink RX3 18 "LinkPair$Messages" "first" "I", Cond.fieldLink RX3 22 "LinkPair$Messages" "untold" "I", Cond.fieldLink RX3 32 "LinkPair$Messages" "again" "I", Cond.methodLink RX3 35 Lib.Math.min.name, Cond.methodLink RX3 28 yX3_placeOf, Cond.instanceMethod yX3_placeOf, Cond.selects RX3 yX3_placeOf yX3_placeOf, Cond.code yX3_placeOf cX3_placeOf 2 (some .int), Cond.fieldLink RX3 9 "LinkPair$Messages" "lengths" "[I", Cond.methodLink RX0 137 yX5_backwardIndicator, Cond.instanceMethod yX5_backwardIndicator, Cond.selects RX5 yX5_backwardIndicator yX5_backwardIndicator, Cond.code yX5_backwardIndicator cX5_backwardIndicator 1 (some .int), Cond.methodLink RX0 123 yX0_takeForward, Cond.instanceMethod yX0_takeForward, Cond.selects RX0 yX0_takeForward yX0_takeForward, Cond.code yX0_takeForward cX0_takeForward 3 (some .int)]
def wsX6_take_r6 : List Cond := [Cond.fieldLink RX0 36 "LinkPair$End" "backwardIndicator" "I", Cond.fieldLink RX0 42 "LinkPair$End" "takenNumber" "I", Cond.fieldLink RX0 28 "LinkPair$End" "store" "LLinkPair$Store;", Cond.methodLink RX0 139 yX5_forwardIndicator, Cond.instanceMethod yX5_forwardIndicator, Cond.selects RX5 yX5_forwardIndicator yX5_forwardIndicator, Cond.code yX5_forwardIndicator cX5_forwardIndicator 1 (some .int), Cond.methodLink RX0 141 yX5_forwardNumber, Cond.instanceMethod yX5_forwardNumber, Cond.selects RX5 yX5_forwardNumber yX5_forwardNumber, Cond.code yX5_forwardNumber cX5_forwardNumber 1 (some .int), Cond.methodLink RX0 144 yX5_bodyLength, Cond.static yX6_nextNumber, Cond.code yX6_nextNumber cX6_nextNumber 1 (some .int), Cond.methodLink RX0 147 yX4_keep, Cond.instanceMethod yX4_keep, Cond.selects RX4 yX4_keep yX4_keep, Cond.initialized RX4, Cond.code yX4_keep cX4_keep 4 none, Cond.fieldLink RX4 19 "LinkPair$Store" "total" "I", Cond.fieldLink RX4 15 "LinkPair$Store" "lengths" "[I", Cond.fieldLink RX4 9 "LinkPair$Store" "bytes" "[B", Cond.methodLink RX4 23 yX5_bodyLength, Cond.methodLink RX4 29 yX5_bodyByte]
def wsX6_take_r7 : List Cond := [Cond.instanceMethod yX5_bodyByte, Cond.selects RX5 yX5_bodyByte yX5_bodyByte, Cond.code yX5_bodyByte cX5_bodyByte 2 (some .int)]
def wsX6_take : List Cond := .code yX6_take cX6_take 6 (some .int) :: ((wsX6_take_r1 ++ (wsX6_take_r2 ++ (wsX6_take_r3 ++ (wsX6_take_r4 ++ (wsX6_take_r5 ++ (wsX6_take_r6 ++ wsX6_take_r7)))))) ++ wsX60 ++ wsX00 ++ wsX20 ++ wsX50 ++ wsX10 ++ wsX30 ++ wsX40 ++ (vx_at0 RX6 46 "java/lang/IllegalStateException" ["java/lang/RuntimeException", "java/lang/Exception"]).filter goodWord ++ (vx_at0 RX6 29 "java/lang/IllegalArgumentException" ["java/lang/RuntimeException", "java/lang/Exception"]).filter goodWord)
def wsX6_frameOf : List Cond := .code yX6_frameOf cX6_frameOf 4 (some (.object "LinkPair$Frame")) :: ([.classLink RX6 27 "java/lang/IllegalArgumentException", .initialized "java/lang/IllegalArgumentException", .methodLink RX6 23 yX6_endOf, .instanceMethod yX6_endOf, .selects RX6 yX6_endOf yX6_endOf, .initialized RX6, .code yX6_endOf cX6_endOf 2 (some (.object "LinkPair$End")), .fieldLink RX6 12 "LinkPair" "ends" "[LLinkPair$End;"] ++ wsX00 ++ wsX20 ++ wsX60 ++ (vx_at0 RX6 29 "java/lang/IllegalArgumentException" ["java/lang/RuntimeException", "java/lang/Exception"]).filter goodWord)
def wsX6_flip : List Cond := .code yX6_flip cX6_flip 5 (some .int) :: ([.classLink RX6 27 "java/lang/IllegalArgumentException", .initialized "java/lang/IllegalArgumentException", .methodLink RX6 92 yX6_frameOf, .instanceMethod yX6_frameOf, .selects RX6 yX6_frameOf yX6_frameOf, .initialized RX6, .code yX6_frameOf cX6_frameOf 4 (some (.object "LinkPair$Frame")), .methodLink RX6 23 yX6_endOf, .instanceMethod yX6_endOf, .selects RX6 yX6_endOf yX6_endOf, .code yX6_endOf cX6_endOf 2 (some (.object "LinkPair$End")), .fieldLink RX6 12 "LinkPair" "ends" "[LLinkPair$End;", .methodLink RX6 101 yX1_turn, .instanceMethod yX1_turn, .selects RX1 yX1_turn yX1_turn, .initialized RX1, .code yX1_turn cX1_turn 2 none, .fieldLink RX1 9 "LinkPair$Frame" "words" "[J", .methodLink RX6 104 yX1_valueAt, .instanceMethod yX1_valueAt, .selects RX1 yX1_valueAt yX1_valueAt, .code yX1_valueAt cX1_valueAt 2 (some .int)] ++ wsX10 ++ wsX00 ++ wsX20 ++ wsX60 ++ (vx_at0 RX6 29 "java/lang/IllegalArgumentException" ["java/lang/RuntimeException", "java/lang/Exception"]).filter goodWord)
def wsX6_drop : List Cond := .code yX6_drop cX6_drop 4 (some .int) :: ([.fieldLink RX6 12 "LinkPair" "ends" "[LLinkPair$End;", .methodLink RX6 92 yX6_frameOf, .instanceMethod yX6_frameOf, .selects RX6 yX6_frameOf yX6_frameOf, .initialized RX6, .code yX6_frameOf cX6_frameOf 4 (some (.object "LinkPair$Frame")), .classLink RX6 27 "java/lang/IllegalArgumentException", .initialized "java/lang/IllegalArgumentException", .methodLink RX6 23 yX6_endOf, .instanceMethod yX6_endOf, .selects RX6 yX6_endOf yX6_endOf, .code yX6_endOf cX6_endOf 2 (some (.object "LinkPair$End")), .methodLink RX6 84 yX2_lose, .instanceMethod yX2_lose, .selects RX2 yX2_lose yX2_lose, .initialized RX2, .code yX2_lose cX2_lose 4 none, .fieldLink RX2 11 "LinkPair$Line" "frames" "[LLinkPair$Frame;", .fieldLink RX2 18 "LinkPair$Line" "count" "I"] ++ wsX10 ++ wsX60 ++ wsX00 ++ wsX20 ++ (vx_at0 RX6 29 "java/lang/IllegalArgumentException" ["java/lang/RuntimeException", "java/lang/Exception"]).filter goodWord)
def wsX6_bits_r1 : List Cond := [Cond.classLink RX6 27 "java/lang/IllegalArgumentException", Cond.initialized "java/lang/IllegalArgumentException", Cond.classLink RX6 44 "java/lang/IllegalStateException", Cond.initialized "java/lang/IllegalStateException", Cond.methodLink RX6 23 yX6_endOf, Cond.instanceMethod yX6_endOf, Cond.selects RX6 yX6_endOf yX6_endOf, Cond.initialized RX6, Cond.code yX6_endOf cX6_endOf 2 (some (.object "LinkPair$End")), Cond.fieldLink RX6 12 "LinkPair" "ends" "[LLinkPair$End;", Cond.methodLink RX6 55 yX2_isFull, Cond.instanceMethod yX2_isFull, Cond.selects RX2 yX2_isFull yX2_isFull, Cond.initialized RX2, Cond.code yX2_isFull cX2_isFull 1 (some .boolean), Cond.fieldLink RX2 18 "LinkPair$Line" "count" "I", Cond.methodLink RX6 108 yX2_last, Cond.instanceMethod yX2_last, Cond.selects RX2 yX2_last yX2_last, Cond.code yX2_last cX2_last 1 (some (.object "LinkPair$Frame")), Cond.fieldLink RX2 11 "LinkPair$Line" "frames" "[LLinkPair$Frame;", Cond.methodLink RX6 65 yX2_open, Cond.instanceMethod yX2_open, Cond.selects RX2 yX2_open yX2_open]
def wsX6_bits_r2 : List Cond := [Cond.code yX2_open cX2_open 1 (some (.object "LinkPair$Frame")), Cond.methodLink RX2 22 yX2_last, Cond.methodLink RX6 111 yX1_add, Cond.instanceMethod yX1_add, Cond.selects RX1 yX1_add yX1_add, Cond.initialized RX1, Cond.code yX1_add cX1_add 2 none, Cond.fieldLink RX1 15 "LinkPair$Frame" "length" "I", Cond.methodLink RX1 19 yX1_valueAt, Cond.instanceMethod yX1_valueAt, Cond.selects RX1 yX1_valueAt yX1_valueAt, Cond.code yX1_valueAt cX1_valueAt 2 (some .int), Cond.fieldLink RX1 9 "LinkPair$Frame" "words" "[J", Cond.methodLink RX1 23 yX1_turn, Cond.instanceMethod yX1_turn, Cond.selects RX1 yX1_turn yX1_turn, Cond.code yX1_turn cX1_turn 2 none]
def wsX6_bits : List Cond := .code yX6_bits cX6_bits 10 (some .int) :: ((wsX6_bits_r1 ++ wsX6_bits_r2) ++ wsX00 ++ wsX20 ++ wsX10 ++ wsX60 ++ (vx_at0 RX6 29 "java/lang/IllegalArgumentException" ["java/lang/RuntimeException", "java/lang/Exception"]).filter goodWord ++ (vx_at0 RX6 46 "java/lang/IllegalStateException" ["java/lang/RuntimeException", "java/lang/Exception"]).filter goodWord)
def wsX6_bit : List Cond := .code yX6_bit cX6_bit 5 (some .int) :: ([.classLink RX6 27 "java/lang/IllegalArgumentException", .initialized "java/lang/IllegalArgumentException", .methodLink RX6 92 yX6_frameOf, .instanceMethod yX6_frameOf, .selects RX6 yX6_frameOf yX6_frameOf, .initialized RX6, .code yX6_frameOf cX6_frameOf 4 (some (.object "LinkPair$Frame")), .methodLink RX6 23 yX6_endOf, .instanceMethod yX6_endOf, .selects RX6 yX6_endOf yX6_endOf, .code yX6_endOf cX6_endOf 2 (some (.object "LinkPair$End")), .fieldLink RX6 12 "LinkPair" "ends" "[LLinkPair$End;", .methodLink RX6 104 yX1_valueAt, .instanceMethod yX1_valueAt, .selects RX1 yX1_valueAt yX1_valueAt, .initialized RX1, .code yX1_valueAt cX1_valueAt 2 (some .int), .fieldLink RX1 9 "LinkPair$Frame" "words" "[J"] ++ wsX10 ++ wsX00 ++ wsX20 ++ wsX60 ++ (vx_at0 RX6 29 "java/lang/IllegalArgumentException" ["java/lang/RuntimeException", "java/lang/Exception"]).filter goodWord)
def wsX6_taken : List Cond := .code yX6_taken cX6_taken 5 (some .int) :: ([.classLink RX6 27 "java/lang/IllegalArgumentException", .initialized "java/lang/IllegalArgumentException", .methodLink RX6 23 yX6_endOf, .instanceMethod yX6_endOf, .selects RX6 yX6_endOf yX6_endOf, .initialized RX6, .code yX6_endOf cX6_endOf 2 (some (.object "LinkPair$End")), .fieldLink RX6 12 "LinkPair" "ends" "[LLinkPair$End;", .methodLink RX6 118 yX4_has, .instanceMethod yX4_has, .selects RX4 yX4_has yX4_has, .initialized RX4, .code yX4_has cX4_has 2 (some .boolean), .fieldLink RX4 19 "LinkPair$Store" "total" "I", .methodLink RX6 124 yX4_byteOf, .instanceMethod yX4_byteOf, .selects RX4 yX4_byteOf yX4_byteOf, .code yX4_byteOf cX4_byteOf 4 (some .int), .fieldLink RX4 15 "LinkPair$Store" "lengths" "[I", .fieldLink RX4 9 "LinkPair$Store" "bytes" "[B"] ++ wsX00 ++ wsX60 ++ wsX40 ++ (vx_at0 RX6 29 "java/lang/IllegalArgumentException" ["java/lang/RuntimeException", "java/lang/Exception"]).filter goodWord)
def wsX6_check : List Cond := .code yX6_check cX6_check 6 (some .int) :: ([.classLink RX6 27 "java/lang/IllegalArgumentException", .initialized "java/lang/IllegalArgumentException", .constant RX6 128 (65535), .methodLink RX6 129 yX6_restBehind, .static yX6_restBehind, .initialized RX6, .code yX6_restBehind cX6_restBehind 5 (some .int), .constant RX6 138 (33800)] ++ (vx_at0 RX6 29 "java/lang/IllegalArgumentException" ["java/lang/RuntimeException", "java/lang/Exception"]).filter goodWord)
def wsX6_about : List Cond := .code yX6_about cX6_about 4 (some .int) :: ([.classLink RX6 27 "java/lang/IllegalArgumentException", .initialized "java/lang/IllegalArgumentException", .methodLink RX6 23 yX6_endOf, .instanceMethod yX6_endOf, .selects RX6 yX6_endOf yX6_endOf, .initialized RX6, .code yX6_endOf cX6_endOf 2 (some (.object "LinkPair$End")), .fieldLink RX6 12 "LinkPair" "ends" "[LLinkPair$End;", .methodLink RX6 132 yX0_fact, .instanceMethod yX0_fact, .selects RX0 yX0_fact yX0_fact, .initialized RX0, .code yX0_fact cX0_fact 2 (some .int), .fieldLink RX0 32 "LinkPair$End" "forwardIndicator" "I", .fieldLink RX0 36 "LinkPair$End" "backwardIndicator" "I", .fieldLink RX0 39 "LinkPair$End" "sentNumber" "I", .fieldLink RX0 42 "LinkPair$End" "takenNumber" "I", .fieldLink RX0 21 "LinkPair$End" "messages" "LLinkPair$Messages;", .fieldLink RX0 28 "LinkPair$End" "store" "LLinkPair$Store;", .fieldLink RX0 12 "LinkPair$End" "line" "LLinkPair$Line;", .fieldLink RX0 51 "LinkPair$End" "errors" "I", .fieldLink RX0 54 "LinkPair$End" "units" "I", .fieldLink RX0 57 "LinkPair$End" "failed" "Z"] ++ wsX60 ++ wsX00 ++ wsX30 ++ wsX40 ++ wsX20 ++ (vx_at0 RX6 29 "java/lang/IllegalArgumentException" ["java/lang/RuntimeException", "java/lang/Exception"]).filter goodWord)
def wsX6_restart_r1 : List Cond := [Cond.methodLink RX6 23 yX6_endOf, Cond.instanceMethod yX6_endOf, Cond.selects RX6 yX6_endOf yX6_endOf, Cond.initialized RX6, Cond.code yX6_endOf cX6_endOf 2 (some (.object "LinkPair$End")), Cond.classLink RX6 27 "java/lang/IllegalArgumentException", Cond.initialized "java/lang/IllegalArgumentException", Cond.fieldLink RX6 12 "LinkPair" "ends" "[LLinkPair$End;", Cond.methodLink RX6 135 yX0_beginAnew, Cond.instanceMethod yX0_beginAnew, Cond.selects RX0 yX0_beginAnew yX0_beginAnew, Cond.initialized RX0, Cond.code yX0_beginAnew cX0_beginAnew 1 none, Cond.fieldLink RX0 12 "LinkPair$End" "line" "LLinkPair$Line;", Cond.fieldLink RX0 21 "LinkPair$End" "messages" "LLinkPair$Messages;", Cond.fieldLink RX0 32 "LinkPair$End" "forwardIndicator" "I", Cond.fieldLink RX0 36 "LinkPair$End" "backwardIndicator" "I", Cond.fieldLink RX0 39 "LinkPair$End" "sentNumber" "I", Cond.fieldLink RX0 42 "LinkPair$End" "takenNumber" "I", Cond.fieldLink RX0 51 "LinkPair$End" "errors" "I", Cond.fieldLink RX0 54 "LinkPair$End" "units" "I", Cond.fieldLink RX0 57 "LinkPair$End" "failed" "Z", Cond.fieldLink RX0 61 "LinkPair$End" "abnormalLast" "Z", Cond.fieldLink RX0 64 "LinkPair$End" "abnormalLastButOne" "Z"]
def wsX6_restart_r2 : List Cond := [Cond.methodLink RX0 48 yX3_empty, Cond.instanceMethod yX3_empty, Cond.selects RX3 yX3_empty yX3_empty, Cond.initialized RX3, Cond.code yX3_empty cX3_empty 1 none, Cond.fieldLink RX3 22 "LinkPair$Messages" "untold" "I", Cond.fieldLink RX3 32 "LinkPair$Messages" "again" "I", Cond.fieldLink RX3 25 "LinkPair$Messages" "waiting" "I"]
def wsX6_restart : List Cond := .code yX6_restart cX6_restart 2 none :: ((wsX6_restart_r1 ++ wsX6_restart_r2) ++ wsX60 ++ wsX00 ++ wsX20 ++ wsX30 ++ (vx_at0 RX6 29 "java/lang/IllegalArgumentException" ["java/lang/RuntimeException", "java/lang/Exception"]).filter goodWord)
def wsX7_begin : List Cond := .code yX7_begin cX7_begin 2 none :: ([.fieldLink RX7 7 "LinkPairModel" "frames" "[I", .fieldLink RX7 20 "LinkPairModel" "fib" "[I", .fieldLink RX7 23 "LinkPairModel" "bib" "[I", .fieldLink RX7 26 "LinkPairModel" "sentLatest" "[I", .fieldLink RX7 29 "LinkPairModel" "takenLatest" "[I", .fieldLink RX7 32 "LinkPairModel" "toldLatest" "[I", .fieldLink RX7 35 "LinkPairModel" "waits" "[I", .fieldLink RX7 44 "LinkPairModel" "open" "[I", .fieldLink RX7 56 "LinkPairModel" "again" "[I", .fieldLink RX7 59 "LinkPairModel" "errors" "[I", .fieldLink RX7 62 "LinkPairModel" "units" "[I", .fieldLink RX7 65 "LinkPairModel" "abnormal" "[I", .fieldLink RX7 68 "LinkPairModel" "failed" "[Z"] ++ wsX70)
def wsX7_init_r1 : List Cond := [Cond.methodLink RX7 1 objectInit, Cond.instanceMethod objectInit, Cond.code objectInit ⟨#[0xb1]⟩ 1 none, Cond.arrayClass .int, Cond.fieldLink RX7 7 "LinkPairModel" "frames" "[I", Cond.fieldLink RX7 13 "LinkPairModel" "lengths" "[I", Cond.constant RX7 16 (240000), Cond.fieldLink RX7 17 "LinkPairModel" "bits" "[I", Cond.fieldLink RX7 20 "LinkPairModel" "fib" "[I", Cond.fieldLink RX7 23 "LinkPairModel" "bib" "[I", Cond.fieldLink RX7 26 "LinkPairModel" "sentLatest" "[I", Cond.fieldLink RX7 29 "LinkPairModel" "takenLatest" "[I", Cond.fieldLink RX7 32 "LinkPairModel" "toldLatest" "[I", Cond.fieldLink RX7 35 "LinkPairModel" "waits" "[I", Cond.fieldLink RX7 38 "LinkPairModel" "waitLength" "[I", Cond.fieldLink RX7 41 "LinkPairModel" "waitSeed" "[I", Cond.fieldLink RX7 44 "LinkPairModel" "open" "[I", Cond.fieldLink RX7 47 "LinkPairModel" "openNumber" "[I", Cond.fieldLink RX7 50 "LinkPairModel" "openLength" "[I", Cond.fieldLink RX7 53 "LinkPairModel" "openSeed" "[I", Cond.fieldLink RX7 56 "LinkPairModel" "again" "[I", Cond.fieldLink RX7 59 "LinkPairModel" "errors" "[I", Cond.fieldLink RX7 62 "LinkPairModel" "units" "[I", Cond.fieldLink RX7 65 "LinkPairModel" "abnormal" "[I"]
def wsX7_init_r2 : List Cond := [Cond.arrayClass .boolean, Cond.fieldLink RX7 68 "LinkPairModel" "failed" "[Z", Cond.fieldLink RX7 72 "LinkPairModel" "takenCount" "[I", Cond.fieldLink RX7 75 "LinkPairModel" "takenLength" "[I", Cond.fieldLink RX7 78 "LinkPairModel" "takenBytes" "[I", Cond.fieldLink RX7 81 "LinkPairModel" "unit" "[I", Cond.fieldLink RX7 84 "LinkPairModel" "plain" "[I", Cond.methodLink RX7 87 yX7_begin, Cond.instanceMethod yX7_begin, Cond.selects RX7 yX7_begin yX7_begin, Cond.initialized RX7, Cond.code yX7_begin cX7_begin 2 none]
def wsX7_init : List Cond := .code yX7_init cX7_init 1 none :: ((wsX7_init_r1 ++ wsX7_init_r2) ++ wsX70)
def wsX7_thrown : List Cond := .code yX7_thrown cX7_thrown 1 (some .int) :: ([.fieldLink RX7 91 "LinkPairModel" "code" "I"] ++ wsX70)
def wsX7_refuses : List Cond := .code yX7_refuses cX7_refuses 2 (some .boolean) :: ([.fieldLink RX7 91 "LinkPairModel" "code" "I"] ++ wsX70)
def wsX7_isEnd : List Cond := .code yX7_isEnd cX7_isEnd 1 (some .boolean) :: ([])
def wsX7_checked : List Cond := .code yX7_checked cX7_checked 4 (some .int) :: ([.constant RX7 95 (33800)])
def wsX7_unitCheck : List Cond := .code yX7_unitCheck cX7_unitCheck 4 (some .int) :: ([.constant RX7 96 (65535), .fieldLink RX7 81 "LinkPairModel" "unit" "[I", .methodLink RX7 97 yX7_checked, .static yX7_checked, .initialized RX7, .code yX7_checked cX7_checked 4 (some .int), .constant RX7 95 (33800)] ++ wsX70)
def wsX7_check : List Cond := .code yX7_check cX7_check 6 (some .int) :: ([.constant RX7 96 (65535), .constantLong RX7 105 (255), .methodLink RX7 101 yX7_refuses, .instanceMethod yX7_refuses, .selects RX7 yX7_refuses yX7_refuses, .initialized RX7, .code yX7_refuses cX7_refuses 2 (some .boolean), .fieldLink RX7 91 "LinkPairModel" "code" "I", .methodLink RX7 97 yX7_checked, .static yX7_checked, .code yX7_checked cX7_checked 4 (some .int), .constant RX7 95 (33800)] ++ wsX70)
def wsX7_put : List Cond := .code yX7_put cX7_put 5 (some .int) :: ([.fieldLink RX7 35 "LinkPairModel" "waits" "[I", .fieldLink RX7 68 "LinkPairModel" "failed" "[Z", .fieldLink RX7 38 "LinkPairModel" "waitLength" "[I", .fieldLink RX7 41 "LinkPairModel" "waitSeed" "[I", .methodLink RX7 107 yX7_isEnd, .static yX7_isEnd, .initialized RX7, .code yX7_isEnd cX7_isEnd 1 (some .boolean), .methodLink RX7 101 yX7_refuses, .instanceMethod yX7_refuses, .selects RX7 yX7_refuses yX7_refuses, .code yX7_refuses cX7_refuses 2 (some .boolean), .fieldLink RX7 91 "LinkPairModel" "code" "I"] ++ wsX70)
def wsX7_bit : List Cond := .code yX7_bit cX7_bit 4 none :: ([.fieldLink RX7 7 "LinkPairModel" "frames" "[I", .fieldLink RX7 17 "LinkPairModel" "bits" "[I", .fieldLink RX7 13 "LinkPairModel" "lengths" "[I"] ++ wsX70)
def wsX7_flag : List Cond := .code yX7_flag cX7_flag 3 none :: ([.methodLink RX7 110 yX7_bit, .instanceMethod yX7_bit, .selects RX7 yX7_bit yX7_bit, .initialized RX7, .code yX7_bit cX7_bit 4 none, .fieldLink RX7 7 "LinkPairModel" "frames" "[I", .fieldLink RX7 17 "LinkPairModel" "bits" "[I", .fieldLink RX7 13 "LinkPairModel" "lengths" "[I"] ++ wsX70)
def wsX7_frame_r1 : List Cond := [Cond.fieldLink RX7 81 "LinkPairModel" "unit" "[I", Cond.fieldLink RX7 29 "LinkPairModel" "takenLatest" "[I", Cond.fieldLink RX7 23 "LinkPairModel" "bib" "[I", Cond.fieldLink RX7 20 "LinkPairModel" "fib" "[I", Cond.fieldLink RX7 13 "LinkPairModel" "lengths" "[I", Cond.fieldLink RX7 7 "LinkPairModel" "frames" "[I", Cond.methodLink RX7 114 yX7_unitCheck, Cond.instanceMethod yX7_unitCheck, Cond.selects RX7 yX7_unitCheck yX7_unitCheck, Cond.initialized RX7, Cond.code yX7_unitCheck cX7_unitCheck 4 (some .int), Cond.constant RX7 96 (65535), Cond.methodLink RX7 97 yX7_checked, Cond.static yX7_checked, Cond.code yX7_checked cX7_checked 4 (some .int), Cond.constant RX7 95 (33800), Cond.methodLink RX7 118 yX7_flag, Cond.instanceMethod yX7_flag, Cond.selects RX7 yX7_flag yX7_flag, Cond.code yX7_flag cX7_flag 3 none, Cond.methodLink RX7 110 yX7_bit, Cond.instanceMethod yX7_bit, Cond.selects RX7 yX7_bit yX7_bit, Cond.code yX7_bit cX7_bit 4 none]
def wsX7_frame_r2 : List Cond := [Cond.fieldLink RX7 17 "LinkPairModel" "bits" "[I"]
end
section
def wsX7_frame : List Cond := .code yX7_frame cX7_frame 9 none :: ((wsX7_frame_r1 ++ wsX7_frame_r2) ++ wsX70)
def wsX7_send_r1 : List Cond := [Cond.fieldLink RX7 7 "LinkPairModel" "frames" "[I", Cond.fieldLink RX7 68 "LinkPairModel" "failed" "[Z", Cond.fieldLink RX7 56 "LinkPairModel" "again" "[I", Cond.fieldLink RX7 44 "LinkPairModel" "open" "[I", Cond.fieldLink RX7 47 "LinkPairModel" "openNumber" "[I", Cond.fieldLink RX7 50 "LinkPairModel" "openLength" "[I", Cond.fieldLink RX7 53 "LinkPairModel" "openSeed" "[I", Cond.fieldLink RX7 35 "LinkPairModel" "waits" "[I", Cond.fieldLink RX7 26 "LinkPairModel" "sentLatest" "[I", Cond.fieldLink RX7 38 "LinkPairModel" "waitLength" "[I", Cond.fieldLink RX7 41 "LinkPairModel" "waitSeed" "[I", Cond.methodLink RX7 107 yX7_isEnd, Cond.static yX7_isEnd, Cond.initialized RX7, Cond.code yX7_isEnd cX7_isEnd 1 (some .boolean), Cond.methodLink RX7 101 yX7_refuses, Cond.instanceMethod yX7_refuses, Cond.selects RX7 yX7_refuses yX7_refuses, Cond.code yX7_refuses cX7_refuses 2 (some .boolean), Cond.fieldLink RX7 91 "LinkPairModel" "code" "I", Cond.methodLink RX7 121 yX7_frame, Cond.instanceMethod yX7_frame, Cond.selects RX7 yX7_frame yX7_frame, Cond.code yX7_frame cX7_frame 9 none]
def wsX7_send_r2 : List Cond := [Cond.fieldLink RX7 81 "LinkPairModel" "unit" "[I", Cond.fieldLink RX7 29 "LinkPairModel" "takenLatest" "[I", Cond.fieldLink RX7 23 "LinkPairModel" "bib" "[I", Cond.fieldLink RX7 20 "LinkPairModel" "fib" "[I", Cond.fieldLink RX7 13 "LinkPairModel" "lengths" "[I", Cond.methodLink RX7 114 yX7_unitCheck, Cond.instanceMethod yX7_unitCheck, Cond.selects RX7 yX7_unitCheck yX7_unitCheck, Cond.code yX7_unitCheck cX7_unitCheck 4 (some .int), Cond.constant RX7 96 (65535), Cond.methodLink RX7 97 yX7_checked, Cond.static yX7_checked, Cond.code yX7_checked cX7_checked 4 (some .int), Cond.constant RX7 95 (33800), Cond.methodLink RX7 118 yX7_flag, Cond.instanceMethod yX7_flag, Cond.selects RX7 yX7_flag yX7_flag, Cond.code yX7_flag cX7_flag 3 none, Cond.methodLink RX7 110 yX7_bit, Cond.instanceMethod yX7_bit, Cond.selects RX7 yX7_bit yX7_bit, Cond.code yX7_bit cX7_bit 4 none, Cond.fieldLink RX7 17 "LinkPairModel" "bits" "[I"]
def wsX7_send : List Cond := .code yX7_send cX7_send 5 (some .int) :: ((wsX7_send_r1 ++ wsX7_send_r2) ++ wsX70)
def wsX7_isFlag : List Cond := .code yX7_isFlag cX7_isFlag 4 (some .int) :: ([.fieldLink RX7 17 "LinkPairModel" "bits" "[I"] ++ wsX70)
def wsX7_fault : List Cond := .code yX7_fault cX7_fault 9 (some .int) :: ([.fieldLink RX7 13 "LinkPairModel" "lengths" "[I", .fieldLink RX7 17 "LinkPairModel" "bits" "[I", .fieldLink RX7 84 "LinkPairModel" "plain" "[I", .fieldLink RX7 128 "LinkPairModel" "unitLength" "I", .fieldLink RX7 81 "LinkPairModel" "unit" "[I", .methodLink RX7 125 yX7_isFlag, .instanceMethod yX7_isFlag, .selects RX7 yX7_isFlag yX7_isFlag, .initialized RX7, .code yX7_isFlag cX7_isFlag 4 (some .int), .methodLink RX7 114 yX7_unitCheck, .instanceMethod yX7_unitCheck, .selects RX7 yX7_unitCheck yX7_unitCheck, .code yX7_unitCheck cX7_unitCheck 4 (some .int), .constant RX7 96 (65535), .methodLink RX7 97 yX7_checked, .static yX7_checked, .code yX7_checked cX7_checked 4 (some .int), .constant RX7 95 (33800)] ++ wsX70)
def wsX7_goes : List Cond := .code yX7_goes cX7_goes 5 none :: ([.fieldLink RX7 7 "LinkPairModel" "frames" "[I", .fieldLink RX7 13 "LinkPairModel" "lengths" "[I", .fieldLink RX7 17 "LinkPairModel" "bits" "[I"] ++ wsX70)
def wsX7_forwards : List Cond := .code yX7_forwards cX7_forwards 6 (some .int) :: ([.fieldLink RX7 81 "LinkPairModel" "unit" "[I", .fieldLink RX7 128 "LinkPairModel" "unitLength" "I", .fieldLink RX7 23 "LinkPairModel" "bib" "[I", .fieldLink RX7 29 "LinkPairModel" "takenLatest" "[I", .fieldLink RX7 72 "LinkPairModel" "takenCount" "[I", .fieldLink RX7 75 "LinkPairModel" "takenLength" "[I", .fieldLink RX7 78 "LinkPairModel" "takenBytes" "[I"] ++ wsX70)
def wsX7_take_r1 : List Cond := [Cond.fieldLink RX7 7 "LinkPairModel" "frames" "[I", Cond.fieldLink RX7 68 "LinkPairModel" "failed" "[Z", Cond.fieldLink RX7 62 "LinkPairModel" "units" "[I", Cond.fieldLink RX7 59 "LinkPairModel" "errors" "[I", Cond.fieldLink RX7 81 "LinkPairModel" "unit" "[I", Cond.fieldLink RX7 32 "LinkPairModel" "toldLatest" "[I", Cond.fieldLink RX7 44 "LinkPairModel" "open" "[I", Cond.fieldLink RX7 47 "LinkPairModel" "openNumber" "[I", Cond.fieldLink RX7 65 "LinkPairModel" "abnormal" "[I", Cond.fieldLink RX7 50 "LinkPairModel" "openLength" "[I", Cond.fieldLink RX7 53 "LinkPairModel" "openSeed" "[I", Cond.fieldLink RX7 56 "LinkPairModel" "again" "[I", Cond.fieldLink RX7 20 "LinkPairModel" "fib" "[I", Cond.methodLink RX7 107 yX7_isEnd, Cond.static yX7_isEnd, Cond.initialized RX7, Cond.code yX7_isEnd cX7_isEnd 1 (some .boolean), Cond.methodLink RX7 101 yX7_refuses, Cond.instanceMethod yX7_refuses, Cond.selects RX7 yX7_refuses yX7_refuses, Cond.code yX7_refuses cX7_refuses 2 (some .boolean), Cond.fieldLink RX7 91 "LinkPairModel" "code" "I", Cond.methodLink RX7 131 yX7_fault, Cond.instanceMethod yX7_fault]
def wsX7_take_r2 : List Cond := [Cond.selects RX7 yX7_fault yX7_fault, Cond.code yX7_fault cX7_fault 9 (some .int), Cond.fieldLink RX7 13 "LinkPairModel" "lengths" "[I", Cond.fieldLink RX7 17 "LinkPairModel" "bits" "[I", Cond.fieldLink RX7 84 "LinkPairModel" "plain" "[I", Cond.fieldLink RX7 128 "LinkPairModel" "unitLength" "I", Cond.methodLink RX7 125 yX7_isFlag, Cond.instanceMethod yX7_isFlag, Cond.selects RX7 yX7_isFlag yX7_isFlag, Cond.code yX7_isFlag cX7_isFlag 4 (some .int), Cond.methodLink RX7 114 yX7_unitCheck, Cond.instanceMethod yX7_unitCheck, Cond.selects RX7 yX7_unitCheck yX7_unitCheck, Cond.code yX7_unitCheck cX7_unitCheck 4 (some .int), Cond.constant RX7 96 (65535), Cond.methodLink RX7 97 yX7_checked, Cond.static yX7_checked, Cond.code yX7_checked cX7_checked 4 (some .int), Cond.constant RX7 95 (33800), Cond.methodLink RX7 134 yX7_goes, Cond.instanceMethod yX7_goes, Cond.selects RX7 yX7_goes yX7_goes, Cond.code yX7_goes cX7_goes 5 none, Cond.methodLink RX7 137 yX7_forwards]
def wsX7_take_r3 : List Cond := [Cond.instanceMethod yX7_forwards, Cond.selects RX7 yX7_forwards yX7_forwards, Cond.code yX7_forwards cX7_forwards 6 (some .int), Cond.fieldLink RX7 23 "LinkPairModel" "bib" "[I", Cond.fieldLink RX7 29 "LinkPairModel" "takenLatest" "[I", Cond.fieldLink RX7 72 "LinkPairModel" "takenCount" "[I", Cond.fieldLink RX7 75 "LinkPairModel" "takenLength" "[I", Cond.fieldLink RX7 78 "LinkPairModel" "takenBytes" "[I"]
def wsX7_take : List Cond := .code yX7_take cX7_take 6 (some .int) :: ((wsX7_take_r1 ++ (wsX7_take_r2 ++ wsX7_take_r3)) ++ wsX70)
def wsX7_isFrame : List Cond := .code yX7_isFrame cX7_isFrame 3 (some .boolean) :: ([.fieldLink RX7 7 "LinkPairModel" "frames" "[I", .methodLink RX7 107 yX7_isEnd, .static yX7_isEnd, .initialized RX7, .code yX7_isEnd cX7_isEnd 1 (some .boolean)] ++ wsX70)
def wsX7_flip : List Cond := .code yX7_flip cX7_flip 5 (some .int) :: ([.fieldLink RX7 13 "LinkPairModel" "lengths" "[I", .fieldLink RX7 17 "LinkPairModel" "bits" "[I", .methodLink RX7 140 yX7_isFrame, .instanceMethod yX7_isFrame, .selects RX7 yX7_isFrame yX7_isFrame, .initialized RX7, .code yX7_isFrame cX7_isFrame 3 (some .boolean), .fieldLink RX7 7 "LinkPairModel" "frames" "[I", .methodLink RX7 107 yX7_isEnd, .static yX7_isEnd, .code yX7_isEnd cX7_isEnd 1 (some .boolean), .methodLink RX7 101 yX7_refuses, .instanceMethod yX7_refuses, .selects RX7 yX7_refuses yX7_refuses, .code yX7_refuses cX7_refuses 2 (some .boolean), .fieldLink RX7 91 "LinkPairModel" "code" "I"] ++ wsX70)
def wsX7_drop : List Cond := .code yX7_drop cX7_drop 4 (some .int) :: ([.fieldLink RX7 13 "LinkPairModel" "lengths" "[I", .methodLink RX7 140 yX7_isFrame, .instanceMethod yX7_isFrame, .selects RX7 yX7_isFrame yX7_isFrame, .initialized RX7, .code yX7_isFrame cX7_isFrame 3 (some .boolean), .fieldLink RX7 7 "LinkPairModel" "frames" "[I", .methodLink RX7 107 yX7_isEnd, .static yX7_isEnd, .code yX7_isEnd cX7_isEnd 1 (some .boolean), .methodLink RX7 101 yX7_refuses, .instanceMethod yX7_refuses, .selects RX7 yX7_refuses yX7_refuses, .code yX7_refuses cX7_refuses 2 (some .boolean), .fieldLink RX7 91 "LinkPairModel" "code" "I", .methodLink RX7 134 yX7_goes, .instanceMethod yX7_goes, .selects RX7 yX7_goes yX7_goes, .code yX7_goes cX7_goes 5 none, .fieldLink RX7 17 "LinkPairModel" "bits" "[I"] ++ wsX70)
def wsX7_bits : List Cond := .code yX7_bits cX7_bits 9 (some .int) :: ([.fieldLink RX7 7 "LinkPairModel" "frames" "[I", .fieldLink RX7 13 "LinkPairModel" "lengths" "[I", .methodLink RX7 107 yX7_isEnd, .static yX7_isEnd, .initialized RX7, .code yX7_isEnd cX7_isEnd 1 (some .boolean), .methodLink RX7 101 yX7_refuses, .instanceMethod yX7_refuses, .selects RX7 yX7_refuses yX7_refuses, .code yX7_refuses cX7_refuses 2 (some .boolean), .fieldLink RX7 91 "LinkPairModel" "code" "I", .methodLink RX7 110 yX7_bit, .instanceMethod yX7_bit, .selects RX7 yX7_bit yX7_bit, .code yX7_bit cX7_bit 4 none, .fieldLink RX7 17 "LinkPairModel" "bits" "[I"] ++ wsX70)
def wsX7_bit_ : List Cond := .code yX7_bit_ cX7_bit_ 5 (some .int) :: ([.fieldLink RX7 13 "LinkPairModel" "lengths" "[I", .fieldLink RX7 17 "LinkPairModel" "bits" "[I", .methodLink RX7 140 yX7_isFrame, .instanceMethod yX7_isFrame, .selects RX7 yX7_isFrame yX7_isFrame, .initialized RX7, .code yX7_isFrame cX7_isFrame 3 (some .boolean), .fieldLink RX7 7 "LinkPairModel" "frames" "[I", .methodLink RX7 107 yX7_isEnd, .static yX7_isEnd, .code yX7_isEnd cX7_isEnd 1 (some .boolean), .methodLink RX7 101 yX7_refuses, .instanceMethod yX7_refuses, .selects RX7 yX7_refuses yX7_refuses, .code yX7_refuses cX7_refuses 2 (some .boolean), .fieldLink RX7 91 "LinkPairModel" "code" "I"] ++ wsX70)
def wsX7_taken : List Cond := .code yX7_taken cX7_taken 5 (some .int) :: ([.fieldLink RX7 72 "LinkPairModel" "takenCount" "[I", .fieldLink RX7 75 "LinkPairModel" "takenLength" "[I", .fieldLink RX7 78 "LinkPairModel" "takenBytes" "[I", .methodLink RX7 107 yX7_isEnd, .static yX7_isEnd, .initialized RX7, .code yX7_isEnd cX7_isEnd 1 (some .boolean), .methodLink RX7 101 yX7_refuses, .instanceMethod yX7_refuses, .selects RX7 yX7_refuses yX7_refuses, .code yX7_refuses cX7_refuses 2 (some .boolean), .fieldLink RX7 91 "LinkPairModel" "code" "I"] ++ wsX70)
def wsX7_about : List Cond := .code yX7_about cX7_about 3 (some .int) :: ([.fieldLink RX7 20 "LinkPairModel" "fib" "[I", .fieldLink RX7 23 "LinkPairModel" "bib" "[I", .fieldLink RX7 26 "LinkPairModel" "sentLatest" "[I", .fieldLink RX7 29 "LinkPairModel" "takenLatest" "[I", .fieldLink RX7 35 "LinkPairModel" "waits" "[I", .fieldLink RX7 44 "LinkPairModel" "open" "[I", .fieldLink RX7 56 "LinkPairModel" "again" "[I", .fieldLink RX7 72 "LinkPairModel" "takenCount" "[I", .fieldLink RX7 7 "LinkPairModel" "frames" "[I", .fieldLink RX7 59 "LinkPairModel" "errors" "[I", .fieldLink RX7 62 "LinkPairModel" "units" "[I", .fieldLink RX7 68 "LinkPairModel" "failed" "[Z", .methodLink RX7 107 yX7_isEnd, .static yX7_isEnd, .initialized RX7, .code yX7_isEnd cX7_isEnd 1 (some .boolean), .methodLink RX7 101 yX7_refuses, .instanceMethod yX7_refuses, .selects RX7 yX7_refuses yX7_refuses, .code yX7_refuses cX7_refuses 2 (some .boolean), .fieldLink RX7 91 "LinkPairModel" "code" "I"] ++ wsX70)
def wsX7_restart_r1 : List Cond := [Cond.methodLink RX7 107 yX7_isEnd, Cond.static yX7_isEnd, Cond.initialized RX7, Cond.code yX7_isEnd cX7_isEnd 1 (some .boolean), Cond.methodLink RX7 101 yX7_refuses, Cond.instanceMethod yX7_refuses, Cond.selects RX7 yX7_refuses yX7_refuses, Cond.code yX7_refuses cX7_refuses 2 (some .boolean), Cond.fieldLink RX7 91 "LinkPairModel" "code" "I", Cond.methodLink RX7 87 yX7_begin, Cond.instanceMethod yX7_begin, Cond.selects RX7 yX7_begin yX7_begin, Cond.code yX7_begin cX7_begin 2 none, Cond.fieldLink RX7 7 "LinkPairModel" "frames" "[I", Cond.fieldLink RX7 20 "LinkPairModel" "fib" "[I", Cond.fieldLink RX7 23 "LinkPairModel" "bib" "[I", Cond.fieldLink RX7 26 "LinkPairModel" "sentLatest" "[I", Cond.fieldLink RX7 29 "LinkPairModel" "takenLatest" "[I", Cond.fieldLink RX7 32 "LinkPairModel" "toldLatest" "[I", Cond.fieldLink RX7 35 "LinkPairModel" "waits" "[I", Cond.fieldLink RX7 44 "LinkPairModel" "open" "[I", Cond.fieldLink RX7 56 "LinkPairModel" "again" "[I", Cond.fieldLink RX7 59 "LinkPairModel" "errors" "[I", Cond.fieldLink RX7 62 "LinkPairModel" "units" "[I"]
def wsX7_restart_r2 : List Cond := [Cond.fieldLink RX7 65 "LinkPairModel" "abnormal" "[I", Cond.fieldLink RX7 68 "LinkPairModel" "failed" "[Z"]
def wsX7_restart : List Cond := .code yX7_restart cX7_restart 2 none :: ((wsX7_restart_r1 ++ wsX7_restart_r2) ++ wsX70)
def wsJ9_min_7cf53 : List Cond := .code yJ9_min_7cf53 cJ9_min_7cf53 2 (some .int) :: ([])
def wsL_put_r1 : List Cond := [Cond.classLink RL 13 "java/lang/IllegalArgumentException", Cond.classLink RL 15 "java/lang/IllegalStateException", Cond.methodLink RL 7 yX6_put, Cond.instanceMethod yX6_put, Cond.selects RX6 yX6_put yX6_put, Cond.initialized RX6, Cond.code yX6_put cX6_put 5 (some .int), Cond.classLink RX6 27 "java/lang/IllegalArgumentException", Cond.initialized "java/lang/IllegalArgumentException", Cond.classLink RX6 44 "java/lang/IllegalStateException", Cond.initialized "java/lang/IllegalStateException", Cond.methodLink RX6 23 yX6_endOf, Cond.instanceMethod yX6_endOf, Cond.selects RX6 yX6_endOf yX6_endOf, Cond.code yX6_endOf cX6_endOf 2 (some (.object "LinkPair$End")), Cond.fieldLink RX6 12 "LinkPair" "ends" "[LLinkPair$End;", Cond.methodLink RX6 47 yX3_join, Cond.instanceMethod yX3_join, Cond.selects RX3 yX3_join yX3_join, Cond.initialized RX3, Cond.code yX3_join cX3_join 4 none, Cond.fieldLink RX3 22 "LinkPair$Messages" "untold" "I", Cond.fieldLink RX3 25 "LinkPair$Messages" "waiting" "I", Cond.fieldLink RX3 9 "LinkPair$Messages" "lengths" "[I"]
def wsL_put_r2 : List Cond := [Cond.fieldLink RX3 15 "LinkPair$Messages" "seeds" "[I", Cond.methodLink RX3 28 yX3_placeOf, Cond.instanceMethod yX3_placeOf, Cond.selects RX3 yX3_placeOf yX3_placeOf, Cond.code yX3_placeOf cX3_placeOf 2 (some .int), Cond.fieldLink RX3 18 "LinkPair$Messages" "first" "I"]
def wsL_put : List Cond := .codeWith yL_put cL_put 6 (some .int) [(0, 12, 15, 13), (0, 12, 19, 15)] :: ((wsL_put_r1 ++ wsL_put_r2) ++ wsX00 ++ wsX30 ++ wsX60 ++ (vx_at0 RX6 29 "java/lang/IllegalArgumentException" ["java/lang/RuntimeException", "java/lang/Exception"]).filter goodWord ++ (vx_at0 RX6 46 "java/lang/IllegalStateException" ["java/lang/RuntimeException", "java/lang/Exception"]).filter goodWord)
def wsL_send_r1 : List Cond := [Cond.classLink RL 13 "java/lang/IllegalArgumentException", Cond.classLink RL 15 "java/lang/IllegalStateException", Cond.methodLink RL 17 yX6_send, Cond.instanceMethod yX6_send, Cond.selects RX6 yX6_send yX6_send, Cond.initialized RX6, Cond.code yX6_send cX6_send 4 (some .int), Cond.classLink RX6 44 "java/lang/IllegalStateException", Cond.initialized "java/lang/IllegalStateException", Cond.fieldLink RX6 19 "LinkPair" "unit" "LLinkPair$Unit;", Cond.methodLink RX6 23 yX6_endOf, Cond.instanceMethod yX6_endOf, Cond.selects RX6 yX6_endOf yX6_endOf, Cond.code yX6_endOf cX6_endOf 2 (some (.object "LinkPair$End")), Cond.classLink RX6 27 "java/lang/IllegalArgumentException", Cond.initialized "java/lang/IllegalArgumentException", Cond.fieldLink RX6 12 "LinkPair" "ends" "[LLinkPair$End;", Cond.methodLink RX6 55 yX2_isFull, Cond.instanceMethod yX2_isFull, Cond.selects RX2 yX2_isFull yX2_isFull, Cond.initialized RX2, Cond.code yX2_isFull cX2_isFull 1 (some .boolean), Cond.fieldLink RX2 18 "LinkPair$Line" "count" "I", Cond.methodLink RX6 61 yX0_nextUnit]
def wsL_send_r2 : List Cond := [Cond.instanceMethod yX0_nextUnit, Cond.selects RX0 yX0_nextUnit yX0_nextUnit, Cond.initialized RX0, Cond.code yX0_nextUnit cX0_nextUnit 3 (some .int), Cond.fieldLink RX0 21 "LinkPair$End" "messages" "LLinkPair$Messages;", Cond.fieldLink RX0 39 "LinkPair$End" "sentNumber" "I", Cond.methodLink RX0 70 yX0_writeMessage, Cond.instanceMethod yX0_writeMessage, Cond.selects RX0 yX0_writeMessage yX0_writeMessage, Cond.code yX0_writeMessage cX0_writeMessage 5 none, Cond.methodLink RX0 92 yX3_placeOf, Cond.instanceMethod yX3_placeOf, Cond.selects RX3 yX3_placeOf yX3_placeOf, Cond.initialized RX3, Cond.code yX3_placeOf cX3_placeOf 2 (some .int), Cond.fieldLink RX3 18 "LinkPair$Messages" "first" "I", Cond.fieldLink RX3 9 "LinkPair$Messages" "lengths" "[I", Cond.methodLink RX0 85 yX0_writeUnit, Cond.instanceMethod yX0_writeUnit, Cond.selects RX0 yX0_writeUnit yX0_writeUnit, Cond.code yX0_writeUnit cX0_writeUnit 6 none, Cond.fieldLink RX0 42 "LinkPair$End" "takenNumber" "I", Cond.fieldLink RX0 36 "LinkPair$End" "backwardIndicator" "I", Cond.fieldLink RX0 32 "LinkPair$End" "forwardIndicator" "I"]
def wsL_send_r3 : List Cond := [Cond.methodLink RX0 102 yX5_writeHead, Cond.instanceMethod yX5_writeHead, Cond.selects RX5 yX5_writeHead yX5_writeHead, Cond.initialized RX5, Cond.code yX5_writeHead cX5_writeHead 4 none, Cond.fieldLink RX5 9 "LinkPair$Unit" "bytes" "[I", Cond.methodLink RX5 19 Lib.Math.min.name, Cond.static Lib.Math.min.name, Cond.initialized "java/lang/Math", Cond.code Lib.Math.min.name Lib.Math.min.code 2 (some .int), Cond.fieldLink RX5 15 "LinkPair$Unit" "count" "I", Cond.methodLink RX0 108 yX5_writeBody, Cond.instanceMethod yX5_writeBody, Cond.selects RX5 yX5_writeBody yX5_writeBody, Cond.code yX5_writeBody cX5_writeBody 3 none, Cond.methodLink RX5 25 yX5_bodyLength, Cond.instanceMethod yX5_bodyLength, Cond.selects RX5 yX5_bodyLength yX5_bodyLength, Cond.code yX5_bodyLength cX5_bodyLength 1 (some .int), Cond.methodLink RX0 112 yX5_writeCheck, Cond.instanceMethod yX5_writeCheck, Cond.selects RX5 yX5_writeCheck yX5_writeCheck, Cond.code yX5_writeCheck cX5_writeCheck 2 none, Cond.methodLink RX5 29 yX5_checkDue]
def wsL_send_r4 : List Cond := [Cond.instanceMethod yX5_checkDue, Cond.selects RX5 yX5_checkDue yX5_checkDue, Cond.code yX5_checkDue cX5_checkDue 3 (some .int), Cond.constant RX5 32 (65535), Cond.static yX6_restBehind, Cond.code yX6_restBehind cX6_restBehind 5 (some .int), Cond.constant RX6 138 (33800), Cond.methodLink RX0 74 yX3_mayGoFirstTime, Cond.instanceMethod yX3_mayGoFirstTime, Cond.selects RX3 yX3_mayGoFirstTime yX3_mayGoFirstTime, Cond.code yX3_mayGoFirstTime cX3_mayGoFirstTime 1 (some .boolean), Cond.fieldLink RX3 25 "LinkPair$Messages" "waiting" "I", Cond.fieldLink RX3 22 "LinkPair$Messages" "untold" "I", Cond.methodLink RX0 78 yX3_goFirstTime, Cond.instanceMethod yX3_goFirstTime, Cond.selects RX3 yX3_goFirstTime yX3_goFirstTime, Cond.code yX3_goFirstTime cX3_goFirstTime 1 none, Cond.static yX6_nextNumber, Cond.code yX6_nextNumber cX6_nextNumber 1 (some .int), Cond.methodLink RX6 65 yX2_open, Cond.instanceMethod yX2_open, Cond.selects RX2 yX2_open yX2_open, Cond.code yX2_open cX2_open 1 (some (.object "LinkPair$Frame")), Cond.methodLink RX2 22 yX2_last]
def wsL_send_r5 : List Cond := [Cond.instanceMethod yX2_last, Cond.selects RX2 yX2_last yX2_last, Cond.code yX2_last cX2_last 1 (some (.object "LinkPair$Frame")), Cond.fieldLink RX2 11 "LinkPair$Line" "frames" "[LLinkPair$Frame;", Cond.methodLink RX6 69 yX5_writeTo, Cond.instanceMethod yX5_writeTo, Cond.selects RX5 yX5_writeTo yX5_writeTo, Cond.code yX5_writeTo cX5_writeTo 5 none, Cond.methodLink RX5 36 yX1_addFlag, Cond.instanceMethod yX1_addFlag, Cond.selects RX1 yX1_addFlag yX1_addFlag, Cond.initialized RX1, Cond.code yX1_addFlag cX1_addFlag 2 none, Cond.methodLink RX1 27 yX1_add, Cond.instanceMethod yX1_add, Cond.selects RX1 yX1_add yX1_add, Cond.code yX1_add cX1_add 2 none, Cond.fieldLink RX1 15 "LinkPair$Frame" "length" "I", Cond.methodLink RX1 19 yX1_valueAt, Cond.instanceMethod yX1_valueAt, Cond.selects RX1 yX1_valueAt yX1_valueAt, Cond.code yX1_valueAt cX1_valueAt 2 (some .int), Cond.fieldLink RX1 9 "LinkPair$Frame" "words" "[J", Cond.methodLink RX1 23 yX1_turn]
def wsL_send_r6 : List Cond := [Cond.instanceMethod yX1_turn, Cond.selects RX1 yX1_turn yX1_turn, Cond.code yX1_turn cX1_turn 2 none, Cond.methodLink RX5 41 yX1_add]
def wsL_send : List Cond := .codeWith yL_send cL_send 4 (some .int) [(0, 9, 12, 13), (0, 9, 15, 15)] :: ((wsL_send_r1 ++ (wsL_send_r2 ++ (wsL_send_r3 ++ (wsL_send_r4 ++ (wsL_send_r5 ++ wsL_send_r6))))) ++ wsX00 ++ wsX60 ++ wsX20 ++ wsX30 ++ wsX50 ++ wsX10 ++ (vx_at0 RX6 46 "java/lang/IllegalStateException" ["java/lang/RuntimeException", "java/lang/Exception"]).filter goodWord ++ (vx_at0 RX6 29 "java/lang/IllegalArgumentException" ["java/lang/RuntimeException", "java/lang/Exception"]).filter goodWord)
def wsL_take_r1 : List Cond := [Cond.classLink RL 13 "java/lang/IllegalArgumentException", Cond.classLink RL 15 "java/lang/IllegalStateException", Cond.methodLink RL 21 yX6_take, Cond.instanceMethod yX6_take, Cond.selects RX6 yX6_take yX6_take, Cond.initialized RX6, Cond.code yX6_take cX6_take 6 (some .int), Cond.classLink RX6 44 "java/lang/IllegalStateException", Cond.initialized "java/lang/IllegalStateException", Cond.fieldLink RX6 12 "LinkPair" "ends" "[LLinkPair$End;", Cond.fieldLink RX6 19 "LinkPair" "unit" "LLinkPair$Unit;", Cond.methodLink RX6 23 yX6_endOf, Cond.instanceMethod yX6_endOf, Cond.selects RX6 yX6_endOf yX6_endOf, Cond.code yX6_endOf cX6_endOf 2 (some (.object "LinkPair$End")), Cond.classLink RX6 27 "java/lang/IllegalArgumentException", Cond.initialized "java/lang/IllegalArgumentException", Cond.methodLink RX6 80 yX5_readFrom, Cond.instanceMethod yX5_readFrom, Cond.selects RX5 yX5_readFrom yX5_readFrom, Cond.initialized RX5, Cond.code yX5_readFrom cX5_readFrom 3 (some .int), Cond.fieldLink RX5 15 "LinkPair$Unit" "count" "I", Cond.fieldLink RX5 9 "LinkPair$Unit" "bytes" "[I"]
def wsL_take_r2 : List Cond := [Cond.methodLink RX5 19 Lib.Math.min.name, Cond.static Lib.Math.min.name, Cond.initialized "java/lang/Math", Cond.code Lib.Math.min.name Lib.Math.min.code 2 (some .int), Cond.methodLink RX5 45 yX1_isBetweenFlags, Cond.instanceMethod yX1_isBetweenFlags, Cond.selects RX1 yX1_isBetweenFlags yX1_isBetweenFlags, Cond.initialized RX1, Cond.code yX1_isBetweenFlags cX1_isBetweenFlags 1 (some .boolean), Cond.fieldLink RX1 15 "LinkPair$Frame" "length" "I", Cond.methodLink RX1 30 yX1_hasFlagAt, Cond.instanceMethod yX1_hasFlagAt, Cond.selects RX1 yX1_hasFlagAt yX1_hasFlagAt, Cond.code yX1_hasFlagAt cX1_hasFlagAt 4 (some .boolean), Cond.methodLink RX1 19 yX1_valueAt, Cond.instanceMethod yX1_valueAt, Cond.selects RX1 yX1_valueAt yX1_valueAt, Cond.code yX1_valueAt cX1_valueAt 2 (some .int), Cond.fieldLink RX1 9 "LinkPair$Frame" "words" "[J", Cond.methodLink RX5 49 yX1_hasSixOnesBetweenFlags, Cond.instanceMethod yX1_hasSixOnesBetweenFlags, Cond.selects RX1 yX1_hasSixOnesBetweenFlags yX1_hasSixOnesBetweenFlags, Cond.code yX1_hasSixOnesBetweenFlags cX1_hasSixOnesBetweenFlags 3 (some .boolean), Cond.methodLink RX5 52 yX5_readBits]
def wsL_take_r3 : List Cond := [Cond.instanceMethod yX5_readBits, Cond.selects RX5 yX5_readBits yX5_readBits, Cond.code yX5_readBits cX5_readBits 6 (some .int), Cond.methodLink RX5 59 yX1_valueAt, Cond.methodLink RX5 63 yX5_writeBit, Cond.instanceMethod yX5_writeBit, Cond.selects RX5 yX5_writeBit yX5_writeBit, Cond.code yX5_writeBit cX5_writeBit 4 none, Cond.methodLink RX5 29 yX5_checkDue, Cond.instanceMethod yX5_checkDue, Cond.selects RX5 yX5_checkDue yX5_checkDue, Cond.code yX5_checkDue cX5_checkDue 3 (some .int), Cond.constant RX5 32 (65535), Cond.static yX6_restBehind, Cond.code yX6_restBehind cX6_restBehind 5 (some .int), Cond.constant RX6 138 (33800), Cond.methodLink RX5 25 yX5_bodyLength, Cond.instanceMethod yX5_bodyLength, Cond.selects RX5 yX5_bodyLength yX5_bodyLength, Cond.code yX5_bodyLength cX5_bodyLength 1 (some .int), Cond.methodLink RX6 84 yX2_lose, Cond.instanceMethod yX2_lose, Cond.selects RX2 yX2_lose yX2_lose, Cond.initialized RX2]
def wsL_take_r4 : List Cond := [Cond.code yX2_lose cX2_lose 4 none, Cond.fieldLink RX2 11 "LinkPair$Line" "frames" "[LLinkPair$Frame;", Cond.fieldLink RX2 18 "LinkPair$Line" "count" "I", Cond.methodLink RX6 88 yX0_takeUnit, Cond.instanceMethod yX0_takeUnit, Cond.selects RX0 yX0_takeUnit yX0_takeUnit, Cond.initialized RX0, Cond.code yX0_takeUnit cX0_takeUnit 4 (some .int), Cond.fieldLink RX0 54 "LinkPair$End" "units" "I", Cond.fieldLink RX0 51 "LinkPair$End" "errors" "I", Cond.fieldLink RX0 57 "LinkPair$End" "failed" "Z", Cond.fieldLink RX0 61 "LinkPair$End" "abnormalLast" "Z", Cond.fieldLink RX0 64 "LinkPair$End" "abnormalLastButOne" "Z", Cond.methodLink RX0 115 yX0_isAbnormal, Cond.instanceMethod yX0_isAbnormal, Cond.selects RX0 yX0_isAbnormal yX0_isAbnormal, Cond.code yX0_isAbnormal cX0_isAbnormal 2 (some .boolean), Cond.fieldLink RX0 21 "LinkPair$End" "messages" "LLinkPair$Messages;", Cond.methodLink RX0 131 yX0_toldBy, Cond.instanceMethod yX0_toldBy, Cond.selects RX0 yX0_toldBy yX0_toldBy, Cond.code yX0_toldBy cX0_toldBy 3 (some .int), Cond.fieldLink RX0 39 "LinkPair$End" "sentNumber" "I", Cond.methodLink RX0 127 yX5_backwardNumber]
def wsL_take_r5 : List Cond := [Cond.instanceMethod yX5_backwardNumber, Cond.selects RX5 yX5_backwardNumber yX5_backwardNumber, Cond.code yX5_backwardNumber cX5_backwardNumber 1 (some .int), Cond.methodLink RX0 119 yX0_takeBackward, Cond.instanceMethod yX0_takeBackward, Cond.selects RX0 yX0_takeBackward yX0_takeBackward, Cond.code yX0_takeBackward cX0_takeBackward 2 none, Cond.fieldLink RX0 32 "LinkPair$End" "forwardIndicator" "I", Cond.methodLink RX0 134 yX3_forget, Cond.instanceMethod yX3_forget, Cond.selects RX3 yX3_forget yX3_forget, Cond.initialized RX3, Cond.code yX3_forget cX3_forget 2 none, Cond.fieldLink RX3 18 "LinkPair$Messages" "first" "I", Cond.fieldLink RX3 22 "LinkPair$Messages" "untold" "I", Cond.fieldLink RX3 32 "LinkPair$Messages" "again" "I", Cond.methodLink RX3 35 Lib.Math.min.name, Cond.methodLink RX3 28 yX3_placeOf, Cond.instanceMethod yX3_placeOf, Cond.selects RX3 yX3_placeOf yX3_placeOf, Cond.code yX3_placeOf cX3_placeOf 2 (some .int), Cond.fieldLink RX3 9 "LinkPair$Messages" "lengths" "[I", Cond.methodLink RX0 137 yX5_backwardIndicator, Cond.instanceMethod yX5_backwardIndicator]
def wsL_take_r6 : List Cond := [Cond.selects RX5 yX5_backwardIndicator yX5_backwardIndicator, Cond.code yX5_backwardIndicator cX5_backwardIndicator 1 (some .int), Cond.methodLink RX0 123 yX0_takeForward, Cond.instanceMethod yX0_takeForward, Cond.selects RX0 yX0_takeForward yX0_takeForward, Cond.code yX0_takeForward cX0_takeForward 3 (some .int), Cond.fieldLink RX0 36 "LinkPair$End" "backwardIndicator" "I", Cond.fieldLink RX0 42 "LinkPair$End" "takenNumber" "I", Cond.fieldLink RX0 28 "LinkPair$End" "store" "LLinkPair$Store;", Cond.methodLink RX0 139 yX5_forwardIndicator, Cond.instanceMethod yX5_forwardIndicator, Cond.selects RX5 yX5_forwardIndicator yX5_forwardIndicator, Cond.code yX5_forwardIndicator cX5_forwardIndicator 1 (some .int), Cond.methodLink RX0 141 yX5_forwardNumber, Cond.instanceMethod yX5_forwardNumber, Cond.selects RX5 yX5_forwardNumber yX5_forwardNumber, Cond.code yX5_forwardNumber cX5_forwardNumber 1 (some .int), Cond.methodLink RX0 144 yX5_bodyLength, Cond.static yX6_nextNumber, Cond.code yX6_nextNumber cX6_nextNumber 1 (some .int), Cond.methodLink RX0 147 yX4_keep, Cond.instanceMethod yX4_keep, Cond.selects RX4 yX4_keep yX4_keep, Cond.initialized RX4]
def wsL_take_r7 : List Cond := [Cond.code yX4_keep cX4_keep 4 none, Cond.fieldLink RX4 19 "LinkPair$Store" "total" "I", Cond.fieldLink RX4 15 "LinkPair$Store" "lengths" "[I", Cond.fieldLink RX4 9 "LinkPair$Store" "bytes" "[B", Cond.methodLink RX4 23 yX5_bodyLength, Cond.methodLink RX4 29 yX5_bodyByte, Cond.instanceMethod yX5_bodyByte, Cond.selects RX5 yX5_bodyByte yX5_bodyByte, Cond.code yX5_bodyByte cX5_bodyByte 2 (some .int)]
def wsL_take : List Cond := .codeWith yL_take cL_take 4 (some .int) [(0, 9, 12, 13), (0, 9, 15, 15)] :: ((wsL_take_r1 ++ (wsL_take_r2 ++ (wsL_take_r3 ++ (wsL_take_r4 ++ (wsL_take_r5 ++ (wsL_take_r6 ++ wsL_take_r7)))))) ++ wsX60 ++ wsX00 ++ wsX20 ++ wsX50 ++ wsX10 ++ wsX30 ++ wsX40 ++ (vx_at0 RX6 46 "java/lang/IllegalStateException" ["java/lang/RuntimeException", "java/lang/Exception"]).filter goodWord ++ (vx_at0 RX6 29 "java/lang/IllegalArgumentException" ["java/lang/RuntimeException", "java/lang/Exception"]).filter goodWord)
def wsL_flip_r1 : List Cond := [Cond.classLink RL 13 "java/lang/IllegalArgumentException", Cond.methodLink RL 24 yX6_flip, Cond.instanceMethod yX6_flip, Cond.selects RX6 yX6_flip yX6_flip, Cond.initialized RX6, Cond.code yX6_flip cX6_flip 5 (some .int), Cond.classLink RX6 27 "java/lang/IllegalArgumentException", Cond.initialized "java/lang/IllegalArgumentException", Cond.methodLink RX6 92 yX6_frameOf, Cond.instanceMethod yX6_frameOf, Cond.selects RX6 yX6_frameOf yX6_frameOf, Cond.code yX6_frameOf cX6_frameOf 4 (some (.object "LinkPair$Frame")), Cond.methodLink RX6 23 yX6_endOf, Cond.instanceMethod yX6_endOf, Cond.selects RX6 yX6_endOf yX6_endOf, Cond.code yX6_endOf cX6_endOf 2 (some (.object "LinkPair$End")), Cond.fieldLink RX6 12 "LinkPair" "ends" "[LLinkPair$End;", Cond.methodLink RX6 101 yX1_turn, Cond.instanceMethod yX1_turn, Cond.selects RX1 yX1_turn yX1_turn, Cond.initialized RX1, Cond.code yX1_turn cX1_turn 2 none, Cond.fieldLink RX1 9 "LinkPair$Frame" "words" "[J", Cond.methodLink RX6 104 yX1_valueAt]
def wsL_flip_r2 : List Cond := [Cond.instanceMethod yX1_valueAt, Cond.selects RX1 yX1_valueAt yX1_valueAt, Cond.code yX1_valueAt cX1_valueAt 2 (some .int)]
def wsL_flip : List Cond := .codeWith yL_flip cL_flip 6 (some .int) [(0, 12, 15, 13)] :: ((wsL_flip_r1 ++ wsL_flip_r2) ++ wsX10 ++ wsX00 ++ wsX20 ++ wsX60 ++ (vx_at0 RX6 29 "java/lang/IllegalArgumentException" ["java/lang/RuntimeException", "java/lang/Exception"]).filter goodWord)
def wsL_drop : List Cond := .codeWith yL_drop cL_drop 5 (some .int) [(0, 10, 13, 13)] :: ([.classLink RL 13 "java/lang/IllegalArgumentException", .methodLink RL 27 yX6_drop, .instanceMethod yX6_drop, .selects RX6 yX6_drop yX6_drop, .initialized RX6, .code yX6_drop cX6_drop 4 (some .int), .fieldLink RX6 12 "LinkPair" "ends" "[LLinkPair$End;", .methodLink RX6 92 yX6_frameOf, .instanceMethod yX6_frameOf, .selects RX6 yX6_frameOf yX6_frameOf, .code yX6_frameOf cX6_frameOf 4 (some (.object "LinkPair$Frame")), .classLink RX6 27 "java/lang/IllegalArgumentException", .initialized "java/lang/IllegalArgumentException", .methodLink RX6 23 yX6_endOf, .instanceMethod yX6_endOf, .selects RX6 yX6_endOf yX6_endOf, .code yX6_endOf cX6_endOf 2 (some (.object "LinkPair$End")), .methodLink RX6 84 yX2_lose, .instanceMethod yX2_lose, .selects RX2 yX2_lose yX2_lose, .initialized RX2, .code yX2_lose cX2_lose 4 none, .fieldLink RX2 11 "LinkPair$Line" "frames" "[LLinkPair$Frame;", .fieldLink RX2 18 "LinkPair$Line" "count" "I"] ++ wsX10 ++ wsX60 ++ wsX00 ++ wsX20 ++ (vx_at0 RX6 29 "java/lang/IllegalArgumentException" ["java/lang/RuntimeException", "java/lang/Exception"]).filter goodWord)
def wsL_bits_r1 : List Cond := [Cond.classLink RL 13 "java/lang/IllegalArgumentException", Cond.classLink RL 15 "java/lang/IllegalStateException", Cond.methodLink RL 31 yX6_bits, Cond.instanceMethod yX6_bits, Cond.selects RX6 yX6_bits yX6_bits, Cond.initialized RX6, Cond.code yX6_bits cX6_bits 10 (some .int), Cond.classLink RX6 27 "java/lang/IllegalArgumentException", Cond.initialized "java/lang/IllegalArgumentException", Cond.classLink RX6 44 "java/lang/IllegalStateException", Cond.initialized "java/lang/IllegalStateException", Cond.methodLink RX6 23 yX6_endOf, Cond.instanceMethod yX6_endOf, Cond.selects RX6 yX6_endOf yX6_endOf, Cond.code yX6_endOf cX6_endOf 2 (some (.object "LinkPair$End")), Cond.fieldLink RX6 12 "LinkPair" "ends" "[LLinkPair$End;", Cond.methodLink RX6 55 yX2_isFull, Cond.instanceMethod yX2_isFull, Cond.selects RX2 yX2_isFull yX2_isFull, Cond.initialized RX2, Cond.code yX2_isFull cX2_isFull 1 (some .boolean), Cond.fieldLink RX2 18 "LinkPair$Line" "count" "I", Cond.methodLink RX6 108 yX2_last, Cond.instanceMethod yX2_last]
def wsL_bits_r2 : List Cond := [Cond.selects RX2 yX2_last yX2_last, Cond.code yX2_last cX2_last 1 (some (.object "LinkPair$Frame")), Cond.fieldLink RX2 11 "LinkPair$Line" "frames" "[LLinkPair$Frame;", Cond.methodLink RX6 65 yX2_open, Cond.instanceMethod yX2_open, Cond.selects RX2 yX2_open yX2_open, Cond.code yX2_open cX2_open 1 (some (.object "LinkPair$Frame")), Cond.methodLink RX2 22 yX2_last, Cond.methodLink RX6 111 yX1_add, Cond.instanceMethod yX1_add, Cond.selects RX1 yX1_add yX1_add, Cond.initialized RX1, Cond.code yX1_add cX1_add 2 none, Cond.fieldLink RX1 15 "LinkPair$Frame" "length" "I", Cond.methodLink RX1 19 yX1_valueAt, Cond.instanceMethod yX1_valueAt, Cond.selects RX1 yX1_valueAt yX1_valueAt, Cond.code yX1_valueAt cX1_valueAt 2 (some .int), Cond.fieldLink RX1 9 "LinkPair$Frame" "words" "[J", Cond.methodLink RX1 23 yX1_turn, Cond.instanceMethod yX1_turn, Cond.selects RX1 yX1_turn yX1_turn, Cond.code yX1_turn cX1_turn 2 none]
def wsL_bits : List Cond := .codeWith yL_bits cL_bits 8 (some .int) [(0, 15, 18, 13), (0, 15, 22, 15)] :: ((wsL_bits_r1 ++ wsL_bits_r2) ++ wsX00 ++ wsX20 ++ wsX10 ++ wsX60 ++ (vx_at0 RX6 29 "java/lang/IllegalArgumentException" ["java/lang/RuntimeException", "java/lang/Exception"]).filter goodWord ++ (vx_at0 RX6 46 "java/lang/IllegalStateException" ["java/lang/RuntimeException", "java/lang/Exception"]).filter goodWord)
def wsL_bit : List Cond := .codeWith yL_bit cL_bit 6 (some .int) [(0, 12, 15, 13)] :: ([.classLink RL 13 "java/lang/IllegalArgumentException", .methodLink RL 35 yX6_bit, .instanceMethod yX6_bit, .selects RX6 yX6_bit yX6_bit, .initialized RX6, .code yX6_bit cX6_bit 5 (some .int), .classLink RX6 27 "java/lang/IllegalArgumentException", .initialized "java/lang/IllegalArgumentException", .methodLink RX6 92 yX6_frameOf, .instanceMethod yX6_frameOf, .selects RX6 yX6_frameOf yX6_frameOf, .code yX6_frameOf cX6_frameOf 4 (some (.object "LinkPair$Frame")), .methodLink RX6 23 yX6_endOf, .instanceMethod yX6_endOf, .selects RX6 yX6_endOf yX6_endOf, .code yX6_endOf cX6_endOf 2 (some (.object "LinkPair$End")), .fieldLink RX6 12 "LinkPair" "ends" "[LLinkPair$End;", .methodLink RX6 104 yX1_valueAt, .instanceMethod yX1_valueAt, .selects RX1 yX1_valueAt yX1_valueAt, .initialized RX1, .code yX1_valueAt cX1_valueAt 2 (some .int), .fieldLink RX1 9 "LinkPair$Frame" "words" "[J"] ++ wsX10 ++ wsX00 ++ wsX20 ++ wsX60 ++ (vx_at0 RX6 29 "java/lang/IllegalArgumentException" ["java/lang/RuntimeException", "java/lang/Exception"]).filter goodWord)
def wsL_taken_r1 : List Cond := [Cond.classLink RL 13 "java/lang/IllegalArgumentException", Cond.methodLink RL 38 yX6_taken, Cond.instanceMethod yX6_taken, Cond.selects RX6 yX6_taken yX6_taken, Cond.initialized RX6, Cond.code yX6_taken cX6_taken 5 (some .int), Cond.classLink RX6 27 "java/lang/IllegalArgumentException", Cond.initialized "java/lang/IllegalArgumentException", Cond.methodLink RX6 23 yX6_endOf, Cond.instanceMethod yX6_endOf, Cond.selects RX6 yX6_endOf yX6_endOf, Cond.code yX6_endOf cX6_endOf 2 (some (.object "LinkPair$End")), Cond.fieldLink RX6 12 "LinkPair" "ends" "[LLinkPair$End;", Cond.methodLink RX6 118 yX4_has, Cond.instanceMethod yX4_has, Cond.selects RX4 yX4_has yX4_has, Cond.initialized RX4, Cond.code yX4_has cX4_has 2 (some .boolean), Cond.fieldLink RX4 19 "LinkPair$Store" "total" "I", Cond.methodLink RX6 124 yX4_byteOf, Cond.instanceMethod yX4_byteOf, Cond.selects RX4 yX4_byteOf yX4_byteOf, Cond.code yX4_byteOf cX4_byteOf 4 (some .int), Cond.fieldLink RX4 15 "LinkPair$Store" "lengths" "[I"]
def wsL_taken_r2 : List Cond := [Cond.fieldLink RX4 9 "LinkPair$Store" "bytes" "[B"]
def wsL_taken : List Cond := .codeWith yL_taken cL_taken 6 (some .int) [(0, 12, 15, 13)] :: ((wsL_taken_r1 ++ wsL_taken_r2) ++ wsX00 ++ wsX60 ++ wsX40 ++ (vx_at0 RX6 29 "java/lang/IllegalArgumentException" ["java/lang/RuntimeException", "java/lang/Exception"]).filter goodWord)
def wsL_check : List Cond := .codeWith yL_check cL_check 6 (some .int) [(0, 11, 14, 13)] :: ([.classLink RL 13 "java/lang/IllegalArgumentException", .methodLink RL 41 yX6_check, .instanceMethod yX6_check, .selects RX6 yX6_check yX6_check, .initialized RX6, .code yX6_check cX6_check 6 (some .int), .classLink RX6 27 "java/lang/IllegalArgumentException", .initialized "java/lang/IllegalArgumentException", .constant RX6 128 (65535), .methodLink RX6 129 yX6_restBehind, .static yX6_restBehind, .code yX6_restBehind cX6_restBehind 5 (some .int), .constant RX6 138 (33800)] ++ (vx_at0 RX6 29 "java/lang/IllegalArgumentException" ["java/lang/RuntimeException", "java/lang/Exception"]).filter goodWord)
def wsL_about_r1 : List Cond := [Cond.classLink RL 13 "java/lang/IllegalArgumentException", Cond.methodLink RL 45 yX6_about, Cond.instanceMethod yX6_about, Cond.selects RX6 yX6_about yX6_about, Cond.initialized RX6, Cond.code yX6_about cX6_about 4 (some .int), Cond.classLink RX6 27 "java/lang/IllegalArgumentException", Cond.initialized "java/lang/IllegalArgumentException", Cond.methodLink RX6 23 yX6_endOf, Cond.instanceMethod yX6_endOf, Cond.selects RX6 yX6_endOf yX6_endOf, Cond.code yX6_endOf cX6_endOf 2 (some (.object "LinkPair$End")), Cond.fieldLink RX6 12 "LinkPair" "ends" "[LLinkPair$End;", Cond.methodLink RX6 132 yX0_fact, Cond.instanceMethod yX0_fact, Cond.selects RX0 yX0_fact yX0_fact, Cond.initialized RX0, Cond.code yX0_fact cX0_fact 2 (some .int), Cond.fieldLink RX0 32 "LinkPair$End" "forwardIndicator" "I", Cond.fieldLink RX0 36 "LinkPair$End" "backwardIndicator" "I", Cond.fieldLink RX0 39 "LinkPair$End" "sentNumber" "I", Cond.fieldLink RX0 42 "LinkPair$End" "takenNumber" "I", Cond.fieldLink RX0 21 "LinkPair$End" "messages" "LLinkPair$Messages;", Cond.fieldLink RX0 28 "LinkPair$End" "store" "LLinkPair$Store;"]
def wsL_about_r2 : List Cond := [Cond.fieldLink RX0 12 "LinkPair$End" "line" "LLinkPair$Line;", Cond.fieldLink RX0 51 "LinkPair$End" "errors" "I", Cond.fieldLink RX0 54 "LinkPair$End" "units" "I", Cond.fieldLink RX0 57 "LinkPair$End" "failed" "Z"]
def wsL_about : List Cond := .codeWith yL_about cL_about 5 (some .int) [(0, 10, 13, 13)] :: ((wsL_about_r1 ++ wsL_about_r2) ++ wsX60 ++ wsX00 ++ wsX30 ++ wsX40 ++ wsX20 ++ (vx_at0 RX6 29 "java/lang/IllegalArgumentException" ["java/lang/RuntimeException", "java/lang/Exception"]).filter goodWord)
def wsL_restart_r1 : List Cond := [Cond.classLink RL 13 "java/lang/IllegalArgumentException", Cond.methodLink RL 48 yX6_restart, Cond.instanceMethod yX6_restart, Cond.selects RX6 yX6_restart yX6_restart, Cond.initialized RX6, Cond.code yX6_restart cX6_restart 2 none, Cond.methodLink RX6 23 yX6_endOf, Cond.instanceMethod yX6_endOf, Cond.selects RX6 yX6_endOf yX6_endOf, Cond.code yX6_endOf cX6_endOf 2 (some (.object "LinkPair$End")), Cond.classLink RX6 27 "java/lang/IllegalArgumentException", Cond.initialized "java/lang/IllegalArgumentException", Cond.fieldLink RX6 12 "LinkPair" "ends" "[LLinkPair$End;", Cond.methodLink RX6 135 yX0_beginAnew, Cond.instanceMethod yX0_beginAnew, Cond.selects RX0 yX0_beginAnew yX0_beginAnew, Cond.initialized RX0, Cond.code yX0_beginAnew cX0_beginAnew 1 none, Cond.fieldLink RX0 12 "LinkPair$End" "line" "LLinkPair$Line;", Cond.fieldLink RX0 21 "LinkPair$End" "messages" "LLinkPair$Messages;", Cond.fieldLink RX0 32 "LinkPair$End" "forwardIndicator" "I", Cond.fieldLink RX0 36 "LinkPair$End" "backwardIndicator" "I", Cond.fieldLink RX0 39 "LinkPair$End" "sentNumber" "I", Cond.fieldLink RX0 42 "LinkPair$End" "takenNumber" "I"]
def wsL_restart_r2 : List Cond := [Cond.fieldLink RX0 51 "LinkPair$End" "errors" "I", Cond.fieldLink RX0 54 "LinkPair$End" "units" "I", Cond.fieldLink RX0 57 "LinkPair$End" "failed" "Z", Cond.fieldLink RX0 61 "LinkPair$End" "abnormalLast" "Z", Cond.fieldLink RX0 64 "LinkPair$End" "abnormalLastButOne" "Z", Cond.methodLink RX0 48 yX3_empty, Cond.instanceMethod yX3_empty, Cond.selects RX3 yX3_empty yX3_empty, Cond.initialized RX3, Cond.code yX3_empty cX3_empty 1 none, Cond.fieldLink RX3 22 "LinkPair$Messages" "untold" "I", Cond.fieldLink RX3 32 "LinkPair$Messages" "again" "I", Cond.fieldLink RX3 25 "LinkPair$Messages" "waiting" "I"]
def wsL_restart : List Cond := .codeWith yL_restart cL_restart 3 (some .int) [(0, 5, 8, 13)] :: ((wsL_restart_r1 ++ wsL_restart_r2) ++ wsX60 ++ wsX00 ++ wsX20 ++ wsX30 ++ (vx_at0 RX6 29 "java/lang/IllegalArgumentException" ["java/lang/RuntimeException", "java/lang/Exception"]).filter goodWord)
def wsL_law0_r1 : List Cond := [Cond.classLink RL 8 RX6, Cond.instantiable RX6 2, Cond.initialized RX6, Cond.classLink RL 53 RX7, Cond.instantiable RX7 27, Cond.initialized RX7, Cond.arrayClass .long, Cond.constantLong RL 76 (4294967295), Cond.methodLink RL 52 yX6_init, Cond.instanceMethod yX6_init, Cond.code yX6_init cX6_init 1 none, Cond.methodLink RX6 3 objectInit, Cond.instanceMethod objectInit, Cond.code objectInit ⟨#[0xb1]⟩ 1 none, Cond.classLink RX6 9 RX0, Cond.instantiable RX0 12, Cond.initialized RX0, Cond.fieldLink RX6 12 "LinkPair" "ends" "[LLinkPair$End;", Cond.classLink RX6 16 RX5, Cond.instantiable RX5 2, Cond.initialized RX5, Cond.fieldLink RX6 19 "LinkPair" "unit" "LLinkPair$Unit;", Cond.instanceMethod yX0_init, Cond.code yX0_init cX0_init 1 none]
def wsL_law0_r2 : List Cond := [Cond.methodLink RX0 3 objectInit, Cond.classLink RX0 9 RX2, Cond.instantiable RX2 2, Cond.initialized RX2, Cond.fieldLink RX0 12 "LinkPair$End" "line" "LLinkPair$Line;", Cond.classLink RX0 18 RX3, Cond.instantiable RX3 6, Cond.initialized RX3, Cond.fieldLink RX0 21 "LinkPair$End" "messages" "LLinkPair$Messages;", Cond.classLink RX0 25 RX4, Cond.instantiable RX4 3, Cond.initialized RX4, Cond.fieldLink RX0 28 "LinkPair$End" "store" "LLinkPair$Store;", Cond.fieldLink RX0 32 "LinkPair$End" "forwardIndicator" "I", Cond.fieldLink RX0 36 "LinkPair$End" "backwardIndicator" "I", Cond.fieldLink RX0 39 "LinkPair$End" "sentNumber" "I", Cond.fieldLink RX0 42 "LinkPair$End" "takenNumber" "I", Cond.methodLink RX0 11 yX2_init, Cond.instanceMethod yX2_init, Cond.code yX2_init cX2_init 2 none, Cond.methodLink RX2 3 objectInit, Cond.classLink RX2 9 RX1, Cond.fieldLink RX2 11 "LinkPair$Line" "frames" "[LLinkPair$Frame;", Cond.instantiable RX1 2]
def wsL_law0_r3 : List Cond := [Cond.initialized RX1, Cond.instanceMethod yX1_init, Cond.code yX1_init cX1_init 1 none, Cond.methodLink RX1 3 objectInit, Cond.fieldLink RX1 9 "LinkPair$Frame" "words" "[J", Cond.instanceMethod yX3_init, Cond.code yX3_init cX3_init 1 none, Cond.methodLink RX3 3 objectInit, Cond.arrayClass .int, Cond.fieldLink RX3 9 "LinkPair$Messages" "lengths" "[I", Cond.fieldLink RX3 15 "LinkPair$Messages" "seeds" "[I", Cond.instanceMethod yX4_init, Cond.code yX4_init cX4_init 1 none, Cond.methodLink RX4 3 objectInit, Cond.arrayClass .byte, Cond.fieldLink RX4 9 "LinkPair$Store" "bytes" "[B", Cond.fieldLink RX4 15 "LinkPair$Store" "lengths" "[I", Cond.instanceMethod yX5_init, Cond.code yX5_init cX5_init 1 none, Cond.methodLink RX5 3 objectInit, Cond.fieldLink RX5 9 "LinkPair$Unit" "bytes" "[I", Cond.methodLink RL 55 yX7_init, Cond.instanceMethod yX7_init, Cond.code yX7_init cX7_init 1 none]
def wsL_law0_r4 : List Cond := [Cond.methodLink RX7 1 objectInit, Cond.fieldLink RX7 7 "LinkPairModel" "frames" "[I", Cond.fieldLink RX7 13 "LinkPairModel" "lengths" "[I", Cond.constant RX7 16 (240000), Cond.fieldLink RX7 17 "LinkPairModel" "bits" "[I", Cond.fieldLink RX7 20 "LinkPairModel" "fib" "[I", Cond.fieldLink RX7 23 "LinkPairModel" "bib" "[I", Cond.fieldLink RX7 26 "LinkPairModel" "sentLatest" "[I", Cond.fieldLink RX7 29 "LinkPairModel" "takenLatest" "[I", Cond.fieldLink RX7 32 "LinkPairModel" "toldLatest" "[I", Cond.fieldLink RX7 35 "LinkPairModel" "waits" "[I", Cond.fieldLink RX7 38 "LinkPairModel" "waitLength" "[I", Cond.fieldLink RX7 41 "LinkPairModel" "waitSeed" "[I", Cond.fieldLink RX7 44 "LinkPairModel" "open" "[I", Cond.fieldLink RX7 47 "LinkPairModel" "openNumber" "[I", Cond.fieldLink RX7 50 "LinkPairModel" "openLength" "[I", Cond.fieldLink RX7 53 "LinkPairModel" "openSeed" "[I", Cond.fieldLink RX7 56 "LinkPairModel" "again" "[I", Cond.fieldLink RX7 59 "LinkPairModel" "errors" "[I", Cond.fieldLink RX7 62 "LinkPairModel" "units" "[I", Cond.fieldLink RX7 65 "LinkPairModel" "abnormal" "[I", Cond.arrayClass .boolean, Cond.fieldLink RX7 68 "LinkPairModel" "failed" "[Z", Cond.fieldLink RX7 72 "LinkPairModel" "takenCount" "[I"]
def wsL_law0_r5 : List Cond := [Cond.fieldLink RX7 75 "LinkPairModel" "takenLength" "[I", Cond.fieldLink RX7 78 "LinkPairModel" "takenBytes" "[I", Cond.fieldLink RX7 81 "LinkPairModel" "unit" "[I", Cond.fieldLink RX7 84 "LinkPairModel" "plain" "[I", Cond.methodLink RX7 87 yX7_begin, Cond.instanceMethod yX7_begin, Cond.selects RX7 yX7_begin yX7_begin, Cond.code yX7_begin cX7_begin 2 none, Cond.methodLink RL 56 yL_put, Cond.static yL_put, Cond.initialized RL, Cond.codeWith yL_put cL_put 6 (some .int) [(0, 12, 15, 13), (0, 12, 19, 15)], Cond.classLink RL 13 "java/lang/IllegalArgumentException", Cond.classLink RL 15 "java/lang/IllegalStateException", Cond.methodLink RL 7 yX6_put, Cond.instanceMethod yX6_put, Cond.selects RX6 yX6_put yX6_put, Cond.code yX6_put cX6_put 5 (some .int), Cond.classLink RX6 27 "java/lang/IllegalArgumentException", Cond.initialized "java/lang/IllegalArgumentException", Cond.classLink RX6 44 "java/lang/IllegalStateException", Cond.initialized "java/lang/IllegalStateException", Cond.methodLink RX6 23 yX6_endOf, Cond.instanceMethod yX6_endOf]
def wsL_law0_r6 : List Cond := [Cond.selects RX6 yX6_endOf yX6_endOf, Cond.code yX6_endOf cX6_endOf 2 (some (.object "LinkPair$End")), Cond.methodLink RX6 47 yX3_join, Cond.instanceMethod yX3_join, Cond.selects RX3 yX3_join yX3_join, Cond.code yX3_join cX3_join 4 none, Cond.fieldLink RX3 22 "LinkPair$Messages" "untold" "I", Cond.fieldLink RX3 25 "LinkPair$Messages" "waiting" "I", Cond.methodLink RX3 28 yX3_placeOf, Cond.instanceMethod yX3_placeOf, Cond.selects RX3 yX3_placeOf yX3_placeOf, Cond.code yX3_placeOf cX3_placeOf 2 (some .int), Cond.fieldLink RX3 18 "LinkPair$Messages" "first" "I", Cond.methodLink RL 61 yX7_put, Cond.instanceMethod yX7_put, Cond.selects RX7 yX7_put yX7_put, Cond.code yX7_put cX7_put 5 (some .int), Cond.methodLink RX7 107 yX7_isEnd, Cond.static yX7_isEnd, Cond.code yX7_isEnd cX7_isEnd 1 (some .boolean), Cond.methodLink RX7 101 yX7_refuses, Cond.instanceMethod yX7_refuses, Cond.selects RX7 yX7_refuses yX7_refuses, Cond.code yX7_refuses cX7_refuses 2 (some .boolean)]
def wsL_law0_r7 : List Cond := [Cond.fieldLink RX7 91 "LinkPairModel" "code" "I", Cond.methodLink RL 62 yL_send, Cond.static yL_send, Cond.codeWith yL_send cL_send 4 (some .int) [(0, 9, 12, 13), (0, 9, 15, 15)], Cond.methodLink RL 17 yX6_send, Cond.instanceMethod yX6_send, Cond.selects RX6 yX6_send yX6_send, Cond.code yX6_send cX6_send 4 (some .int), Cond.methodLink RX6 55 yX2_isFull, Cond.instanceMethod yX2_isFull, Cond.selects RX2 yX2_isFull yX2_isFull, Cond.code yX2_isFull cX2_isFull 1 (some .boolean), Cond.fieldLink RX2 18 "LinkPair$Line" "count" "I", Cond.methodLink RX6 61 yX0_nextUnit, Cond.instanceMethod yX0_nextUnit, Cond.selects RX0 yX0_nextUnit yX0_nextUnit, Cond.code yX0_nextUnit cX0_nextUnit 3 (some .int), Cond.methodLink RX0 70 yX0_writeMessage, Cond.instanceMethod yX0_writeMessage, Cond.selects RX0 yX0_writeMessage yX0_writeMessage, Cond.code yX0_writeMessage cX0_writeMessage 5 none, Cond.methodLink RX0 92 yX3_placeOf, Cond.methodLink RX0 85 yX0_writeUnit, Cond.instanceMethod yX0_writeUnit]
def wsL_law0_r8 : List Cond := [Cond.selects RX0 yX0_writeUnit yX0_writeUnit, Cond.code yX0_writeUnit cX0_writeUnit 6 none, Cond.methodLink RX0 102 yX5_writeHead, Cond.instanceMethod yX5_writeHead, Cond.selects RX5 yX5_writeHead yX5_writeHead, Cond.code yX5_writeHead cX5_writeHead 4 none, Cond.methodLink RX5 19 Lib.Math.min.name, Cond.static Lib.Math.min.name, Cond.initialized "java/lang/Math", Cond.code Lib.Math.min.name Lib.Math.min.code 2 (some .int), Cond.fieldLink RX5 15 "LinkPair$Unit" "count" "I", Cond.methodLink RX0 108 yX5_writeBody, Cond.instanceMethod yX5_writeBody, Cond.selects RX5 yX5_writeBody yX5_writeBody, Cond.code yX5_writeBody cX5_writeBody 3 none, Cond.methodLink RX5 25 yX5_bodyLength, Cond.instanceMethod yX5_bodyLength, Cond.selects RX5 yX5_bodyLength yX5_bodyLength, Cond.code yX5_bodyLength cX5_bodyLength 1 (some .int), Cond.methodLink RX0 112 yX5_writeCheck, Cond.instanceMethod yX5_writeCheck, Cond.selects RX5 yX5_writeCheck yX5_writeCheck, Cond.code yX5_writeCheck cX5_writeCheck 2 none, Cond.methodLink RX5 29 yX5_checkDue]
def wsL_law0_r9 : List Cond := [Cond.instanceMethod yX5_checkDue, Cond.selects RX5 yX5_checkDue yX5_checkDue, Cond.code yX5_checkDue cX5_checkDue 3 (some .int), Cond.constant RX5 32 (65535), Cond.static yX6_restBehind, Cond.code yX6_restBehind cX6_restBehind 5 (some .int), Cond.constant RX6 138 (33800), Cond.methodLink RX0 74 yX3_mayGoFirstTime, Cond.instanceMethod yX3_mayGoFirstTime, Cond.selects RX3 yX3_mayGoFirstTime yX3_mayGoFirstTime, Cond.code yX3_mayGoFirstTime cX3_mayGoFirstTime 1 (some .boolean), Cond.methodLink RX0 78 yX3_goFirstTime, Cond.instanceMethod yX3_goFirstTime, Cond.selects RX3 yX3_goFirstTime yX3_goFirstTime, Cond.code yX3_goFirstTime cX3_goFirstTime 1 none, Cond.static yX6_nextNumber, Cond.code yX6_nextNumber cX6_nextNumber 1 (some .int), Cond.methodLink RX6 65 yX2_open, Cond.instanceMethod yX2_open, Cond.selects RX2 yX2_open yX2_open, Cond.code yX2_open cX2_open 1 (some (.object "LinkPair$Frame")), Cond.methodLink RX2 22 yX2_last, Cond.instanceMethod yX2_last, Cond.selects RX2 yX2_last yX2_last]
def wsL_law0_r10 : List Cond := [Cond.code yX2_last cX2_last 1 (some (.object "LinkPair$Frame")), Cond.methodLink RX6 69 yX5_writeTo, Cond.instanceMethod yX5_writeTo, Cond.selects RX5 yX5_writeTo yX5_writeTo, Cond.code yX5_writeTo cX5_writeTo 5 none, Cond.methodLink RX5 36 yX1_addFlag, Cond.instanceMethod yX1_addFlag, Cond.selects RX1 yX1_addFlag yX1_addFlag, Cond.code yX1_addFlag cX1_addFlag 2 none, Cond.methodLink RX1 27 yX1_add, Cond.instanceMethod yX1_add, Cond.selects RX1 yX1_add yX1_add, Cond.code yX1_add cX1_add 2 none, Cond.fieldLink RX1 15 "LinkPair$Frame" "length" "I", Cond.methodLink RX1 19 yX1_valueAt, Cond.instanceMethod yX1_valueAt, Cond.selects RX1 yX1_valueAt yX1_valueAt, Cond.code yX1_valueAt cX1_valueAt 2 (some .int), Cond.methodLink RX1 23 yX1_turn, Cond.instanceMethod yX1_turn, Cond.selects RX1 yX1_turn yX1_turn, Cond.code yX1_turn cX1_turn 2 none, Cond.methodLink RX5 41 yX1_add, Cond.methodLink RL 65 yX7_send]
def wsL_law0_r11 : List Cond := [Cond.instanceMethod yX7_send, Cond.selects RX7 yX7_send yX7_send, Cond.code yX7_send cX7_send 5 (some .int), Cond.methodLink RX7 121 yX7_frame, Cond.instanceMethod yX7_frame, Cond.selects RX7 yX7_frame yX7_frame, Cond.code yX7_frame cX7_frame 9 none, Cond.methodLink RX7 114 yX7_unitCheck, Cond.instanceMethod yX7_unitCheck, Cond.selects RX7 yX7_unitCheck yX7_unitCheck, Cond.code yX7_unitCheck cX7_unitCheck 4 (some .int), Cond.constant RX7 96 (65535), Cond.methodLink RX7 97 yX7_checked, Cond.static yX7_checked, Cond.code yX7_checked cX7_checked 4 (some .int), Cond.constant RX7 95 (33800), Cond.methodLink RX7 118 yX7_flag, Cond.instanceMethod yX7_flag, Cond.selects RX7 yX7_flag yX7_flag, Cond.code yX7_flag cX7_flag 3 none, Cond.methodLink RX7 110 yX7_bit, Cond.instanceMethod yX7_bit, Cond.selects RX7 yX7_bit yX7_bit, Cond.code yX7_bit cX7_bit 4 none]
def wsL_law0_r12 : List Cond := [Cond.methodLink RL 66 yL_take, Cond.static yL_take, Cond.codeWith yL_take cL_take 4 (some .int) [(0, 9, 12, 13), (0, 9, 15, 15)], Cond.methodLink RL 21 yX6_take, Cond.instanceMethod yX6_take, Cond.selects RX6 yX6_take yX6_take, Cond.code yX6_take cX6_take 6 (some .int), Cond.methodLink RX6 80 yX5_readFrom, Cond.instanceMethod yX5_readFrom, Cond.selects RX5 yX5_readFrom yX5_readFrom, Cond.code yX5_readFrom cX5_readFrom 3 (some .int), Cond.methodLink RX5 45 yX1_isBetweenFlags, Cond.instanceMethod yX1_isBetweenFlags, Cond.selects RX1 yX1_isBetweenFlags yX1_isBetweenFlags, Cond.code yX1_isBetweenFlags cX1_isBetweenFlags 1 (some .boolean), Cond.methodLink RX1 30 yX1_hasFlagAt, Cond.instanceMethod yX1_hasFlagAt, Cond.selects RX1 yX1_hasFlagAt yX1_hasFlagAt, Cond.code yX1_hasFlagAt cX1_hasFlagAt 4 (some .boolean), Cond.methodLink RX5 49 yX1_hasSixOnesBetweenFlags, Cond.instanceMethod yX1_hasSixOnesBetweenFlags, Cond.selects RX1 yX1_hasSixOnesBetweenFlags yX1_hasSixOnesBetweenFlags, Cond.code yX1_hasSixOnesBetweenFlags cX1_hasSixOnesBetweenFlags 3 (some .boolean), Cond.methodLink RX5 52 yX5_readBits]
def wsL_law0_r13 : List Cond := [Cond.instanceMethod yX5_readBits, Cond.selects RX5 yX5_readBits yX5_readBits, Cond.code yX5_readBits cX5_readBits 6 (some .int), Cond.methodLink RX5 59 yX1_valueAt, Cond.methodLink RX5 63 yX5_writeBit, Cond.instanceMethod yX5_writeBit, Cond.selects RX5 yX5_writeBit yX5_writeBit, Cond.code yX5_writeBit cX5_writeBit 4 none, Cond.methodLink RX6 84 yX2_lose, Cond.instanceMethod yX2_lose, Cond.selects RX2 yX2_lose yX2_lose, Cond.code yX2_lose cX2_lose 4 none, Cond.methodLink RX6 88 yX0_takeUnit, Cond.instanceMethod yX0_takeUnit, Cond.selects RX0 yX0_takeUnit yX0_takeUnit, Cond.code yX0_takeUnit cX0_takeUnit 4 (some .int), Cond.fieldLink RX0 54 "LinkPair$End" "units" "I", Cond.fieldLink RX0 51 "LinkPair$End" "errors" "I", Cond.fieldLink RX0 57 "LinkPair$End" "failed" "Z", Cond.fieldLink RX0 61 "LinkPair$End" "abnormalLast" "Z", Cond.fieldLink RX0 64 "LinkPair$End" "abnormalLastButOne" "Z", Cond.methodLink RX0 115 yX0_isAbnormal, Cond.instanceMethod yX0_isAbnormal, Cond.selects RX0 yX0_isAbnormal yX0_isAbnormal]
def wsL_law0_r14 : List Cond := [Cond.code yX0_isAbnormal cX0_isAbnormal 2 (some .boolean), Cond.methodLink RX0 131 yX0_toldBy, Cond.instanceMethod yX0_toldBy, Cond.selects RX0 yX0_toldBy yX0_toldBy, Cond.code yX0_toldBy cX0_toldBy 3 (some .int), Cond.methodLink RX0 127 yX5_backwardNumber, Cond.instanceMethod yX5_backwardNumber, Cond.selects RX5 yX5_backwardNumber yX5_backwardNumber, Cond.code yX5_backwardNumber cX5_backwardNumber 1 (some .int), Cond.methodLink RX0 119 yX0_takeBackward, Cond.instanceMethod yX0_takeBackward, Cond.selects RX0 yX0_takeBackward yX0_takeBackward, Cond.code yX0_takeBackward cX0_takeBackward 2 none, Cond.methodLink RX0 134 yX3_forget, Cond.instanceMethod yX3_forget, Cond.selects RX3 yX3_forget yX3_forget, Cond.code yX3_forget cX3_forget 2 none, Cond.fieldLink RX3 32 "LinkPair$Messages" "again" "I", Cond.methodLink RX3 35 Lib.Math.min.name, Cond.methodLink RX0 137 yX5_backwardIndicator, Cond.instanceMethod yX5_backwardIndicator, Cond.selects RX5 yX5_backwardIndicator yX5_backwardIndicator, Cond.code yX5_backwardIndicator cX5_backwardIndicator 1 (some .int), Cond.methodLink RX0 123 yX0_takeForward]
def wsL_law0_r15 : List Cond := [Cond.instanceMethod yX0_takeForward, Cond.selects RX0 yX0_takeForward yX0_takeForward, Cond.code yX0_takeForward cX0_takeForward 3 (some .int), Cond.methodLink RX0 139 yX5_forwardIndicator, Cond.instanceMethod yX5_forwardIndicator, Cond.selects RX5 yX5_forwardIndicator yX5_forwardIndicator, Cond.code yX5_forwardIndicator cX5_forwardIndicator 1 (some .int), Cond.methodLink RX0 141 yX5_forwardNumber, Cond.instanceMethod yX5_forwardNumber, Cond.selects RX5 yX5_forwardNumber yX5_forwardNumber, Cond.code yX5_forwardNumber cX5_forwardNumber 1 (some .int), Cond.methodLink RX0 144 yX5_bodyLength, Cond.methodLink RX0 147 yX4_keep, Cond.instanceMethod yX4_keep, Cond.selects RX4 yX4_keep yX4_keep, Cond.code yX4_keep cX4_keep 4 none, Cond.fieldLink RX4 19 "LinkPair$Store" "total" "I", Cond.methodLink RX4 23 yX5_bodyLength, Cond.methodLink RX4 29 yX5_bodyByte, Cond.instanceMethod yX5_bodyByte, Cond.selects RX5 yX5_bodyByte yX5_bodyByte, Cond.code yX5_bodyByte cX5_bodyByte 2 (some .int), Cond.methodLink RL 68 yX7_take, Cond.instanceMethod yX7_take]
def wsL_law0_r16 : List Cond := [Cond.selects RX7 yX7_take yX7_take, Cond.code yX7_take cX7_take 6 (some .int), Cond.methodLink RX7 131 yX7_fault, Cond.instanceMethod yX7_fault, Cond.selects RX7 yX7_fault yX7_fault, Cond.code yX7_fault cX7_fault 9 (some .int), Cond.fieldLink RX7 128 "LinkPairModel" "unitLength" "I", Cond.methodLink RX7 125 yX7_isFlag, Cond.instanceMethod yX7_isFlag, Cond.selects RX7 yX7_isFlag yX7_isFlag, Cond.code yX7_isFlag cX7_isFlag 4 (some .int), Cond.methodLink RX7 134 yX7_goes, Cond.instanceMethod yX7_goes, Cond.selects RX7 yX7_goes yX7_goes, Cond.code yX7_goes cX7_goes 5 none, Cond.methodLink RX7 137 yX7_forwards, Cond.instanceMethod yX7_forwards, Cond.selects RX7 yX7_forwards yX7_forwards, Cond.code yX7_forwards cX7_forwards 6 (some .int), Cond.methodLink RL 69 yL_flip, Cond.static yL_flip, Cond.codeWith yL_flip cL_flip 6 (some .int) [(0, 12, 15, 13)], Cond.methodLink RL 24 yX6_flip, Cond.instanceMethod yX6_flip]
def wsL_law0_r17 : List Cond := [Cond.selects RX6 yX6_flip yX6_flip, Cond.code yX6_flip cX6_flip 5 (some .int), Cond.methodLink RX6 92 yX6_frameOf, Cond.instanceMethod yX6_frameOf, Cond.selects RX6 yX6_frameOf yX6_frameOf, Cond.code yX6_frameOf cX6_frameOf 4 (some (.object "LinkPair$Frame")), Cond.methodLink RX6 101 yX1_turn, Cond.methodLink RX6 104 yX1_valueAt, Cond.methodLink RL 71 yX7_flip, Cond.instanceMethod yX7_flip, Cond.selects RX7 yX7_flip yX7_flip, Cond.code yX7_flip cX7_flip 5 (some .int), Cond.methodLink RX7 140 yX7_isFrame, Cond.instanceMethod yX7_isFrame, Cond.selects RX7 yX7_isFrame yX7_isFrame, Cond.code yX7_isFrame cX7_isFrame 3 (some .boolean), Cond.methodLink RL 72 yL_drop, Cond.static yL_drop, Cond.codeWith yL_drop cL_drop 5 (some .int) [(0, 10, 13, 13)], Cond.methodLink RL 27 yX6_drop, Cond.instanceMethod yX6_drop, Cond.selects RX6 yX6_drop yX6_drop, Cond.code yX6_drop cX6_drop 4 (some .int), Cond.methodLink RL 75 yX7_drop]
def wsL_law0_r18 : List Cond := [Cond.instanceMethod yX7_drop, Cond.selects RX7 yX7_drop yX7_drop, Cond.code yX7_drop cX7_drop 4 (some .int), Cond.methodLink RL 78 yL_bits, Cond.static yL_bits, Cond.codeWith yL_bits cL_bits 8 (some .int) [(0, 15, 18, 13), (0, 15, 22, 15)], Cond.methodLink RL 31 yX6_bits, Cond.instanceMethod yX6_bits, Cond.selects RX6 yX6_bits yX6_bits, Cond.code yX6_bits cX6_bits 10 (some .int), Cond.methodLink RX6 108 yX2_last, Cond.methodLink RX6 111 yX1_add, Cond.methodLink RL 81 yX7_bits, Cond.instanceMethod yX7_bits, Cond.selects RX7 yX7_bits yX7_bits, Cond.code yX7_bits cX7_bits 9 (some .int), Cond.methodLink RL 82 yL_bit, Cond.static yL_bit, Cond.codeWith yL_bit cL_bit 6 (some .int) [(0, 12, 15, 13)], Cond.methodLink RL 35 yX6_bit, Cond.instanceMethod yX6_bit, Cond.selects RX6 yX6_bit yX6_bit, Cond.code yX6_bit cX6_bit 5 (some .int), Cond.methodLink RL 84 yX7_bit_]
def wsL_law0_r19 : List Cond := [Cond.instanceMethod yX7_bit_, Cond.selects RX7 yX7_bit_ yX7_bit_, Cond.code yX7_bit_ cX7_bit_ 5 (some .int), Cond.methodLink RL 85 yL_taken, Cond.static yL_taken, Cond.codeWith yL_taken cL_taken 6 (some .int) [(0, 12, 15, 13)], Cond.methodLink RL 38 yX6_taken, Cond.instanceMethod yX6_taken, Cond.selects RX6 yX6_taken yX6_taken, Cond.code yX6_taken cX6_taken 5 (some .int), Cond.methodLink RX6 118 yX4_has, Cond.instanceMethod yX4_has, Cond.selects RX4 yX4_has yX4_has, Cond.code yX4_has cX4_has 2 (some .boolean), Cond.methodLink RX6 124 yX4_byteOf, Cond.instanceMethod yX4_byteOf, Cond.selects RX4 yX4_byteOf yX4_byteOf, Cond.code yX4_byteOf cX4_byteOf 4 (some .int), Cond.methodLink RL 87 yX7_taken, Cond.instanceMethod yX7_taken, Cond.selects RX7 yX7_taken yX7_taken, Cond.code yX7_taken cX7_taken 5 (some .int), Cond.methodLink RL 88 yL_check, Cond.static yL_check]
def wsL_law0_r20 : List Cond := [Cond.codeWith yL_check cL_check 6 (some .int) [(0, 11, 14, 13)], Cond.methodLink RL 41 yX6_check, Cond.instanceMethod yX6_check, Cond.selects RX6 yX6_check yX6_check, Cond.code yX6_check cX6_check 6 (some .int), Cond.constant RX6 128 (65535), Cond.methodLink RX6 129 yX6_restBehind, Cond.methodLink RL 91 yX7_check, Cond.instanceMethod yX7_check, Cond.selects RX7 yX7_check yX7_check, Cond.code yX7_check cX7_check 6 (some .int), Cond.constantLong RX7 105 (255), Cond.methodLink RL 92 yX7_thrown, Cond.instanceMethod yX7_thrown, Cond.selects RX7 yX7_thrown yX7_thrown, Cond.code yX7_thrown cX7_thrown 1 (some .int), Cond.methodLink RL 96 yL_about, Cond.static yL_about, Cond.codeWith yL_about cL_about 5 (some .int) [(0, 10, 13, 13)], Cond.methodLink RL 45 yX6_about, Cond.instanceMethod yX6_about, Cond.selects RX6 yX6_about yX6_about, Cond.code yX6_about cX6_about 4 (some .int), Cond.methodLink RX6 132 yX0_fact]
def wsL_law0_r21 : List Cond := [Cond.instanceMethod yX0_fact, Cond.selects RX0 yX0_fact yX0_fact, Cond.code yX0_fact cX0_fact 2 (some .int), Cond.methodLink RL 98 yX7_about, Cond.instanceMethod yX7_about, Cond.selects RX7 yX7_about yX7_about, Cond.code yX7_about cX7_about 3 (some .int), Cond.methodLink RL 99 yL_restart, Cond.static yL_restart, Cond.codeWith yL_restart cL_restart 3 (some .int) [(0, 5, 8, 13)], Cond.methodLink RL 48 yX6_restart, Cond.instanceMethod yX6_restart, Cond.selects RX6 yX6_restart yX6_restart, Cond.code yX6_restart cX6_restart 2 none, Cond.methodLink RX6 135 yX0_beginAnew, Cond.instanceMethod yX0_beginAnew, Cond.selects RX0 yX0_beginAnew yX0_beginAnew, Cond.code yX0_beginAnew cX0_beginAnew 1 none, Cond.methodLink RX0 48 yX3_empty, Cond.instanceMethod yX3_empty, Cond.selects RX3 yX3_empty yX3_empty, Cond.code yX3_empty cX3_empty 1 none, Cond.methodLink RL 102 yX7_restart, Cond.instanceMethod yX7_restart]
def wsL_law0_r22 : List Cond := [Cond.selects RX7 yX7_restart yX7_restart, Cond.code yX7_restart cX7_restart 2 none]
def wsL_law0 : List Cond := (wsL_law0_r1 ++ (wsL_law0_r2 ++ (wsL_law0_r3 ++ (wsL_law0_r4 ++ (wsL_law0_r5 ++ (wsL_law0_r6 ++ (wsL_law0_r7 ++ (wsL_law0_r8 ++ (wsL_law0_r9 ++ (wsL_law0_r10 ++ (wsL_law0_r11 ++ (wsL_law0_r12 ++ (wsL_law0_r13 ++ (wsL_law0_r14 ++ (wsL_law0_r15 ++ (wsL_law0_r16 ++ (wsL_law0_r17 ++ (wsL_law0_r18 ++ (wsL_law0_r19 ++ (wsL_law0_r20 ++ (wsL_law0_r21 ++ wsL_law0_r22))))))))))))))))))))) ++ wsX60 ++ wsX70 ++ wsX00 ++ wsX50 ++ wsX20 ++ wsX30 ++ wsX40 ++ wsX10 ++ ([] : List Cond)
def wsL_law : List Cond := wsL_law0 ++ (vx_at0 RX6 29 "java/lang/IllegalArgumentException" ["java/lang/RuntimeException", "java/lang/Exception"]).filter goodWord ++ (vx_at0 RX6 46 "java/lang/IllegalStateException" ["java/lang/RuntimeException", "java/lang/Exception"]).filter goodWord
set_option maxRecDepth 20000 in
theorem ggX0_init_X2_init : GoodIn wsX0_init wsX2_init := goodIn_r _ [22, 23, 2, 3, 24, 25, 26, 27, 28, 29, 30, 31, 32, 45, 46, 68, 69] (by decide +kernel) (by decide +kernel)
set_option maxRecDepth 20000 in
theorem gX0_init_X2_init : GoodIn wsX0_init (wsX2_init) := ggX0_init_X2_init
set_option maxRecDepth 20000 in
theorem ggX0_init_X3_init : GoodIn wsX0_init wsX3_init := goodIn_r _ [34, 35, 2, 3, 36, 37, 38, 59, 60, 61, 62, 63, 64] (by decide +kernel) (by decide +kernel)
set_option maxRecDepth 20000 in
theorem gX0_init_X3_init_n20 : GoodIn wsX0_init (wsX3_init) := ggX0_init_X3_init
set_option maxRecDepth 20000 in
theorem ggX0_init_X4_init : GoodIn wsX0_init wsX4_init := goodIn_r _ [40, 41, 2, 3, 42, 43, 36, 44, 65, 66, 67] (by decide +kernel) (by decide +kernel)
set_option maxRecDepth 20000 in
theorem gX0_init_X4_init_n27 : GoodIn wsX0_init (wsX4_init) := ggX0_init_X4_init
theorem dX0_init_0 : decode cX0_init 0 = .ok (.aload_n 0, 1) := by decide +kernel
theorem dX0_init_1 : decode cX0_init 1 = .ok (.invokespecial 3, 3) := by decide +kernel
theorem dX0_init_4 : decode cX0_init 4 = .ok (.aload_n 0, 1) := by decide +kernel
theorem dX0_init_5 : decode cX0_init 5 = .ok (.new 9, 3) := by decide +kernel
theorem dX0_init_8 : decode cX0_init 8 = .ok (.dup, 1) := by decide +kernel
theorem dX0_init_9 : decode cX0_init 9 = .ok (.invokespecial 11, 3) := by decide +kernel
theorem dX0_init_12 : decode cX0_init 12 = .ok (.putfield 12, 3) := by decide +kernel
theorem dX0_init_15 : decode cX0_init 15 = .ok (.aload_n 0, 1) := by decide +kernel
theorem dX0_init_16 : decode cX0_init 16 = .ok (.new 18, 3) := by decide +kernel
theorem dX0_init_19 : decode cX0_init 19 = .ok (.dup, 1) := by decide +kernel
theorem dX0_init_20 : decode cX0_init 20 = .ok (.invokespecial 20, 3) := by decide +kernel
theorem dX0_init_23 : decode cX0_init 23 = .ok (.putfield 21, 3) := by decide +kernel
theorem dX0_init_26 : decode cX0_init 26 = .ok (.aload_n 0, 1) := by decide +kernel
theorem dX0_init_27 : decode cX0_init 27 = .ok (.new 25, 3) := by decide +kernel
theorem dX0_init_30 : decode cX0_init 30 = .ok (.dup, 1) := by decide +kernel
theorem dX0_init_31 : decode cX0_init 31 = .ok (.invokespecial 27, 3) := by decide +kernel
theorem dX0_init_34 : decode cX0_init 34 = .ok (.putfield 28, 3) := by decide +kernel
theorem dX0_init_37 : decode cX0_init 37 = .ok (.aload_n 0, 1) := by decide +kernel
theorem dX0_init_38 : decode cX0_init 38 = .ok (.iconst 1, 1) := by decide +kernel
theorem dX0_init_39 : decode cX0_init 39 = .ok (.putfield 32, 3) := by decide +kernel
theorem dX0_init_42 : decode cX0_init 42 = .ok (.aload_n 0, 1) := by decide +kernel
theorem dX0_init_43 : decode cX0_init 43 = .ok (.iconst 1, 1) := by decide +kernel
theorem dX0_init_44 : decode cX0_init 44 = .ok (.putfield 36, 3) := by decide +kernel
theorem dX0_init_47 : decode cX0_init 47 = .ok (.aload_n 0, 1) := by decide +kernel
theorem dX0_init_48 : decode cX0_init 48 = .ok (.bipush 127, 2) := by decide +kernel
theorem dX0_init_50 : decode cX0_init 50 = .ok (.putfield 39, 3) := by decide +kernel
theorem dX0_init_53 : decode cX0_init 53 = .ok (.aload_n 0, 1) := by decide +kernel
theorem dX0_init_54 : decode cX0_init 54 = .ok (.bipush 127, 2) := by decide +kernel
theorem dX0_init_56 : decode cX0_init 56 = .ok (.putfield 42, 3) := by decide +kernel
theorem dX0_init_59 : decode cX0_init 59 = .ok (.return_, 1) := by decide +kernel
set_option maxRecDepth 20000 in
theorem ggX0_beginAnew_X3_empty : GoodIn wsX0_beginAnew wsX3_empty := goodIn_r _ [16, 17, 18, 19, 34, 35, 36, 37, 38, 39] (by decide +kernel) (by decide +kernel)
set_option maxRecDepth 20000 in
theorem gX0_beginAnew_X3_empty : GoodIn wsX0_beginAnew (wsV RX0 48 RX3 yX3_empty wsX3_empty) := goodIn_app (goodIn_of _ (by decide +kernel)) ggX0_beginAnew_X3_empty
theorem dX0_beginAnew_0 : decode cX0_beginAnew 0 = .ok (.aload_n 0, 1) := by decide +kernel
theorem dX0_beginAnew_1 : decode cX0_beginAnew 1 = .ok (.getfield 12, 3) := by decide +kernel
theorem dX0_beginAnew_4 : decode cX0_beginAnew 4 = .ok (.iconst 0, 1) := by decide +kernel
theorem dX0_beginAnew_5 : decode cX0_beginAnew 5 = .ok (.putfield 45, 3) := by decide +kernel
theorem dX0_beginAnew_8 : decode cX0_beginAnew 8 = .ok (.aload_n 0, 1) := by decide +kernel
theorem dX0_beginAnew_9 : decode cX0_beginAnew 9 = .ok (.getfield 21, 3) := by decide +kernel
theorem dX0_beginAnew_12 : decode cX0_beginAnew 12 = .ok (.invokevirtual 48, 3) := by decide +kernel
theorem dX0_beginAnew_15 : decode cX0_beginAnew 15 = .ok (.aload_n 0, 1) := by decide +kernel
theorem dX0_beginAnew_16 : decode cX0_beginAnew 16 = .ok (.iconst 1, 1) := by decide +kernel
theorem dX0_beginAnew_17 : decode cX0_beginAnew 17 = .ok (.putfield 32, 3) := by decide +kernel
theorem dX0_beginAnew_20 : decode cX0_beginAnew 20 = .ok (.aload_n 0, 1) := by decide +kernel
theorem dX0_beginAnew_21 : decode cX0_beginAnew 21 = .ok (.iconst 1, 1) := by decide +kernel
theorem dX0_beginAnew_22 : decode cX0_beginAnew 22 = .ok (.putfield 36, 3) := by decide +kernel
theorem dX0_beginAnew_25 : decode cX0_beginAnew 25 = .ok (.aload_n 0, 1) := by decide +kernel
theorem dX0_beginAnew_26 : decode cX0_beginAnew 26 = .ok (.bipush 127, 2) := by decide +kernel
theorem dX0_beginAnew_28 : decode cX0_beginAnew 28 = .ok (.putfield 39, 3) := by decide +kernel
theorem dX0_beginAnew_31 : decode cX0_beginAnew 31 = .ok (.aload_n 0, 1) := by decide +kernel
theorem dX0_beginAnew_32 : decode cX0_beginAnew 32 = .ok (.bipush 127, 2) := by decide +kernel
theorem dX0_beginAnew_34 : decode cX0_beginAnew 34 = .ok (.putfield 42, 3) := by decide +kernel
theorem dX0_beginAnew_37 : decode cX0_beginAnew 37 = .ok (.aload_n 0, 1) := by decide +kernel
theorem dX0_beginAnew_38 : decode cX0_beginAnew 38 = .ok (.iconst 0, 1) := by decide +kernel
theorem dX0_beginAnew_39 : decode cX0_beginAnew 39 = .ok (.putfield 51, 3) := by decide +kernel
theorem dX0_beginAnew_42 : decode cX0_beginAnew 42 = .ok (.aload_n 0, 1) := by decide +kernel
theorem dX0_beginAnew_43 : decode cX0_beginAnew 43 = .ok (.iconst 0, 1) := by decide +kernel
theorem dX0_beginAnew_44 : decode cX0_beginAnew 44 = .ok (.putfield 54, 3) := by decide +kernel
theorem dX0_beginAnew_47 : decode cX0_beginAnew 47 = .ok (.aload_n 0, 1) := by decide +kernel
theorem dX0_beginAnew_48 : decode cX0_beginAnew 48 = .ok (.iconst 0, 1) := by decide +kernel
theorem dX0_beginAnew_49 : decode cX0_beginAnew 49 = .ok (.putfield 57, 3) := by decide +kernel
theorem dX0_beginAnew_52 : decode cX0_beginAnew 52 = .ok (.aload_n 0, 1) := by decide +kernel
theorem dX0_beginAnew_53 : decode cX0_beginAnew 53 = .ok (.iconst 0, 1) := by decide +kernel
theorem dX0_beginAnew_54 : decode cX0_beginAnew 54 = .ok (.putfield 61, 3) := by decide +kernel
theorem dX0_beginAnew_57 : decode cX0_beginAnew 57 = .ok (.aload_n 0, 1) := by decide +kernel
theorem dX0_beginAnew_58 : decode cX0_beginAnew 58 = .ok (.iconst 0, 1) := by decide +kernel
theorem dX0_beginAnew_59 : decode cX0_beginAnew 59 = .ok (.putfield 64, 3) := by decide +kernel
theorem dX0_beginAnew_62 : decode cX0_beginAnew 62 = .ok (.return_, 1) := by decide +kernel
set_option maxRecDepth 20000 in
theorem ggX0_nextUnit_X0_writeMessage : GoodIn wsX0_nextUnit wsX0_writeMessage := goodIn_r _ [7, 1, 2, 8, 9, 10, 11, 12, 13, 14, 15, 16, 17, 6, 18, 19, 20, 21, 22, 23, 24, 25, 26, 27, 28, 29, 30, 31, 32, 33, 34, 35, 36, 37, 38, 39, 40, 41, 42, 43, 44, 45, 46, 47, 48, 49, 50, 51, 52, 53, 66, 67, 68, 69, 70, 71, 72, 73, 74, 75, 76, 77, 78, 79, 80, 81, 82, 83, 84, 85] (by decide +kernel) (by decide +kernel)
set_option maxRecDepth 20000 in
theorem gX0_nextUnit_X0_writeMessage : GoodIn wsX0_nextUnit (wsV RX0 70 RX0 yX0_writeMessage wsX0_writeMessage) := goodIn_app (goodIn_of _ (by decide +kernel)) ggX0_nextUnit_X0_writeMessage
set_option maxRecDepth 20000 in
theorem ggX0_nextUnit_X3_mayGoFirstTime : GoodIn wsX0_nextUnit wsX3_mayGoFirstTime := goodIn_r _ [57, 58, 59, 78, 79, 80, 81, 82, 83] (by decide +kernel) (by decide +kernel)
set_option maxRecDepth 20000 in
theorem gX0_nextUnit_X3_mayGoFirstTime : GoodIn wsX0_nextUnit (wsV RX0 74 RX3 yX3_mayGoFirstTime wsX3_mayGoFirstTime) := goodIn_app (goodIn_of _ (by decide +kernel)) ggX0_nextUnit_X3_mayGoFirstTime
set_option maxRecDepth 20000 in
theorem ggX0_nextUnit_X3_goFirstTime : GoodIn wsX0_nextUnit wsX3_goFirstTime := goodIn_r _ [63, 58, 59, 78, 79, 80, 81, 82, 83] (by decide +kernel) (by decide +kernel)
set_option maxRecDepth 20000 in
theorem gX0_nextUnit_X3_goFirstTime : GoodIn wsX0_nextUnit (wsV RX0 78 RX3 yX3_goFirstTime wsX3_goFirstTime) := goodIn_app (goodIn_of _ (by decide +kernel)) ggX0_nextUnit_X3_goFirstTime
set_option maxRecDepth 20000 in
theorem ggX0_nextUnit_X6_nextNumber : GoodIn wsX0_nextUnit wsX6_nextNumber := goodIn_r _ [65] (by decide +kernel) (by decide +kernel)
set_option maxRecDepth 20000 in
theorem gX0_nextUnit_X6_nextNumber_n81 : GoodIn wsX0_nextUnit (wsX6_nextNumber) := ggX0_nextUnit_X6_nextNumber
set_option maxRecDepth 20000 in
theorem ggX0_nextUnit_X0_writeUnit : GoodIn wsX0_nextUnit wsX0_writeUnit := goodIn_r _ [18, 19, 20, 21, 22, 23, 24, 25, 26, 27, 28, 29, 30, 31, 32, 33, 34, 35, 36, 37, 38, 39, 40, 41, 42, 43, 44, 45, 46, 47, 48, 49, 50, 51, 52, 53, 66, 67, 68, 69, 70, 71, 72, 73, 74, 75, 76, 77, 84, 85] (by decide +kernel) (by decide +kernel)
set_option maxRecDepth 20000 in
theorem gX0_nextUnit_X0_writeUnit : GoodIn wsX0_nextUnit (wsV RX0 85 RX0 yX0_writeUnit wsX0_writeUnit) := goodIn_app (goodIn_of _ (by decide +kernel)) ggX0_nextUnit_X0_writeUnit
theorem dX0_nextUnit_0 : decode cX0_nextUnit 0 = .ok (.aload_n 0, 1) := by decide +kernel
theorem dX0_nextUnit_1 : decode cX0_nextUnit 1 = .ok (.getfield 21, 3) := by decide +kernel
theorem dX0_nextUnit_4 : decode cX0_nextUnit 4 = .ok (.getfield 67, 3) := by decide +kernel
theorem dX0_nextUnit_7 : decode cX0_nextUnit 7 = .ok (.ifCond .le 29, 3) := by decide +kernel
theorem dX0_nextUnit_10 : decode cX0_nextUnit 10 = .ok (.aload_n 0, 1) := by decide +kernel
theorem dX0_nextUnit_11 : decode cX0_nextUnit 11 = .ok (.getfield 21, 3) := by decide +kernel
theorem dX0_nextUnit_14 : decode cX0_nextUnit 14 = .ok (.getfield 67, 3) := by decide +kernel
theorem dX0_nextUnit_17 : decode cX0_nextUnit 17 = .ok (.iconst 1, 1) := by decide +kernel
theorem dX0_nextUnit_18 : decode cX0_nextUnit 18 = .ok (.isub, 1) := by decide +kernel
theorem dX0_nextUnit_19 : decode cX0_nextUnit 19 = .ok (.istore_n 2, 1) := by decide +kernel
theorem dX0_nextUnit_20 : decode cX0_nextUnit 20 = .ok (.aload_n 0, 1) := by decide +kernel
theorem dX0_nextUnit_21 : decode cX0_nextUnit 21 = .ok (.getfield 21, 3) := by decide +kernel
theorem dX0_nextUnit_24 : decode cX0_nextUnit 24 = .ok (.iload_n 2, 1) := by decide +kernel
theorem dX0_nextUnit_25 : decode cX0_nextUnit 25 = .ok (.putfield 67, 3) := by decide +kernel
theorem dX0_nextUnit_28 : decode cX0_nextUnit 28 = .ok (.aload_n 0, 1) := by decide +kernel
theorem dX0_nextUnit_29 : decode cX0_nextUnit 29 = .ok (.aload_n 1, 1) := by decide +kernel
theorem dX0_nextUnit_30 : decode cX0_nextUnit 30 = .ok (.iload_n 2, 1) := by decide +kernel
theorem dX0_nextUnit_31 : decode cX0_nextUnit 31 = .ok (.invokevirtual 70, 3) := by decide +kernel
theorem dX0_nextUnit_34 : decode cX0_nextUnit 34 = .ok (.iconst 2, 1) := by decide +kernel
theorem dX0_nextUnit_35 : decode cX0_nextUnit 35 = .ok (.ireturn, 1) := by decide +kernel
theorem dX0_nextUnit_36 : decode cX0_nextUnit 36 = .ok (.aload_n 0, 1) := by decide +kernel
theorem dX0_nextUnit_37 : decode cX0_nextUnit 37 = .ok (.getfield 21, 3) := by decide +kernel
theorem dX0_nextUnit_40 : decode cX0_nextUnit 40 = .ok (.invokevirtual 74, 3) := by decide +kernel
theorem dX0_nextUnit_43 : decode cX0_nextUnit 43 = .ok (.ifCond .eq 29, 3) := by decide +kernel
theorem dX0_nextUnit_46 : decode cX0_nextUnit 46 = .ok (.aload_n 0, 1) := by decide +kernel
theorem dX0_nextUnit_47 : decode cX0_nextUnit 47 = .ok (.getfield 21, 3) := by decide +kernel
theorem dX0_nextUnit_50 : decode cX0_nextUnit 50 = .ok (.invokevirtual 78, 3) := by decide +kernel
theorem dX0_nextUnit_53 : decode cX0_nextUnit 53 = .ok (.aload_n 0, 1) := by decide +kernel
theorem dX0_nextUnit_54 : decode cX0_nextUnit 54 = .ok (.aload_n 0, 1) := by decide +kernel
theorem dX0_nextUnit_55 : decode cX0_nextUnit 55 = .ok (.getfield 39, 3) := by decide +kernel
theorem dX0_nextUnit_58 : decode cX0_nextUnit 58 = .ok (.invokestatic 81, 3) := by decide +kernel
theorem dX0_nextUnit_61 : decode cX0_nextUnit 61 = .ok (.putfield 39, 3) := by decide +kernel
theorem dX0_nextUnit_64 : decode cX0_nextUnit 64 = .ok (.aload_n 0, 1) := by decide +kernel
theorem dX0_nextUnit_65 : decode cX0_nextUnit 65 = .ok (.aload_n 1, 1) := by decide +kernel
theorem dX0_nextUnit_66 : decode cX0_nextUnit 66 = .ok (.iconst 0, 1) := by decide +kernel
theorem dX0_nextUnit_67 : decode cX0_nextUnit 67 = .ok (.invokevirtual 70, 3) := by decide +kernel
theorem dX0_nextUnit_70 : decode cX0_nextUnit 70 = .ok (.iconst 1, 1) := by decide +kernel
theorem dX0_nextUnit_71 : decode cX0_nextUnit 71 = .ok (.ireturn, 1) := by decide +kernel
theorem dX0_nextUnit_72 : decode cX0_nextUnit 72 = .ok (.aload_n 0, 1) := by decide +kernel
theorem dX0_nextUnit_73 : decode cX0_nextUnit 73 = .ok (.aload_n 1, 1) := by decide +kernel
theorem dX0_nextUnit_74 : decode cX0_nextUnit 74 = .ok (.aload_n 0, 1) := by decide +kernel
theorem dX0_nextUnit_75 : decode cX0_nextUnit 75 = .ok (.getfield 39, 3) := by decide +kernel
theorem dX0_nextUnit_78 : decode cX0_nextUnit 78 = .ok (.iconst 0, 1) := by decide +kernel
theorem dX0_nextUnit_79 : decode cX0_nextUnit 79 = .ok (.iconst 0, 1) := by decide +kernel
theorem dX0_nextUnit_80 : decode cX0_nextUnit 80 = .ok (.invokevirtual 85, 3) := by decide +kernel
theorem dX0_nextUnit_83 : decode cX0_nextUnit 83 = .ok (.iconst 0, 1) := by decide +kernel
theorem dX0_nextUnit_84 : decode cX0_nextUnit 84 = .ok (.ireturn, 1) := by decide +kernel
set_option maxRecDepth 20000 in
theorem ggX0_writeMessage_X3_placeOf : GoodIn wsX0_writeMessage wsX3_placeOf := goodIn_r _ [7, 8, 9, 62, 63, 64, 65, 66, 67] (by decide +kernel) (by decide +kernel)
set_option maxRecDepth 20000 in
theorem gX0_writeMessage_X3_placeOf : GoodIn wsX0_writeMessage (wsV RX0 92 RX3 yX3_placeOf wsX3_placeOf) := goodIn_app (goodIn_of _ (by decide +kernel)) ggX0_writeMessage_X3_placeOf
set_option maxRecDepth 20000 in
theorem ggX0_writeMessage_X0_writeUnit : GoodIn wsX0_writeMessage wsX0_writeUnit := goodIn_r _ [14, 15, 16, 17, 18, 19, 20, 21, 22, 23, 24, 25, 26, 27, 28, 29, 30, 31, 32, 33, 34, 35, 36, 37, 38, 39, 40, 41, 42, 43, 44, 45, 46, 47, 48, 49, 50, 51, 52, 53, 54, 55, 56, 57, 58, 59, 60, 61, 68, 69] (by decide +kernel) (by decide +kernel)
set_option maxRecDepth 20000 in
theorem gX0_writeMessage_X0_writeUnit : GoodIn wsX0_writeMessage (wsV RX0 85 RX0 yX0_writeUnit wsX0_writeUnit) := goodIn_app (goodIn_of _ (by decide +kernel)) ggX0_writeMessage_X0_writeUnit
theorem dX0_writeMessage_0 : decode cX0_writeMessage 0 = .ok (.aload_n 0, 1) := by decide +kernel
theorem dX0_writeMessage_1 : decode cX0_writeMessage 1 = .ok (.getfield 21, 3) := by decide +kernel
theorem dX0_writeMessage_4 : decode cX0_writeMessage 4 = .ok (.aload_n 0, 1) := by decide +kernel
theorem dX0_writeMessage_5 : decode cX0_writeMessage 5 = .ok (.getfield 21, 3) := by decide +kernel
theorem dX0_writeMessage_8 : decode cX0_writeMessage 8 = .ok (.getfield 89, 3) := by decide +kernel
theorem dX0_writeMessage_11 : decode cX0_writeMessage 11 = .ok (.iconst 1, 1) := by decide +kernel
theorem dX0_writeMessage_12 : decode cX0_writeMessage 12 = .ok (.isub, 1) := by decide +kernel
theorem dX0_writeMessage_13 : decode cX0_writeMessage 13 = .ok (.iload_n 2, 1) := by decide +kernel
theorem dX0_writeMessage_14 : decode cX0_writeMessage 14 = .ok (.isub, 1) := by decide +kernel
theorem dX0_writeMessage_15 : decode cX0_writeMessage 15 = .ok (.invokevirtual 92, 3) := by decide +kernel
theorem dX0_writeMessage_18 : decode cX0_writeMessage 18 = .ok (.istore_n 3, 1) := by decide +kernel
theorem dX0_writeMessage_19 : decode cX0_writeMessage 19 = .ok (.aload_n 0, 1) := by decide +kernel
theorem dX0_writeMessage_20 : decode cX0_writeMessage 20 = .ok (.getfield 39, 3) := by decide +kernel
theorem dX0_writeMessage_23 : decode cX0_writeMessage 23 = .ok (.iload_n 2, 1) := by decide +kernel
theorem dX0_writeMessage_24 : decode cX0_writeMessage 24 = .ok (.isub, 1) := by decide +kernel
theorem dX0_writeMessage_25 : decode cX0_writeMessage 25 = .ok (.bipush 127, 2) := by decide +kernel
theorem dX0_writeMessage_27 : decode cX0_writeMessage 27 = .ok (.iand, 1) := by decide +kernel
theorem dX0_writeMessage_28 : decode cX0_writeMessage 28 = .ok (.istore 4, 2) := by decide +kernel
theorem dX0_writeMessage_30 : decode cX0_writeMessage 30 = .ok (.aload_n 0, 1) := by decide +kernel
theorem dX0_writeMessage_31 : decode cX0_writeMessage 31 = .ok (.aload_n 1, 1) := by decide +kernel
theorem dX0_writeMessage_32 : decode cX0_writeMessage 32 = .ok (.iload 4, 2) := by decide +kernel
theorem dX0_writeMessage_34 : decode cX0_writeMessage 34 = .ok (.aload_n 0, 1) := by decide +kernel
theorem dX0_writeMessage_35 : decode cX0_writeMessage 35 = .ok (.getfield 21, 3) := by decide +kernel
theorem dX0_writeMessage_38 : decode cX0_writeMessage 38 = .ok (.getfield 95, 3) := by decide +kernel
theorem dX0_writeMessage_41 : decode cX0_writeMessage 41 = .ok (.iload_n 3, 1) := by decide +kernel
theorem dX0_writeMessage_42 : decode cX0_writeMessage 42 = .ok (.iaload, 1) := by decide +kernel
theorem dX0_writeMessage_43 : decode cX0_writeMessage 43 = .ok (.aload_n 0, 1) := by decide +kernel
theorem dX0_writeMessage_44 : decode cX0_writeMessage 44 = .ok (.getfield 21, 3) := by decide +kernel
theorem dX0_writeMessage_47 : decode cX0_writeMessage 47 = .ok (.getfield 99, 3) := by decide +kernel
theorem dX0_writeMessage_50 : decode cX0_writeMessage 50 = .ok (.iload_n 3, 1) := by decide +kernel
theorem dX0_writeMessage_51 : decode cX0_writeMessage 51 = .ok (.iaload, 1) := by decide +kernel
theorem dX0_writeMessage_52 : decode cX0_writeMessage 52 = .ok (.invokevirtual 85, 3) := by decide +kernel
theorem dX0_writeMessage_55 : decode cX0_writeMessage 55 = .ok (.return_, 1) := by decide +kernel
set_option maxRecDepth 20000 in
theorem ggX0_writeUnit_X5_writeHead : GoodIn wsX0_writeUnit wsX5_writeHead := goodIn_r _ [8, 9, 10, 11, 12, 13, 14, 48, 49] (by decide +kernel) (by decide +kernel)
set_option maxRecDepth 20000 in
theorem gX0_writeUnit_X5_writeHead : GoodIn wsX0_writeUnit (wsV RX0 102 RX5 yX5_writeHead wsX5_writeHead) := goodIn_app (goodIn_of _ (by decide +kernel)) ggX0_writeUnit_X5_writeHead
set_option maxRecDepth 20000 in
theorem ggX0_writeUnit_X5_writeBody : GoodIn wsX0_writeUnit wsX5_writeBody := goodIn_r _ [18, 9, 19, 20, 21, 7, 22, 14, 48, 49] (by decide +kernel) (by decide +kernel)
set_option maxRecDepth 20000 in
theorem gX0_writeUnit_X5_writeBody : GoodIn wsX0_writeUnit (wsV RX0 108 RX5 yX5_writeBody wsX5_writeBody) := goodIn_app (goodIn_of _ (by decide +kernel)) ggX0_writeUnit_X5_writeBody
set_option maxRecDepth 20000 in
theorem ggX0_writeUnit_X5_writeCheck : GoodIn wsX0_writeUnit wsX5_writeCheck := goodIn_r _ [26, 9, 14, 27, 28, 29, 7, 30, 31, 32, 33, 34, 35, 48, 49] (by decide +kernel) (by decide +kernel)
set_option maxRecDepth 20000 in
theorem gX0_writeUnit_X5_writeCheck : GoodIn wsX0_writeUnit (wsV RX0 112 RX5 yX5_writeCheck wsX5_writeCheck) := goodIn_app (goodIn_of _ (by decide +kernel)) ggX0_writeUnit_X5_writeCheck
theorem dX0_writeUnit_0 : decode cX0_writeUnit 0 = .ok (.aload_n 0, 1) := by decide +kernel
theorem dX0_writeUnit_1 : decode cX0_writeUnit 1 = .ok (.getfield 42, 3) := by decide +kernel
theorem dX0_writeUnit_4 : decode cX0_writeUnit 4 = .ok (.sipush 128, 3) := by decide +kernel
theorem dX0_writeUnit_7 : decode cX0_writeUnit 7 = .ok (.aload_n 0, 1) := by decide +kernel
theorem dX0_writeUnit_8 : decode cX0_writeUnit 8 = .ok (.getfield 36, 3) := by decide +kernel
theorem dX0_writeUnit_11 : decode cX0_writeUnit 11 = .ok (.imul, 1) := by decide +kernel
theorem dX0_writeUnit_12 : decode cX0_writeUnit 12 = .ok (.iadd, 1) := by decide +kernel
theorem dX0_writeUnit_13 : decode cX0_writeUnit 13 = .ok (.istore 5, 2) := by decide +kernel
theorem dX0_writeUnit_15 : decode cX0_writeUnit 15 = .ok (.aload_n 1, 1) := by decide +kernel
theorem dX0_writeUnit_16 : decode cX0_writeUnit 16 = .ok (.iload 5, 2) := by decide +kernel
theorem dX0_writeUnit_18 : decode cX0_writeUnit 18 = .ok (.iload_n 2, 1) := by decide +kernel
theorem dX0_writeUnit_19 : decode cX0_writeUnit 19 = .ok (.sipush 128, 3) := by decide +kernel
theorem dX0_writeUnit_22 : decode cX0_writeUnit 22 = .ok (.aload_n 0, 1) := by decide +kernel
theorem dX0_writeUnit_23 : decode cX0_writeUnit 23 = .ok (.getfield 32, 3) := by decide +kernel
theorem dX0_writeUnit_26 : decode cX0_writeUnit 26 = .ok (.imul, 1) := by decide +kernel
theorem dX0_writeUnit_27 : decode cX0_writeUnit 27 = .ok (.iadd, 1) := by decide +kernel
theorem dX0_writeUnit_28 : decode cX0_writeUnit 28 = .ok (.iload_n 3, 1) := by decide +kernel
theorem dX0_writeUnit_29 : decode cX0_writeUnit 29 = .ok (.invokevirtual 102, 3) := by decide +kernel
theorem dX0_writeUnit_32 : decode cX0_writeUnit 32 = .ok (.aload_n 1, 1) := by decide +kernel
theorem dX0_writeUnit_33 : decode cX0_writeUnit 33 = .ok (.iload 4, 2) := by decide +kernel
theorem dX0_writeUnit_35 : decode cX0_writeUnit 35 = .ok (.invokevirtual 108, 3) := by decide +kernel
theorem dX0_writeUnit_38 : decode cX0_writeUnit 38 = .ok (.aload_n 1, 1) := by decide +kernel
theorem dX0_writeUnit_39 : decode cX0_writeUnit 39 = .ok (.invokevirtual 112, 3) := by decide +kernel
theorem dX0_writeUnit_42 : decode cX0_writeUnit 42 = .ok (.return_, 1) := by decide +kernel
set_option maxRecDepth 20000 in
theorem ggX0_takeUnit_X0_isAbnormal : GoodIn wsX0_takeUnit wsX0_isAbnormal := goodIn_r _ [10, 11, 12, 13, 14, 9, 15, 16, 17, 18, 19, 20, 21, 22, 85, 86, 87, 88, 89, 90, 91, 92, 93, 94, 95, 96, 97, 98, 99, 100, 101, 102, 103, 104] (by decide +kernel) (by decide +kernel)
set_option maxRecDepth 20000 in
theorem gX0_takeUnit_X0_isAbnormal : GoodIn wsX0_takeUnit (wsV RX0 115 RX0 yX0_isAbnormal wsX0_isAbnormal) := goodIn_app (goodIn_of _ (by decide +kernel)) ggX0_takeUnit_X0_isAbnormal
set_option maxRecDepth 20000 in
theorem ggX0_takeUnit_X0_takeBackward : GoodIn wsX0_takeUnit wsX0_takeBackward := goodIn_r _ [26, 11, 27, 12, 13, 14, 9, 15, 16, 17, 18, 19, 20, 21, 22, 28, 29, 30, 31, 32, 33, 34, 35, 36, 37, 38, 39, 40, 41, 42, 43, 44, 45, 46, 47, 48, 85, 86, 87, 88, 89, 90, 91, 92, 93, 94, 95, 96, 97, 98, 99, 100, 101, 102, 103, 104] (by decide +kernel) (by decide +kernel)
set_option maxRecDepth 20000 in
theorem gX0_takeUnit_X0_takeBackward : GoodIn wsX0_takeUnit (wsV RX0 119 RX0 yX0_takeBackward wsX0_takeBackward) := goodIn_app (goodIn_of _ (by decide +kernel)) ggX0_takeUnit_X0_takeBackward
set_option maxRecDepth 20000 in
theorem ggX0_takeUnit_X0_takeForward : GoodIn wsX0_takeUnit wsX0_takeForward := goodIn_r _ [52, 53, 54, 55, 56, 57, 58, 20, 59, 22, 60, 61, 62, 63, 64, 65, 66, 67, 68, 69, 70, 71, 72, 73, 74, 75, 76, 77, 78, 79, 80, 81, 82, 83, 84, 85, 86, 87, 88, 89, 90, 91, 92, 93, 94, 95, 96, 103, 104, 105, 106, 107] (by decide +kernel) (by decide +kernel)
set_option maxRecDepth 20000 in
theorem gX0_takeUnit_X0_takeForward : GoodIn wsX0_takeUnit (wsV RX0 123 RX0 yX0_takeForward wsX0_takeForward) := goodIn_app (goodIn_of _ (by decide +kernel)) ggX0_takeUnit_X0_takeForward
theorem dX0_takeUnit_0 : decode cX0_takeUnit 0 = .ok (.aload_n 0, 1) := by decide +kernel
theorem dX0_takeUnit_1 : decode cX0_takeUnit 1 = .ok (.dup, 1) := by decide +kernel
theorem dX0_takeUnit_2 : decode cX0_takeUnit 2 = .ok (.getfield 54, 3) := by decide +kernel
theorem dX0_takeUnit_5 : decode cX0_takeUnit 5 = .ok (.iconst 1, 1) := by decide +kernel
theorem dX0_takeUnit_6 : decode cX0_takeUnit 6 = .ok (.iadd, 1) := by decide +kernel
theorem dX0_takeUnit_7 : decode cX0_takeUnit 7 = .ok (.putfield 54, 3) := by decide +kernel
theorem dX0_takeUnit_10 : decode cX0_takeUnit 10 = .ok (.aload_n 0, 1) := by decide +kernel
theorem dX0_takeUnit_11 : decode cX0_takeUnit 11 = .ok (.getfield 54, 3) := by decide +kernel
theorem dX0_takeUnit_14 : decode cX0_takeUnit 14 = .ok (.sipush 256, 3) := by decide +kernel
theorem dX0_takeUnit_17 : decode cX0_takeUnit 17 = .ok (.irem, 1) := by decide +kernel
theorem dX0_takeUnit_18 : decode cX0_takeUnit 18 = .ok (.ifCond .ne 20, 3) := by decide +kernel
theorem dX0_takeUnit_21 : decode cX0_takeUnit 21 = .ok (.aload_n 0, 1) := by decide +kernel
theorem dX0_takeUnit_22 : decode cX0_takeUnit 22 = .ok (.getfield 51, 3) := by decide +kernel
theorem dX0_takeUnit_25 : decode cX0_takeUnit 25 = .ok (.ifCond .le 13, 3) := by decide +kernel
theorem dX0_takeUnit_28 : decode cX0_takeUnit 28 = .ok (.aload_n 0, 1) := by decide +kernel
theorem dX0_takeUnit_29 : decode cX0_takeUnit 29 = .ok (.dup, 1) := by decide +kernel
theorem dX0_takeUnit_30 : decode cX0_takeUnit 30 = .ok (.getfield 51, 3) := by decide +kernel
theorem dX0_takeUnit_33 : decode cX0_takeUnit 33 = .ok (.iconst 1, 1) := by decide +kernel
theorem dX0_takeUnit_34 : decode cX0_takeUnit 34 = .ok (.isub, 1) := by decide +kernel
theorem dX0_takeUnit_35 : decode cX0_takeUnit 35 = .ok (.putfield 51, 3) := by decide +kernel
theorem dX0_takeUnit_38 : decode cX0_takeUnit 38 = .ok (.iload_n 2, 1) := by decide +kernel
theorem dX0_takeUnit_39 : decode cX0_takeUnit 39 = .ok (.ifCond .eq 34, 3) := by decide +kernel
theorem dX0_takeUnit_42 : decode cX0_takeUnit 42 = .ok (.aload_n 0, 1) := by decide +kernel
theorem dX0_takeUnit_43 : decode cX0_takeUnit 43 = .ok (.dup, 1) := by decide +kernel
theorem dX0_takeUnit_44 : decode cX0_takeUnit 44 = .ok (.getfield 51, 3) := by decide +kernel
theorem dX0_takeUnit_47 : decode cX0_takeUnit 47 = .ok (.iconst 1, 1) := by decide +kernel
theorem dX0_takeUnit_48 : decode cX0_takeUnit 48 = .ok (.iadd, 1) := by decide +kernel
theorem dX0_takeUnit_49 : decode cX0_takeUnit 49 = .ok (.putfield 51, 3) := by decide +kernel
theorem dX0_takeUnit_52 : decode cX0_takeUnit 52 = .ok (.aload_n 0, 1) := by decide +kernel
theorem dX0_takeUnit_53 : decode cX0_takeUnit 53 = .ok (.aload_n 0, 1) := by decide +kernel
theorem dX0_takeUnit_54 : decode cX0_takeUnit 54 = .ok (.getfield 51, 3) := by decide +kernel
theorem dX0_takeUnit_57 : decode cX0_takeUnit 57 = .ok (.bipush 64, 2) := by decide +kernel
theorem dX0_takeUnit_59 : decode cX0_takeUnit 59 = .ok (.if_icmp .lt 7, 3) := by decide +kernel
theorem dX0_takeUnit_62 : decode cX0_takeUnit 62 = .ok (.iconst 1, 1) := by decide +kernel
theorem dX0_takeUnit_63 : decode cX0_takeUnit 63 = .ok (.goto 4, 3) := by decide +kernel
theorem dX0_takeUnit_66 : decode cX0_takeUnit 66 = .ok (.iconst 0, 1) := by decide +kernel
theorem dX0_takeUnit_67 : decode cX0_takeUnit 67 = .ok (.putfield 57, 3) := by decide +kernel
theorem dX0_takeUnit_70 : decode cX0_takeUnit 70 = .ok (.iload_n 2, 1) := by decide +kernel
theorem dX0_takeUnit_71 : decode cX0_takeUnit 71 = .ok (.ineg, 1) := by decide +kernel
theorem dX0_takeUnit_72 : decode cX0_takeUnit 72 = .ok (.ireturn, 1) := by decide +kernel
theorem dX0_takeUnit_73 : decode cX0_takeUnit 73 = .ok (.aload_n 0, 1) := by decide +kernel
theorem dX0_takeUnit_74 : decode cX0_takeUnit 74 = .ok (.aload_n 1, 1) := by decide +kernel
theorem dX0_takeUnit_75 : decode cX0_takeUnit 75 = .ok (.invokevirtual 115, 3) := by decide +kernel
theorem dX0_takeUnit_78 : decode cX0_takeUnit 78 = .ok (.istore_n 3, 1) := by decide +kernel
theorem dX0_takeUnit_79 : decode cX0_takeUnit 79 = .ok (.aload_n 0, 1) := by decide +kernel
theorem dX0_takeUnit_80 : decode cX0_takeUnit 80 = .ok (.iload_n 3, 1) := by decide +kernel
theorem dX0_takeUnit_81 : decode cX0_takeUnit 81 = .ok (.ifCond .eq 21, 3) := by decide +kernel
theorem dX0_takeUnit_84 : decode cX0_takeUnit 84 = .ok (.aload_n 0, 1) := by decide +kernel
theorem dX0_takeUnit_85 : decode cX0_takeUnit 85 = .ok (.getfield 61, 3) := by decide +kernel
theorem dX0_takeUnit_88 : decode cX0_takeUnit 88 = .ok (.ifCond .ne 10, 3) := by decide +kernel
theorem dX0_takeUnit_91 : decode cX0_takeUnit 91 = .ok (.aload_n 0, 1) := by decide +kernel
theorem dX0_takeUnit_92 : decode cX0_takeUnit 92 = .ok (.getfield 64, 3) := by decide +kernel
theorem dX0_takeUnit_95 : decode cX0_takeUnit 95 = .ok (.ifCond .eq 7, 3) := by decide +kernel
theorem dX0_takeUnit_98 : decode cX0_takeUnit 98 = .ok (.iconst 1, 1) := by decide +kernel
theorem dX0_takeUnit_99 : decode cX0_takeUnit 99 = .ok (.goto 4, 3) := by decide +kernel
theorem dX0_takeUnit_102 : decode cX0_takeUnit 102 = .ok (.iconst 0, 1) := by decide +kernel
theorem dX0_takeUnit_103 : decode cX0_takeUnit 103 = .ok (.putfield 57, 3) := by decide +kernel
theorem dX0_takeUnit_106 : decode cX0_takeUnit 106 = .ok (.aload_n 0, 1) := by decide +kernel
theorem dX0_takeUnit_107 : decode cX0_takeUnit 107 = .ok (.aload_n 0, 1) := by decide +kernel
theorem dX0_takeUnit_108 : decode cX0_takeUnit 108 = .ok (.getfield 61, 3) := by decide +kernel
theorem dX0_takeUnit_111 : decode cX0_takeUnit 111 = .ok (.putfield 64, 3) := by decide +kernel
theorem dX0_takeUnit_114 : decode cX0_takeUnit 114 = .ok (.aload_n 0, 1) := by decide +kernel
theorem dX0_takeUnit_115 : decode cX0_takeUnit 115 = .ok (.iload_n 3, 1) := by decide +kernel
theorem dX0_takeUnit_116 : decode cX0_takeUnit 116 = .ok (.putfield 61, 3) := by decide +kernel
theorem dX0_takeUnit_119 : decode cX0_takeUnit 119 = .ok (.iload_n 3, 1) := by decide +kernel
theorem dX0_takeUnit_120 : decode cX0_takeUnit 120 = .ok (.ifCond .eq 5, 3) := by decide +kernel
theorem dX0_takeUnit_123 : decode cX0_takeUnit 123 = .ok (.iconst 3, 1) := by decide +kernel
theorem dX0_takeUnit_124 : decode cX0_takeUnit 124 = .ok (.ireturn, 1) := by decide +kernel
theorem dX0_takeUnit_125 : decode cX0_takeUnit 125 = .ok (.aload_n 0, 1) := by decide +kernel
theorem dX0_takeUnit_126 : decode cX0_takeUnit 126 = .ok (.aload_n 1, 1) := by decide +kernel
theorem dX0_takeUnit_127 : decode cX0_takeUnit 127 = .ok (.invokevirtual 119, 3) := by decide +kernel
theorem dX0_takeUnit_130 : decode cX0_takeUnit 130 = .ok (.aload_n 0, 1) := by decide +kernel
theorem dX0_takeUnit_131 : decode cX0_takeUnit 131 = .ok (.aload_n 1, 1) := by decide +kernel
theorem dX0_takeUnit_132 : decode cX0_takeUnit 132 = .ok (.invokevirtual 123, 3) := by decide +kernel
theorem dX0_takeUnit_135 : decode cX0_takeUnit 135 = .ok (.ireturn, 1) := by decide +kernel
set_option maxRecDepth 20000 in
theorem ggX0_toldBy_X5_backwardNumber : GoodIn wsX0_toldBy wsX5_backwardNumber := goodIn_r _ [7, 8, 27, 28] (by decide +kernel) (by decide +kernel)
set_option maxRecDepth 20000 in
theorem gX0_toldBy_X5_backwardNumber : GoodIn wsX0_toldBy (wsV RX0 127 RX5 yX5_backwardNumber wsX5_backwardNumber) := goodIn_app (goodIn_of _ (by decide +kernel)) ggX0_toldBy_X5_backwardNumber
theorem dX0_toldBy_0 : decode cX0_toldBy 0 = .ok (.aload_n 0, 1) := by decide +kernel
theorem dX0_toldBy_1 : decode cX0_toldBy 1 = .ok (.getfield 39, 3) := by decide +kernel
theorem dX0_toldBy_4 : decode cX0_toldBy 4 = .ok (.aload_n 0, 1) := by decide +kernel
theorem dX0_toldBy_5 : decode cX0_toldBy 5 = .ok (.getfield 21, 3) := by decide +kernel
theorem dX0_toldBy_8 : decode cX0_toldBy 8 = .ok (.getfield 89, 3) := by decide +kernel
theorem dX0_toldBy_11 : decode cX0_toldBy 11 = .ok (.isub, 1) := by decide +kernel
theorem dX0_toldBy_12 : decode cX0_toldBy 12 = .ok (.istore_n 2, 1) := by decide +kernel
theorem dX0_toldBy_13 : decode cX0_toldBy 13 = .ok (.aload_n 1, 1) := by decide +kernel
theorem dX0_toldBy_14 : decode cX0_toldBy 14 = .ok (.invokevirtual 127, 3) := by decide +kernel
theorem dX0_toldBy_17 : decode cX0_toldBy 17 = .ok (.iload_n 2, 1) := by decide +kernel
theorem dX0_toldBy_18 : decode cX0_toldBy 18 = .ok (.isub, 1) := by decide +kernel
theorem dX0_toldBy_19 : decode cX0_toldBy 19 = .ok (.bipush 127, 2) := by decide +kernel
theorem dX0_toldBy_21 : decode cX0_toldBy 21 = .ok (.iand, 1) := by decide +kernel
theorem dX0_toldBy_22 : decode cX0_toldBy 22 = .ok (.ireturn, 1) := by decide +kernel
set_option maxRecDepth 20000 in
theorem ggX0_isAbnormal_X0_toldBy : GoodIn wsX0_isAbnormal wsX0_toldBy := goodIn_r _ [6, 7, 1, 8, 9, 10, 11, 12, 13, 14, 15, 16, 17, 18, 19, 20, 21, 22, 23, 24, 25, 26, 27, 28, 29, 30, 31, 32, 33] (by decide +kernel) (by decide +kernel)
set_option maxRecDepth 20000 in
theorem gX0_isAbnormal_X0_toldBy : GoodIn wsX0_isAbnormal (wsV RX0 131 RX0 yX0_toldBy wsX0_toldBy) := goodIn_app (goodIn_of _ (by decide +kernel)) ggX0_isAbnormal_X0_toldBy
theorem dX0_isAbnormal_0 : decode cX0_isAbnormal 0 = .ok (.aload_n 0, 1) := by decide +kernel
theorem dX0_isAbnormal_1 : decode cX0_isAbnormal 1 = .ok (.aload_n 1, 1) := by decide +kernel
theorem dX0_isAbnormal_2 : decode cX0_isAbnormal 2 = .ok (.invokevirtual 131, 3) := by decide +kernel
theorem dX0_isAbnormal_5 : decode cX0_isAbnormal 5 = .ok (.aload_n 0, 1) := by decide +kernel
theorem dX0_isAbnormal_6 : decode cX0_isAbnormal 6 = .ok (.getfield 21, 3) := by decide +kernel
theorem dX0_isAbnormal_9 : decode cX0_isAbnormal 9 = .ok (.getfield 89, 3) := by decide +kernel
theorem dX0_isAbnormal_12 : decode cX0_isAbnormal 12 = .ok (.if_icmp .le 7, 3) := by decide +kernel
theorem dX0_isAbnormal_15 : decode cX0_isAbnormal 15 = .ok (.iconst 1, 1) := by decide +kernel
theorem dX0_isAbnormal_16 : decode cX0_isAbnormal 16 = .ok (.goto 4, 3) := by decide +kernel
theorem dX0_isAbnormal_19 : decode cX0_isAbnormal 19 = .ok (.iconst 0, 1) := by decide +kernel
theorem dX0_isAbnormal_20 : decode cX0_isAbnormal 20 = .ok (.ireturn, 1) := by decide +kernel
set_option maxRecDepth 20000 in
theorem ggX0_takeBackward_X0_toldBy : GoodIn wsX0_takeBackward wsX0_toldBy := goodIn_r _ [7, 8, 1, 9, 10, 11, 12, 13, 14, 36, 37, 38, 39, 40, 41, 42, 43, 44, 45, 46, 47, 48, 49, 50, 51, 52, 53, 54, 55] (by decide +kernel) (by decide +kernel)
set_option maxRecDepth 20000 in
theorem gX0_takeBackward_X0_toldBy : GoodIn wsX0_takeBackward (wsV RX0 131 RX0 yX0_toldBy wsX0_toldBy) := goodIn_app (goodIn_of _ (by decide +kernel)) ggX0_takeBackward_X0_toldBy
set_option maxRecDepth 20000 in
theorem ggX0_takeBackward_X3_forget : GoodIn wsX0_takeBackward wsX3_forget := goodIn_r _ [19, 20, 21, 22, 23, 24, 25, 26, 27, 28, 29, 18, 30, 31, 48, 49, 50, 51, 52, 53] (by decide +kernel) (by decide +kernel)
set_option maxRecDepth 20000 in
theorem gX0_takeBackward_X3_forget : GoodIn wsX0_takeBackward (wsV RX0 134 RX3 yX3_forget wsX3_forget) := goodIn_app (goodIn_of _ (by decide +kernel)) ggX0_takeBackward_X3_forget
set_option maxRecDepth 20000 in
theorem ggX0_takeBackward_X5_backwardIndicator : GoodIn wsX0_takeBackward wsX5_backwardIndicator := goodIn_r _ [35, 14, 54, 55] (by decide +kernel) (by decide +kernel)
set_option maxRecDepth 20000 in
theorem gX0_takeBackward_X5_backwardIndicator : GoodIn wsX0_takeBackward (wsV RX0 137 RX5 yX5_backwardIndicator wsX5_backwardIndicator) := goodIn_app (goodIn_of _ (by decide +kernel)) ggX0_takeBackward_X5_backwardIndicator
theorem dX0_takeBackward_0 : decode cX0_takeBackward 0 = .ok (.aload_n 0, 1) := by decide +kernel
theorem dX0_takeBackward_1 : decode cX0_takeBackward 1 = .ok (.getfield 21, 3) := by decide +kernel
theorem dX0_takeBackward_4 : decode cX0_takeBackward 4 = .ok (.aload_n 0, 1) := by decide +kernel
theorem dX0_takeBackward_5 : decode cX0_takeBackward 5 = .ok (.aload_n 1, 1) := by decide +kernel
theorem dX0_takeBackward_6 : decode cX0_takeBackward 6 = .ok (.invokevirtual 131, 3) := by decide +kernel
theorem dX0_takeBackward_9 : decode cX0_takeBackward 9 = .ok (.invokevirtual 134, 3) := by decide +kernel
theorem dX0_takeBackward_12 : decode cX0_takeBackward 12 = .ok (.aload_n 1, 1) := by decide +kernel
theorem dX0_takeBackward_13 : decode cX0_takeBackward 13 = .ok (.invokevirtual 137, 3) := by decide +kernel
theorem dX0_takeBackward_16 : decode cX0_takeBackward 16 = .ok (.aload_n 0, 1) := by decide +kernel
theorem dX0_takeBackward_17 : decode cX0_takeBackward 17 = .ok (.getfield 32, 3) := by decide +kernel
theorem dX0_takeBackward_20 : decode cX0_takeBackward 20 = .ok (.if_icmp .eq 27, 3) := by decide +kernel
theorem dX0_takeBackward_23 : decode cX0_takeBackward 23 = .ok (.aload_n 0, 1) := by decide +kernel
theorem dX0_takeBackward_24 : decode cX0_takeBackward 24 = .ok (.iconst 1, 1) := by decide +kernel
theorem dX0_takeBackward_25 : decode cX0_takeBackward 25 = .ok (.aload_n 0, 1) := by decide +kernel
theorem dX0_takeBackward_26 : decode cX0_takeBackward 26 = .ok (.getfield 32, 3) := by decide +kernel
theorem dX0_takeBackward_29 : decode cX0_takeBackward 29 = .ok (.isub, 1) := by decide +kernel
theorem dX0_takeBackward_30 : decode cX0_takeBackward 30 = .ok (.putfield 32, 3) := by decide +kernel
theorem dX0_takeBackward_33 : decode cX0_takeBackward 33 = .ok (.aload_n 0, 1) := by decide +kernel
theorem dX0_takeBackward_34 : decode cX0_takeBackward 34 = .ok (.getfield 21, 3) := by decide +kernel
theorem dX0_takeBackward_37 : decode cX0_takeBackward 37 = .ok (.aload_n 0, 1) := by decide +kernel
theorem dX0_takeBackward_38 : decode cX0_takeBackward 38 = .ok (.getfield 21, 3) := by decide +kernel
theorem dX0_takeBackward_41 : decode cX0_takeBackward 41 = .ok (.getfield 89, 3) := by decide +kernel
theorem dX0_takeBackward_44 : decode cX0_takeBackward 44 = .ok (.putfield 67, 3) := by decide +kernel
theorem dX0_takeBackward_47 : decode cX0_takeBackward 47 = .ok (.return_, 1) := by decide +kernel
set_option maxRecDepth 20000 in
theorem ggX0_takeForward_X5_forwardIndicator : GoodIn wsX0_takeForward wsX5_forwardIndicator := goodIn_r _ [8, 9, 47, 48] (by decide +kernel) (by decide +kernel)
set_option maxRecDepth 20000 in
theorem gX0_takeForward_X5_forwardIndicator : GoodIn wsX0_takeForward (wsV RX0 139 RX5 yX5_forwardIndicator wsX5_forwardIndicator) := goodIn_app (goodIn_of _ (by decide +kernel)) ggX0_takeForward_X5_forwardIndicator
set_option maxRecDepth 20000 in
theorem ggX0_takeForward_X5_forwardNumber : GoodIn wsX0_takeForward wsX5_forwardNumber := goodIn_r _ [13, 9, 47, 48] (by decide +kernel) (by decide +kernel)
set_option maxRecDepth 20000 in
theorem gX0_takeForward_X5_forwardNumber : GoodIn wsX0_takeForward (wsV RX0 141 RX5 yX5_forwardNumber wsX5_forwardNumber) := goodIn_app (goodIn_of _ (by decide +kernel)) ggX0_takeForward_X5_forwardNumber
set_option maxRecDepth 20000 in
theorem ggX0_takeForward_X5_bodyLength : GoodIn wsX0_takeForward wsX5_bodyLength := goodIn_r _ [17, 18, 47, 48] (by decide +kernel) (by decide +kernel)
set_option maxRecDepth 20000 in
theorem gX0_takeForward_X5_bodyLength : GoodIn wsX0_takeForward (wsV RX0 144 RX5 yX5_bodyLength wsX5_bodyLength) := goodIn_app (goodIn_of _ (by decide +kernel)) ggX0_takeForward_X5_bodyLength
set_option maxRecDepth 20000 in
theorem ggX0_takeForward_X6_nextNumber : GoodIn wsX0_takeForward wsX6_nextNumber := goodIn_r _ [21] (by decide +kernel) (by decide +kernel)
set_option maxRecDepth 20000 in
theorem gX0_takeForward_X6_nextNumber_n81 : GoodIn wsX0_takeForward (wsX6_nextNumber) := ggX0_takeForward_X6_nextNumber
set_option maxRecDepth 20000 in
theorem ggX0_takeForward_X4_keep : GoodIn wsX0_takeForward wsX4_keep := goodIn_r _ [26, 27, 28, 29, 30, 15, 16, 7, 17, 18, 31, 32, 33, 34, 9, 49, 50, 51, 47, 48] (by decide +kernel) (by decide +kernel)
set_option maxRecDepth 20000 in
theorem gX0_takeForward_X4_keep : GoodIn wsX0_takeForward (wsV RX0 147 RX4 yX4_keep wsX4_keep) := goodIn_app (goodIn_of _ (by decide +kernel)) ggX0_takeForward_X4_keep
theorem dX0_takeForward_0 : decode cX0_takeForward 0 = .ok (.aload_n 1, 1) := by decide +kernel
theorem dX0_takeForward_1 : decode cX0_takeForward 1 = .ok (.invokevirtual 139, 3) := by decide +kernel
theorem dX0_takeForward_4 : decode cX0_takeForward 4 = .ok (.aload_n 0, 1) := by decide +kernel
theorem dX0_takeForward_5 : decode cX0_takeForward 5 = .ok (.getfield 36, 3) := by decide +kernel
theorem dX0_takeForward_8 : decode cX0_takeForward 8 = .ok (.if_icmp .eq 5, 3) := by decide +kernel
theorem dX0_takeForward_11 : decode cX0_takeForward 11 = .ok (.iconst 0, 1) := by decide +kernel
theorem dX0_takeForward_12 : decode cX0_takeForward 12 = .ok (.ireturn, 1) := by decide +kernel
theorem dX0_takeForward_13 : decode cX0_takeForward 13 = .ok (.aload_n 1, 1) := by decide +kernel
theorem dX0_takeForward_14 : decode cX0_takeForward 14 = .ok (.invokevirtual 141, 3) := by decide +kernel
theorem dX0_takeForward_17 : decode cX0_takeForward 17 = .ok (.istore_n 2, 1) := by decide +kernel
theorem dX0_takeForward_18 : decode cX0_takeForward 18 = .ok (.iload_n 2, 1) := by decide +kernel
theorem dX0_takeForward_19 : decode cX0_takeForward 19 = .ok (.aload_n 0, 1) := by decide +kernel
theorem dX0_takeForward_20 : decode cX0_takeForward 20 = .ok (.getfield 42, 3) := by decide +kernel
theorem dX0_takeForward_23 : decode cX0_takeForward 23 = .ok (.if_icmp .ne 5, 3) := by decide +kernel
theorem dX0_takeForward_26 : decode cX0_takeForward 26 = .ok (.iconst 0, 1) := by decide +kernel
theorem dX0_takeForward_27 : decode cX0_takeForward 27 = .ok (.ireturn, 1) := by decide +kernel
end
section
theorem dX0_takeForward_28 : decode cX0_takeForward 28 = .ok (.aload_n 1, 1) := by decide +kernel
theorem dX0_takeForward_29 : decode cX0_takeForward 29 = .ok (.invokevirtual 144, 3) := by decide +kernel
theorem dX0_takeForward_32 : decode cX0_takeForward 32 = .ok (.ifCond .le 29, 3) := by decide +kernel
theorem dX0_takeForward_35 : decode cX0_takeForward 35 = .ok (.iload_n 2, 1) := by decide +kernel
theorem dX0_takeForward_36 : decode cX0_takeForward 36 = .ok (.aload_n 0, 1) := by decide +kernel
theorem dX0_takeForward_37 : decode cX0_takeForward 37 = .ok (.getfield 42, 3) := by decide +kernel
theorem dX0_takeForward_40 : decode cX0_takeForward 40 = .ok (.invokestatic 81, 3) := by decide +kernel
theorem dX0_takeForward_43 : decode cX0_takeForward 43 = .ok (.if_icmp .ne 18, 3) := by decide +kernel
theorem dX0_takeForward_46 : decode cX0_takeForward 46 = .ok (.aload_n 0, 1) := by decide +kernel
theorem dX0_takeForward_47 : decode cX0_takeForward 47 = .ok (.iload_n 2, 1) := by decide +kernel
theorem dX0_takeForward_48 : decode cX0_takeForward 48 = .ok (.putfield 42, 3) := by decide +kernel
theorem dX0_takeForward_51 : decode cX0_takeForward 51 = .ok (.aload_n 0, 1) := by decide +kernel
theorem dX0_takeForward_52 : decode cX0_takeForward 52 = .ok (.getfield 28, 3) := by decide +kernel
theorem dX0_takeForward_55 : decode cX0_takeForward 55 = .ok (.aload_n 1, 1) := by decide +kernel
theorem dX0_takeForward_56 : decode cX0_takeForward 56 = .ok (.invokevirtual 147, 3) := by decide +kernel
theorem dX0_takeForward_59 : decode cX0_takeForward 59 = .ok (.iconst 1, 1) := by decide +kernel
theorem dX0_takeForward_60 : decode cX0_takeForward 60 = .ok (.ireturn, 1) := by decide +kernel
theorem dX0_takeForward_61 : decode cX0_takeForward 61 = .ok (.aload_n 0, 1) := by decide +kernel
theorem dX0_takeForward_62 : decode cX0_takeForward 62 = .ok (.iconst 1, 1) := by decide +kernel
theorem dX0_takeForward_63 : decode cX0_takeForward 63 = .ok (.aload_n 0, 1) := by decide +kernel
theorem dX0_takeForward_64 : decode cX0_takeForward 64 = .ok (.getfield 36, 3) := by decide +kernel
theorem dX0_takeForward_67 : decode cX0_takeForward 67 = .ok (.isub, 1) := by decide +kernel
theorem dX0_takeForward_68 : decode cX0_takeForward 68 = .ok (.putfield 36, 3) := by decide +kernel
theorem dX0_takeForward_71 : decode cX0_takeForward 71 = .ok (.iconst 2, 1) := by decide +kernel
theorem dX0_takeForward_72 : decode cX0_takeForward 72 = .ok (.ireturn, 1) := by decide +kernel
theorem dX0_fact_0 : decode cX0_fact 0 = .ok (.iload_n 1, 1) := by decide +kernel
theorem dX0_fact_1 : decode cX0_fact 1 = .ok (.tableswitch 129 0 10 #[59, 64, 69, 74, 79, 87, 95, 103, 111, 119, 124], 59) := by decide +kernel
theorem dX0_fact_60 : decode cX0_fact 60 = .ok (.aload_n 0, 1) := by decide +kernel
theorem dX0_fact_61 : decode cX0_fact 61 = .ok (.getfield 32, 3) := by decide +kernel
theorem dX0_fact_64 : decode cX0_fact 64 = .ok (.ireturn, 1) := by decide +kernel
theorem dX0_fact_65 : decode cX0_fact 65 = .ok (.aload_n 0, 1) := by decide +kernel
theorem dX0_fact_66 : decode cX0_fact 66 = .ok (.getfield 36, 3) := by decide +kernel
theorem dX0_fact_69 : decode cX0_fact 69 = .ok (.ireturn, 1) := by decide +kernel
theorem dX0_fact_70 : decode cX0_fact 70 = .ok (.aload_n 0, 1) := by decide +kernel
theorem dX0_fact_71 : decode cX0_fact 71 = .ok (.getfield 39, 3) := by decide +kernel
theorem dX0_fact_74 : decode cX0_fact 74 = .ok (.ireturn, 1) := by decide +kernel
theorem dX0_fact_75 : decode cX0_fact 75 = .ok (.aload_n 0, 1) := by decide +kernel
theorem dX0_fact_76 : decode cX0_fact 76 = .ok (.getfield 42, 3) := by decide +kernel
theorem dX0_fact_79 : decode cX0_fact 79 = .ok (.ireturn, 1) := by decide +kernel
theorem dX0_fact_80 : decode cX0_fact 80 = .ok (.aload_n 0, 1) := by decide +kernel
theorem dX0_fact_81 : decode cX0_fact 81 = .ok (.getfield 21, 3) := by decide +kernel
theorem dX0_fact_84 : decode cX0_fact 84 = .ok (.getfield 150, 3) := by decide +kernel
theorem dX0_fact_87 : decode cX0_fact 87 = .ok (.ireturn, 1) := by decide +kernel
theorem dX0_fact_88 : decode cX0_fact 88 = .ok (.aload_n 0, 1) := by decide +kernel
theorem dX0_fact_89 : decode cX0_fact 89 = .ok (.getfield 21, 3) := by decide +kernel
theorem dX0_fact_92 : decode cX0_fact 92 = .ok (.getfield 89, 3) := by decide +kernel
theorem dX0_fact_95 : decode cX0_fact 95 = .ok (.ireturn, 1) := by decide +kernel
theorem dX0_fact_96 : decode cX0_fact 96 = .ok (.aload_n 0, 1) := by decide +kernel
theorem dX0_fact_97 : decode cX0_fact 97 = .ok (.getfield 21, 3) := by decide +kernel
theorem dX0_fact_100 : decode cX0_fact 100 = .ok (.getfield 67, 3) := by decide +kernel
theorem dX0_fact_103 : decode cX0_fact 103 = .ok (.ireturn, 1) := by decide +kernel
theorem dX0_fact_104 : decode cX0_fact 104 = .ok (.aload_n 0, 1) := by decide +kernel
theorem dX0_fact_105 : decode cX0_fact 105 = .ok (.getfield 28, 3) := by decide +kernel
theorem dX0_fact_108 : decode cX0_fact 108 = .ok (.getfield 153, 3) := by decide +kernel
theorem dX0_fact_111 : decode cX0_fact 111 = .ok (.ireturn, 1) := by decide +kernel
theorem dX0_fact_112 : decode cX0_fact 112 = .ok (.aload_n 0, 1) := by decide +kernel
theorem dX0_fact_113 : decode cX0_fact 113 = .ok (.getfield 12, 3) := by decide +kernel
theorem dX0_fact_116 : decode cX0_fact 116 = .ok (.getfield 45, 3) := by decide +kernel
theorem dX0_fact_119 : decode cX0_fact 119 = .ok (.ireturn, 1) := by decide +kernel
theorem dX0_fact_120 : decode cX0_fact 120 = .ok (.aload_n 0, 1) := by decide +kernel
theorem dX0_fact_121 : decode cX0_fact 121 = .ok (.getfield 51, 3) := by decide +kernel
theorem dX0_fact_124 : decode cX0_fact 124 = .ok (.ireturn, 1) := by decide +kernel
theorem dX0_fact_125 : decode cX0_fact 125 = .ok (.aload_n 0, 1) := by decide +kernel
theorem dX0_fact_126 : decode cX0_fact 126 = .ok (.getfield 54, 3) := by decide +kernel
theorem dX0_fact_129 : decode cX0_fact 129 = .ok (.ireturn, 1) := by decide +kernel
theorem dX0_fact_130 : decode cX0_fact 130 = .ok (.aload_n 0, 1) := by decide +kernel
theorem dX0_fact_131 : decode cX0_fact 131 = .ok (.getfield 57, 3) := by decide +kernel
theorem dX0_fact_134 : decode cX0_fact 134 = .ok (.ifCond .eq 7, 3) := by decide +kernel
theorem dX0_fact_137 : decode cX0_fact 137 = .ok (.iconst 1, 1) := by decide +kernel
theorem dX0_fact_138 : decode cX0_fact 138 = .ok (.goto 4, 3) := by decide +kernel
theorem dX0_fact_141 : decode cX0_fact 141 = .ok (.iconst 0, 1) := by decide +kernel
theorem dX0_fact_142 : decode cX0_fact 142 = .ok (.ireturn, 1) := by decide +kernel
theorem dX1_init_0 : decode cX1_init 0 = .ok (.aload_n 0, 1) := by decide +kernel
theorem dX1_init_1 : decode cX1_init 1 = .ok (.invokespecial 3, 3) := by decide +kernel
theorem dX1_init_4 : decode cX1_init 4 = .ok (.aload_n 0, 1) := by decide +kernel
theorem dX1_init_5 : decode cX1_init 5 = .ok (.bipush 47, 2) := by decide +kernel
theorem dX1_init_7 : decode cX1_init 7 = .ok (.newarray .long, 2) := by decide +kernel
theorem dX1_init_9 : decode cX1_init 9 = .ok (.putfield 9, 3) := by decide +kernel
theorem dX1_init_12 : decode cX1_init 12 = .ok (.return_, 1) := by decide +kernel
theorem dX1_valueAt_0 : decode cX1_valueAt 0 = .ok (.aload_n 0, 1) := by decide +kernel
theorem dX1_valueAt_1 : decode cX1_valueAt 1 = .ok (.getfield 9, 3) := by decide +kernel
theorem dX1_valueAt_4 : decode cX1_valueAt 4 = .ok (.iload_n 1, 1) := by decide +kernel
theorem dX1_valueAt_5 : decode cX1_valueAt 5 = .ok (.bipush 64, 2) := by decide +kernel
theorem dX1_valueAt_7 : decode cX1_valueAt 7 = .ok (.idiv, 1) := by decide +kernel
theorem dX1_valueAt_8 : decode cX1_valueAt 8 = .ok (.laload, 1) := by decide +kernel
theorem dX1_valueAt_9 : decode cX1_valueAt 9 = .ok (.iload_n 1, 1) := by decide +kernel
theorem dX1_valueAt_10 : decode cX1_valueAt 10 = .ok (.bipush 64, 2) := by decide +kernel
theorem dX1_valueAt_12 : decode cX1_valueAt 12 = .ok (.irem, 1) := by decide +kernel
theorem dX1_valueAt_13 : decode cX1_valueAt 13 = .ok (.lushr, 1) := by decide +kernel
theorem dX1_valueAt_14 : decode cX1_valueAt 14 = .ok (.l2i, 1) := by decide +kernel
theorem dX1_valueAt_15 : decode cX1_valueAt 15 = .ok (.iconst 1, 1) := by decide +kernel
theorem dX1_valueAt_16 : decode cX1_valueAt 16 = .ok (.iand, 1) := by decide +kernel
theorem dX1_valueAt_17 : decode cX1_valueAt 17 = .ok (.ireturn, 1) := by decide +kernel
theorem dX1_turn_0 : decode cX1_turn 0 = .ok (.aload_n 0, 1) := by decide +kernel
theorem dX1_turn_1 : decode cX1_turn 1 = .ok (.getfield 9, 3) := by decide +kernel
theorem dX1_turn_4 : decode cX1_turn 4 = .ok (.iload_n 1, 1) := by decide +kernel
theorem dX1_turn_5 : decode cX1_turn 5 = .ok (.bipush 64, 2) := by decide +kernel
theorem dX1_turn_7 : decode cX1_turn 7 = .ok (.idiv, 1) := by decide +kernel
theorem dX1_turn_8 : decode cX1_turn 8 = .ok (.dup2, 1) := by decide +kernel
theorem dX1_turn_9 : decode cX1_turn 9 = .ok (.laload, 1) := by decide +kernel
theorem dX1_turn_10 : decode cX1_turn 10 = .ok (.lconst 1, 1) := by decide +kernel
theorem dX1_turn_11 : decode cX1_turn 11 = .ok (.iload_n 1, 1) := by decide +kernel
theorem dX1_turn_12 : decode cX1_turn 12 = .ok (.bipush 64, 2) := by decide +kernel
theorem dX1_turn_14 : decode cX1_turn 14 = .ok (.irem, 1) := by decide +kernel
theorem dX1_turn_15 : decode cX1_turn 15 = .ok (.lshl, 1) := by decide +kernel
theorem dX1_turn_16 : decode cX1_turn 16 = .ok (.lxor, 1) := by decide +kernel
theorem dX1_turn_17 : decode cX1_turn 17 = .ok (.lastore, 1) := by decide +kernel
theorem dX1_turn_18 : decode cX1_turn 18 = .ok (.return_, 1) := by decide +kernel
set_option maxRecDepth 20000 in
theorem ggX1_add_X1_valueAt : GoodIn wsX1_add wsX1_valueAt := goodIn_r _ [6, 7, 12, 13] (by decide +kernel) (by decide +kernel)
set_option maxRecDepth 20000 in
theorem gX1_add_X1_valueAt : GoodIn wsX1_add (wsV RX1 19 RX1 yX1_valueAt wsX1_valueAt) := goodIn_app (goodIn_of _ (by decide +kernel)) ggX1_add_X1_valueAt
set_option maxRecDepth 20000 in
theorem ggX1_add_X1_turn : GoodIn wsX1_add wsX1_turn := goodIn_r _ [11, 7, 12, 13] (by decide +kernel) (by decide +kernel)
set_option maxRecDepth 20000 in
theorem gX1_add_X1_turn : GoodIn wsX1_add (wsV RX1 23 RX1 yX1_turn wsX1_turn) := goodIn_app (goodIn_of _ (by decide +kernel)) ggX1_add_X1_turn
theorem dX1_add_0 : decode cX1_add 0 = .ok (.aload_n 0, 1) := by decide +kernel
theorem dX1_add_1 : decode cX1_add 1 = .ok (.dup, 1) := by decide +kernel
theorem dX1_add_2 : decode cX1_add 2 = .ok (.getfield 15, 3) := by decide +kernel
theorem dX1_add_5 : decode cX1_add 5 = .ok (.iconst 1, 1) := by decide +kernel
theorem dX1_add_6 : decode cX1_add 6 = .ok (.iadd, 1) := by decide +kernel
theorem dX1_add_7 : decode cX1_add 7 = .ok (.putfield 15, 3) := by decide +kernel
theorem dX1_add_10 : decode cX1_add 10 = .ok (.aload_n 0, 1) := by decide +kernel
theorem dX1_add_11 : decode cX1_add 11 = .ok (.aload_n 0, 1) := by decide +kernel
theorem dX1_add_12 : decode cX1_add 12 = .ok (.getfield 15, 3) := by decide +kernel
theorem dX1_add_15 : decode cX1_add 15 = .ok (.iconst 1, 1) := by decide +kernel
theorem dX1_add_16 : decode cX1_add 16 = .ok (.isub, 1) := by decide +kernel
theorem dX1_add_17 : decode cX1_add 17 = .ok (.invokevirtual 19, 3) := by decide +kernel
theorem dX1_add_20 : decode cX1_add 20 = .ok (.iload_n 1, 1) := by decide +kernel
theorem dX1_add_21 : decode cX1_add 21 = .ok (.if_icmp .eq 13, 3) := by decide +kernel
theorem dX1_add_24 : decode cX1_add 24 = .ok (.aload_n 0, 1) := by decide +kernel
theorem dX1_add_25 : decode cX1_add 25 = .ok (.aload_n 0, 1) := by decide +kernel
theorem dX1_add_26 : decode cX1_add 26 = .ok (.getfield 15, 3) := by decide +kernel
theorem dX1_add_29 : decode cX1_add 29 = .ok (.iconst 1, 1) := by decide +kernel
theorem dX1_add_30 : decode cX1_add 30 = .ok (.isub, 1) := by decide +kernel
theorem dX1_add_31 : decode cX1_add 31 = .ok (.invokevirtual 23, 3) := by decide +kernel
theorem dX1_add_34 : decode cX1_add 34 = .ok (.return_, 1) := by decide +kernel
set_option maxRecDepth 20000 in
theorem ggX1_addFlag_X1_add : GoodIn wsX1_addFlag wsX1_add := goodIn_r _ [5, 6, 7, 8, 9, 4, 10, 11, 12, 13, 14, 15, 16, 17] (by decide +kernel) (by decide +kernel)
set_option maxRecDepth 20000 in
theorem gX1_addFlag_X1_add : GoodIn wsX1_addFlag (wsV RX1 27 RX1 yX1_add wsX1_add) := goodIn_app (goodIn_of _ (by decide +kernel)) ggX1_addFlag_X1_add
theorem dX1_addFlag_0 : decode cX1_addFlag 0 = .ok (.iconst 0, 1) := by decide +kernel
theorem dX1_addFlag_1 : decode cX1_addFlag 1 = .ok (.istore_n 1, 1) := by decide +kernel
theorem dX1_addFlag_2 : decode cX1_addFlag 2 = .ok (.iload_n 1, 1) := by decide +kernel
theorem dX1_addFlag_3 : decode cX1_addFlag 3 = .ok (.bipush 8, 2) := by decide +kernel
theorem dX1_addFlag_5 : decode cX1_addFlag 5 = .ok (.if_icmp .ge 19, 3) := by decide +kernel
theorem dX1_addFlag_8 : decode cX1_addFlag 8 = .ok (.aload_n 0, 1) := by decide +kernel
theorem dX1_addFlag_9 : decode cX1_addFlag 9 = .ok (.bipush 126, 2) := by decide +kernel
theorem dX1_addFlag_11 : decode cX1_addFlag 11 = .ok (.iload_n 1, 1) := by decide +kernel
theorem dX1_addFlag_12 : decode cX1_addFlag 12 = .ok (.ishr, 1) := by decide +kernel
theorem dX1_addFlag_13 : decode cX1_addFlag 13 = .ok (.iconst 1, 1) := by decide +kernel
theorem dX1_addFlag_14 : decode cX1_addFlag 14 = .ok (.iand, 1) := by decide +kernel
theorem dX1_addFlag_15 : decode cX1_addFlag 15 = .ok (.invokevirtual 27, 3) := by decide +kernel
theorem dX1_addFlag_18 : decode cX1_addFlag 18 = .ok (.iinc 1 1, 3) := by decide +kernel
theorem dX1_addFlag_21 : decode cX1_addFlag 21 = .ok (.goto (-19), 3) := by decide +kernel
theorem dX1_addFlag_24 : decode cX1_addFlag 24 = .ok (.return_, 1) := by decide +kernel
set_option maxRecDepth 20000 in
theorem ggX1_hasFlagAt_X1_valueAt : GoodIn wsX1_hasFlagAt wsX1_valueAt := goodIn_r _ [5, 6, 7, 8] (by decide +kernel) (by decide +kernel)
set_option maxRecDepth 20000 in
theorem gX1_hasFlagAt_X1_valueAt : GoodIn wsX1_hasFlagAt (wsV RX1 19 RX1 yX1_valueAt wsX1_valueAt) := goodIn_app (goodIn_of _ (by decide +kernel)) ggX1_hasFlagAt_X1_valueAt
theorem dX1_hasFlagAt_0 : decode cX1_hasFlagAt 0 = .ok (.iconst 1, 1) := by decide +kernel
theorem dX1_hasFlagAt_1 : decode cX1_hasFlagAt 1 = .ok (.istore_n 2, 1) := by decide +kernel
theorem dX1_hasFlagAt_2 : decode cX1_hasFlagAt 2 = .ok (.iconst 0, 1) := by decide +kernel
theorem dX1_hasFlagAt_3 : decode cX1_hasFlagAt 3 = .ok (.istore_n 3, 1) := by decide +kernel
theorem dX1_hasFlagAt_4 : decode cX1_hasFlagAt 4 = .ok (.iload_n 3, 1) := by decide +kernel
theorem dX1_hasFlagAt_5 : decode cX1_hasFlagAt 5 = .ok (.bipush 8, 2) := by decide +kernel
theorem dX1_hasFlagAt_7 : decode cX1_hasFlagAt 7 = .ok (.if_icmp .ge 35, 3) := by decide +kernel
theorem dX1_hasFlagAt_10 : decode cX1_hasFlagAt 10 = .ok (.iload_n 2, 1) := by decide +kernel
theorem dX1_hasFlagAt_11 : decode cX1_hasFlagAt 11 = .ok (.ifCond .eq 23, 3) := by decide +kernel
theorem dX1_hasFlagAt_14 : decode cX1_hasFlagAt 14 = .ok (.aload_n 0, 1) := by decide +kernel
theorem dX1_hasFlagAt_15 : decode cX1_hasFlagAt 15 = .ok (.iload_n 1, 1) := by decide +kernel
theorem dX1_hasFlagAt_16 : decode cX1_hasFlagAt 16 = .ok (.iload_n 3, 1) := by decide +kernel
theorem dX1_hasFlagAt_17 : decode cX1_hasFlagAt 17 = .ok (.iadd, 1) := by decide +kernel
theorem dX1_hasFlagAt_18 : decode cX1_hasFlagAt 18 = .ok (.invokevirtual 19, 3) := by decide +kernel
theorem dX1_hasFlagAt_21 : decode cX1_hasFlagAt 21 = .ok (.bipush 126, 2) := by decide +kernel
theorem dX1_hasFlagAt_23 : decode cX1_hasFlagAt 23 = .ok (.iload_n 3, 1) := by decide +kernel
theorem dX1_hasFlagAt_24 : decode cX1_hasFlagAt 24 = .ok (.ishr, 1) := by decide +kernel
theorem dX1_hasFlagAt_25 : decode cX1_hasFlagAt 25 = .ok (.iconst 1, 1) := by decide +kernel
theorem dX1_hasFlagAt_26 : decode cX1_hasFlagAt 26 = .ok (.iand, 1) := by decide +kernel
theorem dX1_hasFlagAt_27 : decode cX1_hasFlagAt 27 = .ok (.if_icmp .ne 7, 3) := by decide +kernel
theorem dX1_hasFlagAt_30 : decode cX1_hasFlagAt 30 = .ok (.iconst 1, 1) := by decide +kernel
theorem dX1_hasFlagAt_31 : decode cX1_hasFlagAt 31 = .ok (.goto 4, 3) := by decide +kernel
theorem dX1_hasFlagAt_34 : decode cX1_hasFlagAt 34 = .ok (.iconst 0, 1) := by decide +kernel
theorem dX1_hasFlagAt_35 : decode cX1_hasFlagAt 35 = .ok (.istore_n 2, 1) := by decide +kernel
theorem dX1_hasFlagAt_36 : decode cX1_hasFlagAt 36 = .ok (.iinc 3 1, 3) := by decide +kernel
theorem dX1_hasFlagAt_39 : decode cX1_hasFlagAt 39 = .ok (.goto (-35), 3) := by decide +kernel
theorem dX1_hasFlagAt_42 : decode cX1_hasFlagAt 42 = .ok (.iload_n 2, 1) := by decide +kernel
theorem dX1_hasFlagAt_43 : decode cX1_hasFlagAt 43 = .ok (.ireturn, 1) := by decide +kernel
set_option maxRecDepth 20000 in
theorem ggX1_isBetweenFlags_X1_hasFlagAt : GoodIn wsX1_isBetweenFlags wsX1_hasFlagAt := goodIn_r _ [6, 7, 8, 9, 5, 10, 11, 12, 13] (by decide +kernel) (by decide +kernel)
set_option maxRecDepth 20000 in
theorem gX1_isBetweenFlags_X1_hasFlagAt : GoodIn wsX1_isBetweenFlags (wsV RX1 30 RX1 yX1_hasFlagAt wsX1_hasFlagAt) := goodIn_app (goodIn_of _ (by decide +kernel)) ggX1_isBetweenFlags_X1_hasFlagAt
theorem dX1_isBetweenFlags_0 : decode cX1_isBetweenFlags 0 = .ok (.aload_n 0, 1) := by decide +kernel
theorem dX1_isBetweenFlags_1 : decode cX1_isBetweenFlags 1 = .ok (.getfield 15, 3) := by decide +kernel
theorem dX1_isBetweenFlags_4 : decode cX1_isBetweenFlags 4 = .ok (.bipush 16, 2) := by decide +kernel
theorem dX1_isBetweenFlags_6 : decode cX1_isBetweenFlags 6 = .ok (.if_icmp .lt 29, 3) := by decide +kernel
theorem dX1_isBetweenFlags_9 : decode cX1_isBetweenFlags 9 = .ok (.aload_n 0, 1) := by decide +kernel
theorem dX1_isBetweenFlags_10 : decode cX1_isBetweenFlags 10 = .ok (.iconst 0, 1) := by decide +kernel
theorem dX1_isBetweenFlags_11 : decode cX1_isBetweenFlags 11 = .ok (.invokevirtual 30, 3) := by decide +kernel
theorem dX1_isBetweenFlags_14 : decode cX1_isBetweenFlags 14 = .ok (.ifCond .eq 21, 3) := by decide +kernel
theorem dX1_isBetweenFlags_17 : decode cX1_isBetweenFlags 17 = .ok (.aload_n 0, 1) := by decide +kernel
theorem dX1_isBetweenFlags_18 : decode cX1_isBetweenFlags 18 = .ok (.aload_n 0, 1) := by decide +kernel
theorem dX1_isBetweenFlags_19 : decode cX1_isBetweenFlags 19 = .ok (.getfield 15, 3) := by decide +kernel
theorem dX1_isBetweenFlags_22 : decode cX1_isBetweenFlags 22 = .ok (.bipush 8, 2) := by decide +kernel
theorem dX1_isBetweenFlags_24 : decode cX1_isBetweenFlags 24 = .ok (.isub, 1) := by decide +kernel
theorem dX1_isBetweenFlags_25 : decode cX1_isBetweenFlags 25 = .ok (.invokevirtual 30, 3) := by decide +kernel
theorem dX1_isBetweenFlags_28 : decode cX1_isBetweenFlags 28 = .ok (.ifCond .eq 7, 3) := by decide +kernel
theorem dX1_isBetweenFlags_31 : decode cX1_isBetweenFlags 31 = .ok (.iconst 1, 1) := by decide +kernel
theorem dX1_isBetweenFlags_32 : decode cX1_isBetweenFlags 32 = .ok (.goto 4, 3) := by decide +kernel
theorem dX1_isBetweenFlags_35 : decode cX1_isBetweenFlags 35 = .ok (.iconst 0, 1) := by decide +kernel
theorem dX1_isBetweenFlags_36 : decode cX1_isBetweenFlags 36 = .ok (.ireturn, 1) := by decide +kernel
set_option maxRecDepth 20000 in
theorem ggX1_hasSixOnesBetweenFlags_X1_valueAt : GoodIn wsX1_hasSixOnesBetweenFlags wsX1_valueAt := goodIn_r _ [6, 7, 8, 9] (by decide +kernel) (by decide +kernel)
set_option maxRecDepth 20000 in
theorem gX1_hasSixOnesBetweenFlags_X1_valueAt : GoodIn wsX1_hasSixOnesBetweenFlags (wsV RX1 19 RX1 yX1_valueAt wsX1_valueAt) := goodIn_app (goodIn_of _ (by decide +kernel)) ggX1_hasSixOnesBetweenFlags_X1_valueAt
theorem dX1_hasSixOnesBetweenFlags_0 : decode cX1_hasSixOnesBetweenFlags 0 = .ok (.iconst 0, 1) := by decide +kernel
theorem dX1_hasSixOnesBetweenFlags_1 : decode cX1_hasSixOnesBetweenFlags 1 = .ok (.istore_n 1, 1) := by decide +kernel
theorem dX1_hasSixOnesBetweenFlags_2 : decode cX1_hasSixOnesBetweenFlags 2 = .ok (.bipush 8, 2) := by decide +kernel
theorem dX1_hasSixOnesBetweenFlags_4 : decode cX1_hasSixOnesBetweenFlags 4 = .ok (.istore_n 2, 1) := by decide +kernel
theorem dX1_hasSixOnesBetweenFlags_5 : decode cX1_hasSixOnesBetweenFlags 5 = .ok (.iload_n 2, 1) := by decide +kernel
theorem dX1_hasSixOnesBetweenFlags_6 : decode cX1_hasSixOnesBetweenFlags 6 = .ok (.aload_n 0, 1) := by decide +kernel
theorem dX1_hasSixOnesBetweenFlags_7 : decode cX1_hasSixOnesBetweenFlags 7 = .ok (.getfield 15, 3) := by decide +kernel
theorem dX1_hasSixOnesBetweenFlags_10 : decode cX1_hasSixOnesBetweenFlags 10 = .ok (.bipush 8, 2) := by decide +kernel
theorem dX1_hasSixOnesBetweenFlags_12 : decode cX1_hasSixOnesBetweenFlags 12 = .ok (.isub, 1) := by decide +kernel
theorem dX1_hasSixOnesBetweenFlags_13 : decode cX1_hasSixOnesBetweenFlags 13 = .ok (.if_icmp .ge 33, 3) := by decide +kernel
theorem dX1_hasSixOnesBetweenFlags_16 : decode cX1_hasSixOnesBetweenFlags 16 = .ok (.aload_n 0, 1) := by decide +kernel
theorem dX1_hasSixOnesBetweenFlags_17 : decode cX1_hasSixOnesBetweenFlags 17 = .ok (.iload_n 2, 1) := by decide +kernel
theorem dX1_hasSixOnesBetweenFlags_18 : decode cX1_hasSixOnesBetweenFlags 18 = .ok (.invokevirtual 19, 3) := by decide +kernel
theorem dX1_hasSixOnesBetweenFlags_21 : decode cX1_hasSixOnesBetweenFlags 21 = .ok (.iconst 1, 1) := by decide +kernel
theorem dX1_hasSixOnesBetweenFlags_22 : decode cX1_hasSixOnesBetweenFlags 22 = .ok (.if_icmp .ne 9, 3) := by decide +kernel
theorem dX1_hasSixOnesBetweenFlags_25 : decode cX1_hasSixOnesBetweenFlags 25 = .ok (.iload_n 1, 1) := by decide +kernel
theorem dX1_hasSixOnesBetweenFlags_26 : decode cX1_hasSixOnesBetweenFlags 26 = .ok (.iconst 1, 1) := by decide +kernel
theorem dX1_hasSixOnesBetweenFlags_27 : decode cX1_hasSixOnesBetweenFlags 27 = .ok (.iadd, 1) := by decide +kernel
theorem dX1_hasSixOnesBetweenFlags_28 : decode cX1_hasSixOnesBetweenFlags 28 = .ok (.goto 4, 3) := by decide +kernel
theorem dX1_hasSixOnesBetweenFlags_31 : decode cX1_hasSixOnesBetweenFlags 31 = .ok (.iconst 0, 1) := by decide +kernel
theorem dX1_hasSixOnesBetweenFlags_32 : decode cX1_hasSixOnesBetweenFlags 32 = .ok (.istore_n 1, 1) := by decide +kernel
theorem dX1_hasSixOnesBetweenFlags_33 : decode cX1_hasSixOnesBetweenFlags 33 = .ok (.iload_n 1, 1) := by decide +kernel
theorem dX1_hasSixOnesBetweenFlags_34 : decode cX1_hasSixOnesBetweenFlags 34 = .ok (.iconst 5, 1) := by decide +kernel
theorem dX1_hasSixOnesBetweenFlags_35 : decode cX1_hasSixOnesBetweenFlags 35 = .ok (.if_icmp .le 5, 3) := by decide +kernel
theorem dX1_hasSixOnesBetweenFlags_38 : decode cX1_hasSixOnesBetweenFlags 38 = .ok (.iconst 1, 1) := by decide +kernel
theorem dX1_hasSixOnesBetweenFlags_39 : decode cX1_hasSixOnesBetweenFlags 39 = .ok (.ireturn, 1) := by decide +kernel
theorem dX1_hasSixOnesBetweenFlags_40 : decode cX1_hasSixOnesBetweenFlags 40 = .ok (.iinc 2 1, 3) := by decide +kernel
theorem dX1_hasSixOnesBetweenFlags_43 : decode cX1_hasSixOnesBetweenFlags 43 = .ok (.goto (-38), 3) := by decide +kernel
theorem dX1_hasSixOnesBetweenFlags_46 : decode cX1_hasSixOnesBetweenFlags 46 = .ok (.iconst 0, 1) := by decide +kernel
theorem dX1_hasSixOnesBetweenFlags_47 : decode cX1_hasSixOnesBetweenFlags 47 = .ok (.ireturn, 1) := by decide +kernel
set_option maxRecDepth 20000 in
theorem ggX2_init_X1_init : GoodIn wsX2_init wsX1_init := goodIn_r _ [9, 10, 2, 3, 11, 12, 15, 16] (by decide +kernel) (by decide +kernel)
set_option maxRecDepth 20000 in
theorem gX2_init_X1_init_n17 : GoodIn wsX2_init (wsX1_init) := ggX2_init_X1_init
theorem dX2_init_0 : decode cX2_init 0 = .ok (.aload_n 0, 1) := by decide +kernel
theorem dX2_init_1 : decode cX2_init 1 = .ok (.invokespecial 3, 3) := by decide +kernel
theorem dX2_init_4 : decode cX2_init 4 = .ok (.aload_n 0, 1) := by decide +kernel
theorem dX2_init_5 : decode cX2_init 5 = .ok (.bipush 40, 2) := by decide +kernel
theorem dX2_init_7 : decode cX2_init 7 = .ok (.anewarray 9, 3) := by decide +kernel
theorem dX2_init_10 : decode cX2_init 10 = .ok (.putfield 11, 3) := by decide +kernel
theorem dX2_init_13 : decode cX2_init 13 = .ok (.iconst 0, 1) := by decide +kernel
theorem dX2_init_14 : decode cX2_init 14 = .ok (.istore_n 1, 1) := by decide +kernel
theorem dX2_init_15 : decode cX2_init 15 = .ok (.iload_n 1, 1) := by decide +kernel
theorem dX2_init_16 : decode cX2_init 16 = .ok (.bipush 40, 2) := by decide +kernel
theorem dX2_init_18 : decode cX2_init 18 = .ok (.if_icmp .ge 22, 3) := by decide +kernel
theorem dX2_init_21 : decode cX2_init 21 = .ok (.aload_n 0, 1) := by decide +kernel
theorem dX2_init_22 : decode cX2_init 22 = .ok (.getfield 11, 3) := by decide +kernel
theorem dX2_init_25 : decode cX2_init 25 = .ok (.iload_n 1, 1) := by decide +kernel
theorem dX2_init_26 : decode cX2_init 26 = .ok (.new 9, 3) := by decide +kernel
theorem dX2_init_29 : decode cX2_init 29 = .ok (.dup, 1) := by decide +kernel
theorem dX2_init_30 : decode cX2_init 30 = .ok (.invokespecial 17, 3) := by decide +kernel
theorem dX2_init_33 : decode cX2_init 33 = .ok (.aastore, 1) := by decide +kernel
theorem dX2_init_34 : decode cX2_init 34 = .ok (.iinc 1 1, 3) := by decide +kernel
theorem dX2_init_37 : decode cX2_init 37 = .ok (.goto (-22), 3) := by decide +kernel
theorem dX2_init_40 : decode cX2_init 40 = .ok (.return_, 1) := by decide +kernel
theorem dX2_isFull_0 : decode cX2_isFull 0 = .ok (.aload_n 0, 1) := by decide +kernel
theorem dX2_isFull_1 : decode cX2_isFull 1 = .ok (.getfield 18, 3) := by decide +kernel
theorem dX2_isFull_4 : decode cX2_isFull 4 = .ok (.bipush 40, 2) := by decide +kernel
theorem dX2_isFull_6 : decode cX2_isFull 6 = .ok (.if_icmp .ne 7, 3) := by decide +kernel
theorem dX2_isFull_9 : decode cX2_isFull 9 = .ok (.iconst 1, 1) := by decide +kernel
theorem dX2_isFull_10 : decode cX2_isFull 10 = .ok (.goto 4, 3) := by decide +kernel
theorem dX2_isFull_13 : decode cX2_isFull 13 = .ok (.iconst 0, 1) := by decide +kernel
theorem dX2_isFull_14 : decode cX2_isFull 14 = .ok (.ireturn, 1) := by decide +kernel
theorem dX2_last_0 : decode cX2_last 0 = .ok (.aload_n 0, 1) := by decide +kernel
theorem dX2_last_1 : decode cX2_last 1 = .ok (.getfield 11, 3) := by decide +kernel
theorem dX2_last_4 : decode cX2_last 4 = .ok (.aload_n 0, 1) := by decide +kernel
theorem dX2_last_5 : decode cX2_last 5 = .ok (.getfield 18, 3) := by decide +kernel
theorem dX2_last_8 : decode cX2_last 8 = .ok (.iconst 1, 1) := by decide +kernel
theorem dX2_last_9 : decode cX2_last 9 = .ok (.isub, 1) := by decide +kernel
theorem dX2_last_10 : decode cX2_last 10 = .ok (.aaload, 1) := by decide +kernel
theorem dX2_last_11 : decode cX2_last 11 = .ok (.areturn, 1) := by decide +kernel
set_option maxRecDepth 20000 in
theorem ggX2_open_X2_last : GoodIn wsX2_open wsX2_last := goodIn_r _ [6, 7, 1, 8, 9] (by decide +kernel) (by decide +kernel)
set_option maxRecDepth 20000 in
theorem gX2_open_X2_last : GoodIn wsX2_open (wsV RX2 22 RX2 yX2_last wsX2_last) := goodIn_app (goodIn_of _ (by decide +kernel)) ggX2_open_X2_last
theorem dX2_open_0 : decode cX2_open 0 = .ok (.aload_n 0, 1) := by decide +kernel
theorem dX2_open_1 : decode cX2_open 1 = .ok (.dup, 1) := by decide +kernel
theorem dX2_open_2 : decode cX2_open 2 = .ok (.getfield 18, 3) := by decide +kernel
theorem dX2_open_5 : decode cX2_open 5 = .ok (.iconst 1, 1) := by decide +kernel
theorem dX2_open_6 : decode cX2_open 6 = .ok (.iadd, 1) := by decide +kernel
theorem dX2_open_7 : decode cX2_open 7 = .ok (.putfield 18, 3) := by decide +kernel
theorem dX2_open_10 : decode cX2_open 10 = .ok (.aload_n 0, 1) := by decide +kernel
theorem dX2_open_11 : decode cX2_open 11 = .ok (.invokevirtual 22, 3) := by decide +kernel
theorem dX2_open_14 : decode cX2_open 14 = .ok (.iconst 0, 1) := by decide +kernel
theorem dX2_open_15 : decode cX2_open 15 = .ok (.putfield 26, 3) := by decide +kernel
theorem dX2_open_18 : decode cX2_open 18 = .ok (.aload_n 0, 1) := by decide +kernel
theorem dX2_open_19 : decode cX2_open 19 = .ok (.invokevirtual 22, 3) := by decide +kernel
theorem dX2_open_22 : decode cX2_open 22 = .ok (.areturn, 1) := by decide +kernel
theorem dX2_lose_0 : decode cX2_lose 0 = .ok (.aload_n 0, 1) := by decide +kernel
theorem dX2_lose_1 : decode cX2_lose 1 = .ok (.getfield 11, 3) := by decide +kernel
theorem dX2_lose_4 : decode cX2_lose 4 = .ok (.iload_n 1, 1) := by decide +kernel
theorem dX2_lose_5 : decode cX2_lose 5 = .ok (.aaload, 1) := by decide +kernel
theorem dX2_lose_6 : decode cX2_lose 6 = .ok (.astore_n 2, 1) := by decide +kernel
theorem dX2_lose_7 : decode cX2_lose 7 = .ok (.iload_n 1, 1) := by decide +kernel
theorem dX2_lose_8 : decode cX2_lose 8 = .ok (.istore_n 3, 1) := by decide +kernel
theorem dX2_lose_9 : decode cX2_lose 9 = .ok (.iload_n 3, 1) := by decide +kernel
theorem dX2_lose_10 : decode cX2_lose 10 = .ok (.aload_n 0, 1) := by decide +kernel
theorem dX2_lose_11 : decode cX2_lose 11 = .ok (.getfield 18, 3) := by decide +kernel
theorem dX2_lose_14 : decode cX2_lose 14 = .ok (.iconst 1, 1) := by decide +kernel
theorem dX2_lose_15 : decode cX2_lose 15 = .ok (.isub, 1) := by decide +kernel
theorem dX2_lose_16 : decode cX2_lose 16 = .ok (.if_icmp .ge 23, 3) := by decide +kernel
theorem dX2_lose_19 : decode cX2_lose 19 = .ok (.aload_n 0, 1) := by decide +kernel
theorem dX2_lose_20 : decode cX2_lose 20 = .ok (.getfield 11, 3) := by decide +kernel
theorem dX2_lose_23 : decode cX2_lose 23 = .ok (.iload_n 3, 1) := by decide +kernel
theorem dX2_lose_24 : decode cX2_lose 24 = .ok (.aload_n 0, 1) := by decide +kernel
theorem dX2_lose_25 : decode cX2_lose 25 = .ok (.getfield 11, 3) := by decide +kernel
theorem dX2_lose_28 : decode cX2_lose 28 = .ok (.iload_n 3, 1) := by decide +kernel
theorem dX2_lose_29 : decode cX2_lose 29 = .ok (.iconst 1, 1) := by decide +kernel
theorem dX2_lose_30 : decode cX2_lose 30 = .ok (.iadd, 1) := by decide +kernel
theorem dX2_lose_31 : decode cX2_lose 31 = .ok (.aaload, 1) := by decide +kernel
theorem dX2_lose_32 : decode cX2_lose 32 = .ok (.aastore, 1) := by decide +kernel
theorem dX2_lose_33 : decode cX2_lose 33 = .ok (.iinc 3 1, 3) := by decide +kernel
theorem dX2_lose_36 : decode cX2_lose 36 = .ok (.goto (-27), 3) := by decide +kernel
theorem dX2_lose_39 : decode cX2_lose 39 = .ok (.aload_n 0, 1) := by decide +kernel
theorem dX2_lose_40 : decode cX2_lose 40 = .ok (.dup, 1) := by decide +kernel
theorem dX2_lose_41 : decode cX2_lose 41 = .ok (.getfield 18, 3) := by decide +kernel
theorem dX2_lose_44 : decode cX2_lose 44 = .ok (.iconst 1, 1) := by decide +kernel
theorem dX2_lose_45 : decode cX2_lose 45 = .ok (.isub, 1) := by decide +kernel
theorem dX2_lose_46 : decode cX2_lose 46 = .ok (.putfield 18, 3) := by decide +kernel
theorem dX2_lose_49 : decode cX2_lose 49 = .ok (.aload_n 0, 1) := by decide +kernel
theorem dX2_lose_50 : decode cX2_lose 50 = .ok (.getfield 11, 3) := by decide +kernel
theorem dX2_lose_53 : decode cX2_lose 53 = .ok (.aload_n 0, 1) := by decide +kernel
theorem dX2_lose_54 : decode cX2_lose 54 = .ok (.getfield 18, 3) := by decide +kernel
theorem dX2_lose_57 : decode cX2_lose 57 = .ok (.aload_n 2, 1) := by decide +kernel
theorem dX2_lose_58 : decode cX2_lose 58 = .ok (.aastore, 1) := by decide +kernel
theorem dX2_lose_59 : decode cX2_lose 59 = .ok (.return_, 1) := by decide +kernel
theorem dX3_init_0 : decode cX3_init 0 = .ok (.aload_n 0, 1) := by decide +kernel
theorem dX3_init_1 : decode cX3_init 1 = .ok (.invokespecial 3, 3) := by decide +kernel
theorem dX3_init_4 : decode cX3_init 4 = .ok (.aload_n 0, 1) := by decide +kernel
theorem dX3_init_5 : decode cX3_init 5 = .ok (.sipush 187, 3) := by decide +kernel
theorem dX3_init_8 : decode cX3_init 8 = .ok (.newarray .int, 2) := by decide +kernel
theorem dX3_init_10 : decode cX3_init 10 = .ok (.putfield 9, 3) := by decide +kernel
theorem dX3_init_13 : decode cX3_init 13 = .ok (.aload_n 0, 1) := by decide +kernel
theorem dX3_init_14 : decode cX3_init 14 = .ok (.sipush 187, 3) := by decide +kernel
theorem dX3_init_17 : decode cX3_init 17 = .ok (.newarray .int, 2) := by decide +kernel
theorem dX3_init_19 : decode cX3_init 19 = .ok (.putfield 15, 3) := by decide +kernel
theorem dX3_init_22 : decode cX3_init 22 = .ok (.return_, 1) := by decide +kernel
theorem dX3_placeOf_0 : decode cX3_placeOf 0 = .ok (.aload_n 0, 1) := by decide +kernel
theorem dX3_placeOf_1 : decode cX3_placeOf 1 = .ok (.getfield 18, 3) := by decide +kernel
theorem dX3_placeOf_4 : decode cX3_placeOf 4 = .ok (.iload_n 1, 1) := by decide +kernel
theorem dX3_placeOf_5 : decode cX3_placeOf 5 = .ok (.iadd, 1) := by decide +kernel
theorem dX3_placeOf_6 : decode cX3_placeOf 6 = .ok (.aload_n 0, 1) := by decide +kernel
theorem dX3_placeOf_7 : decode cX3_placeOf 7 = .ok (.getfield 9, 3) := by decide +kernel
theorem dX3_placeOf_10 : decode cX3_placeOf 10 = .ok (.arraylength, 1) := by decide +kernel
theorem dX3_placeOf_11 : decode cX3_placeOf 11 = .ok (.irem, 1) := by decide +kernel
theorem dX3_placeOf_12 : decode cX3_placeOf 12 = .ok (.ireturn, 1) := by decide +kernel
set_option maxRecDepth 20000 in
theorem ggX3_join_X3_placeOf : GoodIn wsX3_join wsX3_placeOf := goodIn_r _ [9, 10, 3, 11, 12, 13, 14, 15, 16] (by decide +kernel) (by decide +kernel)
set_option maxRecDepth 20000 in
theorem gX3_join_X3_placeOf : GoodIn wsX3_join (wsV RX3 28 RX3 yX3_placeOf wsX3_placeOf) := goodIn_app (goodIn_of _ (by decide +kernel)) ggX3_join_X3_placeOf
theorem dX3_join_0 : decode cX3_join 0 = .ok (.aload_n 0, 1) := by decide +kernel
theorem dX3_join_1 : decode cX3_join 1 = .ok (.aload_n 0, 1) := by decide +kernel
theorem dX3_join_2 : decode cX3_join 2 = .ok (.getfield 22, 3) := by decide +kernel
theorem dX3_join_5 : decode cX3_join 5 = .ok (.aload_n 0, 1) := by decide +kernel
theorem dX3_join_6 : decode cX3_join 6 = .ok (.getfield 25, 3) := by decide +kernel
theorem dX3_join_9 : decode cX3_join 9 = .ok (.iadd, 1) := by decide +kernel
theorem dX3_join_10 : decode cX3_join 10 = .ok (.invokevirtual 28, 3) := by decide +kernel
theorem dX3_join_13 : decode cX3_join 13 = .ok (.istore_n 3, 1) := by decide +kernel
theorem dX3_join_14 : decode cX3_join 14 = .ok (.aload_n 0, 1) := by decide +kernel
theorem dX3_join_15 : decode cX3_join 15 = .ok (.getfield 9, 3) := by decide +kernel
theorem dX3_join_18 : decode cX3_join 18 = .ok (.iload_n 3, 1) := by decide +kernel
theorem dX3_join_19 : decode cX3_join 19 = .ok (.iload_n 1, 1) := by decide +kernel
theorem dX3_join_20 : decode cX3_join 20 = .ok (.iastore, 1) := by decide +kernel
theorem dX3_join_21 : decode cX3_join 21 = .ok (.aload_n 0, 1) := by decide +kernel
theorem dX3_join_22 : decode cX3_join 22 = .ok (.getfield 15, 3) := by decide +kernel
theorem dX3_join_25 : decode cX3_join 25 = .ok (.iload_n 3, 1) := by decide +kernel
theorem dX3_join_26 : decode cX3_join 26 = .ok (.iload_n 2, 1) := by decide +kernel
theorem dX3_join_27 : decode cX3_join 27 = .ok (.iastore, 1) := by decide +kernel
theorem dX3_join_28 : decode cX3_join 28 = .ok (.aload_n 0, 1) := by decide +kernel
theorem dX3_join_29 : decode cX3_join 29 = .ok (.dup, 1) := by decide +kernel
theorem dX3_join_30 : decode cX3_join 30 = .ok (.getfield 25, 3) := by decide +kernel
theorem dX3_join_33 : decode cX3_join 33 = .ok (.iconst 1, 1) := by decide +kernel
theorem dX3_join_34 : decode cX3_join 34 = .ok (.iadd, 1) := by decide +kernel
theorem dX3_join_35 : decode cX3_join 35 = .ok (.putfield 25, 3) := by decide +kernel
theorem dX3_join_38 : decode cX3_join 38 = .ok (.return_, 1) := by decide +kernel
theorem dX3_mayGoFirstTime_0 : decode cX3_mayGoFirstTime 0 = .ok (.aload_n 0, 1) := by decide +kernel
theorem dX3_mayGoFirstTime_1 : decode cX3_mayGoFirstTime 1 = .ok (.getfield 25, 3) := by decide +kernel
theorem dX3_mayGoFirstTime_4 : decode cX3_mayGoFirstTime 4 = .ok (.ifCond .le 16, 3) := by decide +kernel
theorem dX3_mayGoFirstTime_7 : decode cX3_mayGoFirstTime 7 = .ok (.aload_n 0, 1) := by decide +kernel
theorem dX3_mayGoFirstTime_8 : decode cX3_mayGoFirstTime 8 = .ok (.getfield 22, 3) := by decide +kernel
theorem dX3_mayGoFirstTime_11 : decode cX3_mayGoFirstTime 11 = .ok (.bipush 127, 2) := by decide +kernel
theorem dX3_mayGoFirstTime_13 : decode cX3_mayGoFirstTime 13 = .ok (.if_icmp .ge 7, 3) := by decide +kernel
theorem dX3_mayGoFirstTime_16 : decode cX3_mayGoFirstTime 16 = .ok (.iconst 1, 1) := by decide +kernel
theorem dX3_mayGoFirstTime_17 : decode cX3_mayGoFirstTime 17 = .ok (.goto 4, 3) := by decide +kernel
theorem dX3_mayGoFirstTime_20 : decode cX3_mayGoFirstTime 20 = .ok (.iconst 0, 1) := by decide +kernel
theorem dX3_mayGoFirstTime_21 : decode cX3_mayGoFirstTime 21 = .ok (.ireturn, 1) := by decide +kernel
theorem dX3_goFirstTime_0 : decode cX3_goFirstTime 0 = .ok (.aload_n 0, 1) := by decide +kernel
theorem dX3_goFirstTime_1 : decode cX3_goFirstTime 1 = .ok (.dup, 1) := by decide +kernel
theorem dX3_goFirstTime_2 : decode cX3_goFirstTime 2 = .ok (.getfield 25, 3) := by decide +kernel
theorem dX3_goFirstTime_5 : decode cX3_goFirstTime 5 = .ok (.iconst 1, 1) := by decide +kernel
theorem dX3_goFirstTime_6 : decode cX3_goFirstTime 6 = .ok (.isub, 1) := by decide +kernel
theorem dX3_goFirstTime_7 : decode cX3_goFirstTime 7 = .ok (.putfield 25, 3) := by decide +kernel
theorem dX3_goFirstTime_10 : decode cX3_goFirstTime 10 = .ok (.aload_n 0, 1) := by decide +kernel
theorem dX3_goFirstTime_11 : decode cX3_goFirstTime 11 = .ok (.dup, 1) := by decide +kernel
theorem dX3_goFirstTime_12 : decode cX3_goFirstTime 12 = .ok (.getfield 22, 3) := by decide +kernel
theorem dX3_goFirstTime_15 : decode cX3_goFirstTime 15 = .ok (.iconst 1, 1) := by decide +kernel
theorem dX3_goFirstTime_16 : decode cX3_goFirstTime 16 = .ok (.iadd, 1) := by decide +kernel
theorem dX3_goFirstTime_17 : decode cX3_goFirstTime 17 = .ok (.putfield 22, 3) := by decide +kernel
theorem dX3_goFirstTime_20 : decode cX3_goFirstTime 20 = .ok (.return_, 1) := by decide +kernel
set_option maxRecDepth 20000 in
theorem ggX3_forget_X3_placeOf : GoodIn wsX3_forget wsX3_placeOf := goodIn_r _ [12, 1, 13, 14, 15, 16, 17, 18, 19] (by decide +kernel) (by decide +kernel)
set_option maxRecDepth 20000 in
theorem gX3_forget_X3_placeOf : GoodIn wsX3_forget (wsV RX3 28 RX3 yX3_placeOf wsX3_placeOf) := goodIn_app (goodIn_of _ (by decide +kernel)) ggX3_forget_X3_placeOf
theorem dX3_forget_0 : decode cX3_forget 0 = .ok (.aload_n 0, 1) := by decide +kernel
theorem dX3_forget_1 : decode cX3_forget 1 = .ok (.aload_n 0, 1) := by decide +kernel
theorem dX3_forget_2 : decode cX3_forget 2 = .ok (.iload_n 1, 1) := by decide +kernel
theorem dX3_forget_3 : decode cX3_forget 3 = .ok (.invokevirtual 28, 3) := by decide +kernel
theorem dX3_forget_6 : decode cX3_forget 6 = .ok (.putfield 18, 3) := by decide +kernel
theorem dX3_forget_9 : decode cX3_forget 9 = .ok (.aload_n 0, 1) := by decide +kernel
theorem dX3_forget_10 : decode cX3_forget 10 = .ok (.dup, 1) := by decide +kernel
theorem dX3_forget_11 : decode cX3_forget 11 = .ok (.getfield 22, 3) := by decide +kernel
theorem dX3_forget_14 : decode cX3_forget 14 = .ok (.iload_n 1, 1) := by decide +kernel
theorem dX3_forget_15 : decode cX3_forget 15 = .ok (.isub, 1) := by decide +kernel
theorem dX3_forget_16 : decode cX3_forget 16 = .ok (.putfield 22, 3) := by decide +kernel
theorem dX3_forget_19 : decode cX3_forget 19 = .ok (.aload_n 0, 1) := by decide +kernel
theorem dX3_forget_20 : decode cX3_forget 20 = .ok (.aload_n 0, 1) := by decide +kernel
theorem dX3_forget_21 : decode cX3_forget 21 = .ok (.getfield 32, 3) := by decide +kernel
theorem dX3_forget_24 : decode cX3_forget 24 = .ok (.aload_n 0, 1) := by decide +kernel
theorem dX3_forget_25 : decode cX3_forget 25 = .ok (.getfield 22, 3) := by decide +kernel
theorem dX3_forget_28 : decode cX3_forget 28 = .ok (.invokestatic 35, 3) := by decide +kernel
theorem dX3_forget_31 : decode cX3_forget 31 = .ok (.putfield 32, 3) := by decide +kernel
theorem dX3_forget_34 : decode cX3_forget 34 = .ok (.return_, 1) := by decide +kernel
theorem dX3_empty_0 : decode cX3_empty 0 = .ok (.aload_n 0, 1) := by decide +kernel
theorem dX3_empty_1 : decode cX3_empty 1 = .ok (.iconst 0, 1) := by decide +kernel
theorem dX3_empty_2 : decode cX3_empty 2 = .ok (.putfield 22, 3) := by decide +kernel
theorem dX3_empty_5 : decode cX3_empty 5 = .ok (.aload_n 0, 1) := by decide +kernel
theorem dX3_empty_6 : decode cX3_empty 6 = .ok (.iconst 0, 1) := by decide +kernel
theorem dX3_empty_7 : decode cX3_empty 7 = .ok (.putfield 32, 3) := by decide +kernel
theorem dX3_empty_10 : decode cX3_empty 10 = .ok (.aload_n 0, 1) := by decide +kernel
theorem dX3_empty_11 : decode cX3_empty 11 = .ok (.iconst 0, 1) := by decide +kernel
theorem dX3_empty_12 : decode cX3_empty 12 = .ok (.putfield 25, 3) := by decide +kernel
theorem dX3_empty_15 : decode cX3_empty 15 = .ok (.return_, 1) := by decide +kernel
theorem dX4_init_0 : decode cX4_init 0 = .ok (.aload_n 0, 1) := by decide +kernel
theorem dX4_init_1 : decode cX4_init 1 = .ok (.invokespecial 3, 3) := by decide +kernel
theorem dX4_init_4 : decode cX4_init 4 = .ok (.aload_n 0, 1) := by decide +kernel
theorem dX4_init_5 : decode cX4_init 5 = .ok (.sipush 13600, 3) := by decide +kernel
theorem dX4_init_8 : decode cX4_init 8 = .ok (.newarray .byte, 2) := by decide +kernel
theorem dX4_init_10 : decode cX4_init 10 = .ok (.putfield 9, 3) := by decide +kernel
theorem dX4_init_13 : decode cX4_init 13 = .ok (.aload_n 0, 1) := by decide +kernel
theorem dX4_init_14 : decode cX4_init 14 = .ok (.bipush 50, 2) := by decide +kernel
theorem dX4_init_16 : decode cX4_init 16 = .ok (.newarray .int, 2) := by decide +kernel
theorem dX4_init_18 : decode cX4_init 18 = .ok (.putfield 15, 3) := by decide +kernel
theorem dX4_init_21 : decode cX4_init 21 = .ok (.return_, 1) := by decide +kernel
set_option maxRecDepth 20000 in
theorem ggX4_keep_X5_bodyLength : GoodIn wsX4_keep wsX5_bodyLength := goodIn_r _ [8, 9, 18, 19] (by decide +kernel) (by decide +kernel)
set_option maxRecDepth 20000 in
theorem gX4_keep_X5_bodyLength : GoodIn wsX4_keep (wsV RX4 23 RX5 yX5_bodyLength wsX5_bodyLength) := goodIn_app (goodIn_of _ (by decide +kernel)) ggX4_keep_X5_bodyLength
set_option maxRecDepth 20000 in
theorem ggX4_keep_X5_bodyByte : GoodIn wsX4_keep wsX5_bodyByte := goodIn_r _ [13, 14, 18, 19] (by decide +kernel) (by decide +kernel)
set_option maxRecDepth 20000 in
theorem gX4_keep_X5_bodyByte : GoodIn wsX4_keep (wsV RX4 29 RX5 yX5_bodyByte wsX5_bodyByte) := goodIn_app (goodIn_of _ (by decide +kernel)) ggX4_keep_X5_bodyByte
theorem dX4_keep_0 : decode cX4_keep 0 = .ok (.aload_n 0, 1) := by decide +kernel
theorem dX4_keep_1 : decode cX4_keep 1 = .ok (.getfield 19, 3) := by decide +kernel
theorem dX4_keep_4 : decode cX4_keep 4 = .ok (.bipush 50, 2) := by decide +kernel
theorem dX4_keep_6 : decode cX4_keep 6 = .ok (.irem, 1) := by decide +kernel
theorem dX4_keep_7 : decode cX4_keep 7 = .ok (.istore_n 2, 1) := by decide +kernel
theorem dX4_keep_8 : decode cX4_keep 8 = .ok (.aload_n 0, 1) := by decide +kernel
theorem dX4_keep_9 : decode cX4_keep 9 = .ok (.getfield 15, 3) := by decide +kernel
theorem dX4_keep_12 : decode cX4_keep 12 = .ok (.iload_n 2, 1) := by decide +kernel
theorem dX4_keep_13 : decode cX4_keep 13 = .ok (.aload_n 1, 1) := by decide +kernel
theorem dX4_keep_14 : decode cX4_keep 14 = .ok (.invokevirtual 23, 3) := by decide +kernel
theorem dX4_keep_17 : decode cX4_keep 17 = .ok (.iastore, 1) := by decide +kernel
theorem dX4_keep_18 : decode cX4_keep 18 = .ok (.iconst 0, 1) := by decide +kernel
theorem dX4_keep_19 : decode cX4_keep 19 = .ok (.istore_n 3, 1) := by decide +kernel
theorem dX4_keep_20 : decode cX4_keep 20 = .ok (.iload_n 3, 1) := by decide +kernel
theorem dX4_keep_21 : decode cX4_keep 21 = .ok (.aload_n 0, 1) := by decide +kernel
theorem dX4_keep_22 : decode cX4_keep 22 = .ok (.getfield 15, 3) := by decide +kernel
theorem dX4_keep_25 : decode cX4_keep 25 = .ok (.iload_n 2, 1) := by decide +kernel
theorem dX4_keep_26 : decode cX4_keep 26 = .ok (.iaload, 1) := by decide +kernel
theorem dX4_keep_27 : decode cX4_keep 27 = .ok (.if_icmp .ge 27, 3) := by decide +kernel
theorem dX4_keep_30 : decode cX4_keep 30 = .ok (.aload_n 0, 1) := by decide +kernel
theorem dX4_keep_31 : decode cX4_keep 31 = .ok (.getfield 9, 3) := by decide +kernel
theorem dX4_keep_34 : decode cX4_keep 34 = .ok (.iload_n 2, 1) := by decide +kernel
theorem dX4_keep_35 : decode cX4_keep 35 = .ok (.sipush 272, 3) := by decide +kernel
theorem dX4_keep_38 : decode cX4_keep 38 = .ok (.imul, 1) := by decide +kernel
theorem dX4_keep_39 : decode cX4_keep 39 = .ok (.iload_n 3, 1) := by decide +kernel
theorem dX4_keep_40 : decode cX4_keep 40 = .ok (.iadd, 1) := by decide +kernel
theorem dX4_keep_41 : decode cX4_keep 41 = .ok (.aload_n 1, 1) := by decide +kernel
theorem dX4_keep_42 : decode cX4_keep 42 = .ok (.iload_n 3, 1) := by decide +kernel
theorem dX4_keep_43 : decode cX4_keep 43 = .ok (.invokevirtual 29, 3) := by decide +kernel
theorem dX4_keep_46 : decode cX4_keep 46 = .ok (.i2b, 1) := by decide +kernel
theorem dX4_keep_47 : decode cX4_keep 47 = .ok (.bastore, 1) := by decide +kernel
theorem dX4_keep_48 : decode cX4_keep 48 = .ok (.iinc 3 1, 3) := by decide +kernel
theorem dX4_keep_51 : decode cX4_keep 51 = .ok (.goto (-31), 3) := by decide +kernel
theorem dX4_keep_54 : decode cX4_keep 54 = .ok (.aload_n 0, 1) := by decide +kernel
end
section
theorem dX4_keep_55 : decode cX4_keep 55 = .ok (.dup, 1) := by decide +kernel
theorem dX4_keep_56 : decode cX4_keep 56 = .ok (.getfield 19, 3) := by decide +kernel
theorem dX4_keep_59 : decode cX4_keep 59 = .ok (.iconst 1, 1) := by decide +kernel
theorem dX4_keep_60 : decode cX4_keep 60 = .ok (.iadd, 1) := by decide +kernel
theorem dX4_keep_61 : decode cX4_keep 61 = .ok (.putfield 19, 3) := by decide +kernel
theorem dX4_keep_64 : decode cX4_keep 64 = .ok (.return_, 1) := by decide +kernel
theorem dX4_has_0 : decode cX4_has 0 = .ok (.iload_n 1, 1) := by decide +kernel
theorem dX4_has_1 : decode cX4_has 1 = .ok (.ifCond .lt 26, 3) := by decide +kernel
theorem dX4_has_4 : decode cX4_has 4 = .ok (.iload_n 1, 1) := by decide +kernel
theorem dX4_has_5 : decode cX4_has 5 = .ok (.aload_n 0, 1) := by decide +kernel
theorem dX4_has_6 : decode cX4_has 6 = .ok (.getfield 19, 3) := by decide +kernel
theorem dX4_has_9 : decode cX4_has 9 = .ok (.if_icmp .ge 18, 3) := by decide +kernel
theorem dX4_has_12 : decode cX4_has 12 = .ok (.iload_n 1, 1) := by decide +kernel
theorem dX4_has_13 : decode cX4_has 13 = .ok (.aload_n 0, 1) := by decide +kernel
theorem dX4_has_14 : decode cX4_has 14 = .ok (.getfield 19, 3) := by decide +kernel
theorem dX4_has_17 : decode cX4_has 17 = .ok (.bipush 50, 2) := by decide +kernel
theorem dX4_has_19 : decode cX4_has 19 = .ok (.isub, 1) := by decide +kernel
theorem dX4_has_20 : decode cX4_has 20 = .ok (.if_icmp .lt 7, 3) := by decide +kernel
theorem dX4_has_23 : decode cX4_has 23 = .ok (.iconst 1, 1) := by decide +kernel
theorem dX4_has_24 : decode cX4_has 24 = .ok (.goto 4, 3) := by decide +kernel
theorem dX4_has_27 : decode cX4_has 27 = .ok (.iconst 0, 1) := by decide +kernel
theorem dX4_has_28 : decode cX4_has 28 = .ok (.ireturn, 1) := by decide +kernel
theorem dX4_byteOf_0 : decode cX4_byteOf 0 = .ok (.iload_n 1, 1) := by decide +kernel
theorem dX4_byteOf_1 : decode cX4_byteOf 1 = .ok (.bipush 50, 2) := by decide +kernel
theorem dX4_byteOf_3 : decode cX4_byteOf 3 = .ok (.irem, 1) := by decide +kernel
theorem dX4_byteOf_4 : decode cX4_byteOf 4 = .ok (.istore_n 3, 1) := by decide +kernel
theorem dX4_byteOf_5 : decode cX4_byteOf 5 = .ok (.iload_n 2, 1) := by decide +kernel
theorem dX4_byteOf_6 : decode cX4_byteOf 6 = .ok (.aload_n 0, 1) := by decide +kernel
theorem dX4_byteOf_7 : decode cX4_byteOf 7 = .ok (.getfield 15, 3) := by decide +kernel
theorem dX4_byteOf_10 : decode cX4_byteOf 10 = .ok (.iload_n 3, 1) := by decide +kernel
theorem dX4_byteOf_11 : decode cX4_byteOf 11 = .ok (.iaload, 1) := by decide +kernel
theorem dX4_byteOf_12 : decode cX4_byteOf 12 = .ok (.if_icmp .ge 22, 3) := by decide +kernel
theorem dX4_byteOf_15 : decode cX4_byteOf 15 = .ok (.aload_n 0, 1) := by decide +kernel
theorem dX4_byteOf_16 : decode cX4_byteOf 16 = .ok (.getfield 9, 3) := by decide +kernel
theorem dX4_byteOf_19 : decode cX4_byteOf 19 = .ok (.iload_n 3, 1) := by decide +kernel
theorem dX4_byteOf_20 : decode cX4_byteOf 20 = .ok (.sipush 272, 3) := by decide +kernel
theorem dX4_byteOf_23 : decode cX4_byteOf 23 = .ok (.imul, 1) := by decide +kernel
theorem dX4_byteOf_24 : decode cX4_byteOf 24 = .ok (.iload_n 2, 1) := by decide +kernel
theorem dX4_byteOf_25 : decode cX4_byteOf 25 = .ok (.iadd, 1) := by decide +kernel
theorem dX4_byteOf_26 : decode cX4_byteOf 26 = .ok (.baload, 1) := by decide +kernel
theorem dX4_byteOf_27 : decode cX4_byteOf 27 = .ok (.sipush 255, 3) := by decide +kernel
theorem dX4_byteOf_30 : decode cX4_byteOf 30 = .ok (.iand, 1) := by decide +kernel
theorem dX4_byteOf_31 : decode cX4_byteOf 31 = .ok (.goto 4, 3) := by decide +kernel
theorem dX4_byteOf_34 : decode cX4_byteOf 34 = .ok (.iconst (-1), 1) := by decide +kernel
theorem dX4_byteOf_35 : decode cX4_byteOf 35 = .ok (.ireturn, 1) := by decide +kernel
theorem dX5_init_0 : decode cX5_init 0 = .ok (.aload_n 0, 1) := by decide +kernel
theorem dX5_init_1 : decode cX5_init 1 = .ok (.invokespecial 3, 3) := by decide +kernel
theorem dX5_init_4 : decode cX5_init 4 = .ok (.aload_n 0, 1) := by decide +kernel
theorem dX5_init_5 : decode cX5_init 5 = .ok (.sipush 277, 3) := by decide +kernel
theorem dX5_init_8 : decode cX5_init 8 = .ok (.newarray .int, 2) := by decide +kernel
theorem dX5_init_10 : decode cX5_init 10 = .ok (.putfield 9, 3) := by decide +kernel
theorem dX5_init_13 : decode cX5_init 13 = .ok (.return_, 1) := by decide +kernel
theorem dX5_backwardNumber_0 : decode cX5_backwardNumber 0 = .ok (.aload_n 0, 1) := by decide +kernel
theorem dX5_backwardNumber_1 : decode cX5_backwardNumber 1 = .ok (.getfield 9, 3) := by decide +kernel
theorem dX5_backwardNumber_4 : decode cX5_backwardNumber 4 = .ok (.iconst 0, 1) := by decide +kernel
theorem dX5_backwardNumber_5 : decode cX5_backwardNumber 5 = .ok (.iaload, 1) := by decide +kernel
theorem dX5_backwardNumber_6 : decode cX5_backwardNumber 6 = .ok (.bipush 127, 2) := by decide +kernel
theorem dX5_backwardNumber_8 : decode cX5_backwardNumber 8 = .ok (.iand, 1) := by decide +kernel
theorem dX5_backwardNumber_9 : decode cX5_backwardNumber 9 = .ok (.ireturn, 1) := by decide +kernel
theorem dX5_backwardIndicator_0 : decode cX5_backwardIndicator 0 = .ok (.aload_n 0, 1) := by decide +kernel
theorem dX5_backwardIndicator_1 : decode cX5_backwardIndicator 1 = .ok (.getfield 9, 3) := by decide +kernel
theorem dX5_backwardIndicator_4 : decode cX5_backwardIndicator 4 = .ok (.iconst 0, 1) := by decide +kernel
theorem dX5_backwardIndicator_5 : decode cX5_backwardIndicator 5 = .ok (.iaload, 1) := by decide +kernel
theorem dX5_backwardIndicator_6 : decode cX5_backwardIndicator 6 = .ok (.bipush 7, 2) := by decide +kernel
theorem dX5_backwardIndicator_8 : decode cX5_backwardIndicator 8 = .ok (.ishr, 1) := by decide +kernel
theorem dX5_backwardIndicator_9 : decode cX5_backwardIndicator 9 = .ok (.ireturn, 1) := by decide +kernel
theorem dX5_forwardNumber_0 : decode cX5_forwardNumber 0 = .ok (.aload_n 0, 1) := by decide +kernel
theorem dX5_forwardNumber_1 : decode cX5_forwardNumber 1 = .ok (.getfield 9, 3) := by decide +kernel
theorem dX5_forwardNumber_4 : decode cX5_forwardNumber 4 = .ok (.iconst 1, 1) := by decide +kernel
theorem dX5_forwardNumber_5 : decode cX5_forwardNumber 5 = .ok (.iaload, 1) := by decide +kernel
theorem dX5_forwardNumber_6 : decode cX5_forwardNumber 6 = .ok (.bipush 127, 2) := by decide +kernel
theorem dX5_forwardNumber_8 : decode cX5_forwardNumber 8 = .ok (.iand, 1) := by decide +kernel
theorem dX5_forwardNumber_9 : decode cX5_forwardNumber 9 = .ok (.ireturn, 1) := by decide +kernel
theorem dX5_forwardIndicator_0 : decode cX5_forwardIndicator 0 = .ok (.aload_n 0, 1) := by decide +kernel
theorem dX5_forwardIndicator_1 : decode cX5_forwardIndicator 1 = .ok (.getfield 9, 3) := by decide +kernel
theorem dX5_forwardIndicator_4 : decode cX5_forwardIndicator 4 = .ok (.iconst 1, 1) := by decide +kernel
theorem dX5_forwardIndicator_5 : decode cX5_forwardIndicator 5 = .ok (.iaload, 1) := by decide +kernel
theorem dX5_forwardIndicator_6 : decode cX5_forwardIndicator 6 = .ok (.bipush 7, 2) := by decide +kernel
theorem dX5_forwardIndicator_8 : decode cX5_forwardIndicator 8 = .ok (.ishr, 1) := by decide +kernel
theorem dX5_forwardIndicator_9 : decode cX5_forwardIndicator 9 = .ok (.ireturn, 1) := by decide +kernel
theorem dX5_bodyLength_0 : decode cX5_bodyLength 0 = .ok (.aload_n 0, 1) := by decide +kernel
theorem dX5_bodyLength_1 : decode cX5_bodyLength 1 = .ok (.getfield 15, 3) := by decide +kernel
theorem dX5_bodyLength_4 : decode cX5_bodyLength 4 = .ok (.iconst 5, 1) := by decide +kernel
theorem dX5_bodyLength_5 : decode cX5_bodyLength 5 = .ok (.isub, 1) := by decide +kernel
theorem dX5_bodyLength_6 : decode cX5_bodyLength 6 = .ok (.ireturn, 1) := by decide +kernel
theorem dX5_bodyByte_0 : decode cX5_bodyByte 0 = .ok (.aload_n 0, 1) := by decide +kernel
theorem dX5_bodyByte_1 : decode cX5_bodyByte 1 = .ok (.getfield 9, 3) := by decide +kernel
theorem dX5_bodyByte_4 : decode cX5_bodyByte 4 = .ok (.iconst 3, 1) := by decide +kernel
theorem dX5_bodyByte_5 : decode cX5_bodyByte 5 = .ok (.iload_n 1, 1) := by decide +kernel
theorem dX5_bodyByte_6 : decode cX5_bodyByte 6 = .ok (.iadd, 1) := by decide +kernel
theorem dX5_bodyByte_7 : decode cX5_bodyByte 7 = .ok (.iaload, 1) := by decide +kernel
theorem dX5_bodyByte_8 : decode cX5_bodyByte 8 = .ok (.ireturn, 1) := by decide +kernel
theorem dX5_writeHead_0 : decode cX5_writeHead 0 = .ok (.aload_n 0, 1) := by decide +kernel
theorem dX5_writeHead_1 : decode cX5_writeHead 1 = .ok (.getfield 9, 3) := by decide +kernel
theorem dX5_writeHead_4 : decode cX5_writeHead 4 = .ok (.iconst 0, 1) := by decide +kernel
theorem dX5_writeHead_5 : decode cX5_writeHead 5 = .ok (.iload_n 1, 1) := by decide +kernel
theorem dX5_writeHead_6 : decode cX5_writeHead 6 = .ok (.iastore, 1) := by decide +kernel
theorem dX5_writeHead_7 : decode cX5_writeHead 7 = .ok (.aload_n 0, 1) := by decide +kernel
theorem dX5_writeHead_8 : decode cX5_writeHead 8 = .ok (.getfield 9, 3) := by decide +kernel
theorem dX5_writeHead_11 : decode cX5_writeHead 11 = .ok (.iconst 1, 1) := by decide +kernel
theorem dX5_writeHead_12 : decode cX5_writeHead 12 = .ok (.iload_n 2, 1) := by decide +kernel
theorem dX5_writeHead_13 : decode cX5_writeHead 13 = .ok (.iastore, 1) := by decide +kernel
theorem dX5_writeHead_14 : decode cX5_writeHead 14 = .ok (.aload_n 0, 1) := by decide +kernel
theorem dX5_writeHead_15 : decode cX5_writeHead 15 = .ok (.getfield 9, 3) := by decide +kernel
theorem dX5_writeHead_18 : decode cX5_writeHead 18 = .ok (.iconst 2, 1) := by decide +kernel
theorem dX5_writeHead_19 : decode cX5_writeHead 19 = .ok (.iload_n 3, 1) := by decide +kernel
theorem dX5_writeHead_20 : decode cX5_writeHead 20 = .ok (.bipush 63, 2) := by decide +kernel
theorem dX5_writeHead_22 : decode cX5_writeHead 22 = .ok (.invokestatic 19, 3) := by decide +kernel
theorem dX5_writeHead_25 : decode cX5_writeHead 25 = .ok (.iastore, 1) := by decide +kernel
theorem dX5_writeHead_26 : decode cX5_writeHead 26 = .ok (.aload_n 0, 1) := by decide +kernel
theorem dX5_writeHead_27 : decode cX5_writeHead 27 = .ok (.iconst 5, 1) := by decide +kernel
theorem dX5_writeHead_28 : decode cX5_writeHead 28 = .ok (.iload_n 3, 1) := by decide +kernel
theorem dX5_writeHead_29 : decode cX5_writeHead 29 = .ok (.iadd, 1) := by decide +kernel
theorem dX5_writeHead_30 : decode cX5_writeHead 30 = .ok (.putfield 15, 3) := by decide +kernel
theorem dX5_writeHead_33 : decode cX5_writeHead 33 = .ok (.return_, 1) := by decide +kernel
set_option maxRecDepth 20000 in
theorem ggX5_writeBody_X5_bodyLength : GoodIn wsX5_writeBody wsX5_bodyLength := goodIn_r _ [6, 7, 8, 9] (by decide +kernel) (by decide +kernel)
set_option maxRecDepth 20000 in
theorem gX5_writeBody_X5_bodyLength : GoodIn wsX5_writeBody (wsV RX5 25 RX5 yX5_bodyLength wsX5_bodyLength) := goodIn_app (goodIn_of _ (by decide +kernel)) ggX5_writeBody_X5_bodyLength
theorem dX5_writeBody_0 : decode cX5_writeBody 0 = .ok (.iconst 0, 1) := by decide +kernel
theorem dX5_writeBody_1 : decode cX5_writeBody 1 = .ok (.istore_n 2, 1) := by decide +kernel
theorem dX5_writeBody_2 : decode cX5_writeBody 2 = .ok (.iload_n 2, 1) := by decide +kernel
theorem dX5_writeBody_3 : decode cX5_writeBody 3 = .ok (.aload_n 0, 1) := by decide +kernel
theorem dX5_writeBody_4 : decode cX5_writeBody 4 = .ok (.invokevirtual 25, 3) := by decide +kernel
theorem dX5_writeBody_7 : decode cX5_writeBody 7 = .ok (.if_icmp .ge 32, 3) := by decide +kernel
theorem dX5_writeBody_10 : decode cX5_writeBody 10 = .ok (.aload_n 0, 1) := by decide +kernel
theorem dX5_writeBody_11 : decode cX5_writeBody 11 = .ok (.getfield 9, 3) := by decide +kernel
theorem dX5_writeBody_14 : decode cX5_writeBody 14 = .ok (.iconst 3, 1) := by decide +kernel
theorem dX5_writeBody_15 : decode cX5_writeBody 15 = .ok (.iload_n 2, 1) := by decide +kernel
theorem dX5_writeBody_16 : decode cX5_writeBody 16 = .ok (.iadd, 1) := by decide +kernel
theorem dX5_writeBody_17 : decode cX5_writeBody 17 = .ok (.iload_n 1, 1) := by decide +kernel
theorem dX5_writeBody_18 : decode cX5_writeBody 18 = .ok (.bipush 37, 2) := by decide +kernel
theorem dX5_writeBody_20 : decode cX5_writeBody 20 = .ok (.iload_n 2, 1) := by decide +kernel
theorem dX5_writeBody_21 : decode cX5_writeBody 21 = .ok (.imul, 1) := by decide +kernel
theorem dX5_writeBody_22 : decode cX5_writeBody 22 = .ok (.iadd, 1) := by decide +kernel
theorem dX5_writeBody_23 : decode cX5_writeBody 23 = .ok (.iload_n 2, 1) := by decide +kernel
theorem dX5_writeBody_24 : decode cX5_writeBody 24 = .ok (.bipush 8, 2) := by decide +kernel
theorem dX5_writeBody_26 : decode cX5_writeBody 26 = .ok (.idiv, 1) := by decide +kernel
theorem dX5_writeBody_27 : decode cX5_writeBody 27 = .ok (.iadd, 1) := by decide +kernel
theorem dX5_writeBody_28 : decode cX5_writeBody 28 = .ok (.sipush 255, 3) := by decide +kernel
theorem dX5_writeBody_31 : decode cX5_writeBody 31 = .ok (.iand, 1) := by decide +kernel
theorem dX5_writeBody_32 : decode cX5_writeBody 32 = .ok (.iastore, 1) := by decide +kernel
theorem dX5_writeBody_33 : decode cX5_writeBody 33 = .ok (.iinc 2 1, 3) := by decide +kernel
theorem dX5_writeBody_36 : decode cX5_writeBody 36 = .ok (.goto (-34), 3) := by decide +kernel
theorem dX5_writeBody_39 : decode cX5_writeBody 39 = .ok (.return_, 1) := by decide +kernel
set_option maxRecDepth 20000 in
theorem ggX5_writeCheck_X5_checkDue : GoodIn wsX5_writeCheck wsX5_checkDue := goodIn_r _ [7, 8, 2, 1, 9, 10, 11, 12, 13, 14] (by decide +kernel) (by decide +kernel)
set_option maxRecDepth 20000 in
theorem gX5_writeCheck_X5_checkDue : GoodIn wsX5_writeCheck (wsV RX5 29 RX5 yX5_checkDue wsX5_checkDue) := goodIn_app (goodIn_of _ (by decide +kernel)) ggX5_writeCheck_X5_checkDue
theorem dX5_writeCheck_0 : decode cX5_writeCheck 0 = .ok (.aload_n 0, 1) := by decide +kernel
theorem dX5_writeCheck_1 : decode cX5_writeCheck 1 = .ok (.invokevirtual 29, 3) := by decide +kernel
theorem dX5_writeCheck_4 : decode cX5_writeCheck 4 = .ok (.istore_n 1, 1) := by decide +kernel
theorem dX5_writeCheck_5 : decode cX5_writeCheck 5 = .ok (.aload_n 0, 1) := by decide +kernel
theorem dX5_writeCheck_6 : decode cX5_writeCheck 6 = .ok (.getfield 9, 3) := by decide +kernel
theorem dX5_writeCheck_9 : decode cX5_writeCheck 9 = .ok (.aload_n 0, 1) := by decide +kernel
theorem dX5_writeCheck_10 : decode cX5_writeCheck 10 = .ok (.getfield 15, 3) := by decide +kernel
theorem dX5_writeCheck_13 : decode cX5_writeCheck 13 = .ok (.iconst 2, 1) := by decide +kernel
theorem dX5_writeCheck_14 : decode cX5_writeCheck 14 = .ok (.isub, 1) := by decide +kernel
theorem dX5_writeCheck_15 : decode cX5_writeCheck 15 = .ok (.iload_n 1, 1) := by decide +kernel
theorem dX5_writeCheck_16 : decode cX5_writeCheck 16 = .ok (.sipush 255, 3) := by decide +kernel
theorem dX5_writeCheck_19 : decode cX5_writeCheck 19 = .ok (.iand, 1) := by decide +kernel
theorem dX5_writeCheck_20 : decode cX5_writeCheck 20 = .ok (.iastore, 1) := by decide +kernel
theorem dX5_writeCheck_21 : decode cX5_writeCheck 21 = .ok (.aload_n 0, 1) := by decide +kernel
theorem dX5_writeCheck_22 : decode cX5_writeCheck 22 = .ok (.getfield 9, 3) := by decide +kernel
theorem dX5_writeCheck_25 : decode cX5_writeCheck 25 = .ok (.aload_n 0, 1) := by decide +kernel
theorem dX5_writeCheck_26 : decode cX5_writeCheck 26 = .ok (.getfield 15, 3) := by decide +kernel
theorem dX5_writeCheck_29 : decode cX5_writeCheck 29 = .ok (.iconst 1, 1) := by decide +kernel
theorem dX5_writeCheck_30 : decode cX5_writeCheck 30 = .ok (.isub, 1) := by decide +kernel
theorem dX5_writeCheck_31 : decode cX5_writeCheck 31 = .ok (.iload_n 1, 1) := by decide +kernel
theorem dX5_writeCheck_32 : decode cX5_writeCheck 32 = .ok (.bipush 8, 2) := by decide +kernel
theorem dX5_writeCheck_34 : decode cX5_writeCheck 34 = .ok (.ishr, 1) := by decide +kernel
theorem dX5_writeCheck_35 : decode cX5_writeCheck 35 = .ok (.iastore, 1) := by decide +kernel
theorem dX5_writeCheck_36 : decode cX5_writeCheck 36 = .ok (.return_, 1) := by decide +kernel
set_option maxRecDepth 20000 in
theorem ggX5_checkDue_X6_restBehind : GoodIn wsX5_checkDue wsX6_restBehind := goodIn_r _ [6, 7] (by decide +kernel) (by decide +kernel)
set_option maxRecDepth 20000 in
theorem gX5_checkDue_X6_restBehind_n33 : GoodIn wsX5_checkDue (wsX6_restBehind) := ggX5_checkDue_X6_restBehind
theorem dX5_checkDue_0 : decode cX5_checkDue 0 = .ok (.ldc 32, 2) := by decide +kernel
theorem dX5_checkDue_2 : decode cX5_checkDue 2 = .ok (.istore_n 1, 1) := by decide +kernel
theorem dX5_checkDue_3 : decode cX5_checkDue 3 = .ok (.iconst 0, 1) := by decide +kernel
theorem dX5_checkDue_4 : decode cX5_checkDue 4 = .ok (.istore_n 2, 1) := by decide +kernel
theorem dX5_checkDue_5 : decode cX5_checkDue 5 = .ok (.iload_n 2, 1) := by decide +kernel
theorem dX5_checkDue_6 : decode cX5_checkDue 6 = .ok (.aload_n 0, 1) := by decide +kernel
theorem dX5_checkDue_7 : decode cX5_checkDue 7 = .ok (.getfield 15, 3) := by decide +kernel
theorem dX5_checkDue_10 : decode cX5_checkDue 10 = .ok (.iconst 2, 1) := by decide +kernel
theorem dX5_checkDue_11 : decode cX5_checkDue 11 = .ok (.isub, 1) := by decide +kernel
theorem dX5_checkDue_12 : decode cX5_checkDue 12 = .ok (.if_icmp .ge 20, 3) := by decide +kernel
theorem dX5_checkDue_15 : decode cX5_checkDue 15 = .ok (.iload_n 1, 1) := by decide +kernel
theorem dX5_checkDue_16 : decode cX5_checkDue 16 = .ok (.aload_n 0, 1) := by decide +kernel
theorem dX5_checkDue_17 : decode cX5_checkDue 17 = .ok (.getfield 9, 3) := by decide +kernel
theorem dX5_checkDue_20 : decode cX5_checkDue 20 = .ok (.iload_n 2, 1) := by decide +kernel
theorem dX5_checkDue_21 : decode cX5_checkDue 21 = .ok (.iaload, 1) := by decide +kernel
theorem dX5_checkDue_22 : decode cX5_checkDue 22 = .ok (.invokestatic 33, 3) := by decide +kernel
theorem dX5_checkDue_25 : decode cX5_checkDue 25 = .ok (.istore_n 1, 1) := by decide +kernel
theorem dX5_checkDue_26 : decode cX5_checkDue 26 = .ok (.iinc 2 1, 3) := by decide +kernel
theorem dX5_checkDue_29 : decode cX5_checkDue 29 = .ok (.goto (-24), 3) := by decide +kernel
theorem dX5_checkDue_32 : decode cX5_checkDue 32 = .ok (.ldc 32, 2) := by decide +kernel
theorem dX5_checkDue_34 : decode cX5_checkDue 34 = .ok (.iload_n 1, 1) := by decide +kernel
theorem dX5_checkDue_35 : decode cX5_checkDue 35 = .ok (.isub, 1) := by decide +kernel
theorem dX5_checkDue_36 : decode cX5_checkDue 36 = .ok (.ireturn, 1) := by decide +kernel
set_option maxRecDepth 20000 in
theorem ggX5_writeTo_X1_addFlag : GoodIn wsX5_writeTo wsX1_addFlag := goodIn_r _ [7, 8, 9, 10, 6, 11, 12, 13, 14, 15, 16, 17, 18, 19, 20, 21, 25, 26] (by decide +kernel) (by decide +kernel)
set_option maxRecDepth 20000 in
theorem gX5_writeTo_X1_addFlag : GoodIn wsX5_writeTo (wsV RX5 36 RX1 yX1_addFlag wsX1_addFlag) := goodIn_app (goodIn_of _ (by decide +kernel)) ggX5_writeTo_X1_addFlag
set_option maxRecDepth 20000 in
theorem ggX5_writeTo_X1_add : GoodIn wsX5_writeTo wsX1_add := goodIn_r _ [11, 12, 13, 14, 15, 6, 16, 17, 18, 19, 20, 21, 25, 26] (by decide +kernel) (by decide +kernel)
set_option maxRecDepth 20000 in
theorem gX5_writeTo_X1_add : GoodIn wsX5_writeTo (wsV RX5 41 RX1 yX1_add wsX1_add) := goodIn_app (goodIn_of _ (by decide +kernel)) ggX5_writeTo_X1_add
theorem dX5_writeTo_0 : decode cX5_writeTo 0 = .ok (.aload_n 1, 1) := by decide +kernel
theorem dX5_writeTo_1 : decode cX5_writeTo 1 = .ok (.invokevirtual 36, 3) := by decide +kernel
theorem dX5_writeTo_4 : decode cX5_writeTo 4 = .ok (.iconst 0, 1) := by decide +kernel
theorem dX5_writeTo_5 : decode cX5_writeTo 5 = .ok (.istore_n 2, 1) := by decide +kernel
theorem dX5_writeTo_6 : decode cX5_writeTo 6 = .ok (.iconst 0, 1) := by decide +kernel
theorem dX5_writeTo_7 : decode cX5_writeTo 7 = .ok (.istore_n 3, 1) := by decide +kernel
theorem dX5_writeTo_8 : decode cX5_writeTo 8 = .ok (.iload_n 3, 1) := by decide +kernel
theorem dX5_writeTo_9 : decode cX5_writeTo 9 = .ok (.bipush 8, 2) := by decide +kernel
theorem dX5_writeTo_11 : decode cX5_writeTo 11 = .ok (.aload_n 0, 1) := by decide +kernel
theorem dX5_writeTo_12 : decode cX5_writeTo 12 = .ok (.getfield 15, 3) := by decide +kernel
theorem dX5_writeTo_15 : decode cX5_writeTo 15 = .ok (.imul, 1) := by decide +kernel
theorem dX5_writeTo_16 : decode cX5_writeTo 16 = .ok (.if_icmp .ge 59, 3) := by decide +kernel
theorem dX5_writeTo_19 : decode cX5_writeTo 19 = .ok (.aload_n 0, 1) := by decide +kernel
theorem dX5_writeTo_20 : decode cX5_writeTo 20 = .ok (.getfield 9, 3) := by decide +kernel
theorem dX5_writeTo_23 : decode cX5_writeTo 23 = .ok (.iload_n 3, 1) := by decide +kernel
theorem dX5_writeTo_24 : decode cX5_writeTo 24 = .ok (.bipush 8, 2) := by decide +kernel
theorem dX5_writeTo_26 : decode cX5_writeTo 26 = .ok (.idiv, 1) := by decide +kernel
theorem dX5_writeTo_27 : decode cX5_writeTo 27 = .ok (.iaload, 1) := by decide +kernel
theorem dX5_writeTo_28 : decode cX5_writeTo 28 = .ok (.iload_n 3, 1) := by decide +kernel
theorem dX5_writeTo_29 : decode cX5_writeTo 29 = .ok (.bipush 8, 2) := by decide +kernel
theorem dX5_writeTo_31 : decode cX5_writeTo 31 = .ok (.irem, 1) := by decide +kernel
theorem dX5_writeTo_32 : decode cX5_writeTo 32 = .ok (.ishr, 1) := by decide +kernel
theorem dX5_writeTo_33 : decode cX5_writeTo 33 = .ok (.iconst 1, 1) := by decide +kernel
theorem dX5_writeTo_34 : decode cX5_writeTo 34 = .ok (.iand, 1) := by decide +kernel
theorem dX5_writeTo_35 : decode cX5_writeTo 35 = .ok (.istore 4, 2) := by decide +kernel
theorem dX5_writeTo_37 : decode cX5_writeTo 37 = .ok (.aload_n 1, 1) := by decide +kernel
theorem dX5_writeTo_38 : decode cX5_writeTo 38 = .ok (.iload 4, 2) := by decide +kernel
theorem dX5_writeTo_40 : decode cX5_writeTo 40 = .ok (.invokevirtual 41, 3) := by decide +kernel
theorem dX5_writeTo_43 : decode cX5_writeTo 43 = .ok (.iload 4, 2) := by decide +kernel
theorem dX5_writeTo_45 : decode cX5_writeTo 45 = .ok (.iconst 1, 1) := by decide +kernel
theorem dX5_writeTo_46 : decode cX5_writeTo 46 = .ok (.if_icmp .ne 9, 3) := by decide +kernel
theorem dX5_writeTo_49 : decode cX5_writeTo 49 = .ok (.iload_n 2, 1) := by decide +kernel
theorem dX5_writeTo_50 : decode cX5_writeTo 50 = .ok (.iconst 1, 1) := by decide +kernel
theorem dX5_writeTo_51 : decode cX5_writeTo 51 = .ok (.iadd, 1) := by decide +kernel
theorem dX5_writeTo_52 : decode cX5_writeTo 52 = .ok (.goto 4, 3) := by decide +kernel
theorem dX5_writeTo_55 : decode cX5_writeTo 55 = .ok (.iconst 0, 1) := by decide +kernel
theorem dX5_writeTo_56 : decode cX5_writeTo 56 = .ok (.istore_n 2, 1) := by decide +kernel
theorem dX5_writeTo_57 : decode cX5_writeTo 57 = .ok (.iload_n 2, 1) := by decide +kernel
theorem dX5_writeTo_58 : decode cX5_writeTo 58 = .ok (.iconst 5, 1) := by decide +kernel
theorem dX5_writeTo_59 : decode cX5_writeTo 59 = .ok (.if_icmp .ne 10, 3) := by decide +kernel
theorem dX5_writeTo_62 : decode cX5_writeTo 62 = .ok (.aload_n 1, 1) := by decide +kernel
theorem dX5_writeTo_63 : decode cX5_writeTo 63 = .ok (.iconst 0, 1) := by decide +kernel
theorem dX5_writeTo_64 : decode cX5_writeTo 64 = .ok (.invokevirtual 41, 3) := by decide +kernel
theorem dX5_writeTo_67 : decode cX5_writeTo 67 = .ok (.iconst 0, 1) := by decide +kernel
theorem dX5_writeTo_68 : decode cX5_writeTo 68 = .ok (.istore_n 2, 1) := by decide +kernel
theorem dX5_writeTo_69 : decode cX5_writeTo 69 = .ok (.iinc 3 1, 3) := by decide +kernel
theorem dX5_writeTo_72 : decode cX5_writeTo 72 = .ok (.goto (-64), 3) := by decide +kernel
theorem dX5_writeTo_75 : decode cX5_writeTo 75 = .ok (.aload_n 1, 1) := by decide +kernel
theorem dX5_writeTo_76 : decode cX5_writeTo 76 = .ok (.invokevirtual 36, 3) := by decide +kernel
theorem dX5_writeTo_79 : decode cX5_writeTo 79 = .ok (.return_, 1) := by decide +kernel
set_option maxRecDepth 20000 in
theorem ggX5_readFrom_X1_isBetweenFlags : GoodIn wsX5_readFrom wsX1_isBetweenFlags := goodIn_r _ [11, 12, 13, 14, 15, 10, 16, 17, 18, 19, 20, 21, 51, 52] (by decide +kernel) (by decide +kernel)
set_option maxRecDepth 20000 in
theorem gX5_readFrom_X1_isBetweenFlags : GoodIn wsX5_readFrom (wsV RX5 45 RX1 yX1_isBetweenFlags wsX1_isBetweenFlags) := goodIn_app (goodIn_of _ (by decide +kernel)) ggX5_readFrom_X1_isBetweenFlags
set_option maxRecDepth 20000 in
theorem ggX5_readFrom_X1_hasSixOnesBetweenFlags : GoodIn wsX5_readFrom wsX1_hasSixOnesBetweenFlags := goodIn_r _ [25, 12, 17, 18, 19, 10, 20, 21, 51, 52] (by decide +kernel) (by decide +kernel)
set_option maxRecDepth 20000 in
theorem gX5_readFrom_X1_hasSixOnesBetweenFlags : GoodIn wsX5_readFrom (wsV RX5 49 RX1 yX1_hasSixOnesBetweenFlags wsX1_hasSixOnesBetweenFlags) := goodIn_app (goodIn_of _ (by decide +kernel)) ggX5_readFrom_X1_hasSixOnesBetweenFlags
set_option maxRecDepth 20000 in
theorem ggX5_readFrom_X5_readBits : GoodIn wsX5_readFrom wsX5_readBits := goodIn_r _ [30, 31, 18, 19, 10, 20, 21, 32, 33, 34, 29, 35, 2, 51, 52, 49, 50] (by decide +kernel) (by decide +kernel)
set_option maxRecDepth 20000 in
theorem gX5_readFrom_X5_readBits : GoodIn wsX5_readFrom (wsV RX5 52 RX5 yX5_readBits wsX5_readBits) := goodIn_app (goodIn_of _ (by decide +kernel)) ggX5_readFrom_X5_readBits
set_option maxRecDepth 20000 in
theorem ggX5_readFrom_X5_checkDue : GoodIn wsX5_readFrom wsX5_checkDue := goodIn_r _ [39, 40, 1, 2, 41, 42, 43, 44, 49, 50] (by decide +kernel) (by decide +kernel)
set_option maxRecDepth 20000 in
theorem gX5_readFrom_X5_checkDue : GoodIn wsX5_readFrom (wsV RX5 29 RX5 yX5_checkDue wsX5_checkDue) := goodIn_app (goodIn_of _ (by decide +kernel)) ggX5_readFrom_X5_checkDue
set_option maxRecDepth 20000 in
theorem ggX5_readFrom_X5_bodyLength : GoodIn wsX5_readFrom wsX5_bodyLength := goodIn_r _ [48, 1, 49, 50] (by decide +kernel) (by decide +kernel)
set_option maxRecDepth 20000 in
theorem gX5_readFrom_X5_bodyLength : GoodIn wsX5_readFrom (wsV RX5 25 RX5 yX5_bodyLength wsX5_bodyLength) := goodIn_app (goodIn_of _ (by decide +kernel)) ggX5_readFrom_X5_bodyLength
theorem dX5_readFrom_0 : decode cX5_readFrom 0 = .ok (.aload_n 1, 1) := by decide +kernel
theorem dX5_readFrom_1 : decode cX5_readFrom 1 = .ok (.invokevirtual 45, 3) := by decide +kernel
theorem dX5_readFrom_4 : decode cX5_readFrom 4 = .ok (.ifCond .ne 5, 3) := by decide +kernel
theorem dX5_readFrom_7 : decode cX5_readFrom 7 = .ok (.iconst 1, 1) := by decide +kernel
theorem dX5_readFrom_8 : decode cX5_readFrom 8 = .ok (.ireturn, 1) := by decide +kernel
theorem dX5_readFrom_9 : decode cX5_readFrom 9 = .ok (.aload_n 1, 1) := by decide +kernel
theorem dX5_readFrom_10 : decode cX5_readFrom 10 = .ok (.invokevirtual 49, 3) := by decide +kernel
theorem dX5_readFrom_13 : decode cX5_readFrom 13 = .ok (.ifCond .eq 5, 3) := by decide +kernel
theorem dX5_readFrom_16 : decode cX5_readFrom 16 = .ok (.iconst 2, 1) := by decide +kernel
theorem dX5_readFrom_17 : decode cX5_readFrom 17 = .ok (.ireturn, 1) := by decide +kernel
theorem dX5_readFrom_18 : decode cX5_readFrom 18 = .ok (.aload_n 0, 1) := by decide +kernel
theorem dX5_readFrom_19 : decode cX5_readFrom 19 = .ok (.aload_n 1, 1) := by decide +kernel
theorem dX5_readFrom_20 : decode cX5_readFrom 20 = .ok (.invokevirtual 52, 3) := by decide +kernel
theorem dX5_readFrom_23 : decode cX5_readFrom 23 = .ok (.istore_n 2, 1) := by decide +kernel
theorem dX5_readFrom_24 : decode cX5_readFrom 24 = .ok (.iload_n 2, 1) := by decide +kernel
theorem dX5_readFrom_25 : decode cX5_readFrom 25 = .ok (.bipush 8, 2) := by decide +kernel
theorem dX5_readFrom_27 : decode cX5_readFrom 27 = .ok (.irem, 1) := by decide +kernel
theorem dX5_readFrom_28 : decode cX5_readFrom 28 = .ok (.ifCond .ne 16, 3) := by decide +kernel
theorem dX5_readFrom_31 : decode cX5_readFrom 31 = .ok (.iload_n 2, 1) := by decide +kernel
theorem dX5_readFrom_32 : decode cX5_readFrom 32 = .ok (.bipush 40, 2) := by decide +kernel
theorem dX5_readFrom_34 : decode cX5_readFrom 34 = .ok (.if_icmp .lt 10, 3) := by decide +kernel
theorem dX5_readFrom_37 : decode cX5_readFrom 37 = .ok (.iload_n 2, 1) := by decide +kernel
theorem dX5_readFrom_38 : decode cX5_readFrom 38 = .ok (.sipush 2216, 3) := by decide +kernel
theorem dX5_readFrom_41 : decode cX5_readFrom 41 = .ok (.if_icmp .le 5, 3) := by decide +kernel
theorem dX5_readFrom_44 : decode cX5_readFrom 44 = .ok (.iconst 3, 1) := by decide +kernel
theorem dX5_readFrom_45 : decode cX5_readFrom 45 = .ok (.ireturn, 1) := by decide +kernel
theorem dX5_readFrom_46 : decode cX5_readFrom 46 = .ok (.aload_n 0, 1) := by decide +kernel
theorem dX5_readFrom_47 : decode cX5_readFrom 47 = .ok (.iload_n 2, 1) := by decide +kernel
theorem dX5_readFrom_48 : decode cX5_readFrom 48 = .ok (.bipush 8, 2) := by decide +kernel
theorem dX5_readFrom_50 : decode cX5_readFrom 50 = .ok (.idiv, 1) := by decide +kernel
theorem dX5_readFrom_51 : decode cX5_readFrom 51 = .ok (.putfield 15, 3) := by decide +kernel
theorem dX5_readFrom_54 : decode cX5_readFrom 54 = .ok (.aload_n 0, 1) := by decide +kernel
theorem dX5_readFrom_55 : decode cX5_readFrom 55 = .ok (.getfield 9, 3) := by decide +kernel
theorem dX5_readFrom_58 : decode cX5_readFrom 58 = .ok (.aload_n 0, 1) := by decide +kernel
theorem dX5_readFrom_59 : decode cX5_readFrom 59 = .ok (.getfield 15, 3) := by decide +kernel
theorem dX5_readFrom_62 : decode cX5_readFrom 62 = .ok (.iconst 2, 1) := by decide +kernel
theorem dX5_readFrom_63 : decode cX5_readFrom 63 = .ok (.isub, 1) := by decide +kernel
theorem dX5_readFrom_64 : decode cX5_readFrom 64 = .ok (.iaload, 1) := by decide +kernel
theorem dX5_readFrom_65 : decode cX5_readFrom 65 = .ok (.sipush 256, 3) := by decide +kernel
theorem dX5_readFrom_68 : decode cX5_readFrom 68 = .ok (.aload_n 0, 1) := by decide +kernel
theorem dX5_readFrom_69 : decode cX5_readFrom 69 = .ok (.getfield 9, 3) := by decide +kernel
theorem dX5_readFrom_72 : decode cX5_readFrom 72 = .ok (.aload_n 0, 1) := by decide +kernel
theorem dX5_readFrom_73 : decode cX5_readFrom 73 = .ok (.getfield 15, 3) := by decide +kernel
theorem dX5_readFrom_76 : decode cX5_readFrom 76 = .ok (.iconst 1, 1) := by decide +kernel
theorem dX5_readFrom_77 : decode cX5_readFrom 77 = .ok (.isub, 1) := by decide +kernel
theorem dX5_readFrom_78 : decode cX5_readFrom 78 = .ok (.iaload, 1) := by decide +kernel
theorem dX5_readFrom_79 : decode cX5_readFrom 79 = .ok (.imul, 1) := by decide +kernel
theorem dX5_readFrom_80 : decode cX5_readFrom 80 = .ok (.iadd, 1) := by decide +kernel
theorem dX5_readFrom_81 : decode cX5_readFrom 81 = .ok (.aload_n 0, 1) := by decide +kernel
theorem dX5_readFrom_82 : decode cX5_readFrom 82 = .ok (.invokevirtual 29, 3) := by decide +kernel
theorem dX5_readFrom_85 : decode cX5_readFrom 85 = .ok (.if_icmp .eq 5, 3) := by decide +kernel
theorem dX5_readFrom_88 : decode cX5_readFrom 88 = .ok (.iconst 4, 1) := by decide +kernel
theorem dX5_readFrom_89 : decode cX5_readFrom 89 = .ok (.ireturn, 1) := by decide +kernel
theorem dX5_readFrom_90 : decode cX5_readFrom 90 = .ok (.aload_n 0, 1) := by decide +kernel
theorem dX5_readFrom_91 : decode cX5_readFrom 91 = .ok (.getfield 9, 3) := by decide +kernel
theorem dX5_readFrom_94 : decode cX5_readFrom 94 = .ok (.iconst 2, 1) := by decide +kernel
theorem dX5_readFrom_95 : decode cX5_readFrom 95 = .ok (.iaload, 1) := by decide +kernel
theorem dX5_readFrom_96 : decode cX5_readFrom 96 = .ok (.aload_n 0, 1) := by decide +kernel
theorem dX5_readFrom_97 : decode cX5_readFrom 97 = .ok (.invokevirtual 25, 3) := by decide +kernel
theorem dX5_readFrom_100 : decode cX5_readFrom 100 = .ok (.bipush 63, 2) := by decide +kernel
theorem dX5_readFrom_102 : decode cX5_readFrom 102 = .ok (.invokestatic 19, 3) := by decide +kernel
theorem dX5_readFrom_105 : decode cX5_readFrom 105 = .ok (.if_icmp .ne 7, 3) := by decide +kernel
theorem dX5_readFrom_108 : decode cX5_readFrom 108 = .ok (.iconst 0, 1) := by decide +kernel
theorem dX5_readFrom_109 : decode cX5_readFrom 109 = .ok (.goto 4, 3) := by decide +kernel
theorem dX5_readFrom_112 : decode cX5_readFrom 112 = .ok (.iconst 5, 1) := by decide +kernel
theorem dX5_readFrom_113 : decode cX5_readFrom 113 = .ok (.ireturn, 1) := by decide +kernel
set_option maxRecDepth 20000 in
theorem ggX5_readBits_X1_valueAt : GoodIn wsX5_readBits wsX1_valueAt := goodIn_r _ [5, 6, 13, 14] (by decide +kernel) (by decide +kernel)
set_option maxRecDepth 20000 in
theorem gX5_readBits_X1_valueAt : GoodIn wsX5_readBits (wsV RX5 59 RX1 yX1_valueAt wsX1_valueAt) := goodIn_app (goodIn_of _ (by decide +kernel)) ggX5_readBits_X1_valueAt
set_option maxRecDepth 20000 in
theorem ggX5_readBits_X5_writeBit : GoodIn wsX5_readBits wsX5_writeBit := goodIn_r _ [11, 12, 15, 16] (by decide +kernel) (by decide +kernel)
set_option maxRecDepth 20000 in
theorem gX5_readBits_X5_writeBit : GoodIn wsX5_readBits (wsV RX5 63 RX5 yX5_writeBit wsX5_writeBit) := goodIn_app (goodIn_of _ (by decide +kernel)) ggX5_readBits_X5_writeBit
theorem dX5_readBits_0 : decode cX5_readBits 0 = .ok (.iconst 0, 1) := by decide +kernel
theorem dX5_readBits_1 : decode cX5_readBits 1 = .ok (.istore_n 2, 1) := by decide +kernel
theorem dX5_readBits_2 : decode cX5_readBits 2 = .ok (.iconst 0, 1) := by decide +kernel
theorem dX5_readBits_3 : decode cX5_readBits 3 = .ok (.istore_n 3, 1) := by decide +kernel
theorem dX5_readBits_4 : decode cX5_readBits 4 = .ok (.bipush 8, 2) := by decide +kernel
theorem dX5_readBits_6 : decode cX5_readBits 6 = .ok (.istore 4, 2) := by decide +kernel
theorem dX5_readBits_8 : decode cX5_readBits 8 = .ok (.iload 4, 2) := by decide +kernel
theorem dX5_readBits_10 : decode cX5_readBits 10 = .ok (.aload_n 1, 1) := by decide +kernel
theorem dX5_readBits_11 : decode cX5_readBits 11 = .ok (.getfield 56, 3) := by decide +kernel
theorem dX5_readBits_14 : decode cX5_readBits 14 = .ok (.bipush 8, 2) := by decide +kernel
theorem dX5_readBits_16 : decode cX5_readBits 16 = .ok (.isub, 1) := by decide +kernel
theorem dX5_readBits_17 : decode cX5_readBits 17 = .ok (.if_icmp .ge 58, 3) := by decide +kernel
theorem dX5_readBits_20 : decode cX5_readBits 20 = .ok (.iload_n 3, 1) := by decide +kernel
theorem dX5_readBits_21 : decode cX5_readBits 21 = .ok (.iconst 5, 1) := by decide +kernel
theorem dX5_readBits_22 : decode cX5_readBits 22 = .ok (.if_icmp .ne 8, 3) := by decide +kernel
theorem dX5_readBits_25 : decode cX5_readBits 25 = .ok (.iconst 0, 1) := by decide +kernel
theorem dX5_readBits_26 : decode cX5_readBits 26 = .ok (.istore_n 3, 1) := by decide +kernel
theorem dX5_readBits_27 : decode cX5_readBits 27 = .ok (.goto 42, 3) := by decide +kernel
theorem dX5_readBits_30 : decode cX5_readBits 30 = .ok (.aload_n 1, 1) := by decide +kernel
theorem dX5_readBits_31 : decode cX5_readBits 31 = .ok (.iload 4, 2) := by decide +kernel
theorem dX5_readBits_33 : decode cX5_readBits 33 = .ok (.invokevirtual 59, 3) := by decide +kernel
theorem dX5_readBits_36 : decode cX5_readBits 36 = .ok (.istore 5, 2) := by decide +kernel
theorem dX5_readBits_38 : decode cX5_readBits 38 = .ok (.iload 5, 2) := by decide +kernel
theorem dX5_readBits_40 : decode cX5_readBits 40 = .ok (.iconst 1, 1) := by decide +kernel
theorem dX5_readBits_41 : decode cX5_readBits 41 = .ok (.if_icmp .ne 9, 3) := by decide +kernel
theorem dX5_readBits_44 : decode cX5_readBits 44 = .ok (.iload_n 3, 1) := by decide +kernel
theorem dX5_readBits_45 : decode cX5_readBits 45 = .ok (.iconst 1, 1) := by decide +kernel
theorem dX5_readBits_46 : decode cX5_readBits 46 = .ok (.iadd, 1) := by decide +kernel
theorem dX5_readBits_47 : decode cX5_readBits 47 = .ok (.goto 4, 3) := by decide +kernel
theorem dX5_readBits_50 : decode cX5_readBits 50 = .ok (.iconst 0, 1) := by decide +kernel
theorem dX5_readBits_51 : decode cX5_readBits 51 = .ok (.istore_n 3, 1) := by decide +kernel
theorem dX5_readBits_52 : decode cX5_readBits 52 = .ok (.iload_n 2, 1) := by decide +kernel
theorem dX5_readBits_53 : decode cX5_readBits 53 = .ok (.sipush 2216, 3) := by decide +kernel
theorem dX5_readBits_56 : decode cX5_readBits 56 = .ok (.if_icmp .ge 10, 3) := by decide +kernel
theorem dX5_readBits_59 : decode cX5_readBits 59 = .ok (.aload_n 0, 1) := by decide +kernel
theorem dX5_readBits_60 : decode cX5_readBits 60 = .ok (.iload_n 2, 1) := by decide +kernel
theorem dX5_readBits_61 : decode cX5_readBits 61 = .ok (.iload 5, 2) := by decide +kernel
theorem dX5_readBits_63 : decode cX5_readBits 63 = .ok (.invokevirtual 63, 3) := by decide +kernel
theorem dX5_readBits_66 : decode cX5_readBits 66 = .ok (.iinc 2 1, 3) := by decide +kernel
theorem dX5_readBits_69 : decode cX5_readBits 69 = .ok (.iinc 4 1, 3) := by decide +kernel
theorem dX5_readBits_72 : decode cX5_readBits 72 = .ok (.goto (-64), 3) := by decide +kernel
theorem dX5_readBits_75 : decode cX5_readBits 75 = .ok (.iload_n 2, 1) := by decide +kernel
theorem dX5_readBits_76 : decode cX5_readBits 76 = .ok (.ireturn, 1) := by decide +kernel
theorem dX5_writeBit_0 : decode cX5_writeBit 0 = .ok (.iload_n 1, 1) := by decide +kernel
theorem dX5_writeBit_1 : decode cX5_writeBit 1 = .ok (.bipush 8, 2) := by decide +kernel
theorem dX5_writeBit_3 : decode cX5_writeBit 3 = .ok (.irem, 1) := by decide +kernel
theorem dX5_writeBit_4 : decode cX5_writeBit 4 = .ok (.ifCond .ne 7, 3) := by decide +kernel
theorem dX5_writeBit_7 : decode cX5_writeBit 7 = .ok (.iconst 0, 1) := by decide +kernel
theorem dX5_writeBit_8 : decode cX5_writeBit 8 = .ok (.goto 12, 3) := by decide +kernel
theorem dX5_writeBit_11 : decode cX5_writeBit 11 = .ok (.aload_n 0, 1) := by decide +kernel
theorem dX5_writeBit_12 : decode cX5_writeBit 12 = .ok (.getfield 9, 3) := by decide +kernel
theorem dX5_writeBit_15 : decode cX5_writeBit 15 = .ok (.iload_n 1, 1) := by decide +kernel
theorem dX5_writeBit_16 : decode cX5_writeBit 16 = .ok (.bipush 8, 2) := by decide +kernel
theorem dX5_writeBit_18 : decode cX5_writeBit 18 = .ok (.idiv, 1) := by decide +kernel
theorem dX5_writeBit_19 : decode cX5_writeBit 19 = .ok (.iaload, 1) := by decide +kernel
theorem dX5_writeBit_20 : decode cX5_writeBit 20 = .ok (.istore_n 3, 1) := by decide +kernel
theorem dX5_writeBit_21 : decode cX5_writeBit 21 = .ok (.aload_n 0, 1) := by decide +kernel
theorem dX5_writeBit_22 : decode cX5_writeBit 22 = .ok (.getfield 9, 3) := by decide +kernel
theorem dX5_writeBit_25 : decode cX5_writeBit 25 = .ok (.iload_n 1, 1) := by decide +kernel
theorem dX5_writeBit_26 : decode cX5_writeBit 26 = .ok (.bipush 8, 2) := by decide +kernel
theorem dX5_writeBit_28 : decode cX5_writeBit 28 = .ok (.idiv, 1) := by decide +kernel
theorem dX5_writeBit_29 : decode cX5_writeBit 29 = .ok (.iload_n 3, 1) := by decide +kernel
theorem dX5_writeBit_30 : decode cX5_writeBit 30 = .ok (.iload_n 2, 1) := by decide +kernel
theorem dX5_writeBit_31 : decode cX5_writeBit 31 = .ok (.iload_n 1, 1) := by decide +kernel
theorem dX5_writeBit_32 : decode cX5_writeBit 32 = .ok (.bipush 8, 2) := by decide +kernel
theorem dX5_writeBit_34 : decode cX5_writeBit 34 = .ok (.irem, 1) := by decide +kernel
theorem dX5_writeBit_35 : decode cX5_writeBit 35 = .ok (.ishl, 1) := by decide +kernel
theorem dX5_writeBit_36 : decode cX5_writeBit 36 = .ok (.ior, 1) := by decide +kernel
theorem dX5_writeBit_37 : decode cX5_writeBit 37 = .ok (.iastore, 1) := by decide +kernel
theorem dX5_writeBit_38 : decode cX5_writeBit 38 = .ok (.return_, 1) := by decide +kernel
set_option maxRecDepth 20000 in
theorem ggX6_init_X0_init : GoodIn wsX6_init wsX0_init := goodIn_r _ [13, 14, 2, 3, 15, 16, 17, 18, 19, 20, 21, 22, 23, 24, 25, 26, 27, 28, 29, 30, 31, 32, 33, 34, 35, 36, 37, 38, 39, 40, 41, 42, 43, 44, 45, 46, 47, 48, 49, 50, 51, 52, 53, 54, 55, 76, 77, 60, 61, 62, 63, 64, 65, 66, 67, 68, 69, 70, 71, 78, 79, 80, 81, 82, 83, 84, 85, 86, 87, 88] (by decide +kernel) (by decide +kernel)
set_option maxRecDepth 20000 in
theorem gX6_init_X0_init_n11 : GoodIn wsX6_init (wsX0_init) := ggX6_init_X0_init
set_option maxRecDepth 20000 in
theorem ggX6_init_X5_init : GoodIn wsX6_init wsX5_init := goodIn_r _ [57, 58, 2, 3, 47, 59, 74, 75] (by decide +kernel) (by decide +kernel)
set_option maxRecDepth 20000 in
theorem gX6_init_X5_init_n18 : GoodIn wsX6_init (wsX5_init) := ggX6_init_X5_init
theorem dX6_init_0 : decode cX6_init 0 = .ok (.aload_n 0, 1) := by decide +kernel
theorem dX6_init_1 : decode cX6_init 1 = .ok (.invokespecial 3, 3) := by decide +kernel
theorem dX6_init_4 : decode cX6_init 4 = .ok (.aload_n 0, 1) := by decide +kernel
theorem dX6_init_5 : decode cX6_init 5 = .ok (.iconst 2, 1) := by decide +kernel
theorem dX6_init_6 : decode cX6_init 6 = .ok (.anewarray 9, 3) := by decide +kernel
theorem dX6_init_9 : decode cX6_init 9 = .ok (.dup, 1) := by decide +kernel
theorem dX6_init_10 : decode cX6_init 10 = .ok (.iconst 0, 1) := by decide +kernel
theorem dX6_init_11 : decode cX6_init 11 = .ok (.new 9, 3) := by decide +kernel
theorem dX6_init_14 : decode cX6_init 14 = .ok (.dup, 1) := by decide +kernel
theorem dX6_init_15 : decode cX6_init 15 = .ok (.invokespecial 11, 3) := by decide +kernel
theorem dX6_init_18 : decode cX6_init 18 = .ok (.aastore, 1) := by decide +kernel
theorem dX6_init_19 : decode cX6_init 19 = .ok (.dup, 1) := by decide +kernel
theorem dX6_init_20 : decode cX6_init 20 = .ok (.iconst 1, 1) := by decide +kernel
theorem dX6_init_21 : decode cX6_init 21 = .ok (.new 9, 3) := by decide +kernel
theorem dX6_init_24 : decode cX6_init 24 = .ok (.dup, 1) := by decide +kernel
theorem dX6_init_25 : decode cX6_init 25 = .ok (.invokespecial 11, 3) := by decide +kernel
theorem dX6_init_28 : decode cX6_init 28 = .ok (.aastore, 1) := by decide +kernel
theorem dX6_init_29 : decode cX6_init 29 = .ok (.putfield 12, 3) := by decide +kernel
theorem dX6_init_32 : decode cX6_init 32 = .ok (.aload_n 0, 1) := by decide +kernel
theorem dX6_init_33 : decode cX6_init 33 = .ok (.new 16, 3) := by decide +kernel
theorem dX6_init_36 : decode cX6_init 36 = .ok (.dup, 1) := by decide +kernel
theorem dX6_init_37 : decode cX6_init 37 = .ok (.invokespecial 18, 3) := by decide +kernel
theorem dX6_init_40 : decode cX6_init 40 = .ok (.putfield 19, 3) := by decide +kernel
theorem dX6_init_43 : decode cX6_init 43 = .ok (.return_, 1) := by decide +kernel
set_option maxRecDepth 20000 in
theorem ggX6_put_X6_endOf : GoodIn wsX6_put wsX6_endOf := goodIn_ca (goodIn_r _ [9, 1, 2, 10, 43, 44] (by decide +kernel) (by decide +kernel)) (goodIn_sub (fun _ h => List.mem_cons_of_mem _ (List.mem_append_left _ (List.mem_append_right _ h))) (by decide +kernel))
set_option maxRecDepth 20000 in
theorem gX6_put_X6_endOf : GoodIn wsX6_put (wsV RX6 23 RX6 yX6_endOf wsX6_endOf) := goodIn_app (goodIn_of _ (by decide +kernel)) ggX6_put_X6_endOf
set_option maxRecDepth 20000 in
theorem ggX6_put_X3_join : GoodIn wsX6_put wsX3_join := goodIn_r _ [15, 16, 17, 18, 19, 20, 21, 22, 14, 23, 24, 37, 38, 39, 40, 41, 42] (by decide +kernel) (by decide +kernel)
set_option maxRecDepth 20000 in
theorem gX6_put_X3_join : GoodIn wsX6_put (wsV RX6 47 RX3 yX3_join wsX3_join) := goodIn_app (goodIn_of _ (by decide +kernel)) ggX6_put_X3_join
theorem dX6_put_0 : decode cX6_put 0 = .ok (.aload_n 0, 1) := by decide +kernel
theorem dX6_put_1 : decode cX6_put 1 = .ok (.iload_n 1, 1) := by decide +kernel
theorem dX6_put_2 : decode cX6_put 2 = .ok (.invokevirtual 23, 3) := by decide +kernel
theorem dX6_put_5 : decode cX6_put 5 = .ok (.astore 4, 2) := by decide +kernel
theorem dX6_put_7 : decode cX6_put 7 = .ok (.iload_n 2, 1) := by decide +kernel
theorem dX6_put_8 : decode cX6_put 8 = .ok (.iconst 1, 1) := by decide +kernel
theorem dX6_put_9 : decode cX6_put 9 = .ok (.if_icmp .lt 21, 3) := by decide +kernel
theorem dX6_put_12 : decode cX6_put 12 = .ok (.iload_n 2, 1) := by decide +kernel
theorem dX6_put_13 : decode cX6_put 13 = .ok (.sipush 272, 3) := by decide +kernel
theorem dX6_put_16 : decode cX6_put 16 = .ok (.if_icmp .gt 14, 3) := by decide +kernel
theorem dX6_put_19 : decode cX6_put 19 = .ok (.iload_n 3, 1) := by decide +kernel
theorem dX6_put_20 : decode cX6_put 20 = .ok (.ifCond .lt 10, 3) := by decide +kernel
theorem dX6_put_23 : decode cX6_put 23 = .ok (.iload_n 3, 1) := by decide +kernel
theorem dX6_put_24 : decode cX6_put 24 = .ok (.sipush 255, 3) := by decide +kernel
theorem dX6_put_27 : decode cX6_put 27 = .ok (.if_icmp .le 11, 3) := by decide +kernel
theorem dX6_put_30 : decode cX6_put 30 = .ok (.new 27, 3) := by decide +kernel
theorem dX6_put_33 : decode cX6_put 33 = .ok (.dup, 1) := by decide +kernel
theorem dX6_put_34 : decode cX6_put 34 = .ok (.invokespecial 29, 3) := by decide +kernel
theorem dX6_put_37 : decode cX6_put 37 = .ok (.athrow, 1) := by decide +kernel
theorem dX6_put_38 : decode cX6_put 38 = .ok (.aload 4, 2) := by decide +kernel
theorem dX6_put_40 : decode cX6_put 40 = .ok (.getfield 30, 3) := by decide +kernel
theorem dX6_put_43 : decode cX6_put 43 = .ok (.ifCond .ne 16, 3) := by decide +kernel
theorem dX6_put_46 : decode cX6_put 46 = .ok (.aload 4, 2) := by decide +kernel
theorem dX6_put_48 : decode cX6_put 48 = .ok (.getfield 34, 3) := by decide +kernel
theorem dX6_put_51 : decode cX6_put 51 = .ok (.getfield 38, 3) := by decide +kernel
theorem dX6_put_54 : decode cX6_put 54 = .ok (.bipush 60, 2) := by decide +kernel
theorem dX6_put_56 : decode cX6_put 56 = .ok (.if_icmp .ne 11, 3) := by decide +kernel
theorem dX6_put_59 : decode cX6_put 59 = .ok (.new 44, 3) := by decide +kernel
theorem dX6_put_62 : decode cX6_put 62 = .ok (.dup, 1) := by decide +kernel
theorem dX6_put_63 : decode cX6_put 63 = .ok (.invokespecial 46, 3) := by decide +kernel
theorem dX6_put_66 : decode cX6_put 66 = .ok (.athrow, 1) := by decide +kernel
theorem dX6_put_67 : decode cX6_put 67 = .ok (.aload 4, 2) := by decide +kernel
theorem dX6_put_69 : decode cX6_put 69 = .ok (.getfield 34, 3) := by decide +kernel
theorem dX6_put_72 : decode cX6_put 72 = .ok (.iload_n 2, 1) := by decide +kernel
theorem dX6_put_73 : decode cX6_put 73 = .ok (.iload_n 3, 1) := by decide +kernel
theorem dX6_put_74 : decode cX6_put 74 = .ok (.invokevirtual 47, 3) := by decide +kernel
theorem dX6_put_77 : decode cX6_put 77 = .ok (.aload 4, 2) := by decide +kernel
theorem dX6_put_79 : decode cX6_put 79 = .ok (.getfield 34, 3) := by decide +kernel
end
section
theorem dX6_put_82 : decode cX6_put 82 = .ok (.getfield 38, 3) := by decide +kernel
theorem dX6_put_85 : decode cX6_put 85 = .ok (.ireturn, 1) := by decide +kernel
set_option maxRecDepth 20000 in
theorem ggX6_send_X6_endOf : GoodIn wsX6_send wsX6_endOf := goodIn_ca (goodIn_r _ [8, 9, 10, 11, 131, 132] (by decide +kernel) (by decide +kernel)) (goodIn_sub (fun _ h => List.mem_cons_of_mem _ (List.mem_append_right _ h)) (by decide +kernel))
set_option maxRecDepth 20000 in
theorem gX6_send_X6_endOf : GoodIn wsX6_send (wsV RX6 23 RX6 yX6_endOf wsX6_endOf) := goodIn_app (goodIn_of _ (by decide +kernel)) ggX6_send_X6_endOf
set_option maxRecDepth 20000 in
theorem ggX6_send_X2_isFull : GoodIn wsX6_send wsX2_isFull := goodIn_r _ [16, 17, 133, 134] (by decide +kernel) (by decide +kernel)
set_option maxRecDepth 20000 in
theorem gX6_send_X2_isFull : GoodIn wsX6_send (wsV RX6 55 RX2 yX2_isFull wsX2_isFull) := goodIn_app (goodIn_of _ (by decide +kernel)) ggX6_send_X2_isFull
set_option maxRecDepth 20000 in
theorem ggX6_send_X0_nextUnit : GoodIn wsX6_send wsX0_nextUnit := goodIn_r _ [22, 23, 24, 25, 26, 27, 21, 28, 29, 30, 31, 32, 33, 34, 35, 36, 37, 38, 39, 40, 41, 42, 43, 44, 45, 46, 47, 48, 49, 50, 51, 52, 53, 54, 55, 56, 57, 58, 59, 60, 61, 62, 63, 64, 65, 66, 67, 68, 69, 70, 71, 7, 72, 73, 74, 75, 76, 77, 78, 79, 80, 81, 82, 83, 84, 85, 119, 120, 121, 122, 123, 124, 125, 126, 127, 128, 129, 130, 135, 136, 137, 138, 139, 140, 141, 142] (by decide +kernel) (by decide +kernel)
set_option maxRecDepth 20000 in
theorem gX6_send_X0_nextUnit : GoodIn wsX6_send (wsV RX6 61 RX0 yX0_nextUnit wsX0_nextUnit) := goodIn_app (goodIn_of _ (by decide +kernel)) ggX6_send_X0_nextUnit
set_option maxRecDepth 20000 in
theorem ggX6_send_X2_open : GoodIn wsX6_send wsX2_open := goodIn_r _ [89, 17, 90, 91, 92, 15, 93, 94, 133, 134, 143, 144] (by decide +kernel) (by decide +kernel)
set_option maxRecDepth 20000 in
theorem gX6_send_X2_open : GoodIn wsX6_send (wsV RX6 65 RX2 yX2_open wsX2_open) := goodIn_app (goodIn_of _ (by decide +kernel)) ggX6_send_X2_open
set_option maxRecDepth 20000 in
theorem ggX6_send_X5_writeTo : GoodIn wsX6_send wsX5_writeTo := goodIn_r _ [98, 53, 48, 99, 100, 101, 102, 103, 104, 105, 106, 107, 108, 109, 110, 111, 112, 113, 114, 115, 116, 117, 118, 141, 142, 143, 144] (by decide +kernel) (by decide +kernel)
set_option maxRecDepth 20000 in
theorem gX6_send_X5_writeTo : GoodIn wsX6_send (wsV RX6 69 RX5 yX5_writeTo wsX5_writeTo) := goodIn_app (goodIn_of _ (by decide +kernel)) ggX6_send_X5_writeTo
theorem dX6_send_0 : decode cX6_send 0 = .ok (.aload_n 0, 1) := by decide +kernel
theorem dX6_send_1 : decode cX6_send 1 = .ok (.iload_n 1, 1) := by decide +kernel
theorem dX6_send_2 : decode cX6_send 2 = .ok (.invokevirtual 23, 3) := by decide +kernel
theorem dX6_send_5 : decode cX6_send 5 = .ok (.astore_n 2, 1) := by decide +kernel
theorem dX6_send_6 : decode cX6_send 6 = .ok (.aload_n 2, 1) := by decide +kernel
theorem dX6_send_7 : decode cX6_send 7 = .ok (.getfield 30, 3) := by decide +kernel
theorem dX6_send_10 : decode cX6_send 10 = .ok (.ifCond .ne 13, 3) := by decide +kernel
theorem dX6_send_13 : decode cX6_send 13 = .ok (.aload_n 2, 1) := by decide +kernel
theorem dX6_send_14 : decode cX6_send 14 = .ok (.getfield 51, 3) := by decide +kernel
theorem dX6_send_17 : decode cX6_send 17 = .ok (.invokevirtual 55, 3) := by decide +kernel
theorem dX6_send_20 : decode cX6_send 20 = .ok (.ifCond .eq 11, 3) := by decide +kernel
theorem dX6_send_23 : decode cX6_send 23 = .ok (.new 44, 3) := by decide +kernel
theorem dX6_send_26 : decode cX6_send 26 = .ok (.dup, 1) := by decide +kernel
theorem dX6_send_27 : decode cX6_send 27 = .ok (.invokespecial 46, 3) := by decide +kernel
theorem dX6_send_30 : decode cX6_send 30 = .ok (.athrow, 1) := by decide +kernel
theorem dX6_send_31 : decode cX6_send 31 = .ok (.aload_n 2, 1) := by decide +kernel
theorem dX6_send_32 : decode cX6_send 32 = .ok (.aload_n 0, 1) := by decide +kernel
theorem dX6_send_33 : decode cX6_send 33 = .ok (.getfield 19, 3) := by decide +kernel
theorem dX6_send_36 : decode cX6_send 36 = .ok (.invokevirtual 61, 3) := by decide +kernel
theorem dX6_send_39 : decode cX6_send 39 = .ok (.istore_n 3, 1) := by decide +kernel
theorem dX6_send_40 : decode cX6_send 40 = .ok (.aload_n 0, 1) := by decide +kernel
theorem dX6_send_41 : decode cX6_send 41 = .ok (.getfield 19, 3) := by decide +kernel
theorem dX6_send_44 : decode cX6_send 44 = .ok (.aload_n 2, 1) := by decide +kernel
theorem dX6_send_45 : decode cX6_send 45 = .ok (.getfield 51, 3) := by decide +kernel
theorem dX6_send_48 : decode cX6_send 48 = .ok (.invokevirtual 65, 3) := by decide +kernel
theorem dX6_send_51 : decode cX6_send 51 = .ok (.invokevirtual 69, 3) := by decide +kernel
theorem dX6_send_54 : decode cX6_send 54 = .ok (.iload_n 3, 1) := by decide +kernel
theorem dX6_send_55 : decode cX6_send 55 = .ok (.ireturn, 1) := by decide +kernel
set_option maxRecDepth 20000 in
theorem ggX6_take_X6_endOf : GoodIn wsX6_take wsX6_endOf := goodIn_ca (goodIn_r _ [9, 10, 11, 3, 148, 149] (by decide +kernel) (by decide +kernel)) (goodIn_sub (fun _ h => List.mem_cons_of_mem _ (List.mem_append_right _ h)) (by decide +kernel))
set_option maxRecDepth 20000 in
theorem gX6_take_X6_endOf : GoodIn wsX6_take (wsV RX6 23 RX6 yX6_endOf wsX6_endOf) := goodIn_app (goodIn_of _ (by decide +kernel)) ggX6_take_X6_endOf
set_option maxRecDepth 20000 in
theorem ggX6_take_X5_readFrom : GoodIn wsX6_take wsX5_readFrom := goodIn_r _ [16, 17, 18, 19, 20, 21, 22, 23, 24, 25, 26, 27, 28, 29, 30, 31, 32, 33, 34, 35, 36, 37, 38, 39, 40, 41, 42, 43, 44, 15, 45, 46, 47, 48, 49, 50, 51, 52, 53, 54, 55, 56, 8, 57, 58, 59, 60, 61, 62, 164, 165, 166, 167] (by decide +kernel) (by decide +kernel)
set_option maxRecDepth 20000 in
theorem gX6_take_X5_readFrom : GoodIn wsX6_take (wsV RX6 80 RX5 yX5_readFrom wsX5_readFrom) := goodIn_app (goodIn_of _ (by decide +kernel)) ggX6_take_X5_readFrom
set_option maxRecDepth 20000 in
theorem ggX6_take_X2_lose : GoodIn wsX6_take wsX2_lose := goodIn_r _ [67, 68, 69, 162, 163] (by decide +kernel) (by decide +kernel)
set_option maxRecDepth 20000 in
theorem gX6_take_X2_lose : GoodIn wsX6_take (wsV RX6 84 RX2 yX2_lose wsX2_lose) := goodIn_app (goodIn_of _ (by decide +kernel)) ggX6_take_X2_lose
set_option maxRecDepth 20000 in
theorem ggX6_take_X0_takeUnit : GoodIn wsX6_take wsX0_takeUnit := goodIn_r _ [74, 75, 76, 77, 78, 79, 80, 81, 82, 73, 83, 84, 85, 86, 87, 88, 89, 90, 91, 92, 15, 93, 18, 94, 95, 96, 97, 98, 99, 100, 101, 102, 103, 104, 105, 106, 107, 20, 21, 22, 108, 109, 110, 111, 112, 113, 114, 115, 116, 117, 118, 119, 120, 121, 122, 123, 124, 125, 126, 127, 128, 129, 130, 131, 132, 60, 61, 62, 17, 133, 8, 134, 135, 136, 137, 138, 139, 140, 141, 142, 143, 144, 145, 146, 147, 150, 151, 152, 153, 154, 155, 156, 157, 158, 159, 160, 161, 168, 169, 170, 171, 172, 173, 164, 165, 174, 175, 176] (by decide +kernel) (by decide +kernel)
set_option maxRecDepth 20000 in
theorem gX6_take_X0_takeUnit : GoodIn wsX6_take (wsV RX6 88 RX0 yX0_takeUnit wsX0_takeUnit) := goodIn_app (goodIn_of _ (by decide +kernel)) ggX6_take_X0_takeUnit
theorem dX6_take_0 : decode cX6_take 0 = .ok (.aload_n 0, 1) := by decide +kernel
theorem dX6_take_1 : decode cX6_take 1 = .ok (.iload_n 1, 1) := by decide +kernel
theorem dX6_take_2 : decode cX6_take 2 = .ok (.invokevirtual 23, 3) := by decide +kernel
theorem dX6_take_5 : decode cX6_take 5 = .ok (.astore_n 2, 1) := by decide +kernel
theorem dX6_take_6 : decode cX6_take 6 = .ok (.aload_n 0, 1) := by decide +kernel
theorem dX6_take_7 : decode cX6_take 7 = .ok (.getfield 12, 3) := by decide +kernel
theorem dX6_take_10 : decode cX6_take 10 = .ok (.iconst 1, 1) := by decide +kernel
theorem dX6_take_11 : decode cX6_take 11 = .ok (.iload_n 1, 1) := by decide +kernel
theorem dX6_take_12 : decode cX6_take 12 = .ok (.isub, 1) := by decide +kernel
theorem dX6_take_13 : decode cX6_take 13 = .ok (.aaload, 1) := by decide +kernel
theorem dX6_take_14 : decode cX6_take 14 = .ok (.getfield 51, 3) := by decide +kernel
theorem dX6_take_17 : decode cX6_take 17 = .ok (.astore_n 3, 1) := by decide +kernel
theorem dX6_take_18 : decode cX6_take 18 = .ok (.aload_n 2, 1) := by decide +kernel
theorem dX6_take_19 : decode cX6_take 19 = .ok (.getfield 30, 3) := by decide +kernel
theorem dX6_take_22 : decode cX6_take 22 = .ok (.ifCond .ne 10, 3) := by decide +kernel
theorem dX6_take_25 : decode cX6_take 25 = .ok (.aload_n 3, 1) := by decide +kernel
theorem dX6_take_26 : decode cX6_take 26 = .ok (.getfield 73, 3) := by decide +kernel
theorem dX6_take_29 : decode cX6_take 29 = .ok (.ifCond .ne 11, 3) := by decide +kernel
theorem dX6_take_32 : decode cX6_take 32 = .ok (.new 44, 3) := by decide +kernel
theorem dX6_take_35 : decode cX6_take 35 = .ok (.dup, 1) := by decide +kernel
theorem dX6_take_36 : decode cX6_take 36 = .ok (.invokespecial 46, 3) := by decide +kernel
theorem dX6_take_39 : decode cX6_take 39 = .ok (.athrow, 1) := by decide +kernel
theorem dX6_take_40 : decode cX6_take 40 = .ok (.aload_n 0, 1) := by decide +kernel
theorem dX6_take_41 : decode cX6_take 41 = .ok (.getfield 19, 3) := by decide +kernel
theorem dX6_take_44 : decode cX6_take 44 = .ok (.aload_n 3, 1) := by decide +kernel
theorem dX6_take_45 : decode cX6_take 45 = .ok (.getfield 76, 3) := by decide +kernel
theorem dX6_take_48 : decode cX6_take 48 = .ok (.iconst 0, 1) := by decide +kernel
theorem dX6_take_49 : decode cX6_take 49 = .ok (.aaload, 1) := by decide +kernel
theorem dX6_take_50 : decode cX6_take 50 = .ok (.invokevirtual 80, 3) := by decide +kernel
theorem dX6_take_53 : decode cX6_take 53 = .ok (.istore 4, 2) := by decide +kernel
theorem dX6_take_55 : decode cX6_take 55 = .ok (.aload_n 3, 1) := by decide +kernel
theorem dX6_take_56 : decode cX6_take 56 = .ok (.iconst 0, 1) := by decide +kernel
theorem dX6_take_57 : decode cX6_take 57 = .ok (.invokevirtual 84, 3) := by decide +kernel
theorem dX6_take_60 : decode cX6_take 60 = .ok (.aload_n 2, 1) := by decide +kernel
theorem dX6_take_61 : decode cX6_take 61 = .ok (.aload_n 0, 1) := by decide +kernel
theorem dX6_take_62 : decode cX6_take 62 = .ok (.getfield 19, 3) := by decide +kernel
theorem dX6_take_65 : decode cX6_take 65 = .ok (.iload 4, 2) := by decide +kernel
theorem dX6_take_67 : decode cX6_take 67 = .ok (.invokevirtual 88, 3) := by decide +kernel
theorem dX6_take_70 : decode cX6_take 70 = .ok (.istore 5, 2) := by decide +kernel
theorem dX6_take_72 : decode cX6_take 72 = .ok (.aload_n 2, 1) := by decide +kernel
theorem dX6_take_73 : decode cX6_take 73 = .ok (.getfield 30, 3) := by decide +kernel
theorem dX6_take_76 : decode cX6_take 76 = .ok (.ifCond .eq 11, 3) := by decide +kernel
theorem dX6_take_79 : decode cX6_take 79 = .ok (.iload 5, 2) := by decide +kernel
theorem dX6_take_81 : decode cX6_take 81 = .ok (.bipush 10, 2) := by decide +kernel
theorem dX6_take_83 : decode cX6_take 83 = .ok (.isub, 1) := by decide +kernel
theorem dX6_take_84 : decode cX6_take 84 = .ok (.goto 5, 3) := by decide +kernel
theorem dX6_take_87 : decode cX6_take 87 = .ok (.iload 5, 2) := by decide +kernel
theorem dX6_take_89 : decode cX6_take 89 = .ok (.ireturn, 1) := by decide +kernel
set_option maxRecDepth 20000 in
theorem ggX6_flip_X6_frameOf : GoodIn wsX6_flip wsX6_frameOf := goodIn_ca (goodIn_r _ [7, 1, 2, 8, 9, 10, 6, 11, 12, 25, 26, 27, 28, 29, 30, 31, 32, 33, 34, 35, 36, 37, 38, 39, 40] (by decide +kernel) (by decide +kernel)) (goodIn_sub (fun _ h => List.mem_cons_of_mem _ (List.mem_append_right _ h)) (by decide +kernel))
set_option maxRecDepth 20000 in
theorem gX6_flip_X6_frameOf : GoodIn wsX6_flip (wsV RX6 92 RX6 yX6_frameOf wsX6_frameOf) := goodIn_app (goodIn_of _ (by decide +kernel)) ggX6_flip_X6_frameOf
set_option maxRecDepth 20000 in
theorem ggX6_flip_X1_turn : GoodIn wsX6_flip wsX1_turn := goodIn_r _ [17, 18, 23, 24] (by decide +kernel) (by decide +kernel)
set_option maxRecDepth 20000 in
theorem gX6_flip_X1_turn : GoodIn wsX6_flip (wsV RX6 101 RX1 yX1_turn wsX1_turn) := goodIn_app (goodIn_of _ (by decide +kernel)) ggX6_flip_X1_turn
set_option maxRecDepth 20000 in
theorem ggX6_flip_X1_valueAt : GoodIn wsX6_flip wsX1_valueAt := goodIn_r _ [22, 18, 23, 24] (by decide +kernel) (by decide +kernel)
set_option maxRecDepth 20000 in
theorem gX6_flip_X1_valueAt : GoodIn wsX6_flip (wsV RX6 104 RX1 yX1_valueAt wsX1_valueAt) := goodIn_app (goodIn_of _ (by decide +kernel)) ggX6_flip_X1_valueAt
theorem dX6_flip_0 : decode cX6_flip 0 = .ok (.aload_n 0, 1) := by decide +kernel
theorem dX6_flip_1 : decode cX6_flip 1 = .ok (.iload_n 1, 1) := by decide +kernel
theorem dX6_flip_2 : decode cX6_flip 2 = .ok (.iload_n 2, 1) := by decide +kernel
theorem dX6_flip_3 : decode cX6_flip 3 = .ok (.invokevirtual 92, 3) := by decide +kernel
theorem dX6_flip_6 : decode cX6_flip 6 = .ok (.astore 4, 2) := by decide +kernel
theorem dX6_flip_8 : decode cX6_flip 8 = .ok (.iload_n 3, 1) := by decide +kernel
theorem dX6_flip_9 : decode cX6_flip 9 = .ok (.ifCond .lt 12, 3) := by decide +kernel
theorem dX6_flip_12 : decode cX6_flip 12 = .ok (.iload_n 3, 1) := by decide +kernel
theorem dX6_flip_13 : decode cX6_flip 13 = .ok (.aload 4, 2) := by decide +kernel
theorem dX6_flip_15 : decode cX6_flip 15 = .ok (.getfield 96, 3) := by decide +kernel
theorem dX6_flip_18 : decode cX6_flip 18 = .ok (.if_icmp .lt 11, 3) := by decide +kernel
theorem dX6_flip_21 : decode cX6_flip 21 = .ok (.new 27, 3) := by decide +kernel
theorem dX6_flip_24 : decode cX6_flip 24 = .ok (.dup, 1) := by decide +kernel
theorem dX6_flip_25 : decode cX6_flip 25 = .ok (.invokespecial 29, 3) := by decide +kernel
theorem dX6_flip_28 : decode cX6_flip 28 = .ok (.athrow, 1) := by decide +kernel
theorem dX6_flip_29 : decode cX6_flip 29 = .ok (.aload 4, 2) := by decide +kernel
theorem dX6_flip_31 : decode cX6_flip 31 = .ok (.iload_n 3, 1) := by decide +kernel
theorem dX6_flip_32 : decode cX6_flip 32 = .ok (.invokevirtual 101, 3) := by decide +kernel
theorem dX6_flip_35 : decode cX6_flip 35 = .ok (.aload 4, 2) := by decide +kernel
theorem dX6_flip_37 : decode cX6_flip 37 = .ok (.iload_n 3, 1) := by decide +kernel
theorem dX6_flip_38 : decode cX6_flip 38 = .ok (.invokevirtual 104, 3) := by decide +kernel
theorem dX6_flip_41 : decode cX6_flip 41 = .ok (.ireturn, 1) := by decide +kernel
set_option maxRecDepth 20000 in
theorem ggX6_drop_X6_frameOf : GoodIn wsX6_drop wsX6_frameOf := goodIn_ca (goodIn_r _ [6, 7, 8, 9, 10, 11, 5, 12, 1, 24, 25, 26, 27, 28, 29, 30, 31, 32, 33, 34, 35, 36, 37, 22, 23] (by decide +kernel) (by decide +kernel)) (goodIn_sub (fun _ h => List.mem_cons_of_mem _ (List.mem_append_right _ h)) (by decide +kernel))
set_option maxRecDepth 20000 in
theorem gX6_drop_X6_frameOf : GoodIn wsX6_drop (wsV RX6 92 RX6 yX6_frameOf wsX6_frameOf) := goodIn_app (goodIn_of _ (by decide +kernel)) ggX6_drop_X6_frameOf
set_option maxRecDepth 20000 in
theorem ggX6_drop_X2_lose : GoodIn wsX6_drop wsX2_lose := goodIn_r _ [17, 18, 19, 36, 37] (by decide +kernel) (by decide +kernel)
set_option maxRecDepth 20000 in
theorem gX6_drop_X2_lose : GoodIn wsX6_drop (wsV RX6 84 RX2 yX2_lose wsX2_lose) := goodIn_app (goodIn_of _ (by decide +kernel)) ggX6_drop_X2_lose
theorem dX6_drop_0 : decode cX6_drop 0 = .ok (.aload_n 0, 1) := by decide +kernel
theorem dX6_drop_1 : decode cX6_drop 1 = .ok (.iload_n 1, 1) := by decide +kernel
theorem dX6_drop_2 : decode cX6_drop 2 = .ok (.iload_n 2, 1) := by decide +kernel
theorem dX6_drop_3 : decode cX6_drop 3 = .ok (.invokevirtual 92, 3) := by decide +kernel
theorem dX6_drop_6 : decode cX6_drop 6 = .ok (.getfield 96, 3) := by decide +kernel
theorem dX6_drop_9 : decode cX6_drop 9 = .ok (.istore_n 3, 1) := by decide +kernel
theorem dX6_drop_10 : decode cX6_drop 10 = .ok (.aload_n 0, 1) := by decide +kernel
theorem dX6_drop_11 : decode cX6_drop 11 = .ok (.getfield 12, 3) := by decide +kernel
theorem dX6_drop_14 : decode cX6_drop 14 = .ok (.iload_n 1, 1) := by decide +kernel
theorem dX6_drop_15 : decode cX6_drop 15 = .ok (.aaload, 1) := by decide +kernel
theorem dX6_drop_16 : decode cX6_drop 16 = .ok (.getfield 51, 3) := by decide +kernel
theorem dX6_drop_19 : decode cX6_drop 19 = .ok (.iload_n 2, 1) := by decide +kernel
theorem dX6_drop_20 : decode cX6_drop 20 = .ok (.invokevirtual 84, 3) := by decide +kernel
theorem dX6_drop_23 : decode cX6_drop 23 = .ok (.iload_n 3, 1) := by decide +kernel
theorem dX6_drop_24 : decode cX6_drop 24 = .ok (.ireturn, 1) := by decide +kernel
set_option maxRecDepth 20000 in
theorem ggX6_bits_X6_endOf : GoodIn wsX6_bits wsX6_endOf := goodIn_ca (goodIn_r _ [9, 1, 2, 10, 58, 59] (by decide +kernel) (by decide +kernel)) (goodIn_sub (fun _ h => List.mem_cons_of_mem _ (List.mem_append_left _ (List.mem_append_right _ h))) (by decide +kernel))
set_option maxRecDepth 20000 in
theorem gX6_bits_X6_endOf : GoodIn wsX6_bits (wsV RX6 23 RX6 yX6_endOf wsX6_endOf) := goodIn_app (goodIn_of _ (by decide +kernel)) ggX6_bits_X6_endOf
set_option maxRecDepth 20000 in
theorem ggX6_bits_X2_isFull : GoodIn wsX6_bits wsX2_isFull := goodIn_r _ [15, 16, 54, 55] (by decide +kernel) (by decide +kernel)
set_option maxRecDepth 20000 in
theorem gX6_bits_X2_isFull : GoodIn wsX6_bits (wsV RX6 55 RX2 yX2_isFull wsX2_isFull) := goodIn_app (goodIn_of _ (by decide +kernel)) ggX6_bits_X2_isFull
set_option maxRecDepth 20000 in
theorem ggX6_bits_X2_last : GoodIn wsX6_bits wsX2_last := goodIn_r _ [20, 21, 16, 54, 55] (by decide +kernel) (by decide +kernel)
set_option maxRecDepth 20000 in
theorem gX6_bits_X2_last : GoodIn wsX6_bits (wsV RX6 108 RX2 yX2_last wsX2_last) := goodIn_app (goodIn_of _ (by decide +kernel)) ggX6_bits_X2_last
set_option maxRecDepth 20000 in
theorem ggX6_bits_X2_open : GoodIn wsX6_bits wsX2_open := goodIn_r _ [25, 16, 26, 18, 19, 14, 20, 21, 54, 55, 56, 57] (by decide +kernel) (by decide +kernel)
set_option maxRecDepth 20000 in
theorem gX6_bits_X2_open : GoodIn wsX6_bits (wsV RX6 65 RX2 yX2_open wsX2_open) := goodIn_app (goodIn_of _ (by decide +kernel)) ggX6_bits_X2_open
set_option maxRecDepth 20000 in
theorem ggX6_bits_X1_add : GoodIn wsX6_bits wsX1_add := goodIn_r _ [31, 32, 33, 34, 35, 30, 36, 37, 38, 39, 40, 41, 56, 57] (by decide +kernel) (by decide +kernel)
set_option maxRecDepth 20000 in
theorem gX6_bits_X1_add : GoodIn wsX6_bits (wsV RX6 111 RX1 yX1_add wsX1_add) := goodIn_app (goodIn_of _ (by decide +kernel)) ggX6_bits_X1_add
theorem dX6_bits_0 : decode cX6_bits 0 = .ok (.aload_n 0, 1) := by decide +kernel
theorem dX6_bits_1 : decode cX6_bits 1 = .ok (.iload_n 1, 1) := by decide +kernel
theorem dX6_bits_2 : decode cX6_bits 2 = .ok (.invokevirtual 23, 3) := by decide +kernel
theorem dX6_bits_5 : decode cX6_bits 5 = .ok (.getfield 51, 3) := by decide +kernel
theorem dX6_bits_8 : decode cX6_bits 8 = .ok (.astore 6, 2) := by decide +kernel
theorem dX6_bits_10 : decode cX6_bits 10 = .ok (.iload 4, 2) := by decide +kernel
theorem dX6_bits_12 : decode cX6_bits 12 = .ok (.iconst 1, 1) := by decide +kernel
theorem dX6_bits_13 : decode cX6_bits 13 = .ok (.if_icmp .lt 10, 3) := by decide +kernel
theorem dX6_bits_16 : decode cX6_bits 16 = .ok (.iload 4, 2) := by decide +kernel
theorem dX6_bits_18 : decode cX6_bits 18 = .ok (.bipush 64, 2) := by decide +kernel
theorem dX6_bits_20 : decode cX6_bits 20 = .ok (.if_icmp .le 11, 3) := by decide +kernel
theorem dX6_bits_23 : decode cX6_bits 23 = .ok (.new 27, 3) := by decide +kernel
theorem dX6_bits_26 : decode cX6_bits 26 = .ok (.dup, 1) := by decide +kernel
theorem dX6_bits_27 : decode cX6_bits 27 = .ok (.invokespecial 29, 3) := by decide +kernel
theorem dX6_bits_30 : decode cX6_bits 30 = .ok (.athrow, 1) := by decide +kernel
theorem dX6_bits_31 : decode cX6_bits 31 = .ok (.iload 5, 2) := by decide +kernel
theorem dX6_bits_33 : decode cX6_bits 33 = .ok (.ifCond .ne 11, 3) := by decide +kernel
theorem dX6_bits_36 : decode cX6_bits 36 = .ok (.aload 6, 2) := by decide +kernel
theorem dX6_bits_38 : decode cX6_bits 38 = .ok (.getfield 73, 3) := by decide +kernel
theorem dX6_bits_41 : decode cX6_bits 41 = .ok (.ifCond .ne 7, 3) := by decide +kernel
theorem dX6_bits_44 : decode cX6_bits 44 = .ok (.iconst 1, 1) := by decide +kernel
theorem dX6_bits_45 : decode cX6_bits 45 = .ok (.goto 4, 3) := by decide +kernel
theorem dX6_bits_48 : decode cX6_bits 48 = .ok (.iconst 0, 1) := by decide +kernel
theorem dX6_bits_49 : decode cX6_bits 49 = .ok (.istore 7, 2) := by decide +kernel
theorem dX6_bits_51 : decode cX6_bits 51 = .ok (.iload 7, 2) := by decide +kernel
theorem dX6_bits_53 : decode cX6_bits 53 = .ok (.ifCond .eq 14, 3) := by decide +kernel
theorem dX6_bits_56 : decode cX6_bits 56 = .ok (.aload 6, 2) := by decide +kernel
theorem dX6_bits_58 : decode cX6_bits 58 = .ok (.invokevirtual 55, 3) := by decide +kernel
theorem dX6_bits_61 : decode cX6_bits 61 = .ok (.ifCond .eq 31, 3) := by decide +kernel
theorem dX6_bits_64 : decode cX6_bits 64 = .ok (.goto 20, 3) := by decide +kernel
theorem dX6_bits_67 : decode cX6_bits 67 = .ok (.aload 6, 2) := by decide +kernel
theorem dX6_bits_69 : decode cX6_bits 69 = .ok (.invokevirtual 108, 3) := by decide +kernel
theorem dX6_bits_72 : decode cX6_bits 72 = .ok (.getfield 96, 3) := by decide +kernel
theorem dX6_bits_75 : decode cX6_bits 75 = .ok (.iload 4, 2) := by decide +kernel
theorem dX6_bits_77 : decode cX6_bits 77 = .ok (.iadd, 1) := by decide +kernel
theorem dX6_bits_78 : decode cX6_bits 78 = .ok (.sipush 3000, 3) := by decide +kernel
theorem dX6_bits_81 : decode cX6_bits 81 = .ok (.if_icmp .le 11, 3) := by decide +kernel
theorem dX6_bits_84 : decode cX6_bits 84 = .ok (.new 44, 3) := by decide +kernel
theorem dX6_bits_87 : decode cX6_bits 87 = .ok (.dup, 1) := by decide +kernel
theorem dX6_bits_88 : decode cX6_bits 88 = .ok (.invokespecial 46, 3) := by decide +kernel
theorem dX6_bits_91 : decode cX6_bits 91 = .ok (.athrow, 1) := by decide +kernel
theorem dX6_bits_92 : decode cX6_bits 92 = .ok (.iload 7, 2) := by decide +kernel
theorem dX6_bits_94 : decode cX6_bits 94 = .ok (.ifCond .eq 11, 3) := by decide +kernel
theorem dX6_bits_97 : decode cX6_bits 97 = .ok (.aload 6, 2) := by decide +kernel
theorem dX6_bits_99 : decode cX6_bits 99 = .ok (.invokevirtual 65, 3) := by decide +kernel
theorem dX6_bits_102 : decode cX6_bits 102 = .ok (.goto 8, 3) := by decide +kernel
theorem dX6_bits_105 : decode cX6_bits 105 = .ok (.aload 6, 2) := by decide +kernel
theorem dX6_bits_107 : decode cX6_bits 107 = .ok (.invokevirtual 108, 3) := by decide +kernel
theorem dX6_bits_110 : decode cX6_bits 110 = .ok (.astore 8, 2) := by decide +kernel
theorem dX6_bits_112 : decode cX6_bits 112 = .ok (.iconst 0, 1) := by decide +kernel
theorem dX6_bits_113 : decode cX6_bits 113 = .ok (.istore 9, 2) := by decide +kernel
theorem dX6_bits_115 : decode cX6_bits 115 = .ok (.iload 9, 2) := by decide +kernel
theorem dX6_bits_117 : decode cX6_bits 117 = .ok (.iload 4, 2) := by decide +kernel
theorem dX6_bits_119 : decode cX6_bits 119 = .ok (.if_icmp .ge 21, 3) := by decide +kernel
theorem dX6_bits_122 : decode cX6_bits 122 = .ok (.aload 8, 2) := by decide +kernel
theorem dX6_bits_124 : decode cX6_bits 124 = .ok (.lload_n 2, 1) := by decide +kernel
theorem dX6_bits_125 : decode cX6_bits 125 = .ok (.iload 9, 2) := by decide +kernel
theorem dX6_bits_127 : decode cX6_bits 127 = .ok (.lushr, 1) := by decide +kernel
theorem dX6_bits_128 : decode cX6_bits 128 = .ok (.l2i, 1) := by decide +kernel
theorem dX6_bits_129 : decode cX6_bits 129 = .ok (.iconst 1, 1) := by decide +kernel
theorem dX6_bits_130 : decode cX6_bits 130 = .ok (.iand, 1) := by decide +kernel
theorem dX6_bits_131 : decode cX6_bits 131 = .ok (.invokevirtual 111, 3) := by decide +kernel
theorem dX6_bits_134 : decode cX6_bits 134 = .ok (.iinc 9 1, 3) := by decide +kernel
theorem dX6_bits_137 : decode cX6_bits 137 = .ok (.goto (-22), 3) := by decide +kernel
theorem dX6_bits_140 : decode cX6_bits 140 = .ok (.aload 8, 2) := by decide +kernel
theorem dX6_bits_142 : decode cX6_bits 142 = .ok (.getfield 96, 3) := by decide +kernel
theorem dX6_bits_145 : decode cX6_bits 145 = .ok (.ireturn, 1) := by decide +kernel
set_option maxRecDepth 20000 in
theorem ggX6_bit_X6_frameOf : GoodIn wsX6_bit wsX6_frameOf := goodIn_ca (goodIn_r _ [7, 1, 2, 8, 9, 10, 6, 11, 12, 21, 22, 23, 24, 25, 26, 27, 28, 29, 30, 31, 32, 33, 34, 35, 36] (by decide +kernel) (by decide +kernel)) (goodIn_sub (fun _ h => List.mem_cons_of_mem _ (List.mem_append_right _ h)) (by decide +kernel))
set_option maxRecDepth 20000 in
theorem gX6_bit_X6_frameOf : GoodIn wsX6_bit (wsV RX6 92 RX6 yX6_frameOf wsX6_frameOf) := goodIn_app (goodIn_of _ (by decide +kernel)) ggX6_bit_X6_frameOf
set_option maxRecDepth 20000 in
theorem ggX6_bit_X1_valueAt : GoodIn wsX6_bit wsX1_valueAt := goodIn_r _ [17, 18, 19, 20] (by decide +kernel) (by decide +kernel)
set_option maxRecDepth 20000 in
theorem gX6_bit_X1_valueAt : GoodIn wsX6_bit (wsV RX6 104 RX1 yX1_valueAt wsX1_valueAt) := goodIn_app (goodIn_of _ (by decide +kernel)) ggX6_bit_X1_valueAt
theorem dX6_bit_0 : decode cX6_bit 0 = .ok (.aload_n 0, 1) := by decide +kernel
theorem dX6_bit_1 : decode cX6_bit 1 = .ok (.iload_n 1, 1) := by decide +kernel
theorem dX6_bit_2 : decode cX6_bit 2 = .ok (.iload_n 2, 1) := by decide +kernel
theorem dX6_bit_3 : decode cX6_bit 3 = .ok (.invokevirtual 92, 3) := by decide +kernel
theorem dX6_bit_6 : decode cX6_bit 6 = .ok (.astore 4, 2) := by decide +kernel
theorem dX6_bit_8 : decode cX6_bit 8 = .ok (.iload_n 3, 1) := by decide +kernel
theorem dX6_bit_9 : decode cX6_bit 9 = .ok (.ifCond .ge 11, 3) := by decide +kernel
theorem dX6_bit_12 : decode cX6_bit 12 = .ok (.new 27, 3) := by decide +kernel
theorem dX6_bit_15 : decode cX6_bit 15 = .ok (.dup, 1) := by decide +kernel
theorem dX6_bit_16 : decode cX6_bit 16 = .ok (.invokespecial 29, 3) := by decide +kernel
theorem dX6_bit_19 : decode cX6_bit 19 = .ok (.athrow, 1) := by decide +kernel
theorem dX6_bit_20 : decode cX6_bit 20 = .ok (.iload_n 3, 1) := by decide +kernel
theorem dX6_bit_21 : decode cX6_bit 21 = .ok (.aload 4, 2) := by decide +kernel
theorem dX6_bit_23 : decode cX6_bit 23 = .ok (.getfield 96, 3) := by decide +kernel
theorem dX6_bit_26 : decode cX6_bit 26 = .ok (.if_icmp .ge 12, 3) := by decide +kernel
theorem dX6_bit_29 : decode cX6_bit 29 = .ok (.aload 4, 2) := by decide +kernel
theorem dX6_bit_31 : decode cX6_bit 31 = .ok (.iload_n 3, 1) := by decide +kernel
theorem dX6_bit_32 : decode cX6_bit 32 = .ok (.invokevirtual 104, 3) := by decide +kernel
theorem dX6_bit_35 : decode cX6_bit 35 = .ok (.goto 4, 3) := by decide +kernel
theorem dX6_bit_38 : decode cX6_bit 38 = .ok (.iconst (-1), 1) := by decide +kernel
theorem dX6_bit_39 : decode cX6_bit 39 = .ok (.ireturn, 1) := by decide +kernel
set_option maxRecDepth 20000 in
theorem ggX6_taken_X6_endOf : GoodIn wsX6_taken wsX6_endOf := goodIn_ca (goodIn_r _ [7, 1, 2, 8, 33, 34] (by decide +kernel) (by decide +kernel)) (goodIn_sub (fun _ h => List.mem_cons_of_mem _ (List.mem_append_right _ h)) (by decide +kernel))
set_option maxRecDepth 20000 in
theorem gX6_taken_X6_endOf : GoodIn wsX6_taken (wsV RX6 23 RX6 yX6_endOf wsX6_endOf) := goodIn_app (goodIn_of _ (by decide +kernel)) ggX6_taken_X6_endOf
set_option maxRecDepth 20000 in
theorem ggX6_taken_X4_has : GoodIn wsX6_taken wsX4_has := goodIn_r _ [13, 14, 35, 36, 37] (by decide +kernel) (by decide +kernel)
set_option maxRecDepth 20000 in
theorem gX6_taken_X4_has : GoodIn wsX6_taken (wsV RX6 118 RX4 yX4_has wsX4_has) := goodIn_app (goodIn_of _ (by decide +kernel)) ggX6_taken_X4_has
set_option maxRecDepth 20000 in
theorem ggX6_taken_X4_byteOf : GoodIn wsX6_taken wsX4_byteOf := goodIn_r _ [18, 19, 20, 35, 36, 37] (by decide +kernel) (by decide +kernel)
set_option maxRecDepth 20000 in
theorem gX6_taken_X4_byteOf : GoodIn wsX6_taken (wsV RX6 124 RX4 yX4_byteOf wsX4_byteOf) := goodIn_app (goodIn_of _ (by decide +kernel)) ggX6_taken_X4_byteOf
theorem dX6_taken_0 : decode cX6_taken 0 = .ok (.aload_n 0, 1) := by decide +kernel
theorem dX6_taken_1 : decode cX6_taken 1 = .ok (.iload_n 1, 1) := by decide +kernel
theorem dX6_taken_2 : decode cX6_taken 2 = .ok (.invokevirtual 23, 3) := by decide +kernel
theorem dX6_taken_5 : decode cX6_taken 5 = .ok (.getfield 114, 3) := by decide +kernel
theorem dX6_taken_8 : decode cX6_taken 8 = .ok (.astore 4, 2) := by decide +kernel
theorem dX6_taken_10 : decode cX6_taken 10 = .ok (.aload 4, 2) := by decide +kernel
theorem dX6_taken_12 : decode cX6_taken 12 = .ok (.iload_n 2, 1) := by decide +kernel
theorem dX6_taken_13 : decode cX6_taken 13 = .ok (.invokevirtual 118, 3) := by decide +kernel
theorem dX6_taken_16 : decode cX6_taken 16 = .ok (.ifCond .eq 7, 3) := by decide +kernel
theorem dX6_taken_19 : decode cX6_taken 19 = .ok (.iload_n 3, 1) := by decide +kernel
theorem dX6_taken_20 : decode cX6_taken 20 = .ok (.ifCond .ge 11, 3) := by decide +kernel
theorem dX6_taken_23 : decode cX6_taken 23 = .ok (.new 27, 3) := by decide +kernel
theorem dX6_taken_26 : decode cX6_taken 26 = .ok (.dup, 1) := by decide +kernel
theorem dX6_taken_27 : decode cX6_taken 27 = .ok (.invokespecial 29, 3) := by decide +kernel
theorem dX6_taken_30 : decode cX6_taken 30 = .ok (.athrow, 1) := by decide +kernel
theorem dX6_taken_31 : decode cX6_taken 31 = .ok (.aload 4, 2) := by decide +kernel
theorem dX6_taken_33 : decode cX6_taken 33 = .ok (.iload_n 2, 1) := by decide +kernel
theorem dX6_taken_34 : decode cX6_taken 34 = .ok (.iload_n 3, 1) := by decide +kernel
theorem dX6_taken_35 : decode cX6_taken 35 = .ok (.invokevirtual 124, 3) := by decide +kernel
theorem dX6_taken_38 : decode cX6_taken 38 = .ok (.ireturn, 1) := by decide +kernel
set_option maxRecDepth 20000 in
theorem ggX6_check_X6_restBehind : GoodIn wsX6_check wsX6_restBehind := goodIn_r _ [7, 8] (by decide +kernel) (by decide +kernel)
set_option maxRecDepth 20000 in
theorem gX6_check_X6_restBehind : GoodIn wsX6_check (va_wsS RX6 129 yX6_restBehind wsX6_restBehind) := goodIn_app (goodIn_of _ (by decide +kernel)) ggX6_check_X6_restBehind
theorem dX6_check_0 : decode cX6_check 0 = .ok (.iload_n 3, 1) := by decide +kernel
theorem dX6_check_1 : decode cX6_check 1 = .ok (.ifCond .lt 9, 3) := by decide +kernel
theorem dX6_check_4 : decode cX6_check 4 = .ok (.iload_n 3, 1) := by decide +kernel
theorem dX6_check_5 : decode cX6_check 5 = .ok (.bipush 8, 2) := by decide +kernel
theorem dX6_check_7 : decode cX6_check 7 = .ok (.if_icmp .le 11, 3) := by decide +kernel
theorem dX6_check_10 : decode cX6_check 10 = .ok (.new 27, 3) := by decide +kernel
theorem dX6_check_13 : decode cX6_check 13 = .ok (.dup, 1) := by decide +kernel
theorem dX6_check_14 : decode cX6_check 14 = .ok (.invokespecial 29, 3) := by decide +kernel
theorem dX6_check_17 : decode cX6_check 17 = .ok (.athrow, 1) := by decide +kernel
theorem dX6_check_18 : decode cX6_check 18 = .ok (.ldc 128, 2) := by decide +kernel
theorem dX6_check_20 : decode cX6_check 20 = .ok (.istore 4, 2) := by decide +kernel
theorem dX6_check_22 : decode cX6_check 22 = .ok (.iconst 0, 1) := by decide +kernel
theorem dX6_check_23 : decode cX6_check 23 = .ok (.istore 5, 2) := by decide +kernel
theorem dX6_check_25 : decode cX6_check 25 = .ok (.iload 5, 2) := by decide +kernel
theorem dX6_check_27 : decode cX6_check 27 = .ok (.iload_n 3, 1) := by decide +kernel
theorem dX6_check_28 : decode cX6_check 28 = .ok (.if_icmp .ge 28, 3) := by decide +kernel
theorem dX6_check_31 : decode cX6_check 31 = .ok (.iload 4, 2) := by decide +kernel
theorem dX6_check_33 : decode cX6_check 33 = .ok (.lload_n 1, 1) := by decide +kernel
theorem dX6_check_34 : decode cX6_check 34 = .ok (.bipush 8, 2) := by decide +kernel
theorem dX6_check_36 : decode cX6_check 36 = .ok (.iload 5, 2) := by decide +kernel
theorem dX6_check_38 : decode cX6_check 38 = .ok (.imul, 1) := by decide +kernel
theorem dX6_check_39 : decode cX6_check 39 = .ok (.lushr, 1) := by decide +kernel
theorem dX6_check_40 : decode cX6_check 40 = .ok (.l2i, 1) := by decide +kernel
theorem dX6_check_41 : decode cX6_check 41 = .ok (.sipush 255, 3) := by decide +kernel
theorem dX6_check_44 : decode cX6_check 44 = .ok (.iand, 1) := by decide +kernel
theorem dX6_check_45 : decode cX6_check 45 = .ok (.invokestatic 129, 3) := by decide +kernel
theorem dX6_check_48 : decode cX6_check 48 = .ok (.istore 4, 2) := by decide +kernel
theorem dX6_check_50 : decode cX6_check 50 = .ok (.iinc 5 1, 3) := by decide +kernel
theorem dX6_check_53 : decode cX6_check 53 = .ok (.goto (-28), 3) := by decide +kernel
theorem dX6_check_56 : decode cX6_check 56 = .ok (.ldc 128, 2) := by decide +kernel
theorem dX6_check_58 : decode cX6_check 58 = .ok (.iload 4, 2) := by decide +kernel
theorem dX6_check_60 : decode cX6_check 60 = .ok (.isub, 1) := by decide +kernel
theorem dX6_check_61 : decode cX6_check 61 = .ok (.ireturn, 1) := by decide +kernel
set_option maxRecDepth 20000 in
theorem ggX6_about_X6_endOf : GoodIn wsX6_about wsX6_endOf := goodIn_ca (goodIn_r _ [7, 1, 2, 8, 24, 25] (by decide +kernel) (by decide +kernel)) (goodIn_sub (fun _ h => List.mem_cons_of_mem _ (List.mem_append_right _ h)) (by decide +kernel))
set_option maxRecDepth 20000 in
theorem gX6_about_X6_endOf : GoodIn wsX6_about (wsV RX6 23 RX6 yX6_endOf wsX6_endOf) := goodIn_app (goodIn_of _ (by decide +kernel)) ggX6_about_X6_endOf
set_option maxRecDepth 20000 in
theorem ggX6_about_X0_fact : GoodIn wsX6_about wsX0_fact := goodIn_r _ [13, 14, 15, 16, 17, 18, 19, 20, 21, 22, 23, 26, 27, 28, 29, 30, 31, 32, 33, 34, 35, 36, 37, 38, 39, 40, 41, 42, 43, 44, 45, 46, 47, 48] (by decide +kernel) (by decide +kernel)
set_option maxRecDepth 20000 in
theorem gX6_about_X0_fact : GoodIn wsX6_about (wsV RX6 132 RX0 yX0_fact wsX0_fact) := goodIn_app (goodIn_of _ (by decide +kernel)) ggX6_about_X0_fact
theorem dX6_about_0 : decode cX6_about 0 = .ok (.aload_n 0, 1) := by decide +kernel
theorem dX6_about_1 : decode cX6_about 1 = .ok (.iload_n 1, 1) := by decide +kernel
theorem dX6_about_2 : decode cX6_about 2 = .ok (.invokevirtual 23, 3) := by decide +kernel
theorem dX6_about_5 : decode cX6_about 5 = .ok (.astore_n 3, 1) := by decide +kernel
theorem dX6_about_6 : decode cX6_about 6 = .ok (.iload_n 2, 1) := by decide +kernel
theorem dX6_about_7 : decode cX6_about 7 = .ok (.ifCond .lt 9, 3) := by decide +kernel
theorem dX6_about_10 : decode cX6_about 10 = .ok (.iload_n 2, 1) := by decide +kernel
theorem dX6_about_11 : decode cX6_about 11 = .ok (.bipush 11, 2) := by decide +kernel
theorem dX6_about_13 : decode cX6_about 13 = .ok (.if_icmp .le 11, 3) := by decide +kernel
theorem dX6_about_16 : decode cX6_about 16 = .ok (.new 27, 3) := by decide +kernel
theorem dX6_about_19 : decode cX6_about 19 = .ok (.dup, 1) := by decide +kernel
theorem dX6_about_20 : decode cX6_about 20 = .ok (.invokespecial 29, 3) := by decide +kernel
theorem dX6_about_23 : decode cX6_about 23 = .ok (.athrow, 1) := by decide +kernel
theorem dX6_about_24 : decode cX6_about 24 = .ok (.aload_n 3, 1) := by decide +kernel
theorem dX6_about_25 : decode cX6_about 25 = .ok (.iload_n 2, 1) := by decide +kernel
theorem dX6_about_26 : decode cX6_about 26 = .ok (.invokevirtual 132, 3) := by decide +kernel
theorem dX6_about_29 : decode cX6_about 29 = .ok (.ireturn, 1) := by decide +kernel
set_option maxRecDepth 20000 in
theorem ggX6_restart_X6_endOf : GoodIn wsX6_restart wsX6_endOf := goodIn_ca (goodIn_r _ [5, 6, 7, 8, 33, 34] (by decide +kernel) (by decide +kernel)) (goodIn_sub (fun _ h => List.mem_cons_of_mem _ (List.mem_append_right _ h)) (by decide +kernel))
set_option maxRecDepth 20000 in
theorem gX6_restart_X6_endOf : GoodIn wsX6_restart (wsV RX6 23 RX6 yX6_endOf wsX6_endOf) := goodIn_app (goodIn_of _ (by decide +kernel)) ggX6_restart_X6_endOf
set_option maxRecDepth 20000 in
theorem ggX6_restart_X0_beginAnew : GoodIn wsX6_restart wsX0_beginAnew := goodIn_r _ [13, 14, 15, 16, 17, 18, 19, 20, 21, 22, 23, 24, 25, 26, 27, 28, 29, 30, 31, 32, 35, 36, 37, 38, 39, 40, 41, 42, 43, 44, 45, 46, 47, 48, 49, 50, 51, 52, 53, 54] (by decide +kernel) (by decide +kernel)
set_option maxRecDepth 20000 in
theorem gX6_restart_X0_beginAnew : GoodIn wsX6_restart (wsV RX6 135 RX0 yX0_beginAnew wsX0_beginAnew) := goodIn_app (goodIn_of _ (by decide +kernel)) ggX6_restart_X0_beginAnew
theorem dX6_restart_0 : decode cX6_restart 0 = .ok (.aload_n 0, 1) := by decide +kernel
theorem dX6_restart_1 : decode cX6_restart 1 = .ok (.iload_n 1, 1) := by decide +kernel
theorem dX6_restart_2 : decode cX6_restart 2 = .ok (.invokevirtual 23, 3) := by decide +kernel
theorem dX6_restart_5 : decode cX6_restart 5 = .ok (.invokevirtual 135, 3) := by decide +kernel
theorem dX6_restart_8 : decode cX6_restart 8 = .ok (.return_, 1) := by decide +kernel
theorem dX6_endOf_0 : decode cX6_endOf 0 = .ok (.iload_n 1, 1) := by decide +kernel
theorem dX6_endOf_1 : decode cX6_endOf 1 = .ok (.ifCond .lt 8, 3) := by decide +kernel
theorem dX6_endOf_4 : decode cX6_endOf 4 = .ok (.iload_n 1, 1) := by decide +kernel
theorem dX6_endOf_5 : decode cX6_endOf 5 = .ok (.iconst 1, 1) := by decide +kernel
theorem dX6_endOf_6 : decode cX6_endOf 6 = .ok (.if_icmp .le 11, 3) := by decide +kernel
theorem dX6_endOf_9 : decode cX6_endOf 9 = .ok (.new 27, 3) := by decide +kernel
theorem dX6_endOf_12 : decode cX6_endOf 12 = .ok (.dup, 1) := by decide +kernel
theorem dX6_endOf_13 : decode cX6_endOf 13 = .ok (.invokespecial 29, 3) := by decide +kernel
theorem dX6_endOf_16 : decode cX6_endOf 16 = .ok (.athrow, 1) := by decide +kernel
theorem dX6_endOf_17 : decode cX6_endOf 17 = .ok (.aload_n 0, 1) := by decide +kernel
theorem dX6_endOf_18 : decode cX6_endOf 18 = .ok (.getfield 12, 3) := by decide +kernel
theorem dX6_endOf_21 : decode cX6_endOf 21 = .ok (.iload_n 1, 1) := by decide +kernel
theorem dX6_endOf_22 : decode cX6_endOf 22 = .ok (.aaload, 1) := by decide +kernel
theorem dX6_endOf_23 : decode cX6_endOf 23 = .ok (.areturn, 1) := by decide +kernel
set_option maxRecDepth 20000 in
theorem ggX6_frameOf_X6_endOf : GoodIn wsX6_frameOf wsX6_endOf := goodIn_ca (goodIn_r _ [7, 1, 2, 8, 23, 24] (by decide +kernel) (by decide +kernel)) (goodIn_sub (fun _ h => List.mem_cons_of_mem _ (List.mem_append_right _ h)) (by decide +kernel))
set_option maxRecDepth 20000 in
theorem gX6_frameOf_X6_endOf : GoodIn wsX6_frameOf (wsV RX6 23 RX6 yX6_endOf wsX6_endOf) := goodIn_app (goodIn_of _ (by decide +kernel)) ggX6_frameOf_X6_endOf
theorem dX6_frameOf_0 : decode cX6_frameOf 0 = .ok (.aload_n 0, 1) := by decide +kernel
theorem dX6_frameOf_1 : decode cX6_frameOf 1 = .ok (.iload_n 1, 1) := by decide +kernel
theorem dX6_frameOf_2 : decode cX6_frameOf 2 = .ok (.invokevirtual 23, 3) := by decide +kernel
theorem dX6_frameOf_5 : decode cX6_frameOf 5 = .ok (.getfield 51, 3) := by decide +kernel
theorem dX6_frameOf_8 : decode cX6_frameOf 8 = .ok (.astore_n 3, 1) := by decide +kernel
theorem dX6_frameOf_9 : decode cX6_frameOf 9 = .ok (.iload_n 2, 1) := by decide +kernel
theorem dX6_frameOf_10 : decode cX6_frameOf 10 = .ok (.ifCond .lt 11, 3) := by decide +kernel
theorem dX6_frameOf_13 : decode cX6_frameOf 13 = .ok (.iload_n 2, 1) := by decide +kernel
theorem dX6_frameOf_14 : decode cX6_frameOf 14 = .ok (.aload_n 3, 1) := by decide +kernel
theorem dX6_frameOf_15 : decode cX6_frameOf 15 = .ok (.getfield 73, 3) := by decide +kernel
theorem dX6_frameOf_18 : decode cX6_frameOf 18 = .ok (.if_icmp .lt 11, 3) := by decide +kernel
theorem dX6_frameOf_21 : decode cX6_frameOf 21 = .ok (.new 27, 3) := by decide +kernel
theorem dX6_frameOf_24 : decode cX6_frameOf 24 = .ok (.dup, 1) := by decide +kernel
theorem dX6_frameOf_25 : decode cX6_frameOf 25 = .ok (.invokespecial 29, 3) := by decide +kernel
theorem dX6_frameOf_28 : decode cX6_frameOf 28 = .ok (.athrow, 1) := by decide +kernel
theorem dX6_frameOf_29 : decode cX6_frameOf 29 = .ok (.aload_n 3, 1) := by decide +kernel
theorem dX6_frameOf_30 : decode cX6_frameOf 30 = .ok (.getfield 76, 3) := by decide +kernel
theorem dX6_frameOf_33 : decode cX6_frameOf 33 = .ok (.iload_n 2, 1) := by decide +kernel
theorem dX6_frameOf_34 : decode cX6_frameOf 34 = .ok (.aaload, 1) := by decide +kernel
theorem dX6_frameOf_35 : decode cX6_frameOf 35 = .ok (.areturn, 1) := by decide +kernel
theorem dX6_restBehind_0 : decode cX6_restBehind 0 = .ok (.iload_n 0, 1) := by decide +kernel
theorem dX6_restBehind_1 : decode cX6_restBehind 1 = .ok (.istore_n 2, 1) := by decide +kernel
theorem dX6_restBehind_2 : decode cX6_restBehind 2 = .ok (.iconst 0, 1) := by decide +kernel
theorem dX6_restBehind_3 : decode cX6_restBehind 3 = .ok (.istore_n 3, 1) := by decide +kernel
theorem dX6_restBehind_4 : decode cX6_restBehind 4 = .ok (.iload_n 3, 1) := by decide +kernel
theorem dX6_restBehind_5 : decode cX6_restBehind 5 = .ok (.bipush 8, 2) := by decide +kernel
theorem dX6_restBehind_7 : decode cX6_restBehind 7 = .ok (.if_icmp .ge 45, 3) := by decide +kernel
theorem dX6_restBehind_10 : decode cX6_restBehind 10 = .ok (.iload_n 2, 1) := by decide +kernel
theorem dX6_restBehind_11 : decode cX6_restBehind 11 = .ok (.iconst 1, 1) := by decide +kernel
theorem dX6_restBehind_12 : decode cX6_restBehind 12 = .ok (.iand, 1) := by decide +kernel
theorem dX6_restBehind_13 : decode cX6_restBehind 13 = .ok (.iload_n 1, 1) := by decide +kernel
theorem dX6_restBehind_14 : decode cX6_restBehind 14 = .ok (.iload_n 3, 1) := by decide +kernel
theorem dX6_restBehind_15 : decode cX6_restBehind 15 = .ok (.ishr, 1) := by decide +kernel
theorem dX6_restBehind_16 : decode cX6_restBehind 16 = .ok (.iconst 1, 1) := by decide +kernel
theorem dX6_restBehind_17 : decode cX6_restBehind 17 = .ok (.iand, 1) := by decide +kernel
theorem dX6_restBehind_18 : decode cX6_restBehind 18 = .ok (.if_icmp .eq 7, 3) := by decide +kernel
theorem dX6_restBehind_21 : decode cX6_restBehind 21 = .ok (.iconst 1, 1) := by decide +kernel
theorem dX6_restBehind_22 : decode cX6_restBehind 22 = .ok (.goto 4, 3) := by decide +kernel
theorem dX6_restBehind_25 : decode cX6_restBehind 25 = .ok (.iconst 0, 1) := by decide +kernel
theorem dX6_restBehind_26 : decode cX6_restBehind 26 = .ok (.istore 4, 2) := by decide +kernel
theorem dX6_restBehind_28 : decode cX6_restBehind 28 = .ok (.iload 4, 2) := by decide +kernel
theorem dX6_restBehind_30 : decode cX6_restBehind 30 = .ok (.ifCond .eq 12, 3) := by decide +kernel
theorem dX6_restBehind_33 : decode cX6_restBehind 33 = .ok (.iload_n 2, 1) := by decide +kernel
theorem dX6_restBehind_34 : decode cX6_restBehind 34 = .ok (.iconst 1, 1) := by decide +kernel
theorem dX6_restBehind_35 : decode cX6_restBehind 35 = .ok (.ishr, 1) := by decide +kernel
theorem dX6_restBehind_36 : decode cX6_restBehind 36 = .ok (.ldc 138, 2) := by decide +kernel
theorem dX6_restBehind_38 : decode cX6_restBehind 38 = .ok (.ixor, 1) := by decide +kernel
theorem dX6_restBehind_39 : decode cX6_restBehind 39 = .ok (.goto 6, 3) := by decide +kernel
theorem dX6_restBehind_42 : decode cX6_restBehind 42 = .ok (.iload_n 2, 1) := by decide +kernel
theorem dX6_restBehind_43 : decode cX6_restBehind 43 = .ok (.iconst 1, 1) := by decide +kernel
theorem dX6_restBehind_44 : decode cX6_restBehind 44 = .ok (.ishr, 1) := by decide +kernel
theorem dX6_restBehind_45 : decode cX6_restBehind 45 = .ok (.istore_n 2, 1) := by decide +kernel
theorem dX6_restBehind_46 : decode cX6_restBehind 46 = .ok (.iinc 3 1, 3) := by decide +kernel
theorem dX6_restBehind_49 : decode cX6_restBehind 49 = .ok (.goto (-45), 3) := by decide +kernel
theorem dX6_restBehind_52 : decode cX6_restBehind 52 = .ok (.iload_n 2, 1) := by decide +kernel
theorem dX6_restBehind_53 : decode cX6_restBehind 53 = .ok (.ireturn, 1) := by decide +kernel
theorem dX6_nextNumber_0 : decode cX6_nextNumber 0 = .ok (.iload_n 0, 1) := by decide +kernel
theorem dX6_nextNumber_1 : decode cX6_nextNumber 1 = .ok (.iconst 1, 1) := by decide +kernel
theorem dX6_nextNumber_2 : decode cX6_nextNumber 2 = .ok (.iadd, 1) := by decide +kernel
theorem dX6_nextNumber_3 : decode cX6_nextNumber 3 = .ok (.bipush 127, 2) := by decide +kernel
theorem dX6_nextNumber_5 : decode cX6_nextNumber 5 = .ok (.iand, 1) := by decide +kernel
theorem dX6_nextNumber_6 : decode cX6_nextNumber 6 = .ok (.ireturn, 1) := by decide +kernel
set_option maxRecDepth 20000 in
theorem ggX7_init_X7_begin : GoodIn wsX7_init wsX7_begin := goodIn_r _ [36, 5, 9, 10, 11, 12, 13, 14, 17, 21, 22, 23, 24, 26, 37, 38, 39, 40, 41, 42, 43, 44, 45, 46, 47, 48, 49, 50, 51, 52, 53, 54, 55, 56, 57, 58, 59, 60, 61, 62, 63] (by decide +kernel) (by decide +kernel)
set_option maxRecDepth 20000 in
theorem gX7_init_X7_begin : GoodIn wsX7_init (wsV RX7 87 RX7 yX7_begin wsX7_begin) := goodIn_app (goodIn_of _ (by decide +kernel)) ggX7_init_X7_begin
theorem dX7_init_0 : decode cX7_init 0 = .ok (.aload_n 0, 1) := by decide +kernel
theorem dX7_init_1 : decode cX7_init 1 = .ok (.invokespecial 1, 3) := by decide +kernel
theorem dX7_init_4 : decode cX7_init 4 = .ok (.aload_n 0, 1) := by decide +kernel
theorem dX7_init_5 : decode cX7_init 5 = .ok (.iconst 2, 1) := by decide +kernel
theorem dX7_init_6 : decode cX7_init 6 = .ok (.newarray .int, 2) := by decide +kernel
theorem dX7_init_8 : decode cX7_init 8 = .ok (.putfield 7, 3) := by decide +kernel
theorem dX7_init_11 : decode cX7_init 11 = .ok (.aload_n 0, 1) := by decide +kernel
theorem dX7_init_12 : decode cX7_init 12 = .ok (.bipush 80, 2) := by decide +kernel
theorem dX7_init_14 : decode cX7_init 14 = .ok (.newarray .int, 2) := by decide +kernel
theorem dX7_init_16 : decode cX7_init 16 = .ok (.putfield 13, 3) := by decide +kernel
theorem dX7_init_19 : decode cX7_init 19 = .ok (.aload_n 0, 1) := by decide +kernel
theorem dX7_init_20 : decode cX7_init 20 = .ok (.ldc 16, 2) := by decide +kernel
theorem dX7_init_22 : decode cX7_init 22 = .ok (.newarray .int, 2) := by decide +kernel
theorem dX7_init_24 : decode cX7_init 24 = .ok (.putfield 17, 3) := by decide +kernel
theorem dX7_init_27 : decode cX7_init 27 = .ok (.aload_n 0, 1) := by decide +kernel
theorem dX7_init_28 : decode cX7_init 28 = .ok (.iconst 2, 1) := by decide +kernel
theorem dX7_init_29 : decode cX7_init 29 = .ok (.newarray .int, 2) := by decide +kernel
theorem dX7_init_31 : decode cX7_init 31 = .ok (.putfield 20, 3) := by decide +kernel
theorem dX7_init_34 : decode cX7_init 34 = .ok (.aload_n 0, 1) := by decide +kernel
theorem dX7_init_35 : decode cX7_init 35 = .ok (.iconst 2, 1) := by decide +kernel
theorem dX7_init_36 : decode cX7_init 36 = .ok (.newarray .int, 2) := by decide +kernel
theorem dX7_init_38 : decode cX7_init 38 = .ok (.putfield 23, 3) := by decide +kernel
end
section
theorem dX7_init_41 : decode cX7_init 41 = .ok (.aload_n 0, 1) := by decide +kernel
theorem dX7_init_42 : decode cX7_init 42 = .ok (.iconst 2, 1) := by decide +kernel
theorem dX7_init_43 : decode cX7_init 43 = .ok (.newarray .int, 2) := by decide +kernel
theorem dX7_init_45 : decode cX7_init 45 = .ok (.putfield 26, 3) := by decide +kernel
theorem dX7_init_48 : decode cX7_init 48 = .ok (.aload_n 0, 1) := by decide +kernel
theorem dX7_init_49 : decode cX7_init 49 = .ok (.iconst 2, 1) := by decide +kernel
theorem dX7_init_50 : decode cX7_init 50 = .ok (.newarray .int, 2) := by decide +kernel
theorem dX7_init_52 : decode cX7_init 52 = .ok (.putfield 29, 3) := by decide +kernel
theorem dX7_init_55 : decode cX7_init 55 = .ok (.aload_n 0, 1) := by decide +kernel
theorem dX7_init_56 : decode cX7_init 56 = .ok (.iconst 2, 1) := by decide +kernel
theorem dX7_init_57 : decode cX7_init 57 = .ok (.newarray .int, 2) := by decide +kernel
theorem dX7_init_59 : decode cX7_init 59 = .ok (.putfield 32, 3) := by decide +kernel
theorem dX7_init_62 : decode cX7_init 62 = .ok (.aload_n 0, 1) := by decide +kernel
theorem dX7_init_63 : decode cX7_init 63 = .ok (.iconst 2, 1) := by decide +kernel
theorem dX7_init_64 : decode cX7_init 64 = .ok (.newarray .int, 2) := by decide +kernel
theorem dX7_init_66 : decode cX7_init 66 = .ok (.putfield 35, 3) := by decide +kernel
theorem dX7_init_69 : decode cX7_init 69 = .ok (.aload_n 0, 1) := by decide +kernel
theorem dX7_init_70 : decode cX7_init 70 = .ok (.bipush 120, 2) := by decide +kernel
theorem dX7_init_72 : decode cX7_init 72 = .ok (.newarray .int, 2) := by decide +kernel
theorem dX7_init_74 : decode cX7_init 74 = .ok (.putfield 38, 3) := by decide +kernel
theorem dX7_init_77 : decode cX7_init 77 = .ok (.aload_n 0, 1) := by decide +kernel
theorem dX7_init_78 : decode cX7_init 78 = .ok (.bipush 120, 2) := by decide +kernel
theorem dX7_init_80 : decode cX7_init 80 = .ok (.newarray .int, 2) := by decide +kernel
theorem dX7_init_82 : decode cX7_init 82 = .ok (.putfield 41, 3) := by decide +kernel
theorem dX7_init_85 : decode cX7_init 85 = .ok (.aload_n 0, 1) := by decide +kernel
theorem dX7_init_86 : decode cX7_init 86 = .ok (.iconst 2, 1) := by decide +kernel
theorem dX7_init_87 : decode cX7_init 87 = .ok (.newarray .int, 2) := by decide +kernel
theorem dX7_init_89 : decode cX7_init 89 = .ok (.putfield 44, 3) := by decide +kernel
theorem dX7_init_92 : decode cX7_init 92 = .ok (.aload_n 0, 1) := by decide +kernel
theorem dX7_init_93 : decode cX7_init 93 = .ok (.sipush 254, 3) := by decide +kernel
theorem dX7_init_96 : decode cX7_init 96 = .ok (.newarray .int, 2) := by decide +kernel
theorem dX7_init_98 : decode cX7_init 98 = .ok (.putfield 47, 3) := by decide +kernel
theorem dX7_init_101 : decode cX7_init 101 = .ok (.aload_n 0, 1) := by decide +kernel
theorem dX7_init_102 : decode cX7_init 102 = .ok (.sipush 254, 3) := by decide +kernel
theorem dX7_init_105 : decode cX7_init 105 = .ok (.newarray .int, 2) := by decide +kernel
theorem dX7_init_107 : decode cX7_init 107 = .ok (.putfield 50, 3) := by decide +kernel
theorem dX7_init_110 : decode cX7_init 110 = .ok (.aload_n 0, 1) := by decide +kernel
theorem dX7_init_111 : decode cX7_init 111 = .ok (.sipush 254, 3) := by decide +kernel
theorem dX7_init_114 : decode cX7_init 114 = .ok (.newarray .int, 2) := by decide +kernel
theorem dX7_init_116 : decode cX7_init 116 = .ok (.putfield 53, 3) := by decide +kernel
theorem dX7_init_119 : decode cX7_init 119 = .ok (.aload_n 0, 1) := by decide +kernel
theorem dX7_init_120 : decode cX7_init 120 = .ok (.iconst 2, 1) := by decide +kernel
theorem dX7_init_121 : decode cX7_init 121 = .ok (.newarray .int, 2) := by decide +kernel
theorem dX7_init_123 : decode cX7_init 123 = .ok (.putfield 56, 3) := by decide +kernel
theorem dX7_init_126 : decode cX7_init 126 = .ok (.aload_n 0, 1) := by decide +kernel
theorem dX7_init_127 : decode cX7_init 127 = .ok (.iconst 2, 1) := by decide +kernel
theorem dX7_init_128 : decode cX7_init 128 = .ok (.newarray .int, 2) := by decide +kernel
theorem dX7_init_130 : decode cX7_init 130 = .ok (.putfield 59, 3) := by decide +kernel
theorem dX7_init_133 : decode cX7_init 133 = .ok (.aload_n 0, 1) := by decide +kernel
theorem dX7_init_134 : decode cX7_init 134 = .ok (.iconst 2, 1) := by decide +kernel
theorem dX7_init_135 : decode cX7_init 135 = .ok (.newarray .int, 2) := by decide +kernel
theorem dX7_init_137 : decode cX7_init 137 = .ok (.putfield 62, 3) := by decide +kernel
theorem dX7_init_140 : decode cX7_init 140 = .ok (.aload_n 0, 1) := by decide +kernel
theorem dX7_init_141 : decode cX7_init 141 = .ok (.iconst 2, 1) := by decide +kernel
theorem dX7_init_142 : decode cX7_init 142 = .ok (.newarray .int, 2) := by decide +kernel
theorem dX7_init_144 : decode cX7_init 144 = .ok (.putfield 65, 3) := by decide +kernel
theorem dX7_init_147 : decode cX7_init 147 = .ok (.aload_n 0, 1) := by decide +kernel
theorem dX7_init_148 : decode cX7_init 148 = .ok (.iconst 2, 1) := by decide +kernel
theorem dX7_init_149 : decode cX7_init 149 = .ok (.newarray .boolean, 2) := by decide +kernel
theorem dX7_init_151 : decode cX7_init 151 = .ok (.putfield 68, 3) := by decide +kernel
theorem dX7_init_154 : decode cX7_init 154 = .ok (.aload_n 0, 1) := by decide +kernel
theorem dX7_init_155 : decode cX7_init 155 = .ok (.iconst 2, 1) := by decide +kernel
theorem dX7_init_156 : decode cX7_init 156 = .ok (.newarray .int, 2) := by decide +kernel
theorem dX7_init_158 : decode cX7_init 158 = .ok (.putfield 72, 3) := by decide +kernel
theorem dX7_init_161 : decode cX7_init 161 = .ok (.aload_n 0, 1) := by decide +kernel
theorem dX7_init_162 : decode cX7_init 162 = .ok (.bipush 100, 2) := by decide +kernel
theorem dX7_init_164 : decode cX7_init 164 = .ok (.newarray .int, 2) := by decide +kernel
theorem dX7_init_166 : decode cX7_init 166 = .ok (.putfield 75, 3) := by decide +kernel
theorem dX7_init_169 : decode cX7_init 169 = .ok (.aload_n 0, 1) := by decide +kernel
theorem dX7_init_170 : decode cX7_init 170 = .ok (.sipush 27200, 3) := by decide +kernel
theorem dX7_init_173 : decode cX7_init 173 = .ok (.newarray .int, 2) := by decide +kernel
theorem dX7_init_175 : decode cX7_init 175 = .ok (.putfield 78, 3) := by decide +kernel
theorem dX7_init_178 : decode cX7_init 178 = .ok (.aload_n 0, 1) := by decide +kernel
theorem dX7_init_179 : decode cX7_init 179 = .ok (.sipush 280, 3) := by decide +kernel
theorem dX7_init_182 : decode cX7_init 182 = .ok (.newarray .int, 2) := by decide +kernel
theorem dX7_init_184 : decode cX7_init 184 = .ok (.putfield 81, 3) := by decide +kernel
theorem dX7_init_187 : decode cX7_init 187 = .ok (.aload_n 0, 1) := by decide +kernel
theorem dX7_init_188 : decode cX7_init 188 = .ok (.sipush 3000, 3) := by decide +kernel
theorem dX7_init_191 : decode cX7_init 191 = .ok (.newarray .int, 2) := by decide +kernel
theorem dX7_init_193 : decode cX7_init 193 = .ok (.putfield 84, 3) := by decide +kernel
theorem dX7_init_196 : decode cX7_init 196 = .ok (.aload_n 0, 1) := by decide +kernel
theorem dX7_init_197 : decode cX7_init 197 = .ok (.iconst 0, 1) := by decide +kernel
theorem dX7_init_198 : decode cX7_init 198 = .ok (.invokevirtual 87, 3) := by decide +kernel
theorem dX7_init_201 : decode cX7_init 201 = .ok (.aload_n 0, 1) := by decide +kernel
theorem dX7_init_202 : decode cX7_init 202 = .ok (.iconst 1, 1) := by decide +kernel
theorem dX7_init_203 : decode cX7_init 203 = .ok (.invokevirtual 87, 3) := by decide +kernel
theorem dX7_init_206 : decode cX7_init 206 = .ok (.return_, 1) := by decide +kernel
theorem dX7_thrown_0 : decode cX7_thrown 0 = .ok (.aload_n 0, 1) := by decide +kernel
theorem dX7_thrown_1 : decode cX7_thrown 1 = .ok (.getfield 91, 3) := by decide +kernel
theorem dX7_thrown_4 : decode cX7_thrown 4 = .ok (.ireturn, 1) := by decide +kernel
theorem dX7_refuses_0 : decode cX7_refuses 0 = .ok (.aload_n 0, 1) := by decide +kernel
theorem dX7_refuses_1 : decode cX7_refuses 1 = .ok (.iload_n 1, 1) := by decide +kernel
theorem dX7_refuses_2 : decode cX7_refuses 2 = .ok (.putfield 91, 3) := by decide +kernel
theorem dX7_refuses_5 : decode cX7_refuses 5 = .ok (.iload_n 1, 1) := by decide +kernel
theorem dX7_refuses_6 : decode cX7_refuses 6 = .ok (.ifCond .le 7, 3) := by decide +kernel
theorem dX7_refuses_9 : decode cX7_refuses 9 = .ok (.iconst 1, 1) := by decide +kernel
theorem dX7_refuses_10 : decode cX7_refuses 10 = .ok (.goto 4, 3) := by decide +kernel
theorem dX7_refuses_13 : decode cX7_refuses 13 = .ok (.iconst 0, 1) := by decide +kernel
theorem dX7_refuses_14 : decode cX7_refuses 14 = .ok (.ireturn, 1) := by decide +kernel
theorem dX7_isEnd_0 : decode cX7_isEnd 0 = .ok (.iload_n 0, 1) := by decide +kernel
theorem dX7_isEnd_1 : decode cX7_isEnd 1 = .ok (.ifCond .eq 8, 3) := by decide +kernel
theorem dX7_isEnd_4 : decode cX7_isEnd 4 = .ok (.iload_n 0, 1) := by decide +kernel
theorem dX7_isEnd_5 : decode cX7_isEnd 5 = .ok (.iconst 1, 1) := by decide +kernel
theorem dX7_isEnd_6 : decode cX7_isEnd 6 = .ok (.if_icmp .ne 7, 3) := by decide +kernel
theorem dX7_isEnd_9 : decode cX7_isEnd 9 = .ok (.iconst 1, 1) := by decide +kernel
theorem dX7_isEnd_10 : decode cX7_isEnd 10 = .ok (.goto 4, 3) := by decide +kernel
theorem dX7_isEnd_13 : decode cX7_isEnd 13 = .ok (.iconst 0, 1) := by decide +kernel
theorem dX7_isEnd_14 : decode cX7_isEnd 14 = .ok (.ireturn, 1) := by decide +kernel
theorem dX7_begin_0 : decode cX7_begin 0 = .ok (.aload_n 0, 1) := by decide +kernel
theorem dX7_begin_1 : decode cX7_begin 1 = .ok (.getfield 7, 3) := by decide +kernel
theorem dX7_begin_4 : decode cX7_begin 4 = .ok (.iload_n 1, 1) := by decide +kernel
theorem dX7_begin_5 : decode cX7_begin 5 = .ok (.iconst 0, 1) := by decide +kernel
theorem dX7_begin_6 : decode cX7_begin 6 = .ok (.iastore, 1) := by decide +kernel
theorem dX7_begin_7 : decode cX7_begin 7 = .ok (.aload_n 0, 1) := by decide +kernel
theorem dX7_begin_8 : decode cX7_begin 8 = .ok (.getfield 20, 3) := by decide +kernel
theorem dX7_begin_11 : decode cX7_begin 11 = .ok (.iload_n 1, 1) := by decide +kernel
theorem dX7_begin_12 : decode cX7_begin 12 = .ok (.iconst 1, 1) := by decide +kernel
theorem dX7_begin_13 : decode cX7_begin 13 = .ok (.iastore, 1) := by decide +kernel
theorem dX7_begin_14 : decode cX7_begin 14 = .ok (.aload_n 0, 1) := by decide +kernel
theorem dX7_begin_15 : decode cX7_begin 15 = .ok (.getfield 23, 3) := by decide +kernel
theorem dX7_begin_18 : decode cX7_begin 18 = .ok (.iload_n 1, 1) := by decide +kernel
theorem dX7_begin_19 : decode cX7_begin 19 = .ok (.iconst 1, 1) := by decide +kernel
theorem dX7_begin_20 : decode cX7_begin 20 = .ok (.iastore, 1) := by decide +kernel
theorem dX7_begin_21 : decode cX7_begin 21 = .ok (.aload_n 0, 1) := by decide +kernel
theorem dX7_begin_22 : decode cX7_begin 22 = .ok (.getfield 26, 3) := by decide +kernel
theorem dX7_begin_25 : decode cX7_begin 25 = .ok (.iload_n 1, 1) := by decide +kernel
theorem dX7_begin_26 : decode cX7_begin 26 = .ok (.bipush 127, 2) := by decide +kernel
theorem dX7_begin_28 : decode cX7_begin 28 = .ok (.iastore, 1) := by decide +kernel
theorem dX7_begin_29 : decode cX7_begin 29 = .ok (.aload_n 0, 1) := by decide +kernel
theorem dX7_begin_30 : decode cX7_begin 30 = .ok (.getfield 29, 3) := by decide +kernel
theorem dX7_begin_33 : decode cX7_begin 33 = .ok (.iload_n 1, 1) := by decide +kernel
theorem dX7_begin_34 : decode cX7_begin 34 = .ok (.bipush 127, 2) := by decide +kernel
theorem dX7_begin_36 : decode cX7_begin 36 = .ok (.iastore, 1) := by decide +kernel
theorem dX7_begin_37 : decode cX7_begin 37 = .ok (.aload_n 0, 1) := by decide +kernel
theorem dX7_begin_38 : decode cX7_begin 38 = .ok (.getfield 32, 3) := by decide +kernel
theorem dX7_begin_41 : decode cX7_begin 41 = .ok (.iload_n 1, 1) := by decide +kernel
theorem dX7_begin_42 : decode cX7_begin 42 = .ok (.bipush 127, 2) := by decide +kernel
theorem dX7_begin_44 : decode cX7_begin 44 = .ok (.iastore, 1) := by decide +kernel
theorem dX7_begin_45 : decode cX7_begin 45 = .ok (.aload_n 0, 1) := by decide +kernel
theorem dX7_begin_46 : decode cX7_begin 46 = .ok (.getfield 35, 3) := by decide +kernel
theorem dX7_begin_49 : decode cX7_begin 49 = .ok (.iload_n 1, 1) := by decide +kernel
theorem dX7_begin_50 : decode cX7_begin 50 = .ok (.iconst 0, 1) := by decide +kernel
theorem dX7_begin_51 : decode cX7_begin 51 = .ok (.iastore, 1) := by decide +kernel
theorem dX7_begin_52 : decode cX7_begin 52 = .ok (.aload_n 0, 1) := by decide +kernel
theorem dX7_begin_53 : decode cX7_begin 53 = .ok (.getfield 44, 3) := by decide +kernel
theorem dX7_begin_56 : decode cX7_begin 56 = .ok (.iload_n 1, 1) := by decide +kernel
theorem dX7_begin_57 : decode cX7_begin 57 = .ok (.iconst 0, 1) := by decide +kernel
theorem dX7_begin_58 : decode cX7_begin 58 = .ok (.iastore, 1) := by decide +kernel
theorem dX7_begin_59 : decode cX7_begin 59 = .ok (.aload_n 0, 1) := by decide +kernel
theorem dX7_begin_60 : decode cX7_begin 60 = .ok (.getfield 56, 3) := by decide +kernel
theorem dX7_begin_63 : decode cX7_begin 63 = .ok (.iload_n 1, 1) := by decide +kernel
theorem dX7_begin_64 : decode cX7_begin 64 = .ok (.iconst 0, 1) := by decide +kernel
theorem dX7_begin_65 : decode cX7_begin 65 = .ok (.iastore, 1) := by decide +kernel
theorem dX7_begin_66 : decode cX7_begin 66 = .ok (.aload_n 0, 1) := by decide +kernel
theorem dX7_begin_67 : decode cX7_begin 67 = .ok (.getfield 59, 3) := by decide +kernel
theorem dX7_begin_70 : decode cX7_begin 70 = .ok (.iload_n 1, 1) := by decide +kernel
theorem dX7_begin_71 : decode cX7_begin 71 = .ok (.iconst 0, 1) := by decide +kernel
theorem dX7_begin_72 : decode cX7_begin 72 = .ok (.iastore, 1) := by decide +kernel
theorem dX7_begin_73 : decode cX7_begin 73 = .ok (.aload_n 0, 1) := by decide +kernel
theorem dX7_begin_74 : decode cX7_begin 74 = .ok (.getfield 62, 3) := by decide +kernel
theorem dX7_begin_77 : decode cX7_begin 77 = .ok (.iload_n 1, 1) := by decide +kernel
theorem dX7_begin_78 : decode cX7_begin 78 = .ok (.iconst 0, 1) := by decide +kernel
theorem dX7_begin_79 : decode cX7_begin 79 = .ok (.iastore, 1) := by decide +kernel
theorem dX7_begin_80 : decode cX7_begin 80 = .ok (.aload_n 0, 1) := by decide +kernel
theorem dX7_begin_81 : decode cX7_begin 81 = .ok (.getfield 65, 3) := by decide +kernel
theorem dX7_begin_84 : decode cX7_begin 84 = .ok (.iload_n 1, 1) := by decide +kernel
theorem dX7_begin_85 : decode cX7_begin 85 = .ok (.iconst 0, 1) := by decide +kernel
theorem dX7_begin_86 : decode cX7_begin 86 = .ok (.iastore, 1) := by decide +kernel
theorem dX7_begin_87 : decode cX7_begin 87 = .ok (.aload_n 0, 1) := by decide +kernel
theorem dX7_begin_88 : decode cX7_begin 88 = .ok (.getfield 68, 3) := by decide +kernel
theorem dX7_begin_91 : decode cX7_begin 91 = .ok (.iload_n 1, 1) := by decide +kernel
theorem dX7_begin_92 : decode cX7_begin 92 = .ok (.iconst 0, 1) := by decide +kernel
theorem dX7_begin_93 : decode cX7_begin 93 = .ok (.bastore, 1) := by decide +kernel
theorem dX7_begin_94 : decode cX7_begin 94 = .ok (.return_, 1) := by decide +kernel
theorem dX7_checked_0 : decode cX7_checked 0 = .ok (.iload_n 0, 1) := by decide +kernel
theorem dX7_checked_1 : decode cX7_checked 1 = .ok (.istore_n 2, 1) := by decide +kernel
theorem dX7_checked_2 : decode cX7_checked 2 = .ok (.iconst 0, 1) := by decide +kernel
theorem dX7_checked_3 : decode cX7_checked 3 = .ok (.istore_n 3, 1) := by decide +kernel
theorem dX7_checked_4 : decode cX7_checked 4 = .ok (.iload_n 3, 1) := by decide +kernel
theorem dX7_checked_5 : decode cX7_checked 5 = .ok (.bipush 8, 2) := by decide +kernel
theorem dX7_checked_7 : decode cX7_checked 7 = .ok (.if_icmp .ge 33, 3) := by decide +kernel
theorem dX7_checked_10 : decode cX7_checked 10 = .ok (.iload_n 2, 1) := by decide +kernel
theorem dX7_checked_11 : decode cX7_checked 11 = .ok (.iconst 1, 1) := by decide +kernel
theorem dX7_checked_12 : decode cX7_checked 12 = .ok (.iand, 1) := by decide +kernel
theorem dX7_checked_13 : decode cX7_checked 13 = .ok (.iload_n 1, 1) := by decide +kernel
theorem dX7_checked_14 : decode cX7_checked 14 = .ok (.iload_n 3, 1) := by decide +kernel
theorem dX7_checked_15 : decode cX7_checked 15 = .ok (.ishr, 1) := by decide +kernel
theorem dX7_checked_16 : decode cX7_checked 16 = .ok (.iconst 1, 1) := by decide +kernel
theorem dX7_checked_17 : decode cX7_checked 17 = .ok (.iand, 1) := by decide +kernel
theorem dX7_checked_18 : decode cX7_checked 18 = .ok (.if_icmp .eq 12, 3) := by decide +kernel
theorem dX7_checked_21 : decode cX7_checked 21 = .ok (.iload_n 2, 1) := by decide +kernel
theorem dX7_checked_22 : decode cX7_checked 22 = .ok (.iconst 1, 1) := by decide +kernel
theorem dX7_checked_23 : decode cX7_checked 23 = .ok (.ishr, 1) := by decide +kernel
theorem dX7_checked_24 : decode cX7_checked 24 = .ok (.ldc 95, 2) := by decide +kernel
theorem dX7_checked_26 : decode cX7_checked 26 = .ok (.ixor, 1) := by decide +kernel
theorem dX7_checked_27 : decode cX7_checked 27 = .ok (.goto 6, 3) := by decide +kernel
theorem dX7_checked_30 : decode cX7_checked 30 = .ok (.iload_n 2, 1) := by decide +kernel
theorem dX7_checked_31 : decode cX7_checked 31 = .ok (.iconst 1, 1) := by decide +kernel
theorem dX7_checked_32 : decode cX7_checked 32 = .ok (.ishr, 1) := by decide +kernel
theorem dX7_checked_33 : decode cX7_checked 33 = .ok (.istore_n 2, 1) := by decide +kernel
theorem dX7_checked_34 : decode cX7_checked 34 = .ok (.iinc 3 1, 3) := by decide +kernel
theorem dX7_checked_37 : decode cX7_checked 37 = .ok (.goto (-33), 3) := by decide +kernel
theorem dX7_checked_40 : decode cX7_checked 40 = .ok (.iload_n 2, 1) := by decide +kernel
theorem dX7_checked_41 : decode cX7_checked 41 = .ok (.ireturn, 1) := by decide +kernel
set_option maxRecDepth 20000 in
theorem ggX7_unitCheck_X7_checked : GoodIn wsX7_unitCheck wsX7_checked := goodIn_r _ [6, 7] (by decide +kernel) (by decide +kernel)
set_option maxRecDepth 20000 in
theorem gX7_unitCheck_X7_checked : GoodIn wsX7_unitCheck (va_wsS RX7 97 yX7_checked wsX7_checked) := goodIn_app (goodIn_of _ (by decide +kernel)) ggX7_unitCheck_X7_checked
theorem dX7_unitCheck_0 : decode cX7_unitCheck 0 = .ok (.ldc 96, 2) := by decide +kernel
theorem dX7_unitCheck_2 : decode cX7_unitCheck 2 = .ok (.istore_n 2, 1) := by decide +kernel
theorem dX7_unitCheck_3 : decode cX7_unitCheck 3 = .ok (.iconst 0, 1) := by decide +kernel
theorem dX7_unitCheck_4 : decode cX7_unitCheck 4 = .ok (.istore_n 3, 1) := by decide +kernel
theorem dX7_unitCheck_5 : decode cX7_unitCheck 5 = .ok (.iload_n 3, 1) := by decide +kernel
theorem dX7_unitCheck_6 : decode cX7_unitCheck 6 = .ok (.iload_n 1, 1) := by decide +kernel
theorem dX7_unitCheck_7 : decode cX7_unitCheck 7 = .ok (.if_icmp .ge 20, 3) := by decide +kernel
theorem dX7_unitCheck_10 : decode cX7_unitCheck 10 = .ok (.iload_n 2, 1) := by decide +kernel
theorem dX7_unitCheck_11 : decode cX7_unitCheck 11 = .ok (.aload_n 0, 1) := by decide +kernel
theorem dX7_unitCheck_12 : decode cX7_unitCheck 12 = .ok (.getfield 81, 3) := by decide +kernel
theorem dX7_unitCheck_15 : decode cX7_unitCheck 15 = .ok (.iload_n 3, 1) := by decide +kernel
theorem dX7_unitCheck_16 : decode cX7_unitCheck 16 = .ok (.iaload, 1) := by decide +kernel
theorem dX7_unitCheck_17 : decode cX7_unitCheck 17 = .ok (.invokestatic 97, 3) := by decide +kernel
theorem dX7_unitCheck_20 : decode cX7_unitCheck 20 = .ok (.istore_n 2, 1) := by decide +kernel
theorem dX7_unitCheck_21 : decode cX7_unitCheck 21 = .ok (.iinc 3 1, 3) := by decide +kernel
theorem dX7_unitCheck_24 : decode cX7_unitCheck 24 = .ok (.goto (-19), 3) := by decide +kernel
theorem dX7_unitCheck_27 : decode cX7_unitCheck 27 = .ok (.ldc 96, 2) := by decide +kernel
theorem dX7_unitCheck_29 : decode cX7_unitCheck 29 = .ok (.iload_n 2, 1) := by decide +kernel
theorem dX7_unitCheck_30 : decode cX7_unitCheck 30 = .ok (.isub, 1) := by decide +kernel
theorem dX7_unitCheck_31 : decode cX7_unitCheck 31 = .ok (.ireturn, 1) := by decide +kernel
set_option maxRecDepth 20000 in
theorem ggX7_check_X7_refuses : GoodIn wsX7_check wsX7_refuses := goodIn_r _ [7, 8, 13, 14, 15, 16, 17, 18, 19, 20, 21, 22, 23, 24, 25, 26, 27, 28, 29, 30, 31, 32, 33, 34, 35, 36, 37, 38, 39] (by decide +kernel) (by decide +kernel)
set_option maxRecDepth 20000 in
theorem gX7_check_X7_refuses : GoodIn wsX7_check (wsV RX7 101 RX7 yX7_refuses wsX7_refuses) := goodIn_app (goodIn_of _ (by decide +kernel)) ggX7_check_X7_refuses
set_option maxRecDepth 20000 in
theorem ggX7_check_X7_checked : GoodIn wsX7_check wsX7_checked := goodIn_r _ [11, 12] (by decide +kernel) (by decide +kernel)
set_option maxRecDepth 20000 in
theorem gX7_check_X7_checked : GoodIn wsX7_check (va_wsS RX7 97 yX7_checked wsX7_checked) := goodIn_app (goodIn_of _ (by decide +kernel)) ggX7_check_X7_checked
theorem dX7_check_0 : decode cX7_check 0 = .ok (.aload_n 0, 1) := by decide +kernel
theorem dX7_check_1 : decode cX7_check 1 = .ok (.iload_n 3, 1) := by decide +kernel
theorem dX7_check_2 : decode cX7_check 2 = .ok (.ifCond .lt 9, 3) := by decide +kernel
theorem dX7_check_5 : decode cX7_check 5 = .ok (.iload_n 3, 1) := by decide +kernel
theorem dX7_check_6 : decode cX7_check 6 = .ok (.bipush 8, 2) := by decide +kernel
theorem dX7_check_8 : decode cX7_check 8 = .ok (.if_icmp .le 7, 3) := by decide +kernel
theorem dX7_check_11 : decode cX7_check 11 = .ok (.iconst 1, 1) := by decide +kernel
theorem dX7_check_12 : decode cX7_check 12 = .ok (.goto 4, 3) := by decide +kernel
theorem dX7_check_15 : decode cX7_check 15 = .ok (.iconst 0, 1) := by decide +kernel
theorem dX7_check_16 : decode cX7_check 16 = .ok (.invokevirtual 101, 3) := by decide +kernel
theorem dX7_check_19 : decode cX7_check 19 = .ok (.ifCond .eq 5, 3) := by decide +kernel
theorem dX7_check_22 : decode cX7_check 22 = .ok (.iconst 0, 1) := by decide +kernel
theorem dX7_check_23 : decode cX7_check 23 = .ok (.ireturn, 1) := by decide +kernel
theorem dX7_check_24 : decode cX7_check 24 = .ok (.ldc 96, 2) := by decide +kernel
theorem dX7_check_26 : decode cX7_check 26 = .ok (.istore 4, 2) := by decide +kernel
theorem dX7_check_28 : decode cX7_check 28 = .ok (.iconst 0, 1) := by decide +kernel
theorem dX7_check_29 : decode cX7_check 29 = .ok (.istore 5, 2) := by decide +kernel
theorem dX7_check_31 : decode cX7_check 31 = .ok (.iload 5, 2) := by decide +kernel
theorem dX7_check_33 : decode cX7_check 33 = .ok (.iload_n 3, 1) := by decide +kernel
theorem dX7_check_34 : decode cX7_check 34 = .ok (.if_icmp .ge 28, 3) := by decide +kernel
theorem dX7_check_37 : decode cX7_check 37 = .ok (.iload 4, 2) := by decide +kernel
theorem dX7_check_39 : decode cX7_check 39 = .ok (.lload_n 1, 1) := by decide +kernel
theorem dX7_check_40 : decode cX7_check 40 = .ok (.bipush 8, 2) := by decide +kernel
theorem dX7_check_42 : decode cX7_check 42 = .ok (.iload 5, 2) := by decide +kernel
theorem dX7_check_44 : decode cX7_check 44 = .ok (.imul, 1) := by decide +kernel
theorem dX7_check_45 : decode cX7_check 45 = .ok (.lshr, 1) := by decide +kernel
theorem dX7_check_46 : decode cX7_check 46 = .ok (.ldc2_w 105, 3) := by decide +kernel
theorem dX7_check_49 : decode cX7_check 49 = .ok (.land, 1) := by decide +kernel
theorem dX7_check_50 : decode cX7_check 50 = .ok (.l2i, 1) := by decide +kernel
theorem dX7_check_51 : decode cX7_check 51 = .ok (.invokestatic 97, 3) := by decide +kernel
theorem dX7_check_54 : decode cX7_check 54 = .ok (.istore 4, 2) := by decide +kernel
theorem dX7_check_56 : decode cX7_check 56 = .ok (.iinc 5 1, 3) := by decide +kernel
theorem dX7_check_59 : decode cX7_check 59 = .ok (.goto (-28), 3) := by decide +kernel
theorem dX7_check_62 : decode cX7_check 62 = .ok (.ldc 96, 2) := by decide +kernel
theorem dX7_check_64 : decode cX7_check 64 = .ok (.iload 4, 2) := by decide +kernel
theorem dX7_check_66 : decode cX7_check 66 = .ok (.isub, 1) := by decide +kernel
theorem dX7_check_67 : decode cX7_check 67 = .ok (.ireturn, 1) := by decide +kernel
set_option maxRecDepth 20000 in
theorem ggX7_put_X7_isEnd : GoodIn wsX7_put wsX7_isEnd := goodIn_r _ [8] (by decide +kernel) (by decide +kernel)
set_option maxRecDepth 20000 in
theorem gX7_put_X7_isEnd : GoodIn wsX7_put (va_wsS RX7 107 yX7_isEnd wsX7_isEnd) := goodIn_app (goodIn_of _ (by decide +kernel)) ggX7_put_X7_isEnd
set_option maxRecDepth 20000 in
theorem ggX7_put_X7_refuses : GoodIn wsX7_put wsX7_refuses := goodIn_r _ [12, 13, 14, 15, 16, 17, 18, 19, 20, 21, 22, 23, 24, 25, 26, 27, 28, 29, 30, 31, 32, 33, 34, 35, 36, 37, 38, 39, 40] (by decide +kernel) (by decide +kernel)
set_option maxRecDepth 20000 in
theorem gX7_put_X7_refuses : GoodIn wsX7_put (wsV RX7 101 RX7 yX7_refuses wsX7_refuses) := goodIn_app (goodIn_of _ (by decide +kernel)) ggX7_put_X7_refuses
theorem dX7_put_0 : decode cX7_put 0 = .ok (.iload_n 1, 1) := by decide +kernel
theorem dX7_put_1 : decode cX7_put 1 = .ok (.invokestatic 107, 3) := by decide +kernel
theorem dX7_put_4 : decode cX7_put 4 = .ok (.ifCond .eq 30, 3) := by decide +kernel
theorem dX7_put_7 : decode cX7_put 7 = .ok (.iload_n 2, 1) := by decide +kernel
theorem dX7_put_8 : decode cX7_put 8 = .ok (.iconst 1, 1) := by decide +kernel
theorem dX7_put_9 : decode cX7_put 9 = .ok (.if_icmp .lt 25, 3) := by decide +kernel
theorem dX7_put_12 : decode cX7_put 12 = .ok (.iload_n 2, 1) := by decide +kernel
theorem dX7_put_13 : decode cX7_put 13 = .ok (.sipush 272, 3) := by decide +kernel
theorem dX7_put_16 : decode cX7_put 16 = .ok (.if_icmp .gt 18, 3) := by decide +kernel
theorem dX7_put_19 : decode cX7_put 19 = .ok (.iload_n 3, 1) := by decide +kernel
theorem dX7_put_20 : decode cX7_put 20 = .ok (.ifCond .lt 14, 3) := by decide +kernel
theorem dX7_put_23 : decode cX7_put 23 = .ok (.iload_n 3, 1) := by decide +kernel
theorem dX7_put_24 : decode cX7_put 24 = .ok (.sipush 255, 3) := by decide +kernel
theorem dX7_put_27 : decode cX7_put 27 = .ok (.if_icmp .gt 7, 3) := by decide +kernel
theorem dX7_put_30 : decode cX7_put 30 = .ok (.iconst 1, 1) := by decide +kernel
theorem dX7_put_31 : decode cX7_put 31 = .ok (.goto 4, 3) := by decide +kernel
theorem dX7_put_34 : decode cX7_put 34 = .ok (.iconst 0, 1) := by decide +kernel
theorem dX7_put_35 : decode cX7_put 35 = .ok (.istore 4, 2) := by decide +kernel
theorem dX7_put_37 : decode cX7_put 37 = .ok (.aload_n 0, 1) := by decide +kernel
theorem dX7_put_38 : decode cX7_put 38 = .ok (.iload 4, 2) := by decide +kernel
theorem dX7_put_40 : decode cX7_put 40 = .ok (.ifCond .ne 7, 3) := by decide +kernel
theorem dX7_put_43 : decode cX7_put 43 = .ok (.iconst 1, 1) := by decide +kernel
theorem dX7_put_44 : decode cX7_put 44 = .ok (.goto 28, 3) := by decide +kernel
theorem dX7_put_47 : decode cX7_put 47 = .ok (.aload_n 0, 1) := by decide +kernel
theorem dX7_put_48 : decode cX7_put 48 = .ok (.getfield 35, 3) := by decide +kernel
theorem dX7_put_51 : decode cX7_put 51 = .ok (.iload_n 1, 1) := by decide +kernel
theorem dX7_put_52 : decode cX7_put 52 = .ok (.iaload, 1) := by decide +kernel
theorem dX7_put_53 : decode cX7_put 53 = .ok (.bipush 60, 2) := by decide +kernel
theorem dX7_put_55 : decode cX7_put 55 = .ok (.if_icmp .eq 12, 3) := by decide +kernel
theorem dX7_put_58 : decode cX7_put 58 = .ok (.aload_n 0, 1) := by decide +kernel
theorem dX7_put_59 : decode cX7_put 59 = .ok (.getfield 68, 3) := by decide +kernel
theorem dX7_put_62 : decode cX7_put 62 = .ok (.iload_n 1, 1) := by decide +kernel
theorem dX7_put_63 : decode cX7_put 63 = .ok (.baload, 1) := by decide +kernel
theorem dX7_put_64 : decode cX7_put 64 = .ok (.ifCond .eq 7, 3) := by decide +kernel
theorem dX7_put_67 : decode cX7_put 67 = .ok (.iconst 2, 1) := by decide +kernel
theorem dX7_put_68 : decode cX7_put 68 = .ok (.goto 4, 3) := by decide +kernel
theorem dX7_put_71 : decode cX7_put 71 = .ok (.iconst 0, 1) := by decide +kernel
theorem dX7_put_72 : decode cX7_put 72 = .ok (.invokevirtual 101, 3) := by decide +kernel
theorem dX7_put_75 : decode cX7_put 75 = .ok (.ifCond .eq 5, 3) := by decide +kernel
theorem dX7_put_78 : decode cX7_put 78 = .ok (.iconst 0, 1) := by decide +kernel
theorem dX7_put_79 : decode cX7_put 79 = .ok (.ireturn, 1) := by decide +kernel
theorem dX7_put_80 : decode cX7_put 80 = .ok (.aload_n 0, 1) := by decide +kernel
theorem dX7_put_81 : decode cX7_put 81 = .ok (.getfield 38, 3) := by decide +kernel
theorem dX7_put_84 : decode cX7_put 84 = .ok (.bipush 60, 2) := by decide +kernel
theorem dX7_put_86 : decode cX7_put 86 = .ok (.iload_n 1, 1) := by decide +kernel
theorem dX7_put_87 : decode cX7_put 87 = .ok (.imul, 1) := by decide +kernel
theorem dX7_put_88 : decode cX7_put 88 = .ok (.aload_n 0, 1) := by decide +kernel
theorem dX7_put_89 : decode cX7_put 89 = .ok (.getfield 35, 3) := by decide +kernel
theorem dX7_put_92 : decode cX7_put 92 = .ok (.iload_n 1, 1) := by decide +kernel
theorem dX7_put_93 : decode cX7_put 93 = .ok (.iaload, 1) := by decide +kernel
theorem dX7_put_94 : decode cX7_put 94 = .ok (.iadd, 1) := by decide +kernel
theorem dX7_put_95 : decode cX7_put 95 = .ok (.iload_n 2, 1) := by decide +kernel
theorem dX7_put_96 : decode cX7_put 96 = .ok (.iastore, 1) := by decide +kernel
theorem dX7_put_97 : decode cX7_put 97 = .ok (.aload_n 0, 1) := by decide +kernel
theorem dX7_put_98 : decode cX7_put 98 = .ok (.getfield 41, 3) := by decide +kernel
theorem dX7_put_101 : decode cX7_put 101 = .ok (.bipush 60, 2) := by decide +kernel
theorem dX7_put_103 : decode cX7_put 103 = .ok (.iload_n 1, 1) := by decide +kernel
theorem dX7_put_104 : decode cX7_put 104 = .ok (.imul, 1) := by decide +kernel
theorem dX7_put_105 : decode cX7_put 105 = .ok (.aload_n 0, 1) := by decide +kernel
theorem dX7_put_106 : decode cX7_put 106 = .ok (.getfield 35, 3) := by decide +kernel
theorem dX7_put_109 : decode cX7_put 109 = .ok (.iload_n 1, 1) := by decide +kernel
theorem dX7_put_110 : decode cX7_put 110 = .ok (.iaload, 1) := by decide +kernel
theorem dX7_put_111 : decode cX7_put 111 = .ok (.iadd, 1) := by decide +kernel
theorem dX7_put_112 : decode cX7_put 112 = .ok (.iload_n 3, 1) := by decide +kernel
theorem dX7_put_113 : decode cX7_put 113 = .ok (.iastore, 1) := by decide +kernel
theorem dX7_put_114 : decode cX7_put 114 = .ok (.aload_n 0, 1) := by decide +kernel
theorem dX7_put_115 : decode cX7_put 115 = .ok (.getfield 35, 3) := by decide +kernel
theorem dX7_put_118 : decode cX7_put 118 = .ok (.iload_n 1, 1) := by decide +kernel
theorem dX7_put_119 : decode cX7_put 119 = .ok (.dup2, 1) := by decide +kernel
theorem dX7_put_120 : decode cX7_put 120 = .ok (.iaload, 1) := by decide +kernel
theorem dX7_put_121 : decode cX7_put 121 = .ok (.iconst 1, 1) := by decide +kernel
theorem dX7_put_122 : decode cX7_put 122 = .ok (.iadd, 1) := by decide +kernel
theorem dX7_put_123 : decode cX7_put 123 = .ok (.iastore, 1) := by decide +kernel
theorem dX7_put_124 : decode cX7_put 124 = .ok (.aload_n 0, 1) := by decide +kernel
theorem dX7_put_125 : decode cX7_put 125 = .ok (.getfield 35, 3) := by decide +kernel
theorem dX7_put_128 : decode cX7_put 128 = .ok (.iload_n 1, 1) := by decide +kernel
theorem dX7_put_129 : decode cX7_put 129 = .ok (.iaload, 1) := by decide +kernel
theorem dX7_put_130 : decode cX7_put 130 = .ok (.ireturn, 1) := by decide +kernel
theorem dX7_bit_0 : decode cX7_bit 0 = .ok (.bipush 40, 2) := by decide +kernel
theorem dX7_bit_2 : decode cX7_bit 2 = .ok (.iload_n 1, 1) := by decide +kernel
theorem dX7_bit_3 : decode cX7_bit 3 = .ok (.imul, 1) := by decide +kernel
theorem dX7_bit_4 : decode cX7_bit 4 = .ok (.aload_n 0, 1) := by decide +kernel
theorem dX7_bit_5 : decode cX7_bit 5 = .ok (.getfield 7, 3) := by decide +kernel
theorem dX7_bit_8 : decode cX7_bit 8 = .ok (.iload_n 1, 1) := by decide +kernel
theorem dX7_bit_9 : decode cX7_bit 9 = .ok (.iaload, 1) := by decide +kernel
theorem dX7_bit_10 : decode cX7_bit 10 = .ok (.iadd, 1) := by decide +kernel
theorem dX7_bit_11 : decode cX7_bit 11 = .ok (.iconst 1, 1) := by decide +kernel
theorem dX7_bit_12 : decode cX7_bit 12 = .ok (.isub, 1) := by decide +kernel
theorem dX7_bit_13 : decode cX7_bit 13 = .ok (.istore_n 3, 1) := by decide +kernel
theorem dX7_bit_14 : decode cX7_bit 14 = .ok (.aload_n 0, 1) := by decide +kernel
theorem dX7_bit_15 : decode cX7_bit 15 = .ok (.getfield 17, 3) := by decide +kernel
theorem dX7_bit_18 : decode cX7_bit 18 = .ok (.sipush 3000, 3) := by decide +kernel
theorem dX7_bit_21 : decode cX7_bit 21 = .ok (.iload_n 3, 1) := by decide +kernel
theorem dX7_bit_22 : decode cX7_bit 22 = .ok (.imul, 1) := by decide +kernel
theorem dX7_bit_23 : decode cX7_bit 23 = .ok (.aload_n 0, 1) := by decide +kernel
theorem dX7_bit_24 : decode cX7_bit 24 = .ok (.getfield 13, 3) := by decide +kernel
theorem dX7_bit_27 : decode cX7_bit 27 = .ok (.iload_n 3, 1) := by decide +kernel
theorem dX7_bit_28 : decode cX7_bit 28 = .ok (.iaload, 1) := by decide +kernel
theorem dX7_bit_29 : decode cX7_bit 29 = .ok (.iadd, 1) := by decide +kernel
theorem dX7_bit_30 : decode cX7_bit 30 = .ok (.iload_n 2, 1) := by decide +kernel
theorem dX7_bit_31 : decode cX7_bit 31 = .ok (.iastore, 1) := by decide +kernel
theorem dX7_bit_32 : decode cX7_bit 32 = .ok (.aload_n 0, 1) := by decide +kernel
theorem dX7_bit_33 : decode cX7_bit 33 = .ok (.getfield 13, 3) := by decide +kernel
theorem dX7_bit_36 : decode cX7_bit 36 = .ok (.iload_n 3, 1) := by decide +kernel
theorem dX7_bit_37 : decode cX7_bit 37 = .ok (.dup2, 1) := by decide +kernel
theorem dX7_bit_38 : decode cX7_bit 38 = .ok (.iaload, 1) := by decide +kernel
theorem dX7_bit_39 : decode cX7_bit 39 = .ok (.iconst 1, 1) := by decide +kernel
theorem dX7_bit_40 : decode cX7_bit 40 = .ok (.iadd, 1) := by decide +kernel
theorem dX7_bit_41 : decode cX7_bit 41 = .ok (.iastore, 1) := by decide +kernel
theorem dX7_bit_42 : decode cX7_bit 42 = .ok (.return_, 1) := by decide +kernel
set_option maxRecDepth 20000 in
theorem ggX7_flag_X7_bit : GoodIn wsX7_flag wsX7_bit := goodIn_r _ [5, 6, 7, 8, 9, 10, 11, 12, 13, 14, 15, 16, 17, 18, 19, 20, 21, 22, 23, 24, 25, 26, 27, 28, 29, 30, 31, 32, 33, 34, 35] (by decide +kernel) (by decide +kernel)
set_option maxRecDepth 20000 in
theorem gX7_flag_X7_bit : GoodIn wsX7_flag (wsV RX7 110 RX7 yX7_bit wsX7_bit) := goodIn_app (goodIn_of _ (by decide +kernel)) ggX7_flag_X7_bit
theorem dX7_flag_0 : decode cX7_flag 0 = .ok (.iconst 0, 1) := by decide +kernel
theorem dX7_flag_1 : decode cX7_flag 1 = .ok (.istore_n 2, 1) := by decide +kernel
theorem dX7_flag_2 : decode cX7_flag 2 = .ok (.iload_n 2, 1) := by decide +kernel
theorem dX7_flag_3 : decode cX7_flag 3 = .ok (.bipush 8, 2) := by decide +kernel
theorem dX7_flag_5 : decode cX7_flag 5 = .ok (.if_icmp .ge 29, 3) := by decide +kernel
theorem dX7_flag_8 : decode cX7_flag 8 = .ok (.aload_n 0, 1) := by decide +kernel
theorem dX7_flag_9 : decode cX7_flag 9 = .ok (.iload_n 1, 1) := by decide +kernel
theorem dX7_flag_10 : decode cX7_flag 10 = .ok (.iload_n 2, 1) := by decide +kernel
theorem dX7_flag_11 : decode cX7_flag 11 = .ok (.ifCond .eq 9, 3) := by decide +kernel
theorem dX7_flag_14 : decode cX7_flag 14 = .ok (.iload_n 2, 1) := by decide +kernel
theorem dX7_flag_15 : decode cX7_flag 15 = .ok (.bipush 7, 2) := by decide +kernel
theorem dX7_flag_17 : decode cX7_flag 17 = .ok (.if_icmp .ne 7, 3) := by decide +kernel
theorem dX7_flag_20 : decode cX7_flag 20 = .ok (.iconst 0, 1) := by decide +kernel
theorem dX7_flag_21 : decode cX7_flag 21 = .ok (.goto 4, 3) := by decide +kernel
theorem dX7_flag_24 : decode cX7_flag 24 = .ok (.iconst 1, 1) := by decide +kernel
theorem dX7_flag_25 : decode cX7_flag 25 = .ok (.invokevirtual 110, 3) := by decide +kernel
theorem dX7_flag_28 : decode cX7_flag 28 = .ok (.iinc 2 1, 3) := by decide +kernel
theorem dX7_flag_31 : decode cX7_flag 31 = .ok (.goto (-29), 3) := by decide +kernel
theorem dX7_flag_34 : decode cX7_flag 34 = .ok (.return_, 1) := by decide +kernel
set_option maxRecDepth 20000 in
theorem ggX7_frame_X7_unitCheck : GoodIn wsX7_frame wsX7_unitCheck := goodIn_r _ [11, 12, 1, 13, 14, 10, 15, 16, 26, 27, 28, 29, 30, 31, 32, 33, 34, 35, 36, 37, 38, 39, 40, 41, 42, 43, 44, 45, 46, 47, 48, 49, 50, 51, 52] (by decide +kernel) (by decide +kernel)
set_option maxRecDepth 20000 in
theorem gX7_frame_X7_unitCheck : GoodIn wsX7_frame (wsV RX7 114 RX7 yX7_unitCheck wsX7_unitCheck) := goodIn_app (goodIn_of _ (by decide +kernel)) ggX7_frame_X7_unitCheck
set_option maxRecDepth 20000 in
theorem ggX7_frame_X7_flag : GoodIn wsX7_frame wsX7_flag := goodIn_r _ [20, 21, 22, 23, 10, 24, 6, 25, 5, 26, 27, 28, 29, 30, 31, 32, 33, 34, 35, 36, 37, 38, 39, 40, 41, 42, 43, 44, 45, 46, 47, 48, 49, 50, 51, 52] (by decide +kernel) (by decide +kernel)
set_option maxRecDepth 20000 in
theorem gX7_frame_X7_flag : GoodIn wsX7_frame (wsV RX7 118 RX7 yX7_flag wsX7_flag) := goodIn_app (goodIn_of _ (by decide +kernel)) ggX7_frame_X7_flag
set_option maxRecDepth 20000 in
theorem ggX7_frame_X7_bit : GoodIn wsX7_frame wsX7_bit := goodIn_r _ [24, 6, 25, 5, 26, 27, 28, 29, 30, 31, 32, 33, 34, 35, 36, 37, 38, 39, 40, 41, 42, 43, 44, 45, 46, 47, 48, 49, 50, 51, 52] (by decide +kernel) (by decide +kernel)
set_option maxRecDepth 20000 in
theorem gX7_frame_X7_bit : GoodIn wsX7_frame (wsV RX7 110 RX7 yX7_bit wsX7_bit) := goodIn_app (goodIn_of _ (by decide +kernel)) ggX7_frame_X7_bit
theorem dX7_frame_0 : decode cX7_frame 0 = .ok (.aload_n 0, 1) := by decide +kernel
theorem dX7_frame_1 : decode cX7_frame 1 = .ok (.getfield 81, 3) := by decide +kernel
theorem dX7_frame_4 : decode cX7_frame 4 = .ok (.iconst 0, 1) := by decide +kernel
theorem dX7_frame_5 : decode cX7_frame 5 = .ok (.aload_n 0, 1) := by decide +kernel
theorem dX7_frame_6 : decode cX7_frame 6 = .ok (.getfield 29, 3) := by decide +kernel
theorem dX7_frame_9 : decode cX7_frame 9 = .ok (.iload_n 1, 1) := by decide +kernel
theorem dX7_frame_10 : decode cX7_frame 10 = .ok (.iaload, 1) := by decide +kernel
theorem dX7_frame_11 : decode cX7_frame 11 = .ok (.sipush 128, 3) := by decide +kernel
theorem dX7_frame_14 : decode cX7_frame 14 = .ok (.aload_n 0, 1) := by decide +kernel
theorem dX7_frame_15 : decode cX7_frame 15 = .ok (.getfield 23, 3) := by decide +kernel
theorem dX7_frame_18 : decode cX7_frame 18 = .ok (.iload_n 1, 1) := by decide +kernel
theorem dX7_frame_19 : decode cX7_frame 19 = .ok (.iaload, 1) := by decide +kernel
theorem dX7_frame_20 : decode cX7_frame 20 = .ok (.imul, 1) := by decide +kernel
theorem dX7_frame_21 : decode cX7_frame 21 = .ok (.iadd, 1) := by decide +kernel
theorem dX7_frame_22 : decode cX7_frame 22 = .ok (.iastore, 1) := by decide +kernel
theorem dX7_frame_23 : decode cX7_frame 23 = .ok (.aload_n 0, 1) := by decide +kernel
theorem dX7_frame_24 : decode cX7_frame 24 = .ok (.getfield 81, 3) := by decide +kernel
theorem dX7_frame_27 : decode cX7_frame 27 = .ok (.iconst 1, 1) := by decide +kernel
theorem dX7_frame_28 : decode cX7_frame 28 = .ok (.iload_n 2, 1) := by decide +kernel
theorem dX7_frame_29 : decode cX7_frame 29 = .ok (.sipush 128, 3) := by decide +kernel
theorem dX7_frame_32 : decode cX7_frame 32 = .ok (.aload_n 0, 1) := by decide +kernel
theorem dX7_frame_33 : decode cX7_frame 33 = .ok (.getfield 20, 3) := by decide +kernel
theorem dX7_frame_36 : decode cX7_frame 36 = .ok (.iload_n 1, 1) := by decide +kernel
theorem dX7_frame_37 : decode cX7_frame 37 = .ok (.iaload, 1) := by decide +kernel
theorem dX7_frame_38 : decode cX7_frame 38 = .ok (.imul, 1) := by decide +kernel
theorem dX7_frame_39 : decode cX7_frame 39 = .ok (.iadd, 1) := by decide +kernel
theorem dX7_frame_40 : decode cX7_frame 40 = .ok (.iastore, 1) := by decide +kernel
theorem dX7_frame_41 : decode cX7_frame 41 = .ok (.aload_n 0, 1) := by decide +kernel
theorem dX7_frame_42 : decode cX7_frame 42 = .ok (.getfield 81, 3) := by decide +kernel
theorem dX7_frame_45 : decode cX7_frame 45 = .ok (.iconst 2, 1) := by decide +kernel
theorem dX7_frame_46 : decode cX7_frame 46 = .ok (.iload_n 3, 1) := by decide +kernel
theorem dX7_frame_47 : decode cX7_frame 47 = .ok (.bipush 63, 2) := by decide +kernel
theorem dX7_frame_49 : decode cX7_frame 49 = .ok (.if_icmp .le 8, 3) := by decide +kernel
theorem dX7_frame_52 : decode cX7_frame 52 = .ok (.bipush 63, 2) := by decide +kernel
theorem dX7_frame_54 : decode cX7_frame 54 = .ok (.goto 4, 3) := by decide +kernel
theorem dX7_frame_57 : decode cX7_frame 57 = .ok (.iload_n 3, 1) := by decide +kernel
theorem dX7_frame_58 : decode cX7_frame 58 = .ok (.iastore, 1) := by decide +kernel
theorem dX7_frame_59 : decode cX7_frame 59 = .ok (.iconst 0, 1) := by decide +kernel
theorem dX7_frame_60 : decode cX7_frame 60 = .ok (.istore 5, 2) := by decide +kernel
theorem dX7_frame_62 : decode cX7_frame 62 = .ok (.iload 5, 2) := by decide +kernel
theorem dX7_frame_64 : decode cX7_frame 64 = .ok (.iload_n 3, 1) := by decide +kernel
theorem dX7_frame_65 : decode cX7_frame 65 = .ok (.if_icmp .ge 36, 3) := by decide +kernel
theorem dX7_frame_68 : decode cX7_frame 68 = .ok (.aload_n 0, 1) := by decide +kernel
theorem dX7_frame_69 : decode cX7_frame 69 = .ok (.getfield 81, 3) := by decide +kernel
theorem dX7_frame_72 : decode cX7_frame 72 = .ok (.iconst 3, 1) := by decide +kernel
theorem dX7_frame_73 : decode cX7_frame 73 = .ok (.iload 5, 2) := by decide +kernel
theorem dX7_frame_75 : decode cX7_frame 75 = .ok (.iadd, 1) := by decide +kernel
theorem dX7_frame_76 : decode cX7_frame 76 = .ok (.iload 4, 2) := by decide +kernel
theorem dX7_frame_78 : decode cX7_frame 78 = .ok (.bipush 37, 2) := by decide +kernel
theorem dX7_frame_80 : decode cX7_frame 80 = .ok (.iload 5, 2) := by decide +kernel
theorem dX7_frame_82 : decode cX7_frame 82 = .ok (.imul, 1) := by decide +kernel
theorem dX7_frame_83 : decode cX7_frame 83 = .ok (.iadd, 1) := by decide +kernel
theorem dX7_frame_84 : decode cX7_frame 84 = .ok (.iload 5, 2) := by decide +kernel
theorem dX7_frame_86 : decode cX7_frame 86 = .ok (.bipush 8, 2) := by decide +kernel
theorem dX7_frame_88 : decode cX7_frame 88 = .ok (.idiv, 1) := by decide +kernel
theorem dX7_frame_89 : decode cX7_frame 89 = .ok (.iadd, 1) := by decide +kernel
theorem dX7_frame_90 : decode cX7_frame 90 = .ok (.sipush 255, 3) := by decide +kernel
theorem dX7_frame_93 : decode cX7_frame 93 = .ok (.iand, 1) := by decide +kernel
theorem dX7_frame_94 : decode cX7_frame 94 = .ok (.iastore, 1) := by decide +kernel
theorem dX7_frame_95 : decode cX7_frame 95 = .ok (.iinc 5 1, 3) := by decide +kernel
theorem dX7_frame_98 : decode cX7_frame 98 = .ok (.goto (-36), 3) := by decide +kernel
theorem dX7_frame_101 : decode cX7_frame 101 = .ok (.aload_n 0, 1) := by decide +kernel
theorem dX7_frame_102 : decode cX7_frame 102 = .ok (.iconst 3, 1) := by decide +kernel
theorem dX7_frame_103 : decode cX7_frame 103 = .ok (.iload_n 3, 1) := by decide +kernel
theorem dX7_frame_104 : decode cX7_frame 104 = .ok (.iadd, 1) := by decide +kernel
theorem dX7_frame_105 : decode cX7_frame 105 = .ok (.invokevirtual 114, 3) := by decide +kernel
theorem dX7_frame_108 : decode cX7_frame 108 = .ok (.istore 5, 2) := by decide +kernel
theorem dX7_frame_110 : decode cX7_frame 110 = .ok (.aload_n 0, 1) := by decide +kernel
theorem dX7_frame_111 : decode cX7_frame 111 = .ok (.getfield 81, 3) := by decide +kernel
theorem dX7_frame_114 : decode cX7_frame 114 = .ok (.iconst 3, 1) := by decide +kernel
theorem dX7_frame_115 : decode cX7_frame 115 = .ok (.iload_n 3, 1) := by decide +kernel
theorem dX7_frame_116 : decode cX7_frame 116 = .ok (.iadd, 1) := by decide +kernel
theorem dX7_frame_117 : decode cX7_frame 117 = .ok (.iload 5, 2) := by decide +kernel
theorem dX7_frame_119 : decode cX7_frame 119 = .ok (.sipush 255, 3) := by decide +kernel
end
section
theorem dX7_frame_122 : decode cX7_frame 122 = .ok (.iand, 1) := by decide +kernel
theorem dX7_frame_123 : decode cX7_frame 123 = .ok (.iastore, 1) := by decide +kernel
theorem dX7_frame_124 : decode cX7_frame 124 = .ok (.aload_n 0, 1) := by decide +kernel
theorem dX7_frame_125 : decode cX7_frame 125 = .ok (.getfield 81, 3) := by decide +kernel
theorem dX7_frame_128 : decode cX7_frame 128 = .ok (.iconst 4, 1) := by decide +kernel
theorem dX7_frame_129 : decode cX7_frame 129 = .ok (.iload_n 3, 1) := by decide +kernel
theorem dX7_frame_130 : decode cX7_frame 130 = .ok (.iadd, 1) := by decide +kernel
theorem dX7_frame_131 : decode cX7_frame 131 = .ok (.iload 5, 2) := by decide +kernel
theorem dX7_frame_133 : decode cX7_frame 133 = .ok (.bipush 8, 2) := by decide +kernel
theorem dX7_frame_135 : decode cX7_frame 135 = .ok (.ishr, 1) := by decide +kernel
theorem dX7_frame_136 : decode cX7_frame 136 = .ok (.iastore, 1) := by decide +kernel
theorem dX7_frame_137 : decode cX7_frame 137 = .ok (.aload_n 0, 1) := by decide +kernel
theorem dX7_frame_138 : decode cX7_frame 138 = .ok (.getfield 13, 3) := by decide +kernel
theorem dX7_frame_141 : decode cX7_frame 141 = .ok (.bipush 40, 2) := by decide +kernel
theorem dX7_frame_143 : decode cX7_frame 143 = .ok (.iload_n 1, 1) := by decide +kernel
theorem dX7_frame_144 : decode cX7_frame 144 = .ok (.imul, 1) := by decide +kernel
theorem dX7_frame_145 : decode cX7_frame 145 = .ok (.aload_n 0, 1) := by decide +kernel
theorem dX7_frame_146 : decode cX7_frame 146 = .ok (.getfield 7, 3) := by decide +kernel
theorem dX7_frame_149 : decode cX7_frame 149 = .ok (.iload_n 1, 1) := by decide +kernel
theorem dX7_frame_150 : decode cX7_frame 150 = .ok (.iaload, 1) := by decide +kernel
theorem dX7_frame_151 : decode cX7_frame 151 = .ok (.iadd, 1) := by decide +kernel
theorem dX7_frame_152 : decode cX7_frame 152 = .ok (.iconst 0, 1) := by decide +kernel
theorem dX7_frame_153 : decode cX7_frame 153 = .ok (.iastore, 1) := by decide +kernel
theorem dX7_frame_154 : decode cX7_frame 154 = .ok (.aload_n 0, 1) := by decide +kernel
theorem dX7_frame_155 : decode cX7_frame 155 = .ok (.getfield 7, 3) := by decide +kernel
theorem dX7_frame_158 : decode cX7_frame 158 = .ok (.iload_n 1, 1) := by decide +kernel
theorem dX7_frame_159 : decode cX7_frame 159 = .ok (.dup2, 1) := by decide +kernel
theorem dX7_frame_160 : decode cX7_frame 160 = .ok (.iaload, 1) := by decide +kernel
theorem dX7_frame_161 : decode cX7_frame 161 = .ok (.iconst 1, 1) := by decide +kernel
theorem dX7_frame_162 : decode cX7_frame 162 = .ok (.iadd, 1) := by decide +kernel
theorem dX7_frame_163 : decode cX7_frame 163 = .ok (.iastore, 1) := by decide +kernel
theorem dX7_frame_164 : decode cX7_frame 164 = .ok (.aload_n 0, 1) := by decide +kernel
theorem dX7_frame_165 : decode cX7_frame 165 = .ok (.iload_n 1, 1) := by decide +kernel
theorem dX7_frame_166 : decode cX7_frame 166 = .ok (.invokevirtual 118, 3) := by decide +kernel
theorem dX7_frame_169 : decode cX7_frame 169 = .ok (.iconst 0, 1) := by decide +kernel
theorem dX7_frame_170 : decode cX7_frame 170 = .ok (.istore 6, 2) := by decide +kernel
theorem dX7_frame_172 : decode cX7_frame 172 = .ok (.iconst 0, 1) := by decide +kernel
theorem dX7_frame_173 : decode cX7_frame 173 = .ok (.istore 7, 2) := by decide +kernel
theorem dX7_frame_175 : decode cX7_frame 175 = .ok (.iload 7, 2) := by decide +kernel
theorem dX7_frame_177 : decode cX7_frame 177 = .ok (.bipush 8, 2) := by decide +kernel
theorem dX7_frame_179 : decode cX7_frame 179 = .ok (.iconst 5, 1) := by decide +kernel
theorem dX7_frame_180 : decode cX7_frame 180 = .ok (.iload_n 3, 1) := by decide +kernel
theorem dX7_frame_181 : decode cX7_frame 181 = .ok (.iadd, 1) := by decide +kernel
theorem dX7_frame_182 : decode cX7_frame 182 = .ok (.imul, 1) := by decide +kernel
theorem dX7_frame_183 : decode cX7_frame 183 = .ok (.if_icmp .ge 67, 3) := by decide +kernel
theorem dX7_frame_186 : decode cX7_frame 186 = .ok (.aload_n 0, 1) := by decide +kernel
theorem dX7_frame_187 : decode cX7_frame 187 = .ok (.getfield 81, 3) := by decide +kernel
theorem dX7_frame_190 : decode cX7_frame 190 = .ok (.iload 7, 2) := by decide +kernel
theorem dX7_frame_192 : decode cX7_frame 192 = .ok (.bipush 8, 2) := by decide +kernel
theorem dX7_frame_194 : decode cX7_frame 194 = .ok (.idiv, 1) := by decide +kernel
theorem dX7_frame_195 : decode cX7_frame 195 = .ok (.iaload, 1) := by decide +kernel
theorem dX7_frame_196 : decode cX7_frame 196 = .ok (.iload 7, 2) := by decide +kernel
theorem dX7_frame_198 : decode cX7_frame 198 = .ok (.bipush 8, 2) := by decide +kernel
theorem dX7_frame_200 : decode cX7_frame 200 = .ok (.irem, 1) := by decide +kernel
theorem dX7_frame_201 : decode cX7_frame 201 = .ok (.ishr, 1) := by decide +kernel
theorem dX7_frame_202 : decode cX7_frame 202 = .ok (.iconst 1, 1) := by decide +kernel
theorem dX7_frame_203 : decode cX7_frame 203 = .ok (.iand, 1) := by decide +kernel
theorem dX7_frame_204 : decode cX7_frame 204 = .ok (.istore 8, 2) := by decide +kernel
theorem dX7_frame_206 : decode cX7_frame 206 = .ok (.aload_n 0, 1) := by decide +kernel
theorem dX7_frame_207 : decode cX7_frame 207 = .ok (.iload_n 1, 1) := by decide +kernel
theorem dX7_frame_208 : decode cX7_frame 208 = .ok (.iload 8, 2) := by decide +kernel
theorem dX7_frame_210 : decode cX7_frame 210 = .ok (.invokevirtual 110, 3) := by decide +kernel
theorem dX7_frame_213 : decode cX7_frame 213 = .ok (.iload 8, 2) := by decide +kernel
theorem dX7_frame_215 : decode cX7_frame 215 = .ok (.iconst 1, 1) := by decide +kernel
theorem dX7_frame_216 : decode cX7_frame 216 = .ok (.if_icmp .ne 10, 3) := by decide +kernel
theorem dX7_frame_219 : decode cX7_frame 219 = .ok (.iload 6, 2) := by decide +kernel
theorem dX7_frame_221 : decode cX7_frame 221 = .ok (.iconst 1, 1) := by decide +kernel
theorem dX7_frame_222 : decode cX7_frame 222 = .ok (.iadd, 1) := by decide +kernel
theorem dX7_frame_223 : decode cX7_frame 223 = .ok (.goto 4, 3) := by decide +kernel
theorem dX7_frame_226 : decode cX7_frame 226 = .ok (.iconst 0, 1) := by decide +kernel
theorem dX7_frame_227 : decode cX7_frame 227 = .ok (.istore 6, 2) := by decide +kernel
theorem dX7_frame_229 : decode cX7_frame 229 = .ok (.iload 6, 2) := by decide +kernel
theorem dX7_frame_231 : decode cX7_frame 231 = .ok (.iconst 5, 1) := by decide +kernel
theorem dX7_frame_232 : decode cX7_frame 232 = .ok (.if_icmp .ne 12, 3) := by decide +kernel
theorem dX7_frame_235 : decode cX7_frame 235 = .ok (.aload_n 0, 1) := by decide +kernel
theorem dX7_frame_236 : decode cX7_frame 236 = .ok (.iload_n 1, 1) := by decide +kernel
theorem dX7_frame_237 : decode cX7_frame 237 = .ok (.iconst 0, 1) := by decide +kernel
theorem dX7_frame_238 : decode cX7_frame 238 = .ok (.invokevirtual 110, 3) := by decide +kernel
theorem dX7_frame_241 : decode cX7_frame 241 = .ok (.iconst 0, 1) := by decide +kernel
theorem dX7_frame_242 : decode cX7_frame 242 = .ok (.istore 6, 2) := by decide +kernel
theorem dX7_frame_244 : decode cX7_frame 244 = .ok (.iinc 7 1, 3) := by decide +kernel
theorem dX7_frame_247 : decode cX7_frame 247 = .ok (.goto (-72), 3) := by decide +kernel
theorem dX7_frame_250 : decode cX7_frame 250 = .ok (.aload_n 0, 1) := by decide +kernel
theorem dX7_frame_251 : decode cX7_frame 251 = .ok (.iload_n 1, 1) := by decide +kernel
theorem dX7_frame_252 : decode cX7_frame 252 = .ok (.invokevirtual 118, 3) := by decide +kernel
theorem dX7_frame_255 : decode cX7_frame 255 = .ok (.return_, 1) := by decide +kernel
set_option maxRecDepth 20000 in
theorem ggX7_send_X7_isEnd : GoodIn wsX7_send wsX7_isEnd := goodIn_r _ [15] (by decide +kernel) (by decide +kernel)
set_option maxRecDepth 20000 in
theorem gX7_send_X7_isEnd : GoodIn wsX7_send (va_wsS RX7 107 yX7_isEnd wsX7_isEnd) := goodIn_app (goodIn_of _ (by decide +kernel)) ggX7_send_X7_isEnd
set_option maxRecDepth 20000 in
theorem ggX7_send_X7_refuses : GoodIn wsX7_send wsX7_refuses := goodIn_r _ [19, 20, 48, 49, 50, 51, 52, 53, 54, 55, 56, 57, 58, 59, 60, 61, 62, 63, 64, 65, 66, 67, 68, 69, 70, 71, 72, 73, 74] (by decide +kernel) (by decide +kernel)
set_option maxRecDepth 20000 in
theorem gX7_send_X7_refuses : GoodIn wsX7_send (wsV RX7 101 RX7 yX7_refuses wsX7_refuses) := goodIn_app (goodIn_of _ (by decide +kernel)) ggX7_send_X7_refuses
set_option maxRecDepth 20000 in
theorem ggX7_send_X7_frame : GoodIn wsX7_send wsX7_frame := goodIn_r _ [24, 25, 26, 27, 28, 29, 1, 30, 31, 32, 14, 33, 34, 35, 36, 37, 38, 39, 40, 41, 42, 43, 44, 45, 46, 47, 48, 49, 50, 51, 52, 53, 54, 55, 56, 57, 58, 59, 60, 61, 62, 63, 64, 65, 66, 67, 68, 69, 70, 71, 72, 73, 74] (by decide +kernel) (by decide +kernel)
set_option maxRecDepth 20000 in
theorem gX7_send_X7_frame : GoodIn wsX7_send (wsV RX7 121 RX7 yX7_frame wsX7_frame) := goodIn_app (goodIn_of _ (by decide +kernel)) ggX7_send_X7_frame
theorem dX7_send_0 : decode cX7_send 0 = .ok (.aload_n 0, 1) := by decide +kernel
theorem dX7_send_1 : decode cX7_send 1 = .ok (.iload_n 1, 1) := by decide +kernel
theorem dX7_send_2 : decode cX7_send 2 = .ok (.invokestatic 107, 3) := by decide +kernel
theorem dX7_send_5 : decode cX7_send 5 = .ok (.ifCond .ne 7, 3) := by decide +kernel
theorem dX7_send_8 : decode cX7_send 8 = .ok (.iconst 1, 1) := by decide +kernel
theorem dX7_send_9 : decode cX7_send 9 = .ok (.goto 28, 3) := by decide +kernel
theorem dX7_send_12 : decode cX7_send 12 = .ok (.aload_n 0, 1) := by decide +kernel
theorem dX7_send_13 : decode cX7_send 13 = .ok (.getfield 7, 3) := by decide +kernel
theorem dX7_send_16 : decode cX7_send 16 = .ok (.iload_n 1, 1) := by decide +kernel
theorem dX7_send_17 : decode cX7_send 17 = .ok (.iaload, 1) := by decide +kernel
theorem dX7_send_18 : decode cX7_send 18 = .ok (.bipush 40, 2) := by decide +kernel
theorem dX7_send_20 : decode cX7_send 20 = .ok (.if_icmp .eq 12, 3) := by decide +kernel
theorem dX7_send_23 : decode cX7_send 23 = .ok (.aload_n 0, 1) := by decide +kernel
theorem dX7_send_24 : decode cX7_send 24 = .ok (.getfield 68, 3) := by decide +kernel
theorem dX7_send_27 : decode cX7_send 27 = .ok (.iload_n 1, 1) := by decide +kernel
theorem dX7_send_28 : decode cX7_send 28 = .ok (.baload, 1) := by decide +kernel
theorem dX7_send_29 : decode cX7_send 29 = .ok (.ifCond .eq 7, 3) := by decide +kernel
theorem dX7_send_32 : decode cX7_send 32 = .ok (.iconst 2, 1) := by decide +kernel
theorem dX7_send_33 : decode cX7_send 33 = .ok (.goto 4, 3) := by decide +kernel
theorem dX7_send_36 : decode cX7_send 36 = .ok (.iconst 0, 1) := by decide +kernel
theorem dX7_send_37 : decode cX7_send 37 = .ok (.invokevirtual 101, 3) := by decide +kernel
theorem dX7_send_40 : decode cX7_send 40 = .ok (.ifCond .eq 5, 3) := by decide +kernel
theorem dX7_send_43 : decode cX7_send 43 = .ok (.iconst 0, 1) := by decide +kernel
theorem dX7_send_44 : decode cX7_send 44 = .ok (.ireturn, 1) := by decide +kernel
theorem dX7_send_45 : decode cX7_send 45 = .ok (.bipush 127, 2) := by decide +kernel
theorem dX7_send_47 : decode cX7_send 47 = .ok (.iload_n 1, 1) := by decide +kernel
theorem dX7_send_48 : decode cX7_send 48 = .ok (.imul, 1) := by decide +kernel
theorem dX7_send_49 : decode cX7_send 49 = .ok (.istore_n 2, 1) := by decide +kernel
theorem dX7_send_50 : decode cX7_send 50 = .ok (.aload_n 0, 1) := by decide +kernel
theorem dX7_send_51 : decode cX7_send 51 = .ok (.getfield 56, 3) := by decide +kernel
theorem dX7_send_54 : decode cX7_send 54 = .ok (.iload_n 1, 1) := by decide +kernel
theorem dX7_send_55 : decode cX7_send 55 = .ok (.iaload, 1) := by decide +kernel
theorem dX7_send_56 : decode cX7_send 56 = .ok (.aload_n 0, 1) := by decide +kernel
theorem dX7_send_57 : decode cX7_send 57 = .ok (.getfield 44, 3) := by decide +kernel
theorem dX7_send_60 : decode cX7_send 60 = .ok (.iload_n 1, 1) := by decide +kernel
theorem dX7_send_61 : decode cX7_send 61 = .ok (.iaload, 1) := by decide +kernel
theorem dX7_send_62 : decode cX7_send 62 = .ok (.if_icmp .ge 47, 3) := by decide +kernel
theorem dX7_send_65 : decode cX7_send 65 = .ok (.iload_n 2, 1) := by decide +kernel
theorem dX7_send_66 : decode cX7_send 66 = .ok (.aload_n 0, 1) := by decide +kernel
theorem dX7_send_67 : decode cX7_send 67 = .ok (.getfield 56, 3) := by decide +kernel
theorem dX7_send_70 : decode cX7_send 70 = .ok (.iload_n 1, 1) := by decide +kernel
theorem dX7_send_71 : decode cX7_send 71 = .ok (.iaload, 1) := by decide +kernel
theorem dX7_send_72 : decode cX7_send 72 = .ok (.iadd, 1) := by decide +kernel
theorem dX7_send_73 : decode cX7_send 73 = .ok (.istore_n 3, 1) := by decide +kernel
theorem dX7_send_74 : decode cX7_send 74 = .ok (.aload_n 0, 1) := by decide +kernel
theorem dX7_send_75 : decode cX7_send 75 = .ok (.getfield 56, 3) := by decide +kernel
theorem dX7_send_78 : decode cX7_send 78 = .ok (.iload_n 1, 1) := by decide +kernel
theorem dX7_send_79 : decode cX7_send 79 = .ok (.dup2, 1) := by decide +kernel
theorem dX7_send_80 : decode cX7_send 80 = .ok (.iaload, 1) := by decide +kernel
theorem dX7_send_81 : decode cX7_send 81 = .ok (.iconst 1, 1) := by decide +kernel
theorem dX7_send_82 : decode cX7_send 82 = .ok (.iadd, 1) := by decide +kernel
theorem dX7_send_83 : decode cX7_send 83 = .ok (.iastore, 1) := by decide +kernel
theorem dX7_send_84 : decode cX7_send 84 = .ok (.aload_n 0, 1) := by decide +kernel
theorem dX7_send_85 : decode cX7_send 85 = .ok (.iload_n 1, 1) := by decide +kernel
theorem dX7_send_86 : decode cX7_send 86 = .ok (.aload_n 0, 1) := by decide +kernel
theorem dX7_send_87 : decode cX7_send 87 = .ok (.getfield 47, 3) := by decide +kernel
theorem dX7_send_90 : decode cX7_send 90 = .ok (.iload_n 3, 1) := by decide +kernel
theorem dX7_send_91 : decode cX7_send 91 = .ok (.iaload, 1) := by decide +kernel
theorem dX7_send_92 : decode cX7_send 92 = .ok (.aload_n 0, 1) := by decide +kernel
theorem dX7_send_93 : decode cX7_send 93 = .ok (.getfield 50, 3) := by decide +kernel
theorem dX7_send_96 : decode cX7_send 96 = .ok (.iload_n 3, 1) := by decide +kernel
theorem dX7_send_97 : decode cX7_send 97 = .ok (.iaload, 1) := by decide +kernel
theorem dX7_send_98 : decode cX7_send 98 = .ok (.aload_n 0, 1) := by decide +kernel
theorem dX7_send_99 : decode cX7_send 99 = .ok (.getfield 53, 3) := by decide +kernel
theorem dX7_send_102 : decode cX7_send 102 = .ok (.iload_n 3, 1) := by decide +kernel
theorem dX7_send_103 : decode cX7_send 103 = .ok (.iaload, 1) := by decide +kernel
theorem dX7_send_104 : decode cX7_send 104 = .ok (.invokevirtual 121, 3) := by decide +kernel
theorem dX7_send_107 : decode cX7_send 107 = .ok (.iconst 2, 1) := by decide +kernel
theorem dX7_send_108 : decode cX7_send 108 = .ok (.ireturn, 1) := by decide +kernel
theorem dX7_send_109 : decode cX7_send 109 = .ok (.aload_n 0, 1) := by decide +kernel
theorem dX7_send_110 : decode cX7_send 110 = .ok (.getfield 44, 3) := by decide +kernel
theorem dX7_send_113 : decode cX7_send 113 = .ok (.iload_n 1, 1) := by decide +kernel
theorem dX7_send_114 : decode cX7_send 114 = .ok (.iaload, 1) := by decide +kernel
theorem dX7_send_115 : decode cX7_send 115 = .ok (.bipush 127, 2) := by decide +kernel
theorem dX7_send_117 : decode cX7_send 117 = .ok (.if_icmp .eq 12, 3) := by decide +kernel
theorem dX7_send_120 : decode cX7_send 120 = .ok (.aload_n 0, 1) := by decide +kernel
theorem dX7_send_121 : decode cX7_send 121 = .ok (.getfield 35, 3) := by decide +kernel
theorem dX7_send_124 : decode cX7_send 124 = .ok (.iload_n 1, 1) := by decide +kernel
theorem dX7_send_125 : decode cX7_send 125 = .ok (.iaload, 1) := by decide +kernel
theorem dX7_send_126 : decode cX7_send 126 = .ok (.ifCond .ne 18, 3) := by decide +kernel
theorem dX7_send_129 : decode cX7_send 129 = .ok (.aload_n 0, 1) := by decide +kernel
theorem dX7_send_130 : decode cX7_send 130 = .ok (.iload_n 1, 1) := by decide +kernel
theorem dX7_send_131 : decode cX7_send 131 = .ok (.aload_n 0, 1) := by decide +kernel
theorem dX7_send_132 : decode cX7_send 132 = .ok (.getfield 26, 3) := by decide +kernel
theorem dX7_send_135 : decode cX7_send 135 = .ok (.iload_n 1, 1) := by decide +kernel
theorem dX7_send_136 : decode cX7_send 136 = .ok (.iaload, 1) := by decide +kernel
theorem dX7_send_137 : decode cX7_send 137 = .ok (.iconst 0, 1) := by decide +kernel
theorem dX7_send_138 : decode cX7_send 138 = .ok (.iconst 0, 1) := by decide +kernel
theorem dX7_send_139 : decode cX7_send 139 = .ok (.invokevirtual 121, 3) := by decide +kernel
theorem dX7_send_142 : decode cX7_send 142 = .ok (.iconst 0, 1) := by decide +kernel
theorem dX7_send_143 : decode cX7_send 143 = .ok (.ireturn, 1) := by decide +kernel
theorem dX7_send_144 : decode cX7_send 144 = .ok (.iload_n 2, 1) := by decide +kernel
theorem dX7_send_145 : decode cX7_send 145 = .ok (.aload_n 0, 1) := by decide +kernel
theorem dX7_send_146 : decode cX7_send 146 = .ok (.getfield 44, 3) := by decide +kernel
theorem dX7_send_149 : decode cX7_send 149 = .ok (.iload_n 1, 1) := by decide +kernel
theorem dX7_send_150 : decode cX7_send 150 = .ok (.iaload, 1) := by decide +kernel
theorem dX7_send_151 : decode cX7_send 151 = .ok (.iadd, 1) := by decide +kernel
theorem dX7_send_152 : decode cX7_send 152 = .ok (.istore_n 3, 1) := by decide +kernel
theorem dX7_send_153 : decode cX7_send 153 = .ok (.aload_n 0, 1) := by decide +kernel
theorem dX7_send_154 : decode cX7_send 154 = .ok (.getfield 26, 3) := by decide +kernel
theorem dX7_send_157 : decode cX7_send 157 = .ok (.iload_n 1, 1) := by decide +kernel
theorem dX7_send_158 : decode cX7_send 158 = .ok (.aload_n 0, 1) := by decide +kernel
theorem dX7_send_159 : decode cX7_send 159 = .ok (.getfield 26, 3) := by decide +kernel
theorem dX7_send_162 : decode cX7_send 162 = .ok (.iload_n 1, 1) := by decide +kernel
theorem dX7_send_163 : decode cX7_send 163 = .ok (.iaload, 1) := by decide +kernel
theorem dX7_send_164 : decode cX7_send 164 = .ok (.iconst 1, 1) := by decide +kernel
theorem dX7_send_165 : decode cX7_send 165 = .ok (.iadd, 1) := by decide +kernel
theorem dX7_send_166 : decode cX7_send 166 = .ok (.bipush 127, 2) := by decide +kernel
theorem dX7_send_168 : decode cX7_send 168 = .ok (.iand, 1) := by decide +kernel
theorem dX7_send_169 : decode cX7_send 169 = .ok (.iastore, 1) := by decide +kernel
theorem dX7_send_170 : decode cX7_send 170 = .ok (.aload_n 0, 1) := by decide +kernel
theorem dX7_send_171 : decode cX7_send 171 = .ok (.getfield 47, 3) := by decide +kernel
theorem dX7_send_174 : decode cX7_send 174 = .ok (.iload_n 3, 1) := by decide +kernel
theorem dX7_send_175 : decode cX7_send 175 = .ok (.aload_n 0, 1) := by decide +kernel
theorem dX7_send_176 : decode cX7_send 176 = .ok (.getfield 26, 3) := by decide +kernel
theorem dX7_send_179 : decode cX7_send 179 = .ok (.iload_n 1, 1) := by decide +kernel
theorem dX7_send_180 : decode cX7_send 180 = .ok (.iaload, 1) := by decide +kernel
theorem dX7_send_181 : decode cX7_send 181 = .ok (.iastore, 1) := by decide +kernel
theorem dX7_send_182 : decode cX7_send 182 = .ok (.aload_n 0, 1) := by decide +kernel
theorem dX7_send_183 : decode cX7_send 183 = .ok (.getfield 50, 3) := by decide +kernel
theorem dX7_send_186 : decode cX7_send 186 = .ok (.iload_n 3, 1) := by decide +kernel
theorem dX7_send_187 : decode cX7_send 187 = .ok (.aload_n 0, 1) := by decide +kernel
theorem dX7_send_188 : decode cX7_send 188 = .ok (.getfield 38, 3) := by decide +kernel
theorem dX7_send_191 : decode cX7_send 191 = .ok (.bipush 60, 2) := by decide +kernel
theorem dX7_send_193 : decode cX7_send 193 = .ok (.iload_n 1, 1) := by decide +kernel
theorem dX7_send_194 : decode cX7_send 194 = .ok (.imul, 1) := by decide +kernel
theorem dX7_send_195 : decode cX7_send 195 = .ok (.iaload, 1) := by decide +kernel
theorem dX7_send_196 : decode cX7_send 196 = .ok (.iastore, 1) := by decide +kernel
theorem dX7_send_197 : decode cX7_send 197 = .ok (.aload_n 0, 1) := by decide +kernel
theorem dX7_send_198 : decode cX7_send 198 = .ok (.getfield 53, 3) := by decide +kernel
theorem dX7_send_201 : decode cX7_send 201 = .ok (.iload_n 3, 1) := by decide +kernel
theorem dX7_send_202 : decode cX7_send 202 = .ok (.aload_n 0, 1) := by decide +kernel
theorem dX7_send_203 : decode cX7_send 203 = .ok (.getfield 41, 3) := by decide +kernel
theorem dX7_send_206 : decode cX7_send 206 = .ok (.bipush 60, 2) := by decide +kernel
theorem dX7_send_208 : decode cX7_send 208 = .ok (.iload_n 1, 1) := by decide +kernel
theorem dX7_send_209 : decode cX7_send 209 = .ok (.imul, 1) := by decide +kernel
theorem dX7_send_210 : decode cX7_send 210 = .ok (.iaload, 1) := by decide +kernel
theorem dX7_send_211 : decode cX7_send 211 = .ok (.iastore, 1) := by decide +kernel
theorem dX7_send_212 : decode cX7_send 212 = .ok (.bipush 60, 2) := by decide +kernel
theorem dX7_send_214 : decode cX7_send 214 = .ok (.iload_n 1, 1) := by decide +kernel
theorem dX7_send_215 : decode cX7_send 215 = .ok (.imul, 1) := by decide +kernel
theorem dX7_send_216 : decode cX7_send 216 = .ok (.istore 4, 2) := by decide +kernel
theorem dX7_send_218 : decode cX7_send 218 = .ok (.iload 4, 2) := by decide +kernel
theorem dX7_send_220 : decode cX7_send 220 = .ok (.iconst 1, 1) := by decide +kernel
theorem dX7_send_221 : decode cX7_send 221 = .ok (.iadd, 1) := by decide +kernel
theorem dX7_send_222 : decode cX7_send 222 = .ok (.bipush 60, 2) := by decide +kernel
theorem dX7_send_224 : decode cX7_send 224 = .ok (.iload_n 1, 1) := by decide +kernel
theorem dX7_send_225 : decode cX7_send 225 = .ok (.imul, 1) := by decide +kernel
theorem dX7_send_226 : decode cX7_send 226 = .ok (.aload_n 0, 1) := by decide +kernel
theorem dX7_send_227 : decode cX7_send 227 = .ok (.getfield 35, 3) := by decide +kernel
theorem dX7_send_230 : decode cX7_send 230 = .ok (.iload_n 1, 1) := by decide +kernel
theorem dX7_send_231 : decode cX7_send 231 = .ok (.iaload, 1) := by decide +kernel
theorem dX7_send_232 : decode cX7_send 232 = .ok (.iadd, 1) := by decide +kernel
theorem dX7_send_233 : decode cX7_send 233 = .ok (.if_icmp .ge 41, 3) := by decide +kernel
theorem dX7_send_236 : decode cX7_send 236 = .ok (.aload_n 0, 1) := by decide +kernel
theorem dX7_send_237 : decode cX7_send 237 = .ok (.getfield 38, 3) := by decide +kernel
theorem dX7_send_240 : decode cX7_send 240 = .ok (.iload 4, 2) := by decide +kernel
theorem dX7_send_242 : decode cX7_send 242 = .ok (.aload_n 0, 1) := by decide +kernel
theorem dX7_send_243 : decode cX7_send 243 = .ok (.getfield 38, 3) := by decide +kernel
theorem dX7_send_246 : decode cX7_send 246 = .ok (.iload 4, 2) := by decide +kernel
theorem dX7_send_248 : decode cX7_send 248 = .ok (.iconst 1, 1) := by decide +kernel
theorem dX7_send_249 : decode cX7_send 249 = .ok (.iadd, 1) := by decide +kernel
theorem dX7_send_250 : decode cX7_send 250 = .ok (.iaload, 1) := by decide +kernel
theorem dX7_send_251 : decode cX7_send 251 = .ok (.iastore, 1) := by decide +kernel
theorem dX7_send_252 : decode cX7_send 252 = .ok (.aload_n 0, 1) := by decide +kernel
theorem dX7_send_253 : decode cX7_send 253 = .ok (.getfield 41, 3) := by decide +kernel
theorem dX7_send_256 : decode cX7_send 256 = .ok (.iload 4, 2) := by decide +kernel
theorem dX7_send_258 : decode cX7_send 258 = .ok (.aload_n 0, 1) := by decide +kernel
theorem dX7_send_259 : decode cX7_send 259 = .ok (.getfield 41, 3) := by decide +kernel
theorem dX7_send_262 : decode cX7_send 262 = .ok (.iload 4, 2) := by decide +kernel
theorem dX7_send_264 : decode cX7_send 264 = .ok (.iconst 1, 1) := by decide +kernel
theorem dX7_send_265 : decode cX7_send 265 = .ok (.iadd, 1) := by decide +kernel
theorem dX7_send_266 : decode cX7_send 266 = .ok (.iaload, 1) := by decide +kernel
theorem dX7_send_267 : decode cX7_send 267 = .ok (.iastore, 1) := by decide +kernel
theorem dX7_send_268 : decode cX7_send 268 = .ok (.iinc 4 1, 3) := by decide +kernel
theorem dX7_send_271 : decode cX7_send 271 = .ok (.goto (-53), 3) := by decide +kernel
theorem dX7_send_274 : decode cX7_send 274 = .ok (.aload_n 0, 1) := by decide +kernel
theorem dX7_send_275 : decode cX7_send 275 = .ok (.getfield 35, 3) := by decide +kernel
theorem dX7_send_278 : decode cX7_send 278 = .ok (.iload_n 1, 1) := by decide +kernel
theorem dX7_send_279 : decode cX7_send 279 = .ok (.dup2, 1) := by decide +kernel
theorem dX7_send_280 : decode cX7_send 280 = .ok (.iaload, 1) := by decide +kernel
theorem dX7_send_281 : decode cX7_send 281 = .ok (.iconst 1, 1) := by decide +kernel
theorem dX7_send_282 : decode cX7_send 282 = .ok (.isub, 1) := by decide +kernel
theorem dX7_send_283 : decode cX7_send 283 = .ok (.iastore, 1) := by decide +kernel
theorem dX7_send_284 : decode cX7_send 284 = .ok (.aload_n 0, 1) := by decide +kernel
theorem dX7_send_285 : decode cX7_send 285 = .ok (.getfield 44, 3) := by decide +kernel
theorem dX7_send_288 : decode cX7_send 288 = .ok (.iload_n 1, 1) := by decide +kernel
theorem dX7_send_289 : decode cX7_send 289 = .ok (.dup2, 1) := by decide +kernel
theorem dX7_send_290 : decode cX7_send 290 = .ok (.iaload, 1) := by decide +kernel
theorem dX7_send_291 : decode cX7_send 291 = .ok (.iconst 1, 1) := by decide +kernel
theorem dX7_send_292 : decode cX7_send 292 = .ok (.iadd, 1) := by decide +kernel
theorem dX7_send_293 : decode cX7_send 293 = .ok (.iastore, 1) := by decide +kernel
theorem dX7_send_294 : decode cX7_send 294 = .ok (.aload_n 0, 1) := by decide +kernel
theorem dX7_send_295 : decode cX7_send 295 = .ok (.getfield 56, 3) := by decide +kernel
theorem dX7_send_298 : decode cX7_send 298 = .ok (.iload_n 1, 1) := by decide +kernel
theorem dX7_send_299 : decode cX7_send 299 = .ok (.aload_n 0, 1) := by decide +kernel
theorem dX7_send_300 : decode cX7_send 300 = .ok (.getfield 44, 3) := by decide +kernel
theorem dX7_send_303 : decode cX7_send 303 = .ok (.iload_n 1, 1) := by decide +kernel
theorem dX7_send_304 : decode cX7_send 304 = .ok (.iaload, 1) := by decide +kernel
theorem dX7_send_305 : decode cX7_send 305 = .ok (.iastore, 1) := by decide +kernel
theorem dX7_send_306 : decode cX7_send 306 = .ok (.aload_n 0, 1) := by decide +kernel
theorem dX7_send_307 : decode cX7_send 307 = .ok (.iload_n 1, 1) := by decide +kernel
theorem dX7_send_308 : decode cX7_send 308 = .ok (.aload_n 0, 1) := by decide +kernel
theorem dX7_send_309 : decode cX7_send 309 = .ok (.getfield 47, 3) := by decide +kernel
theorem dX7_send_312 : decode cX7_send 312 = .ok (.iload_n 3, 1) := by decide +kernel
theorem dX7_send_313 : decode cX7_send 313 = .ok (.iaload, 1) := by decide +kernel
theorem dX7_send_314 : decode cX7_send 314 = .ok (.aload_n 0, 1) := by decide +kernel
theorem dX7_send_315 : decode cX7_send 315 = .ok (.getfield 50, 3) := by decide +kernel
theorem dX7_send_318 : decode cX7_send 318 = .ok (.iload_n 3, 1) := by decide +kernel
theorem dX7_send_319 : decode cX7_send 319 = .ok (.iaload, 1) := by decide +kernel
theorem dX7_send_320 : decode cX7_send 320 = .ok (.aload_n 0, 1) := by decide +kernel
theorem dX7_send_321 : decode cX7_send 321 = .ok (.getfield 53, 3) := by decide +kernel
theorem dX7_send_324 : decode cX7_send 324 = .ok (.iload_n 3, 1) := by decide +kernel
theorem dX7_send_325 : decode cX7_send 325 = .ok (.iaload, 1) := by decide +kernel
theorem dX7_send_326 : decode cX7_send 326 = .ok (.invokevirtual 121, 3) := by decide +kernel
theorem dX7_send_329 : decode cX7_send 329 = .ok (.iconst 1, 1) := by decide +kernel
theorem dX7_send_330 : decode cX7_send 330 = .ok (.ireturn, 1) := by decide +kernel
theorem dX7_isFlag_0 : decode cX7_isFlag 0 = .ok (.iconst 0, 1) := by decide +kernel
theorem dX7_isFlag_1 : decode cX7_isFlag 1 = .ok (.istore_n 2, 1) := by decide +kernel
theorem dX7_isFlag_2 : decode cX7_isFlag 2 = .ok (.iconst 0, 1) := by decide +kernel
theorem dX7_isFlag_3 : decode cX7_isFlag 3 = .ok (.istore_n 3, 1) := by decide +kernel
theorem dX7_isFlag_4 : decode cX7_isFlag 4 = .ok (.iload_n 3, 1) := by decide +kernel
theorem dX7_isFlag_5 : decode cX7_isFlag 5 = .ok (.bipush 8, 2) := by decide +kernel
theorem dX7_isFlag_7 : decode cX7_isFlag 7 = .ok (.if_icmp .ge 22, 3) := by decide +kernel
theorem dX7_isFlag_10 : decode cX7_isFlag 10 = .ok (.iconst 2, 1) := by decide +kernel
theorem dX7_isFlag_11 : decode cX7_isFlag 11 = .ok (.iload_n 2, 1) := by decide +kernel
theorem dX7_isFlag_12 : decode cX7_isFlag 12 = .ok (.imul, 1) := by decide +kernel
theorem dX7_isFlag_13 : decode cX7_isFlag 13 = .ok (.aload_n 0, 1) := by decide +kernel
theorem dX7_isFlag_14 : decode cX7_isFlag 14 = .ok (.getfield 17, 3) := by decide +kernel
theorem dX7_isFlag_17 : decode cX7_isFlag 17 = .ok (.iload_n 1, 1) := by decide +kernel
theorem dX7_isFlag_18 : decode cX7_isFlag 18 = .ok (.iload_n 3, 1) := by decide +kernel
theorem dX7_isFlag_19 : decode cX7_isFlag 19 = .ok (.iadd, 1) := by decide +kernel
theorem dX7_isFlag_20 : decode cX7_isFlag 20 = .ok (.iaload, 1) := by decide +kernel
theorem dX7_isFlag_21 : decode cX7_isFlag 21 = .ok (.iadd, 1) := by decide +kernel
theorem dX7_isFlag_22 : decode cX7_isFlag 22 = .ok (.istore_n 2, 1) := by decide +kernel
theorem dX7_isFlag_23 : decode cX7_isFlag 23 = .ok (.iinc 3 1, 3) := by decide +kernel
theorem dX7_isFlag_26 : decode cX7_isFlag 26 = .ok (.goto (-22), 3) := by decide +kernel
theorem dX7_isFlag_29 : decode cX7_isFlag 29 = .ok (.iload_n 2, 1) := by decide +kernel
theorem dX7_isFlag_30 : decode cX7_isFlag 30 = .ok (.ireturn, 1) := by decide +kernel
set_option maxRecDepth 20000 in
theorem ggX7_fault_X7_isFlag : GoodIn wsX7_fault wsX7_isFlag := goodIn_r _ [10, 2, 20, 21, 22, 23, 24, 25, 26, 27, 28, 29, 30, 31, 32, 33, 34, 35, 36, 37, 38, 39, 40, 41, 42, 43, 44, 45, 46] (by decide +kernel) (by decide +kernel)
set_option maxRecDepth 20000 in
theorem gX7_fault_X7_isFlag : GoodIn wsX7_fault (wsV RX7 125 RX7 yX7_isFlag wsX7_isFlag) := goodIn_app (goodIn_of _ (by decide +kernel)) ggX7_fault_X7_isFlag
set_option maxRecDepth 20000 in
theorem ggX7_fault_X7_unitCheck : GoodIn wsX7_fault wsX7_unitCheck := goodIn_r _ [14, 15, 5, 16, 17, 9, 18, 19, 20, 21, 22, 23, 24, 25, 26, 27, 28, 29, 30, 31, 32, 33, 34, 35, 36, 37, 38, 39, 40, 41, 42, 43, 44, 45, 46] (by decide +kernel) (by decide +kernel)
set_option maxRecDepth 20000 in
theorem gX7_fault_X7_unitCheck : GoodIn wsX7_fault (wsV RX7 114 RX7 yX7_unitCheck wsX7_unitCheck) := goodIn_app (goodIn_of _ (by decide +kernel)) ggX7_fault_X7_unitCheck
theorem dX7_fault_0 : decode cX7_fault 0 = .ok (.sipush 3000, 3) := by decide +kernel
theorem dX7_fault_3 : decode cX7_fault 3 = .ok (.iload_n 1, 1) := by decide +kernel
theorem dX7_fault_4 : decode cX7_fault 4 = .ok (.imul, 1) := by decide +kernel
theorem dX7_fault_5 : decode cX7_fault 5 = .ok (.istore_n 2, 1) := by decide +kernel
theorem dX7_fault_6 : decode cX7_fault 6 = .ok (.aload_n 0, 1) := by decide +kernel
theorem dX7_fault_7 : decode cX7_fault 7 = .ok (.getfield 13, 3) := by decide +kernel
theorem dX7_fault_10 : decode cX7_fault 10 = .ok (.iload_n 1, 1) := by decide +kernel
theorem dX7_fault_11 : decode cX7_fault 11 = .ok (.iaload, 1) := by decide +kernel
theorem dX7_fault_12 : decode cX7_fault 12 = .ok (.istore_n 3, 1) := by decide +kernel
theorem dX7_fault_13 : decode cX7_fault 13 = .ok (.iload_n 3, 1) := by decide +kernel
theorem dX7_fault_14 : decode cX7_fault 14 = .ok (.bipush 16, 2) := by decide +kernel
theorem dX7_fault_16 : decode cX7_fault 16 = .ok (.if_icmp .lt 28, 3) := by decide +kernel
theorem dX7_fault_19 : decode cX7_fault 19 = .ok (.aload_n 0, 1) := by decide +kernel
theorem dX7_fault_20 : decode cX7_fault 20 = .ok (.iload_n 2, 1) := by decide +kernel
theorem dX7_fault_21 : decode cX7_fault 21 = .ok (.invokevirtual 125, 3) := by decide +kernel
theorem dX7_fault_24 : decode cX7_fault 24 = .ok (.bipush 126, 2) := by decide +kernel
theorem dX7_fault_26 : decode cX7_fault 26 = .ok (.if_icmp .ne 18, 3) := by decide +kernel
theorem dX7_fault_29 : decode cX7_fault 29 = .ok (.aload_n 0, 1) := by decide +kernel
theorem dX7_fault_30 : decode cX7_fault 30 = .ok (.iload_n 2, 1) := by decide +kernel
theorem dX7_fault_31 : decode cX7_fault 31 = .ok (.iload_n 3, 1) := by decide +kernel
theorem dX7_fault_32 : decode cX7_fault 32 = .ok (.iadd, 1) := by decide +kernel
theorem dX7_fault_33 : decode cX7_fault 33 = .ok (.bipush 8, 2) := by decide +kernel
theorem dX7_fault_35 : decode cX7_fault 35 = .ok (.isub, 1) := by decide +kernel
theorem dX7_fault_36 : decode cX7_fault 36 = .ok (.invokevirtual 125, 3) := by decide +kernel
theorem dX7_fault_39 : decode cX7_fault 39 = .ok (.bipush 126, 2) := by decide +kernel
theorem dX7_fault_41 : decode cX7_fault 41 = .ok (.if_icmp .eq 5, 3) := by decide +kernel
theorem dX7_fault_44 : decode cX7_fault 44 = .ok (.iconst 1, 1) := by decide +kernel
theorem dX7_fault_45 : decode cX7_fault 45 = .ok (.ireturn, 1) := by decide +kernel
theorem dX7_fault_46 : decode cX7_fault 46 = .ok (.iconst 0, 1) := by decide +kernel
theorem dX7_fault_47 : decode cX7_fault 47 = .ok (.istore 4, 2) := by decide +kernel
theorem dX7_fault_49 : decode cX7_fault 49 = .ok (.iconst 0, 1) := by decide +kernel
theorem dX7_fault_50 : decode cX7_fault 50 = .ok (.istore 5, 2) := by decide +kernel
theorem dX7_fault_52 : decode cX7_fault 52 = .ok (.iconst 0, 1) := by decide +kernel
theorem dX7_fault_53 : decode cX7_fault 53 = .ok (.istore 6, 2) := by decide +kernel
theorem dX7_fault_55 : decode cX7_fault 55 = .ok (.bipush 8, 2) := by decide +kernel
theorem dX7_fault_57 : decode cX7_fault 57 = .ok (.istore 7, 2) := by decide +kernel
theorem dX7_fault_59 : decode cX7_fault 59 = .ok (.iload 7, 2) := by decide +kernel
theorem dX7_fault_61 : decode cX7_fault 61 = .ok (.iload_n 3, 1) := by decide +kernel
theorem dX7_fault_62 : decode cX7_fault 62 = .ok (.bipush 8, 2) := by decide +kernel
theorem dX7_fault_64 : decode cX7_fault 64 = .ok (.isub, 1) := by decide +kernel
theorem dX7_fault_65 : decode cX7_fault 65 = .ok (.if_icmp .ge 75, 3) := by decide +kernel
theorem dX7_fault_68 : decode cX7_fault 68 = .ok (.aload_n 0, 1) := by decide +kernel
theorem dX7_fault_69 : decode cX7_fault 69 = .ok (.getfield 17, 3) := by decide +kernel
theorem dX7_fault_72 : decode cX7_fault 72 = .ok (.iload_n 2, 1) := by decide +kernel
theorem dX7_fault_73 : decode cX7_fault 73 = .ok (.iload 7, 2) := by decide +kernel
theorem dX7_fault_75 : decode cX7_fault 75 = .ok (.iadd, 1) := by decide +kernel
theorem dX7_fault_76 : decode cX7_fault 76 = .ok (.iaload, 1) := by decide +kernel
theorem dX7_fault_77 : decode cX7_fault 77 = .ok (.istore 8, 2) := by decide +kernel
theorem dX7_fault_79 : decode cX7_fault 79 = .ok (.iload 8, 2) := by decide +kernel
theorem dX7_fault_81 : decode cX7_fault 81 = .ok (.iconst 1, 1) := by decide +kernel
theorem dX7_fault_82 : decode cX7_fault 82 = .ok (.if_icmp .ne 10, 3) := by decide +kernel
theorem dX7_fault_85 : decode cX7_fault 85 = .ok (.iload 4, 2) := by decide +kernel
theorem dX7_fault_87 : decode cX7_fault 87 = .ok (.iconst 1, 1) := by decide +kernel
theorem dX7_fault_88 : decode cX7_fault 88 = .ok (.iadd, 1) := by decide +kernel
theorem dX7_fault_89 : decode cX7_fault 89 = .ok (.goto 4, 3) := by decide +kernel
theorem dX7_fault_92 : decode cX7_fault 92 = .ok (.iconst 0, 1) := by decide +kernel
theorem dX7_fault_93 : decode cX7_fault 93 = .ok (.istore 4, 2) := by decide +kernel
theorem dX7_fault_95 : decode cX7_fault 95 = .ok (.iload 4, 2) := by decide +kernel
theorem dX7_fault_97 : decode cX7_fault 97 = .ok (.bipush 6, 2) := by decide +kernel
theorem dX7_fault_99 : decode cX7_fault 99 = .ok (.if_icmp .ne 5, 3) := by decide +kernel
theorem dX7_fault_102 : decode cX7_fault 102 = .ok (.iconst 2, 1) := by decide +kernel
theorem dX7_fault_103 : decode cX7_fault 103 = .ok (.ireturn, 1) := by decide +kernel
theorem dX7_fault_104 : decode cX7_fault 104 = .ok (.iload 6, 2) := by decide +kernel
theorem dX7_fault_106 : decode cX7_fault 106 = .ok (.ifCond .ne 15, 3) := by decide +kernel
theorem dX7_fault_109 : decode cX7_fault 109 = .ok (.aload_n 0, 1) := by decide +kernel
theorem dX7_fault_110 : decode cX7_fault 110 = .ok (.getfield 84, 3) := by decide +kernel
theorem dX7_fault_113 : decode cX7_fault 113 = .ok (.iload 5, 2) := by decide +kernel
theorem dX7_fault_115 : decode cX7_fault 115 = .ok (.iload 8, 2) := by decide +kernel
theorem dX7_fault_117 : decode cX7_fault 117 = .ok (.iastore, 1) := by decide +kernel
theorem dX7_fault_118 : decode cX7_fault 118 = .ok (.iinc 5 1, 3) := by decide +kernel
theorem dX7_fault_121 : decode cX7_fault 121 = .ok (.iload 4, 2) := by decide +kernel
theorem dX7_fault_123 : decode cX7_fault 123 = .ok (.iconst 5, 1) := by decide +kernel
theorem dX7_fault_124 : decode cX7_fault 124 = .ok (.if_icmp .ne 7, 3) := by decide +kernel
theorem dX7_fault_127 : decode cX7_fault 127 = .ok (.iconst 1, 1) := by decide +kernel
theorem dX7_fault_128 : decode cX7_fault 128 = .ok (.goto 4, 3) := by decide +kernel
theorem dX7_fault_131 : decode cX7_fault 131 = .ok (.iconst 0, 1) := by decide +kernel
theorem dX7_fault_132 : decode cX7_fault 132 = .ok (.istore 6, 2) := by decide +kernel
theorem dX7_fault_134 : decode cX7_fault 134 = .ok (.iinc 7 1, 3) := by decide +kernel
theorem dX7_fault_137 : decode cX7_fault 137 = .ok (.goto (-78), 3) := by decide +kernel
theorem dX7_fault_140 : decode cX7_fault 140 = .ok (.iload 5, 2) := by decide +kernel
theorem dX7_fault_142 : decode cX7_fault 142 = .ok (.bipush 8, 2) := by decide +kernel
theorem dX7_fault_144 : decode cX7_fault 144 = .ok (.irem, 1) := by decide +kernel
theorem dX7_fault_145 : decode cX7_fault 145 = .ok (.ifCond .ne 18, 3) := by decide +kernel
theorem dX7_fault_148 : decode cX7_fault 148 = .ok (.iload 5, 2) := by decide +kernel
theorem dX7_fault_150 : decode cX7_fault 150 = .ok (.bipush 40, 2) := by decide +kernel
theorem dX7_fault_152 : decode cX7_fault 152 = .ok (.if_icmp .lt 11, 3) := by decide +kernel
theorem dX7_fault_155 : decode cX7_fault 155 = .ok (.iload 5, 2) := by decide +kernel
theorem dX7_fault_157 : decode cX7_fault 157 = .ok (.sipush 2216, 3) := by decide +kernel
theorem dX7_fault_160 : decode cX7_fault 160 = .ok (.if_icmp .le 5, 3) := by decide +kernel
theorem dX7_fault_163 : decode cX7_fault 163 = .ok (.iconst 3, 1) := by decide +kernel
theorem dX7_fault_164 : decode cX7_fault 164 = .ok (.ireturn, 1) := by decide +kernel
theorem dX7_fault_165 : decode cX7_fault 165 = .ok (.aload_n 0, 1) := by decide +kernel
theorem dX7_fault_166 : decode cX7_fault 166 = .ok (.iload 5, 2) := by decide +kernel
theorem dX7_fault_168 : decode cX7_fault 168 = .ok (.bipush 8, 2) := by decide +kernel
theorem dX7_fault_170 : decode cX7_fault 170 = .ok (.idiv, 1) := by decide +kernel
theorem dX7_fault_171 : decode cX7_fault 171 = .ok (.putfield 128, 3) := by decide +kernel
theorem dX7_fault_174 : decode cX7_fault 174 = .ok (.iconst 0, 1) := by decide +kernel
theorem dX7_fault_175 : decode cX7_fault 175 = .ok (.istore 7, 2) := by decide +kernel
theorem dX7_fault_177 : decode cX7_fault 177 = .ok (.iload 7, 2) := by decide +kernel
theorem dX7_fault_179 : decode cX7_fault 179 = .ok (.aload_n 0, 1) := by decide +kernel
theorem dX7_fault_180 : decode cX7_fault 180 = .ok (.getfield 128, 3) := by decide +kernel
theorem dX7_fault_183 : decode cX7_fault 183 = .ok (.if_icmp .ge 59, 3) := by decide +kernel
theorem dX7_fault_186 : decode cX7_fault 186 = .ok (.aload_n 0, 1) := by decide +kernel
theorem dX7_fault_187 : decode cX7_fault 187 = .ok (.getfield 81, 3) := by decide +kernel
theorem dX7_fault_190 : decode cX7_fault 190 = .ok (.iload 7, 2) := by decide +kernel
theorem dX7_fault_192 : decode cX7_fault 192 = .ok (.iconst 0, 1) := by decide +kernel
theorem dX7_fault_193 : decode cX7_fault 193 = .ok (.iastore, 1) := by decide +kernel
theorem dX7_fault_194 : decode cX7_fault 194 = .ok (.iconst 0, 1) := by decide +kernel
theorem dX7_fault_195 : decode cX7_fault 195 = .ok (.istore 8, 2) := by decide +kernel
theorem dX7_fault_197 : decode cX7_fault 197 = .ok (.iload 8, 2) := by decide +kernel
theorem dX7_fault_199 : decode cX7_fault 199 = .ok (.bipush 8, 2) := by decide +kernel
theorem dX7_fault_201 : decode cX7_fault 201 = .ok (.if_icmp .ge 35, 3) := by decide +kernel
theorem dX7_fault_204 : decode cX7_fault 204 = .ok (.aload_n 0, 1) := by decide +kernel
theorem dX7_fault_205 : decode cX7_fault 205 = .ok (.getfield 81, 3) := by decide +kernel
theorem dX7_fault_208 : decode cX7_fault 208 = .ok (.iload 7, 2) := by decide +kernel
theorem dX7_fault_210 : decode cX7_fault 210 = .ok (.dup2, 1) := by decide +kernel
theorem dX7_fault_211 : decode cX7_fault 211 = .ok (.iaload, 1) := by decide +kernel
theorem dX7_fault_212 : decode cX7_fault 212 = .ok (.aload_n 0, 1) := by decide +kernel
theorem dX7_fault_213 : decode cX7_fault 213 = .ok (.getfield 84, 3) := by decide +kernel
theorem dX7_fault_216 : decode cX7_fault 216 = .ok (.bipush 8, 2) := by decide +kernel
theorem dX7_fault_218 : decode cX7_fault 218 = .ok (.iload 7, 2) := by decide +kernel
theorem dX7_fault_220 : decode cX7_fault 220 = .ok (.imul, 1) := by decide +kernel
theorem dX7_fault_221 : decode cX7_fault 221 = .ok (.iload 8, 2) := by decide +kernel
theorem dX7_fault_223 : decode cX7_fault 223 = .ok (.iadd, 1) := by decide +kernel
theorem dX7_fault_224 : decode cX7_fault 224 = .ok (.iaload, 1) := by decide +kernel
theorem dX7_fault_225 : decode cX7_fault 225 = .ok (.iload 8, 2) := by decide +kernel
theorem dX7_fault_227 : decode cX7_fault 227 = .ok (.ishl, 1) := by decide +kernel
theorem dX7_fault_228 : decode cX7_fault 228 = .ok (.iadd, 1) := by decide +kernel
theorem dX7_fault_229 : decode cX7_fault 229 = .ok (.iastore, 1) := by decide +kernel
theorem dX7_fault_230 : decode cX7_fault 230 = .ok (.iinc 8 1, 3) := by decide +kernel
theorem dX7_fault_233 : decode cX7_fault 233 = .ok (.goto (-36), 3) := by decide +kernel
theorem dX7_fault_236 : decode cX7_fault 236 = .ok (.iinc 7 1, 3) := by decide +kernel
theorem dX7_fault_239 : decode cX7_fault 239 = .ok (.goto (-62), 3) := by decide +kernel
theorem dX7_fault_242 : decode cX7_fault 242 = .ok (.aload_n 0, 1) := by decide +kernel
theorem dX7_fault_243 : decode cX7_fault 243 = .ok (.aload_n 0, 1) := by decide +kernel
theorem dX7_fault_244 : decode cX7_fault 244 = .ok (.getfield 128, 3) := by decide +kernel
theorem dX7_fault_247 : decode cX7_fault 247 = .ok (.iconst 2, 1) := by decide +kernel
theorem dX7_fault_248 : decode cX7_fault 248 = .ok (.isub, 1) := by decide +kernel
theorem dX7_fault_249 : decode cX7_fault 249 = .ok (.invokevirtual 114, 3) := by decide +kernel
theorem dX7_fault_252 : decode cX7_fault 252 = .ok (.aload_n 0, 1) := by decide +kernel
theorem dX7_fault_253 : decode cX7_fault 253 = .ok (.getfield 81, 3) := by decide +kernel
theorem dX7_fault_256 : decode cX7_fault 256 = .ok (.aload_n 0, 1) := by decide +kernel
theorem dX7_fault_257 : decode cX7_fault 257 = .ok (.getfield 128, 3) := by decide +kernel
theorem dX7_fault_260 : decode cX7_fault 260 = .ok (.iconst 2, 1) := by decide +kernel
theorem dX7_fault_261 : decode cX7_fault 261 = .ok (.isub, 1) := by decide +kernel
theorem dX7_fault_262 : decode cX7_fault 262 = .ok (.iaload, 1) := by decide +kernel
theorem dX7_fault_263 : decode cX7_fault 263 = .ok (.sipush 256, 3) := by decide +kernel
theorem dX7_fault_266 : decode cX7_fault 266 = .ok (.aload_n 0, 1) := by decide +kernel
theorem dX7_fault_267 : decode cX7_fault 267 = .ok (.getfield 81, 3) := by decide +kernel
theorem dX7_fault_270 : decode cX7_fault 270 = .ok (.aload_n 0, 1) := by decide +kernel
theorem dX7_fault_271 : decode cX7_fault 271 = .ok (.getfield 128, 3) := by decide +kernel
theorem dX7_fault_274 : decode cX7_fault 274 = .ok (.iconst 1, 1) := by decide +kernel
theorem dX7_fault_275 : decode cX7_fault 275 = .ok (.isub, 1) := by decide +kernel
theorem dX7_fault_276 : decode cX7_fault 276 = .ok (.iaload, 1) := by decide +kernel
theorem dX7_fault_277 : decode cX7_fault 277 = .ok (.imul, 1) := by decide +kernel
end
section
theorem dX7_fault_278 : decode cX7_fault 278 = .ok (.iadd, 1) := by decide +kernel
theorem dX7_fault_279 : decode cX7_fault 279 = .ok (.if_icmp .eq 5, 3) := by decide +kernel
theorem dX7_fault_282 : decode cX7_fault 282 = .ok (.iconst 4, 1) := by decide +kernel
theorem dX7_fault_283 : decode cX7_fault 283 = .ok (.ireturn, 1) := by decide +kernel
theorem dX7_fault_284 : decode cX7_fault 284 = .ok (.aload_n 0, 1) := by decide +kernel
theorem dX7_fault_285 : decode cX7_fault 285 = .ok (.getfield 128, 3) := by decide +kernel
theorem dX7_fault_288 : decode cX7_fault 288 = .ok (.iconst 5, 1) := by decide +kernel
theorem dX7_fault_289 : decode cX7_fault 289 = .ok (.isub, 1) := by decide +kernel
theorem dX7_fault_290 : decode cX7_fault 290 = .ok (.istore 7, 2) := by decide +kernel
theorem dX7_fault_292 : decode cX7_fault 292 = .ok (.aload_n 0, 1) := by decide +kernel
theorem dX7_fault_293 : decode cX7_fault 293 = .ok (.getfield 81, 3) := by decide +kernel
theorem dX7_fault_296 : decode cX7_fault 296 = .ok (.iconst 2, 1) := by decide +kernel
theorem dX7_fault_297 : decode cX7_fault 297 = .ok (.iaload, 1) := by decide +kernel
theorem dX7_fault_298 : decode cX7_fault 298 = .ok (.iload 7, 2) := by decide +kernel
theorem dX7_fault_300 : decode cX7_fault 300 = .ok (.bipush 63, 2) := by decide +kernel
theorem dX7_fault_302 : decode cX7_fault 302 = .ok (.if_icmp .le 8, 3) := by decide +kernel
theorem dX7_fault_305 : decode cX7_fault 305 = .ok (.bipush 63, 2) := by decide +kernel
theorem dX7_fault_307 : decode cX7_fault 307 = .ok (.goto 5, 3) := by decide +kernel
theorem dX7_fault_310 : decode cX7_fault 310 = .ok (.iload 7, 2) := by decide +kernel
theorem dX7_fault_312 : decode cX7_fault 312 = .ok (.if_icmp .eq 7, 3) := by decide +kernel
theorem dX7_fault_315 : decode cX7_fault 315 = .ok (.iconst 5, 1) := by decide +kernel
theorem dX7_fault_316 : decode cX7_fault 316 = .ok (.goto 4, 3) := by decide +kernel
theorem dX7_fault_319 : decode cX7_fault 319 = .ok (.iconst 0, 1) := by decide +kernel
theorem dX7_fault_320 : decode cX7_fault 320 = .ok (.ireturn, 1) := by decide +kernel
theorem dX7_goes_0 : decode cX7_goes 0 = .ok (.bipush 40, 2) := by decide +kernel
theorem dX7_goes_2 : decode cX7_goes 2 = .ok (.iload_n 1, 1) := by decide +kernel
theorem dX7_goes_3 : decode cX7_goes 3 = .ok (.imul, 1) := by decide +kernel
theorem dX7_goes_4 : decode cX7_goes 4 = .ok (.iload_n 2, 1) := by decide +kernel
theorem dX7_goes_5 : decode cX7_goes 5 = .ok (.iadd, 1) := by decide +kernel
theorem dX7_goes_6 : decode cX7_goes 6 = .ok (.istore_n 3, 1) := by decide +kernel
theorem dX7_goes_7 : decode cX7_goes 7 = .ok (.iload_n 3, 1) := by decide +kernel
theorem dX7_goes_8 : decode cX7_goes 8 = .ok (.iconst 1, 1) := by decide +kernel
theorem dX7_goes_9 : decode cX7_goes 9 = .ok (.iadd, 1) := by decide +kernel
theorem dX7_goes_10 : decode cX7_goes 10 = .ok (.bipush 40, 2) := by decide +kernel
theorem dX7_goes_12 : decode cX7_goes 12 = .ok (.iload_n 1, 1) := by decide +kernel
theorem dX7_goes_13 : decode cX7_goes 13 = .ok (.imul, 1) := by decide +kernel
theorem dX7_goes_14 : decode cX7_goes 14 = .ok (.aload_n 0, 1) := by decide +kernel
theorem dX7_goes_15 : decode cX7_goes 15 = .ok (.getfield 7, 3) := by decide +kernel
theorem dX7_goes_18 : decode cX7_goes 18 = .ok (.iload_n 1, 1) := by decide +kernel
theorem dX7_goes_19 : decode cX7_goes 19 = .ok (.iaload, 1) := by decide +kernel
theorem dX7_goes_20 : decode cX7_goes 20 = .ok (.iadd, 1) := by decide +kernel
theorem dX7_goes_21 : decode cX7_goes 21 = .ok (.if_icmp .ge 73, 3) := by decide +kernel
theorem dX7_goes_24 : decode cX7_goes 24 = .ok (.aload_n 0, 1) := by decide +kernel
theorem dX7_goes_25 : decode cX7_goes 25 = .ok (.getfield 13, 3) := by decide +kernel
theorem dX7_goes_28 : decode cX7_goes 28 = .ok (.iload_n 3, 1) := by decide +kernel
theorem dX7_goes_29 : decode cX7_goes 29 = .ok (.aload_n 0, 1) := by decide +kernel
theorem dX7_goes_30 : decode cX7_goes 30 = .ok (.getfield 13, 3) := by decide +kernel
theorem dX7_goes_33 : decode cX7_goes 33 = .ok (.iload_n 3, 1) := by decide +kernel
theorem dX7_goes_34 : decode cX7_goes 34 = .ok (.iconst 1, 1) := by decide +kernel
theorem dX7_goes_35 : decode cX7_goes 35 = .ok (.iadd, 1) := by decide +kernel
theorem dX7_goes_36 : decode cX7_goes 36 = .ok (.iaload, 1) := by decide +kernel
theorem dX7_goes_37 : decode cX7_goes 37 = .ok (.iastore, 1) := by decide +kernel
theorem dX7_goes_38 : decode cX7_goes 38 = .ok (.iconst 0, 1) := by decide +kernel
theorem dX7_goes_39 : decode cX7_goes 39 = .ok (.istore 4, 2) := by decide +kernel
theorem dX7_goes_41 : decode cX7_goes 41 = .ok (.iload 4, 2) := by decide +kernel
theorem dX7_goes_43 : decode cX7_goes 43 = .ok (.aload_n 0, 1) := by decide +kernel
theorem dX7_goes_44 : decode cX7_goes 44 = .ok (.getfield 13, 3) := by decide +kernel
theorem dX7_goes_47 : decode cX7_goes 47 = .ok (.iload_n 3, 1) := by decide +kernel
theorem dX7_goes_48 : decode cX7_goes 48 = .ok (.iaload, 1) := by decide +kernel
theorem dX7_goes_49 : decode cX7_goes 49 = .ok (.if_icmp .ge 39, 3) := by decide +kernel
theorem dX7_goes_52 : decode cX7_goes 52 = .ok (.aload_n 0, 1) := by decide +kernel
theorem dX7_goes_53 : decode cX7_goes 53 = .ok (.getfield 17, 3) := by decide +kernel
theorem dX7_goes_56 : decode cX7_goes 56 = .ok (.sipush 3000, 3) := by decide +kernel
theorem dX7_goes_59 : decode cX7_goes 59 = .ok (.iload_n 3, 1) := by decide +kernel
theorem dX7_goes_60 : decode cX7_goes 60 = .ok (.imul, 1) := by decide +kernel
theorem dX7_goes_61 : decode cX7_goes 61 = .ok (.iload 4, 2) := by decide +kernel
theorem dX7_goes_63 : decode cX7_goes 63 = .ok (.iadd, 1) := by decide +kernel
theorem dX7_goes_64 : decode cX7_goes 64 = .ok (.aload_n 0, 1) := by decide +kernel
theorem dX7_goes_65 : decode cX7_goes 65 = .ok (.getfield 17, 3) := by decide +kernel
theorem dX7_goes_68 : decode cX7_goes 68 = .ok (.sipush 3000, 3) := by decide +kernel
theorem dX7_goes_71 : decode cX7_goes 71 = .ok (.iload_n 3, 1) := by decide +kernel
theorem dX7_goes_72 : decode cX7_goes 72 = .ok (.imul, 1) := by decide +kernel
theorem dX7_goes_73 : decode cX7_goes 73 = .ok (.sipush 3000, 3) := by decide +kernel
theorem dX7_goes_76 : decode cX7_goes 76 = .ok (.iadd, 1) := by decide +kernel
theorem dX7_goes_77 : decode cX7_goes 77 = .ok (.iload 4, 2) := by decide +kernel
theorem dX7_goes_79 : decode cX7_goes 79 = .ok (.iadd, 1) := by decide +kernel
theorem dX7_goes_80 : decode cX7_goes 80 = .ok (.iaload, 1) := by decide +kernel
theorem dX7_goes_81 : decode cX7_goes 81 = .ok (.iastore, 1) := by decide +kernel
theorem dX7_goes_82 : decode cX7_goes 82 = .ok (.iinc 4 1, 3) := by decide +kernel
theorem dX7_goes_85 : decode cX7_goes 85 = .ok (.goto (-44), 3) := by decide +kernel
theorem dX7_goes_88 : decode cX7_goes 88 = .ok (.iinc 3 1, 3) := by decide +kernel
theorem dX7_goes_91 : decode cX7_goes 91 = .ok (.goto (-84), 3) := by decide +kernel
theorem dX7_goes_94 : decode cX7_goes 94 = .ok (.aload_n 0, 1) := by decide +kernel
theorem dX7_goes_95 : decode cX7_goes 95 = .ok (.getfield 7, 3) := by decide +kernel
theorem dX7_goes_98 : decode cX7_goes 98 = .ok (.iload_n 1, 1) := by decide +kernel
theorem dX7_goes_99 : decode cX7_goes 99 = .ok (.dup2, 1) := by decide +kernel
theorem dX7_goes_100 : decode cX7_goes 100 = .ok (.iaload, 1) := by decide +kernel
theorem dX7_goes_101 : decode cX7_goes 101 = .ok (.iconst 1, 1) := by decide +kernel
theorem dX7_goes_102 : decode cX7_goes 102 = .ok (.isub, 1) := by decide +kernel
theorem dX7_goes_103 : decode cX7_goes 103 = .ok (.iastore, 1) := by decide +kernel
theorem dX7_goes_104 : decode cX7_goes 104 = .ok (.return_, 1) := by decide +kernel
set_option maxRecDepth 20000 in
theorem ggX7_take_X7_isEnd : GoodIn wsX7_take wsX7_isEnd := goodIn_r _ [17] (by decide +kernel) (by decide +kernel)
set_option maxRecDepth 20000 in
theorem gX7_take_X7_isEnd : GoodIn wsX7_take (va_wsS RX7 107 yX7_isEnd wsX7_isEnd) := goodIn_app (goodIn_of _ (by decide +kernel)) ggX7_take_X7_isEnd
set_option maxRecDepth 20000 in
theorem ggX7_take_X7_refuses : GoodIn wsX7_take wsX7_refuses := goodIn_r _ [21, 22, 57, 58, 59, 60, 61, 62, 63, 64, 65, 66, 67, 68, 69, 70, 71, 72, 73, 74, 75, 76, 77, 78, 79, 80, 81, 82, 83] (by decide +kernel) (by decide +kernel)
set_option maxRecDepth 20000 in
theorem gX7_take_X7_refuses : GoodIn wsX7_take (wsV RX7 101 RX7 yX7_refuses wsX7_refuses) := goodIn_app (goodIn_of _ (by decide +kernel)) ggX7_take_X7_refuses
set_option maxRecDepth 20000 in
theorem ggX7_take_X7_fault : GoodIn wsX7_take wsX7_fault := goodIn_r _ [26, 27, 28, 29, 30, 5, 31, 32, 33, 16, 34, 35, 36, 37, 38, 39, 40, 41, 42, 43, 57, 58, 59, 60, 61, 62, 63, 64, 65, 66, 67, 68, 69, 70, 71, 72, 73, 74, 75, 76, 77, 78, 79, 80, 81, 82, 83] (by decide +kernel) (by decide +kernel)
set_option maxRecDepth 20000 in
theorem gX7_take_X7_fault : GoodIn wsX7_take (wsV RX7 131 RX7 yX7_fault wsX7_fault) := goodIn_app (goodIn_of _ (by decide +kernel)) ggX7_take_X7_fault
set_option maxRecDepth 20000 in
theorem ggX7_take_X7_goes : GoodIn wsX7_take wsX7_goes := goodIn_r _ [47, 1, 27, 28, 57, 58, 59, 60, 61, 62, 63, 64, 65, 66, 67, 68, 69, 70, 71, 72, 73, 74, 75, 76, 77, 78, 79, 80, 81, 82, 83] (by decide +kernel) (by decide +kernel)
set_option maxRecDepth 20000 in
theorem gX7_take_X7_goes : GoodIn wsX7_take (wsV RX7 134 RX7 yX7_goes wsX7_goes) := goodIn_app (goodIn_of _ (by decide +kernel)) ggX7_take_X7_goes
set_option maxRecDepth 20000 in
theorem ggX7_take_X7_forwards : GoodIn wsX7_take wsX7_forwards := goodIn_r _ [51, 5, 30, 52, 53, 54, 55, 56, 57, 58, 59, 60, 61, 62, 63, 64, 65, 66, 67, 68, 69, 70, 71, 72, 73, 74, 75, 76, 77, 78, 79, 80, 81, 82, 83] (by decide +kernel) (by decide +kernel)
set_option maxRecDepth 20000 in
theorem gX7_take_X7_forwards : GoodIn wsX7_take (wsV RX7 137 RX7 yX7_forwards wsX7_forwards) := goodIn_app (goodIn_of _ (by decide +kernel)) ggX7_take_X7_forwards
theorem dX7_take_0 : decode cX7_take 0 = .ok (.aload_n 0, 1) := by decide +kernel
theorem dX7_take_1 : decode cX7_take 1 = .ok (.iload_n 1, 1) := by decide +kernel
theorem dX7_take_2 : decode cX7_take 2 = .ok (.invokestatic 107, 3) := by decide +kernel
theorem dX7_take_5 : decode cX7_take 5 = .ok (.ifCond .ne 7, 3) := by decide +kernel
theorem dX7_take_8 : decode cX7_take 8 = .ok (.iconst 1, 1) := by decide +kernel
theorem dX7_take_9 : decode cX7_take 9 = .ok (.goto 28, 3) := by decide +kernel
theorem dX7_take_12 : decode cX7_take 12 = .ok (.aload_n 0, 1) := by decide +kernel
theorem dX7_take_13 : decode cX7_take 13 = .ok (.getfield 7, 3) := by decide +kernel
theorem dX7_take_16 : decode cX7_take 16 = .ok (.iconst 1, 1) := by decide +kernel
theorem dX7_take_17 : decode cX7_take 17 = .ok (.iload_n 1, 1) := by decide +kernel
theorem dX7_take_18 : decode cX7_take 18 = .ok (.isub, 1) := by decide +kernel
theorem dX7_take_19 : decode cX7_take 19 = .ok (.iaload, 1) := by decide +kernel
theorem dX7_take_20 : decode cX7_take 20 = .ok (.ifCond .eq 12, 3) := by decide +kernel
theorem dX7_take_23 : decode cX7_take 23 = .ok (.aload_n 0, 1) := by decide +kernel
theorem dX7_take_24 : decode cX7_take 24 = .ok (.getfield 68, 3) := by decide +kernel
theorem dX7_take_27 : decode cX7_take 27 = .ok (.iload_n 1, 1) := by decide +kernel
theorem dX7_take_28 : decode cX7_take 28 = .ok (.baload, 1) := by decide +kernel
theorem dX7_take_29 : decode cX7_take 29 = .ok (.ifCond .eq 7, 3) := by decide +kernel
theorem dX7_take_32 : decode cX7_take 32 = .ok (.iconst 2, 1) := by decide +kernel
theorem dX7_take_33 : decode cX7_take 33 = .ok (.goto 4, 3) := by decide +kernel
theorem dX7_take_36 : decode cX7_take 36 = .ok (.iconst 0, 1) := by decide +kernel
theorem dX7_take_37 : decode cX7_take 37 = .ok (.invokevirtual 101, 3) := by decide +kernel
theorem dX7_take_40 : decode cX7_take 40 = .ok (.ifCond .eq 5, 3) := by decide +kernel
theorem dX7_take_43 : decode cX7_take 43 = .ok (.iconst 0, 1) := by decide +kernel
theorem dX7_take_44 : decode cX7_take 44 = .ok (.ireturn, 1) := by decide +kernel
theorem dX7_take_45 : decode cX7_take 45 = .ok (.aload_n 0, 1) := by decide +kernel
theorem dX7_take_46 : decode cX7_take 46 = .ok (.bipush 40, 2) := by decide +kernel
theorem dX7_take_48 : decode cX7_take 48 = .ok (.iconst 1, 1) := by decide +kernel
theorem dX7_take_49 : decode cX7_take 49 = .ok (.iload_n 1, 1) := by decide +kernel
theorem dX7_take_50 : decode cX7_take 50 = .ok (.isub, 1) := by decide +kernel
theorem dX7_take_51 : decode cX7_take 51 = .ok (.imul, 1) := by decide +kernel
theorem dX7_take_52 : decode cX7_take 52 = .ok (.invokevirtual 131, 3) := by decide +kernel
theorem dX7_take_55 : decode cX7_take 55 = .ok (.istore_n 2, 1) := by decide +kernel
theorem dX7_take_56 : decode cX7_take 56 = .ok (.aload_n 0, 1) := by decide +kernel
theorem dX7_take_57 : decode cX7_take 57 = .ok (.iconst 1, 1) := by decide +kernel
theorem dX7_take_58 : decode cX7_take 58 = .ok (.iload_n 1, 1) := by decide +kernel
theorem dX7_take_59 : decode cX7_take 59 = .ok (.isub, 1) := by decide +kernel
theorem dX7_take_60 : decode cX7_take 60 = .ok (.iconst 0, 1) := by decide +kernel
theorem dX7_take_61 : decode cX7_take 61 = .ok (.invokevirtual 134, 3) := by decide +kernel
theorem dX7_take_64 : decode cX7_take 64 = .ok (.aload_n 0, 1) := by decide +kernel
theorem dX7_take_65 : decode cX7_take 65 = .ok (.getfield 62, 3) := by decide +kernel
theorem dX7_take_68 : decode cX7_take 68 = .ok (.iload_n 1, 1) := by decide +kernel
theorem dX7_take_69 : decode cX7_take 69 = .ok (.dup2, 1) := by decide +kernel
theorem dX7_take_70 : decode cX7_take 70 = .ok (.iaload, 1) := by decide +kernel
theorem dX7_take_71 : decode cX7_take 71 = .ok (.iconst 1, 1) := by decide +kernel
theorem dX7_take_72 : decode cX7_take 72 = .ok (.iadd, 1) := by decide +kernel
theorem dX7_take_73 : decode cX7_take 73 = .ok (.iastore, 1) := by decide +kernel
theorem dX7_take_74 : decode cX7_take 74 = .ok (.aload_n 0, 1) := by decide +kernel
theorem dX7_take_75 : decode cX7_take 75 = .ok (.getfield 62, 3) := by decide +kernel
theorem dX7_take_78 : decode cX7_take 78 = .ok (.iload_n 1, 1) := by decide +kernel
theorem dX7_take_79 : decode cX7_take 79 = .ok (.iaload, 1) := by decide +kernel
theorem dX7_take_80 : decode cX7_take 80 = .ok (.sipush 256, 3) := by decide +kernel
theorem dX7_take_83 : decode cX7_take 83 = .ok (.irem, 1) := by decide +kernel
theorem dX7_take_84 : decode cX7_take 84 = .ok (.ifCond .ne 22, 3) := by decide +kernel
theorem dX7_take_87 : decode cX7_take 87 = .ok (.aload_n 0, 1) := by decide +kernel
theorem dX7_take_88 : decode cX7_take 88 = .ok (.getfield 59, 3) := by decide +kernel
theorem dX7_take_91 : decode cX7_take 91 = .ok (.iload_n 1, 1) := by decide +kernel
theorem dX7_take_92 : decode cX7_take 92 = .ok (.iaload, 1) := by decide +kernel
theorem dX7_take_93 : decode cX7_take 93 = .ok (.ifCond .le 13, 3) := by decide +kernel
theorem dX7_take_96 : decode cX7_take 96 = .ok (.aload_n 0, 1) := by decide +kernel
theorem dX7_take_97 : decode cX7_take 97 = .ok (.getfield 59, 3) := by decide +kernel
theorem dX7_take_100 : decode cX7_take 100 = .ok (.iload_n 1, 1) := by decide +kernel
theorem dX7_take_101 : decode cX7_take 101 = .ok (.dup2, 1) := by decide +kernel
theorem dX7_take_102 : decode cX7_take 102 = .ok (.iaload, 1) := by decide +kernel
theorem dX7_take_103 : decode cX7_take 103 = .ok (.iconst 1, 1) := by decide +kernel
theorem dX7_take_104 : decode cX7_take 104 = .ok (.isub, 1) := by decide +kernel
theorem dX7_take_105 : decode cX7_take 105 = .ok (.iastore, 1) := by decide +kernel
theorem dX7_take_106 : decode cX7_take 106 = .ok (.iload_n 2, 1) := by decide +kernel
theorem dX7_take_107 : decode cX7_take 107 = .ok (.ifCond .le 54, 3) := by decide +kernel
theorem dX7_take_110 : decode cX7_take 110 = .ok (.aload_n 0, 1) := by decide +kernel
theorem dX7_take_111 : decode cX7_take 111 = .ok (.getfield 59, 3) := by decide +kernel
theorem dX7_take_114 : decode cX7_take 114 = .ok (.iload_n 1, 1) := by decide +kernel
theorem dX7_take_115 : decode cX7_take 115 = .ok (.dup2, 1) := by decide +kernel
theorem dX7_take_116 : decode cX7_take 116 = .ok (.iaload, 1) := by decide +kernel
theorem dX7_take_117 : decode cX7_take 117 = .ok (.iconst 1, 1) := by decide +kernel
theorem dX7_take_118 : decode cX7_take 118 = .ok (.iadd, 1) := by decide +kernel
theorem dX7_take_119 : decode cX7_take 119 = .ok (.iastore, 1) := by decide +kernel
theorem dX7_take_120 : decode cX7_take 120 = .ok (.aload_n 0, 1) := by decide +kernel
theorem dX7_take_121 : decode cX7_take 121 = .ok (.getfield 68, 3) := by decide +kernel
theorem dX7_take_124 : decode cX7_take 124 = .ok (.iload_n 1, 1) := by decide +kernel
theorem dX7_take_125 : decode cX7_take 125 = .ok (.aload_n 0, 1) := by decide +kernel
theorem dX7_take_126 : decode cX7_take 126 = .ok (.getfield 59, 3) := by decide +kernel
theorem dX7_take_129 : decode cX7_take 129 = .ok (.iload_n 1, 1) := by decide +kernel
theorem dX7_take_130 : decode cX7_take 130 = .ok (.iaload, 1) := by decide +kernel
theorem dX7_take_131 : decode cX7_take 131 = .ok (.bipush 64, 2) := by decide +kernel
theorem dX7_take_133 : decode cX7_take 133 = .ok (.if_icmp .lt 7, 3) := by decide +kernel
theorem dX7_take_136 : decode cX7_take 136 = .ok (.iconst 1, 1) := by decide +kernel
theorem dX7_take_137 : decode cX7_take 137 = .ok (.goto 4, 3) := by decide +kernel
theorem dX7_take_140 : decode cX7_take 140 = .ok (.iconst 0, 1) := by decide +kernel
theorem dX7_take_141 : decode cX7_take 141 = .ok (.bastore, 1) := by decide +kernel
theorem dX7_take_142 : decode cX7_take 142 = .ok (.iload_n 2, 1) := by decide +kernel
theorem dX7_take_143 : decode cX7_take 143 = .ok (.ineg, 1) := by decide +kernel
theorem dX7_take_144 : decode cX7_take 144 = .ok (.aload_n 0, 1) := by decide +kernel
theorem dX7_take_145 : decode cX7_take 145 = .ok (.getfield 68, 3) := by decide +kernel
theorem dX7_take_148 : decode cX7_take 148 = .ok (.iload_n 1, 1) := by decide +kernel
theorem dX7_take_149 : decode cX7_take 149 = .ok (.baload, 1) := by decide +kernel
theorem dX7_take_150 : decode cX7_take 150 = .ok (.ifCond .eq 8, 3) := by decide +kernel
theorem dX7_take_153 : decode cX7_take 153 = .ok (.bipush 10, 2) := by decide +kernel
theorem dX7_take_155 : decode cX7_take 155 = .ok (.goto 4, 3) := by decide +kernel
theorem dX7_take_158 : decode cX7_take 158 = .ok (.iconst 0, 1) := by decide +kernel
theorem dX7_take_159 : decode cX7_take 159 = .ok (.isub, 1) := by decide +kernel
theorem dX7_take_160 : decode cX7_take 160 = .ok (.ireturn, 1) := by decide +kernel
theorem dX7_take_161 : decode cX7_take 161 = .ok (.aload_n 0, 1) := by decide +kernel
theorem dX7_take_162 : decode cX7_take 162 = .ok (.getfield 81, 3) := by decide +kernel
theorem dX7_take_165 : decode cX7_take 165 = .ok (.iconst 0, 1) := by decide +kernel
theorem dX7_take_166 : decode cX7_take 166 = .ok (.iaload, 1) := by decide +kernel
theorem dX7_take_167 : decode cX7_take 167 = .ok (.bipush 127, 2) := by decide +kernel
theorem dX7_take_169 : decode cX7_take 169 = .ok (.iand, 1) := by decide +kernel
theorem dX7_take_170 : decode cX7_take 170 = .ok (.istore_n 3, 1) := by decide +kernel
theorem dX7_take_171 : decode cX7_take 171 = .ok (.iload_n 3, 1) := by decide +kernel
theorem dX7_take_172 : decode cX7_take 172 = .ok (.aload_n 0, 1) := by decide +kernel
theorem dX7_take_173 : decode cX7_take 173 = .ok (.getfield 32, 3) := by decide +kernel
theorem dX7_take_176 : decode cX7_take 176 = .ok (.iload_n 1, 1) := by decide +kernel
theorem dX7_take_177 : decode cX7_take 177 = .ok (.iaload, 1) := by decide +kernel
theorem dX7_take_178 : decode cX7_take 178 = .ok (.if_icmp .ne 7, 3) := by decide +kernel
theorem dX7_take_181 : decode cX7_take 181 = .ok (.iconst 0, 1) := by decide +kernel
theorem dX7_take_182 : decode cX7_take 182 = .ok (.goto 4, 3) := by decide +kernel
theorem dX7_take_185 : decode cX7_take 185 = .ok (.iconst (-1), 1) := by decide +kernel
theorem dX7_take_186 : decode cX7_take 186 = .ok (.istore 4, 2) := by decide +kernel
theorem dX7_take_188 : decode cX7_take 188 = .ok (.iconst 0, 1) := by decide +kernel
theorem dX7_take_189 : decode cX7_take 189 = .ok (.istore 5, 2) := by decide +kernel
theorem dX7_take_191 : decode cX7_take 191 = .ok (.iload 5, 2) := by decide +kernel
theorem dX7_take_193 : decode cX7_take 193 = .ok (.aload_n 0, 1) := by decide +kernel
theorem dX7_take_194 : decode cX7_take 194 = .ok (.getfield 44, 3) := by decide +kernel
theorem dX7_take_197 : decode cX7_take 197 = .ok (.iload_n 1, 1) := by decide +kernel
theorem dX7_take_198 : decode cX7_take 198 = .ok (.iaload, 1) := by decide +kernel
theorem dX7_take_199 : decode cX7_take 199 = .ok (.if_icmp .ge 36, 3) := by decide +kernel
theorem dX7_take_202 : decode cX7_take 202 = .ok (.aload_n 0, 1) := by decide +kernel
theorem dX7_take_203 : decode cX7_take 203 = .ok (.getfield 47, 3) := by decide +kernel
theorem dX7_take_206 : decode cX7_take 206 = .ok (.bipush 127, 2) := by decide +kernel
theorem dX7_take_208 : decode cX7_take 208 = .ok (.iload_n 1, 1) := by decide +kernel
theorem dX7_take_209 : decode cX7_take 209 = .ok (.imul, 1) := by decide +kernel
theorem dX7_take_210 : decode cX7_take 210 = .ok (.iload 5, 2) := by decide +kernel
theorem dX7_take_212 : decode cX7_take 212 = .ok (.iadd, 1) := by decide +kernel
theorem dX7_take_213 : decode cX7_take 213 = .ok (.iaload, 1) := by decide +kernel
theorem dX7_take_214 : decode cX7_take 214 = .ok (.iload_n 3, 1) := by decide +kernel
theorem dX7_take_215 : decode cX7_take 215 = .ok (.if_icmp .ne 10, 3) := by decide +kernel
theorem dX7_take_218 : decode cX7_take 218 = .ok (.iload 5, 2) := by decide +kernel
theorem dX7_take_220 : decode cX7_take 220 = .ok (.iconst 1, 1) := by decide +kernel
theorem dX7_take_221 : decode cX7_take 221 = .ok (.iadd, 1) := by decide +kernel
theorem dX7_take_222 : decode cX7_take 222 = .ok (.goto 5, 3) := by decide +kernel
theorem dX7_take_225 : decode cX7_take 225 = .ok (.iload 4, 2) := by decide +kernel
theorem dX7_take_227 : decode cX7_take 227 = .ok (.istore 4, 2) := by decide +kernel
theorem dX7_take_229 : decode cX7_take 229 = .ok (.iinc 5 1, 3) := by decide +kernel
theorem dX7_take_232 : decode cX7_take 232 = .ok (.goto (-41), 3) := by decide +kernel
theorem dX7_take_235 : decode cX7_take 235 = .ok (.aload_n 0, 1) := by decide +kernel
theorem dX7_take_236 : decode cX7_take 236 = .ok (.getfield 65, 3) := by decide +kernel
theorem dX7_take_239 : decode cX7_take 239 = .ok (.iload_n 1, 1) := by decide +kernel
theorem dX7_take_240 : decode cX7_take 240 = .ok (.aload_n 0, 1) := by decide +kernel
theorem dX7_take_241 : decode cX7_take 241 = .ok (.getfield 65, 3) := by decide +kernel
theorem dX7_take_244 : decode cX7_take 244 = .ok (.iload_n 1, 1) := by decide +kernel
theorem dX7_take_245 : decode cX7_take 245 = .ok (.iaload, 1) := by decide +kernel
theorem dX7_take_246 : decode cX7_take 246 = .ok (.iconst 1, 1) := by decide +kernel
theorem dX7_take_247 : decode cX7_take 247 = .ok (.ishl, 1) := by decide +kernel
theorem dX7_take_248 : decode cX7_take 248 = .ok (.bipush 7, 2) := by decide +kernel
theorem dX7_take_250 : decode cX7_take 250 = .ok (.iand, 1) := by decide +kernel
theorem dX7_take_251 : decode cX7_take 251 = .ok (.iload 4, 2) := by decide +kernel
theorem dX7_take_253 : decode cX7_take 253 = .ok (.iconst (-1), 1) := by decide +kernel
theorem dX7_take_254 : decode cX7_take 254 = .ok (.if_icmp .ne 7, 3) := by decide +kernel
theorem dX7_take_257 : decode cX7_take 257 = .ok (.iconst 1, 1) := by decide +kernel
theorem dX7_take_258 : decode cX7_take 258 = .ok (.goto 4, 3) := by decide +kernel
theorem dX7_take_261 : decode cX7_take 261 = .ok (.iconst 0, 1) := by decide +kernel
theorem dX7_take_262 : decode cX7_take 262 = .ok (.ior, 1) := by decide +kernel
theorem dX7_take_263 : decode cX7_take 263 = .ok (.iastore, 1) := by decide +kernel
theorem dX7_take_264 : decode cX7_take 264 = .ok (.iload 4, 2) := by decide +kernel
theorem dX7_take_266 : decode cX7_take 266 = .ok (.iconst (-1), 1) := by decide +kernel
theorem dX7_take_267 : decode cX7_take 267 = .ok (.if_icmp .ne 44, 3) := by decide +kernel
theorem dX7_take_270 : decode cX7_take 270 = .ok (.aload_n 0, 1) := by decide +kernel
theorem dX7_take_271 : decode cX7_take 271 = .ok (.getfield 65, 3) := by decide +kernel
theorem dX7_take_274 : decode cX7_take 274 = .ok (.iload_n 1, 1) := by decide +kernel
theorem dX7_take_275 : decode cX7_take 275 = .ok (.iaload, 1) := by decide +kernel
theorem dX7_take_276 : decode cX7_take 276 = .ok (.istore 5, 2) := by decide +kernel
theorem dX7_take_278 : decode cX7_take 278 = .ok (.aload_n 0, 1) := by decide +kernel
theorem dX7_take_279 : decode cX7_take 279 = .ok (.getfield 68, 3) := by decide +kernel
theorem dX7_take_282 : decode cX7_take 282 = .ok (.iload_n 1, 1) := by decide +kernel
theorem dX7_take_283 : decode cX7_take 283 = .ok (.iload 5, 2) := by decide +kernel
theorem dX7_take_285 : decode cX7_take 285 = .ok (.iconst 1, 1) := by decide +kernel
theorem dX7_take_286 : decode cX7_take 286 = .ok (.if_icmp .eq 7, 3) := by decide +kernel
theorem dX7_take_289 : decode cX7_take 289 = .ok (.iconst 1, 1) := by decide +kernel
theorem dX7_take_290 : decode cX7_take 290 = .ok (.goto 4, 3) := by decide +kernel
theorem dX7_take_293 : decode cX7_take 293 = .ok (.iconst 0, 1) := by decide +kernel
theorem dX7_take_294 : decode cX7_take 294 = .ok (.bastore, 1) := by decide +kernel
theorem dX7_take_295 : decode cX7_take 295 = .ok (.aload_n 0, 1) := by decide +kernel
theorem dX7_take_296 : decode cX7_take 296 = .ok (.getfield 68, 3) := by decide +kernel
theorem dX7_take_299 : decode cX7_take 299 = .ok (.iload_n 1, 1) := by decide +kernel
theorem dX7_take_300 : decode cX7_take 300 = .ok (.baload, 1) := by decide +kernel
theorem dX7_take_301 : decode cX7_take 301 = .ok (.ifCond .eq 8, 3) := by decide +kernel
theorem dX7_take_304 : decode cX7_take 304 = .ok (.bipush (-7), 2) := by decide +kernel
theorem dX7_take_306 : decode cX7_take 306 = .ok (.goto 4, 3) := by decide +kernel
theorem dX7_take_309 : decode cX7_take 309 = .ok (.iconst 3, 1) := by decide +kernel
theorem dX7_take_310 : decode cX7_take 310 = .ok (.ireturn, 1) := by decide +kernel
theorem dX7_take_311 : decode cX7_take 311 = .ok (.iconst 0, 1) := by decide +kernel
theorem dX7_take_312 : decode cX7_take 312 = .ok (.istore 5, 2) := by decide +kernel
theorem dX7_take_314 : decode cX7_take 314 = .ok (.iload 5, 2) := by decide +kernel
theorem dX7_take_316 : decode cX7_take 316 = .ok (.iload 4, 2) := by decide +kernel
theorem dX7_take_318 : decode cX7_take 318 = .ok (.iadd, 1) := by decide +kernel
theorem dX7_take_319 : decode cX7_take 319 = .ok (.aload_n 0, 1) := by decide +kernel
theorem dX7_take_320 : decode cX7_take 320 = .ok (.getfield 44, 3) := by decide +kernel
theorem dX7_take_323 : decode cX7_take 323 = .ok (.iload_n 1, 1) := by decide +kernel
theorem dX7_take_324 : decode cX7_take 324 = .ok (.iaload, 1) := by decide +kernel
theorem dX7_take_325 : decode cX7_take 325 = .ok (.if_icmp .ge 90, 3) := by decide +kernel
theorem dX7_take_328 : decode cX7_take 328 = .ok (.aload_n 0, 1) := by decide +kernel
theorem dX7_take_329 : decode cX7_take 329 = .ok (.getfield 47, 3) := by decide +kernel
theorem dX7_take_332 : decode cX7_take 332 = .ok (.bipush 127, 2) := by decide +kernel
theorem dX7_take_334 : decode cX7_take 334 = .ok (.iload_n 1, 1) := by decide +kernel
theorem dX7_take_335 : decode cX7_take 335 = .ok (.imul, 1) := by decide +kernel
theorem dX7_take_336 : decode cX7_take 336 = .ok (.iload 5, 2) := by decide +kernel
theorem dX7_take_338 : decode cX7_take 338 = .ok (.iadd, 1) := by decide +kernel
theorem dX7_take_339 : decode cX7_take 339 = .ok (.aload_n 0, 1) := by decide +kernel
theorem dX7_take_340 : decode cX7_take 340 = .ok (.getfield 47, 3) := by decide +kernel
theorem dX7_take_343 : decode cX7_take 343 = .ok (.bipush 127, 2) := by decide +kernel
theorem dX7_take_345 : decode cX7_take 345 = .ok (.iload_n 1, 1) := by decide +kernel
theorem dX7_take_346 : decode cX7_take 346 = .ok (.imul, 1) := by decide +kernel
theorem dX7_take_347 : decode cX7_take 347 = .ok (.iload 5, 2) := by decide +kernel
theorem dX7_take_349 : decode cX7_take 349 = .ok (.iadd, 1) := by decide +kernel
theorem dX7_take_350 : decode cX7_take 350 = .ok (.iload 4, 2) := by decide +kernel
theorem dX7_take_352 : decode cX7_take 352 = .ok (.iadd, 1) := by decide +kernel
theorem dX7_take_353 : decode cX7_take 353 = .ok (.iaload, 1) := by decide +kernel
theorem dX7_take_354 : decode cX7_take 354 = .ok (.iastore, 1) := by decide +kernel
theorem dX7_take_355 : decode cX7_take 355 = .ok (.aload_n 0, 1) := by decide +kernel
theorem dX7_take_356 : decode cX7_take 356 = .ok (.getfield 50, 3) := by decide +kernel
theorem dX7_take_359 : decode cX7_take 359 = .ok (.bipush 127, 2) := by decide +kernel
theorem dX7_take_361 : decode cX7_take 361 = .ok (.iload_n 1, 1) := by decide +kernel
theorem dX7_take_362 : decode cX7_take 362 = .ok (.imul, 1) := by decide +kernel
theorem dX7_take_363 : decode cX7_take 363 = .ok (.iload 5, 2) := by decide +kernel
theorem dX7_take_365 : decode cX7_take 365 = .ok (.iadd, 1) := by decide +kernel
theorem dX7_take_366 : decode cX7_take 366 = .ok (.aload_n 0, 1) := by decide +kernel
theorem dX7_take_367 : decode cX7_take 367 = .ok (.getfield 50, 3) := by decide +kernel
theorem dX7_take_370 : decode cX7_take 370 = .ok (.bipush 127, 2) := by decide +kernel
theorem dX7_take_372 : decode cX7_take 372 = .ok (.iload_n 1, 1) := by decide +kernel
theorem dX7_take_373 : decode cX7_take 373 = .ok (.imul, 1) := by decide +kernel
theorem dX7_take_374 : decode cX7_take 374 = .ok (.iload 5, 2) := by decide +kernel
theorem dX7_take_376 : decode cX7_take 376 = .ok (.iadd, 1) := by decide +kernel
theorem dX7_take_377 : decode cX7_take 377 = .ok (.iload 4, 2) := by decide +kernel
theorem dX7_take_379 : decode cX7_take 379 = .ok (.iadd, 1) := by decide +kernel
theorem dX7_take_380 : decode cX7_take 380 = .ok (.iaload, 1) := by decide +kernel
theorem dX7_take_381 : decode cX7_take 381 = .ok (.iastore, 1) := by decide +kernel
theorem dX7_take_382 : decode cX7_take 382 = .ok (.aload_n 0, 1) := by decide +kernel
theorem dX7_take_383 : decode cX7_take 383 = .ok (.getfield 53, 3) := by decide +kernel
theorem dX7_take_386 : decode cX7_take 386 = .ok (.bipush 127, 2) := by decide +kernel
theorem dX7_take_388 : decode cX7_take 388 = .ok (.iload_n 1, 1) := by decide +kernel
theorem dX7_take_389 : decode cX7_take 389 = .ok (.imul, 1) := by decide +kernel
theorem dX7_take_390 : decode cX7_take 390 = .ok (.iload 5, 2) := by decide +kernel
theorem dX7_take_392 : decode cX7_take 392 = .ok (.iadd, 1) := by decide +kernel
theorem dX7_take_393 : decode cX7_take 393 = .ok (.aload_n 0, 1) := by decide +kernel
theorem dX7_take_394 : decode cX7_take 394 = .ok (.getfield 53, 3) := by decide +kernel
theorem dX7_take_397 : decode cX7_take 397 = .ok (.bipush 127, 2) := by decide +kernel
theorem dX7_take_399 : decode cX7_take 399 = .ok (.iload_n 1, 1) := by decide +kernel
theorem dX7_take_400 : decode cX7_take 400 = .ok (.imul, 1) := by decide +kernel
theorem dX7_take_401 : decode cX7_take 401 = .ok (.iload 5, 2) := by decide +kernel
theorem dX7_take_403 : decode cX7_take 403 = .ok (.iadd, 1) := by decide +kernel
theorem dX7_take_404 : decode cX7_take 404 = .ok (.iload 4, 2) := by decide +kernel
theorem dX7_take_406 : decode cX7_take 406 = .ok (.iadd, 1) := by decide +kernel
theorem dX7_take_407 : decode cX7_take 407 = .ok (.iaload, 1) := by decide +kernel
theorem dX7_take_408 : decode cX7_take 408 = .ok (.iastore, 1) := by decide +kernel
theorem dX7_take_409 : decode cX7_take 409 = .ok (.iinc 5 1, 3) := by decide +kernel
theorem dX7_take_412 : decode cX7_take 412 = .ok (.goto (-98), 3) := by decide +kernel
theorem dX7_take_415 : decode cX7_take 415 = .ok (.aload_n 0, 1) := by decide +kernel
theorem dX7_take_416 : decode cX7_take 416 = .ok (.getfield 44, 3) := by decide +kernel
theorem dX7_take_419 : decode cX7_take 419 = .ok (.iload_n 1, 1) := by decide +kernel
theorem dX7_take_420 : decode cX7_take 420 = .ok (.dup2, 1) := by decide +kernel
theorem dX7_take_421 : decode cX7_take 421 = .ok (.iaload, 1) := by decide +kernel
theorem dX7_take_422 : decode cX7_take 422 = .ok (.iload 4, 2) := by decide +kernel
theorem dX7_take_424 : decode cX7_take 424 = .ok (.isub, 1) := by decide +kernel
theorem dX7_take_425 : decode cX7_take 425 = .ok (.iastore, 1) := by decide +kernel
theorem dX7_take_426 : decode cX7_take 426 = .ok (.aload_n 0, 1) := by decide +kernel
theorem dX7_take_427 : decode cX7_take 427 = .ok (.getfield 56, 3) := by decide +kernel
theorem dX7_take_430 : decode cX7_take 430 = .ok (.iload_n 1, 1) := by decide +kernel
theorem dX7_take_431 : decode cX7_take 431 = .ok (.aload_n 0, 1) := by decide +kernel
theorem dX7_take_432 : decode cX7_take 432 = .ok (.getfield 56, 3) := by decide +kernel
theorem dX7_take_435 : decode cX7_take 435 = .ok (.iload_n 1, 1) := by decide +kernel
theorem dX7_take_436 : decode cX7_take 436 = .ok (.iaload, 1) := by decide +kernel
theorem dX7_take_437 : decode cX7_take 437 = .ok (.iload 4, 2) := by decide +kernel
theorem dX7_take_439 : decode cX7_take 439 = .ok (.if_icmp .le 15, 3) := by decide +kernel
theorem dX7_take_442 : decode cX7_take 442 = .ok (.aload_n 0, 1) := by decide +kernel
theorem dX7_take_443 : decode cX7_take 443 = .ok (.getfield 56, 3) := by decide +kernel
theorem dX7_take_446 : decode cX7_take 446 = .ok (.iload_n 1, 1) := by decide +kernel
theorem dX7_take_447 : decode cX7_take 447 = .ok (.iaload, 1) := by decide +kernel
theorem dX7_take_448 : decode cX7_take 448 = .ok (.iload 4, 2) := by decide +kernel
theorem dX7_take_450 : decode cX7_take 450 = .ok (.isub, 1) := by decide +kernel
theorem dX7_take_451 : decode cX7_take 451 = .ok (.goto 4, 3) := by decide +kernel
theorem dX7_take_454 : decode cX7_take 454 = .ok (.iconst 0, 1) := by decide +kernel
theorem dX7_take_455 : decode cX7_take 455 = .ok (.iastore, 1) := by decide +kernel
theorem dX7_take_456 : decode cX7_take 456 = .ok (.aload_n 0, 1) := by decide +kernel
theorem dX7_take_457 : decode cX7_take 457 = .ok (.getfield 32, 3) := by decide +kernel
theorem dX7_take_460 : decode cX7_take 460 = .ok (.iload_n 1, 1) := by decide +kernel
theorem dX7_take_461 : decode cX7_take 461 = .ok (.iload_n 3, 1) := by decide +kernel
theorem dX7_take_462 : decode cX7_take 462 = .ok (.iastore, 1) := by decide +kernel
theorem dX7_take_463 : decode cX7_take 463 = .ok (.aload_n 0, 1) := by decide +kernel
theorem dX7_take_464 : decode cX7_take 464 = .ok (.getfield 81, 3) := by decide +kernel
theorem dX7_take_467 : decode cX7_take 467 = .ok (.iconst 0, 1) := by decide +kernel
theorem dX7_take_468 : decode cX7_take 468 = .ok (.iaload, 1) := by decide +kernel
theorem dX7_take_469 : decode cX7_take 469 = .ok (.bipush 7, 2) := by decide +kernel
theorem dX7_take_471 : decode cX7_take 471 = .ok (.ishr, 1) := by decide +kernel
theorem dX7_take_472 : decode cX7_take 472 = .ok (.aload_n 0, 1) := by decide +kernel
theorem dX7_take_473 : decode cX7_take 473 = .ok (.getfield 20, 3) := by decide +kernel
theorem dX7_take_476 : decode cX7_take 476 = .ok (.iload_n 1, 1) := by decide +kernel
theorem dX7_take_477 : decode cX7_take 477 = .ok (.iaload, 1) := by decide +kernel
theorem dX7_take_478 : decode cX7_take 478 = .ok (.if_icmp .eq 24, 3) := by decide +kernel
theorem dX7_take_481 : decode cX7_take 481 = .ok (.aload_n 0, 1) := by decide +kernel
theorem dX7_take_482 : decode cX7_take 482 = .ok (.getfield 20, 3) := by decide +kernel
theorem dX7_take_485 : decode cX7_take 485 = .ok (.iload_n 1, 1) := by decide +kernel
theorem dX7_take_486 : decode cX7_take 486 = .ok (.iconst 1, 1) := by decide +kernel
theorem dX7_take_487 : decode cX7_take 487 = .ok (.aload_n 0, 1) := by decide +kernel
theorem dX7_take_488 : decode cX7_take 488 = .ok (.getfield 20, 3) := by decide +kernel
theorem dX7_take_491 : decode cX7_take 491 = .ok (.iload_n 1, 1) := by decide +kernel
theorem dX7_take_492 : decode cX7_take 492 = .ok (.iaload, 1) := by decide +kernel
theorem dX7_take_493 : decode cX7_take 493 = .ok (.isub, 1) := by decide +kernel
theorem dX7_take_494 : decode cX7_take 494 = .ok (.iastore, 1) := by decide +kernel
theorem dX7_take_495 : decode cX7_take 495 = .ok (.aload_n 0, 1) := by decide +kernel
theorem dX7_take_496 : decode cX7_take 496 = .ok (.getfield 56, 3) := by decide +kernel
theorem dX7_take_499 : decode cX7_take 499 = .ok (.iload_n 1, 1) := by decide +kernel
theorem dX7_take_500 : decode cX7_take 500 = .ok (.iconst 0, 1) := by decide +kernel
theorem dX7_take_501 : decode cX7_take 501 = .ok (.iastore, 1) := by decide +kernel
theorem dX7_take_502 : decode cX7_take 502 = .ok (.aload_n 0, 1) := by decide +kernel
theorem dX7_take_503 : decode cX7_take 503 = .ok (.iload_n 1, 1) := by decide +kernel
theorem dX7_take_504 : decode cX7_take 504 = .ok (.invokevirtual 137, 3) := by decide +kernel
theorem dX7_take_507 : decode cX7_take 507 = .ok (.ireturn, 1) := by decide +kernel
theorem dX7_forwards_0 : decode cX7_forwards 0 = .ok (.aload_n 0, 1) := by decide +kernel
theorem dX7_forwards_1 : decode cX7_forwards 1 = .ok (.getfield 81, 3) := by decide +kernel
theorem dX7_forwards_4 : decode cX7_forwards 4 = .ok (.iconst 1, 1) := by decide +kernel
theorem dX7_forwards_5 : decode cX7_forwards 5 = .ok (.iaload, 1) := by decide +kernel
theorem dX7_forwards_6 : decode cX7_forwards 6 = .ok (.bipush 127, 2) := by decide +kernel
theorem dX7_forwards_8 : decode cX7_forwards 8 = .ok (.iand, 1) := by decide +kernel
theorem dX7_forwards_9 : decode cX7_forwards 9 = .ok (.istore_n 2, 1) := by decide +kernel
theorem dX7_forwards_10 : decode cX7_forwards 10 = .ok (.aload_n 0, 1) := by decide +kernel
theorem dX7_forwards_11 : decode cX7_forwards 11 = .ok (.getfield 128, 3) := by decide +kernel
theorem dX7_forwards_14 : decode cX7_forwards 14 = .ok (.iconst 5, 1) := by decide +kernel
theorem dX7_forwards_15 : decode cX7_forwards 15 = .ok (.if_icmp .le 7, 3) := by decide +kernel
theorem dX7_forwards_18 : decode cX7_forwards 18 = .ok (.iconst 1, 1) := by decide +kernel
theorem dX7_forwards_19 : decode cX7_forwards 19 = .ok (.goto 4, 3) := by decide +kernel
theorem dX7_forwards_22 : decode cX7_forwards 22 = .ok (.iconst 0, 1) := by decide +kernel
theorem dX7_forwards_23 : decode cX7_forwards 23 = .ok (.istore_n 3, 1) := by decide +kernel
theorem dX7_forwards_24 : decode cX7_forwards 24 = .ok (.aload_n 0, 1) := by decide +kernel
theorem dX7_forwards_25 : decode cX7_forwards 25 = .ok (.getfield 81, 3) := by decide +kernel
theorem dX7_forwards_28 : decode cX7_forwards 28 = .ok (.iconst 1, 1) := by decide +kernel
theorem dX7_forwards_29 : decode cX7_forwards 29 = .ok (.iaload, 1) := by decide +kernel
theorem dX7_forwards_30 : decode cX7_forwards 30 = .ok (.bipush 7, 2) := by decide +kernel
theorem dX7_forwards_32 : decode cX7_forwards 32 = .ok (.ishr, 1) := by decide +kernel
theorem dX7_forwards_33 : decode cX7_forwards 33 = .ok (.aload_n 0, 1) := by decide +kernel
theorem dX7_forwards_34 : decode cX7_forwards 34 = .ok (.getfield 23, 3) := by decide +kernel
theorem dX7_forwards_37 : decode cX7_forwards 37 = .ok (.iload_n 1, 1) := by decide +kernel
theorem dX7_forwards_38 : decode cX7_forwards 38 = .ok (.iaload, 1) := by decide +kernel
theorem dX7_forwards_39 : decode cX7_forwards 39 = .ok (.if_icmp .ne 13, 3) := by decide +kernel
theorem dX7_forwards_42 : decode cX7_forwards 42 = .ok (.iload_n 2, 1) := by decide +kernel
theorem dX7_forwards_43 : decode cX7_forwards 43 = .ok (.aload_n 0, 1) := by decide +kernel
theorem dX7_forwards_44 : decode cX7_forwards 44 = .ok (.getfield 29, 3) := by decide +kernel
theorem dX7_forwards_47 : decode cX7_forwards 47 = .ok (.iload_n 1, 1) := by decide +kernel
theorem dX7_forwards_48 : decode cX7_forwards 48 = .ok (.iaload, 1) := by decide +kernel
theorem dX7_forwards_49 : decode cX7_forwards 49 = .ok (.if_icmp .ne 5, 3) := by decide +kernel
theorem dX7_forwards_52 : decode cX7_forwards 52 = .ok (.iconst 0, 1) := by decide +kernel
theorem dX7_forwards_53 : decode cX7_forwards 53 = .ok (.ireturn, 1) := by decide +kernel
theorem dX7_forwards_54 : decode cX7_forwards 54 = .ok (.iload_n 3, 1) := by decide +kernel
theorem dX7_forwards_55 : decode cX7_forwards 55 = .ok (.ifCond .eq 18, 3) := by decide +kernel
theorem dX7_forwards_58 : decode cX7_forwards 58 = .ok (.iload_n 2, 1) := by decide +kernel
theorem dX7_forwards_59 : decode cX7_forwards 59 = .ok (.aload_n 0, 1) := by decide +kernel
theorem dX7_forwards_60 : decode cX7_forwards 60 = .ok (.getfield 29, 3) := by decide +kernel
theorem dX7_forwards_63 : decode cX7_forwards 63 = .ok (.iload_n 1, 1) := by decide +kernel
theorem dX7_forwards_64 : decode cX7_forwards 64 = .ok (.iaload, 1) := by decide +kernel
theorem dX7_forwards_65 : decode cX7_forwards 65 = .ok (.iconst 1, 1) := by decide +kernel
theorem dX7_forwards_66 : decode cX7_forwards 66 = .ok (.iadd, 1) := by decide +kernel
theorem dX7_forwards_67 : decode cX7_forwards 67 = .ok (.bipush 127, 2) := by decide +kernel
theorem dX7_forwards_69 : decode cX7_forwards 69 = .ok (.iand, 1) := by decide +kernel
theorem dX7_forwards_70 : decode cX7_forwards 70 = .ok (.if_icmp .eq 19, 3) := by decide +kernel
theorem dX7_forwards_73 : decode cX7_forwards 73 = .ok (.aload_n 0, 1) := by decide +kernel
theorem dX7_forwards_74 : decode cX7_forwards 74 = .ok (.getfield 23, 3) := by decide +kernel
theorem dX7_forwards_77 : decode cX7_forwards 77 = .ok (.iload_n 1, 1) := by decide +kernel
theorem dX7_forwards_78 : decode cX7_forwards 78 = .ok (.iconst 1, 1) := by decide +kernel
theorem dX7_forwards_79 : decode cX7_forwards 79 = .ok (.aload_n 0, 1) := by decide +kernel
theorem dX7_forwards_80 : decode cX7_forwards 80 = .ok (.getfield 23, 3) := by decide +kernel
theorem dX7_forwards_83 : decode cX7_forwards 83 = .ok (.iload_n 1, 1) := by decide +kernel
theorem dX7_forwards_84 : decode cX7_forwards 84 = .ok (.iaload, 1) := by decide +kernel
theorem dX7_forwards_85 : decode cX7_forwards 85 = .ok (.isub, 1) := by decide +kernel
theorem dX7_forwards_86 : decode cX7_forwards 86 = .ok (.iastore, 1) := by decide +kernel
theorem dX7_forwards_87 : decode cX7_forwards 87 = .ok (.iconst 2, 1) := by decide +kernel
theorem dX7_forwards_88 : decode cX7_forwards 88 = .ok (.ireturn, 1) := by decide +kernel
theorem dX7_forwards_89 : decode cX7_forwards 89 = .ok (.aload_n 0, 1) := by decide +kernel
theorem dX7_forwards_90 : decode cX7_forwards 90 = .ok (.getfield 29, 3) := by decide +kernel
theorem dX7_forwards_93 : decode cX7_forwards 93 = .ok (.iload_n 1, 1) := by decide +kernel
theorem dX7_forwards_94 : decode cX7_forwards 94 = .ok (.iload_n 2, 1) := by decide +kernel
theorem dX7_forwards_95 : decode cX7_forwards 95 = .ok (.iastore, 1) := by decide +kernel
theorem dX7_forwards_96 : decode cX7_forwards 96 = .ok (.bipush 50, 2) := by decide +kernel
theorem dX7_forwards_98 : decode cX7_forwards 98 = .ok (.iload_n 1, 1) := by decide +kernel
theorem dX7_forwards_99 : decode cX7_forwards 99 = .ok (.imul, 1) := by decide +kernel
theorem dX7_forwards_100 : decode cX7_forwards 100 = .ok (.aload_n 0, 1) := by decide +kernel
theorem dX7_forwards_101 : decode cX7_forwards 101 = .ok (.getfield 72, 3) := by decide +kernel
theorem dX7_forwards_104 : decode cX7_forwards 104 = .ok (.iload_n 1, 1) := by decide +kernel
theorem dX7_forwards_105 : decode cX7_forwards 105 = .ok (.iaload, 1) := by decide +kernel
theorem dX7_forwards_106 : decode cX7_forwards 106 = .ok (.bipush 50, 2) := by decide +kernel
end
section
theorem dX7_forwards_108 : decode cX7_forwards 108 = .ok (.irem, 1) := by decide +kernel
theorem dX7_forwards_109 : decode cX7_forwards 109 = .ok (.iadd, 1) := by decide +kernel
theorem dX7_forwards_110 : decode cX7_forwards 110 = .ok (.istore 4, 2) := by decide +kernel
theorem dX7_forwards_112 : decode cX7_forwards 112 = .ok (.aload_n 0, 1) := by decide +kernel
theorem dX7_forwards_113 : decode cX7_forwards 113 = .ok (.getfield 75, 3) := by decide +kernel
theorem dX7_forwards_116 : decode cX7_forwards 116 = .ok (.iload 4, 2) := by decide +kernel
theorem dX7_forwards_118 : decode cX7_forwards 118 = .ok (.aload_n 0, 1) := by decide +kernel
theorem dX7_forwards_119 : decode cX7_forwards 119 = .ok (.getfield 128, 3) := by decide +kernel
theorem dX7_forwards_122 : decode cX7_forwards 122 = .ok (.iconst 5, 1) := by decide +kernel
theorem dX7_forwards_123 : decode cX7_forwards 123 = .ok (.isub, 1) := by decide +kernel
theorem dX7_forwards_124 : decode cX7_forwards 124 = .ok (.iastore, 1) := by decide +kernel
theorem dX7_forwards_125 : decode cX7_forwards 125 = .ok (.iconst 0, 1) := by decide +kernel
theorem dX7_forwards_126 : decode cX7_forwards 126 = .ok (.istore 5, 2) := by decide +kernel
theorem dX7_forwards_128 : decode cX7_forwards 128 = .ok (.iload 5, 2) := by decide +kernel
theorem dX7_forwards_130 : decode cX7_forwards 130 = .ok (.aload_n 0, 1) := by decide +kernel
theorem dX7_forwards_131 : decode cX7_forwards 131 = .ok (.getfield 128, 3) := by decide +kernel
theorem dX7_forwards_134 : decode cX7_forwards 134 = .ok (.iconst 5, 1) := by decide +kernel
theorem dX7_forwards_135 : decode cX7_forwards 135 = .ok (.isub, 1) := by decide +kernel
theorem dX7_forwards_136 : decode cX7_forwards 136 = .ok (.if_icmp .ge 32, 3) := by decide +kernel
theorem dX7_forwards_139 : decode cX7_forwards 139 = .ok (.aload_n 0, 1) := by decide +kernel
theorem dX7_forwards_140 : decode cX7_forwards 140 = .ok (.getfield 78, 3) := by decide +kernel
theorem dX7_forwards_143 : decode cX7_forwards 143 = .ok (.sipush 272, 3) := by decide +kernel
theorem dX7_forwards_146 : decode cX7_forwards 146 = .ok (.iload 4, 2) := by decide +kernel
theorem dX7_forwards_148 : decode cX7_forwards 148 = .ok (.imul, 1) := by decide +kernel
theorem dX7_forwards_149 : decode cX7_forwards 149 = .ok (.iload 5, 2) := by decide +kernel
theorem dX7_forwards_151 : decode cX7_forwards 151 = .ok (.iadd, 1) := by decide +kernel
theorem dX7_forwards_152 : decode cX7_forwards 152 = .ok (.aload_n 0, 1) := by decide +kernel
theorem dX7_forwards_153 : decode cX7_forwards 153 = .ok (.getfield 81, 3) := by decide +kernel
theorem dX7_forwards_156 : decode cX7_forwards 156 = .ok (.iconst 3, 1) := by decide +kernel
theorem dX7_forwards_157 : decode cX7_forwards 157 = .ok (.iload 5, 2) := by decide +kernel
theorem dX7_forwards_159 : decode cX7_forwards 159 = .ok (.iadd, 1) := by decide +kernel
theorem dX7_forwards_160 : decode cX7_forwards 160 = .ok (.iaload, 1) := by decide +kernel
theorem dX7_forwards_161 : decode cX7_forwards 161 = .ok (.iastore, 1) := by decide +kernel
theorem dX7_forwards_162 : decode cX7_forwards 162 = .ok (.iinc 5 1, 3) := by decide +kernel
theorem dX7_forwards_165 : decode cX7_forwards 165 = .ok (.goto (-37), 3) := by decide +kernel
theorem dX7_forwards_168 : decode cX7_forwards 168 = .ok (.aload_n 0, 1) := by decide +kernel
theorem dX7_forwards_169 : decode cX7_forwards 169 = .ok (.getfield 72, 3) := by decide +kernel
theorem dX7_forwards_172 : decode cX7_forwards 172 = .ok (.iload_n 1, 1) := by decide +kernel
theorem dX7_forwards_173 : decode cX7_forwards 173 = .ok (.dup2, 1) := by decide +kernel
theorem dX7_forwards_174 : decode cX7_forwards 174 = .ok (.iaload, 1) := by decide +kernel
theorem dX7_forwards_175 : decode cX7_forwards 175 = .ok (.iconst 1, 1) := by decide +kernel
theorem dX7_forwards_176 : decode cX7_forwards 176 = .ok (.iadd, 1) := by decide +kernel
theorem dX7_forwards_177 : decode cX7_forwards 177 = .ok (.iastore, 1) := by decide +kernel
theorem dX7_forwards_178 : decode cX7_forwards 178 = .ok (.iconst 1, 1) := by decide +kernel
theorem dX7_forwards_179 : decode cX7_forwards 179 = .ok (.ireturn, 1) := by decide +kernel
set_option maxRecDepth 20000 in
theorem ggX7_isFrame_X7_isEnd : GoodIn wsX7_isFrame wsX7_isEnd := goodIn_r _ [5] (by decide +kernel) (by decide +kernel)
set_option maxRecDepth 20000 in
theorem gX7_isFrame_X7_isEnd : GoodIn wsX7_isFrame (va_wsS RX7 107 yX7_isEnd wsX7_isEnd) := goodIn_app (goodIn_of _ (by decide +kernel)) ggX7_isFrame_X7_isEnd
theorem dX7_isFrame_0 : decode cX7_isFrame 0 = .ok (.iload_n 1, 1) := by decide +kernel
theorem dX7_isFrame_1 : decode cX7_isFrame 1 = .ok (.invokestatic 107, 3) := by decide +kernel
theorem dX7_isFrame_4 : decode cX7_isFrame 4 = .ok (.ifCond .eq 21, 3) := by decide +kernel
theorem dX7_isFrame_7 : decode cX7_isFrame 7 = .ok (.iload_n 2, 1) := by decide +kernel
theorem dX7_isFrame_8 : decode cX7_isFrame 8 = .ok (.ifCond .lt 17, 3) := by decide +kernel
theorem dX7_isFrame_11 : decode cX7_isFrame 11 = .ok (.iload_n 2, 1) := by decide +kernel
theorem dX7_isFrame_12 : decode cX7_isFrame 12 = .ok (.aload_n 0, 1) := by decide +kernel
theorem dX7_isFrame_13 : decode cX7_isFrame 13 = .ok (.getfield 7, 3) := by decide +kernel
theorem dX7_isFrame_16 : decode cX7_isFrame 16 = .ok (.iload_n 1, 1) := by decide +kernel
theorem dX7_isFrame_17 : decode cX7_isFrame 17 = .ok (.iaload, 1) := by decide +kernel
theorem dX7_isFrame_18 : decode cX7_isFrame 18 = .ok (.if_icmp .ge 7, 3) := by decide +kernel
theorem dX7_isFrame_21 : decode cX7_isFrame 21 = .ok (.iconst 1, 1) := by decide +kernel
theorem dX7_isFrame_22 : decode cX7_isFrame 22 = .ok (.goto 4, 3) := by decide +kernel
theorem dX7_isFrame_25 : decode cX7_isFrame 25 = .ok (.iconst 0, 1) := by decide +kernel
theorem dX7_isFrame_26 : decode cX7_isFrame 26 = .ok (.ireturn, 1) := by decide +kernel
set_option maxRecDepth 20000 in
theorem ggX7_flip_X7_isFrame : GoodIn wsX7_flip wsX7_isFrame := goodIn_r _ [7, 8, 9, 10, 6, 11, 17, 18, 19, 20, 21, 22, 23, 24, 25, 26, 27, 28, 29, 30, 31, 32, 33, 34, 35, 36, 37, 38, 39, 40, 41, 42, 43] (by decide +kernel) (by decide +kernel)
set_option maxRecDepth 20000 in
theorem gX7_flip_X7_isFrame : GoodIn wsX7_flip (wsV RX7 140 RX7 yX7_isFrame wsX7_isFrame) := goodIn_app (goodIn_of _ (by decide +kernel)) ggX7_flip_X7_isFrame
set_option maxRecDepth 20000 in
theorem ggX7_flip_X7_refuses : GoodIn wsX7_flip wsX7_refuses := goodIn_r _ [15, 16, 17, 18, 19, 20, 21, 22, 23, 24, 25, 26, 27, 28, 29, 30, 31, 32, 33, 34, 35, 36, 37, 38, 39, 40, 41, 42, 43] (by decide +kernel) (by decide +kernel)
set_option maxRecDepth 20000 in
theorem gX7_flip_X7_refuses : GoodIn wsX7_flip (wsV RX7 101 RX7 yX7_refuses wsX7_refuses) := goodIn_app (goodIn_of _ (by decide +kernel)) ggX7_flip_X7_refuses
theorem dX7_flip_0 : decode cX7_flip 0 = .ok (.aload_n 0, 1) := by decide +kernel
theorem dX7_flip_1 : decode cX7_flip 1 = .ok (.aload_n 0, 1) := by decide +kernel
theorem dX7_flip_2 : decode cX7_flip 2 = .ok (.iload_n 1, 1) := by decide +kernel
theorem dX7_flip_3 : decode cX7_flip 3 = .ok (.iload_n 2, 1) := by decide +kernel
theorem dX7_flip_4 : decode cX7_flip 4 = .ok (.invokevirtual 140, 3) := by decide +kernel
theorem dX7_flip_7 : decode cX7_flip 7 = .ok (.ifCond .eq 22, 3) := by decide +kernel
theorem dX7_flip_10 : decode cX7_flip 10 = .ok (.iload_n 3, 1) := by decide +kernel
theorem dX7_flip_11 : decode cX7_flip 11 = .ok (.ifCond .lt 18, 3) := by decide +kernel
theorem dX7_flip_14 : decode cX7_flip 14 = .ok (.iload_n 3, 1) := by decide +kernel
theorem dX7_flip_15 : decode cX7_flip 15 = .ok (.aload_n 0, 1) := by decide +kernel
theorem dX7_flip_16 : decode cX7_flip 16 = .ok (.getfield 13, 3) := by decide +kernel
theorem dX7_flip_19 : decode cX7_flip 19 = .ok (.bipush 40, 2) := by decide +kernel
theorem dX7_flip_21 : decode cX7_flip 21 = .ok (.iload_n 1, 1) := by decide +kernel
theorem dX7_flip_22 : decode cX7_flip 22 = .ok (.imul, 1) := by decide +kernel
theorem dX7_flip_23 : decode cX7_flip 23 = .ok (.iload_n 2, 1) := by decide +kernel
theorem dX7_flip_24 : decode cX7_flip 24 = .ok (.iadd, 1) := by decide +kernel
theorem dX7_flip_25 : decode cX7_flip 25 = .ok (.iaload, 1) := by decide +kernel
theorem dX7_flip_26 : decode cX7_flip 26 = .ok (.if_icmp .lt 7, 3) := by decide +kernel
theorem dX7_flip_29 : decode cX7_flip 29 = .ok (.iconst 1, 1) := by decide +kernel
theorem dX7_flip_30 : decode cX7_flip 30 = .ok (.goto 4, 3) := by decide +kernel
theorem dX7_flip_33 : decode cX7_flip 33 = .ok (.iconst 0, 1) := by decide +kernel
theorem dX7_flip_34 : decode cX7_flip 34 = .ok (.invokevirtual 101, 3) := by decide +kernel
theorem dX7_flip_37 : decode cX7_flip 37 = .ok (.ifCond .eq 5, 3) := by decide +kernel
theorem dX7_flip_40 : decode cX7_flip 40 = .ok (.iconst 0, 1) := by decide +kernel
theorem dX7_flip_41 : decode cX7_flip 41 = .ok (.ireturn, 1) := by decide +kernel
theorem dX7_flip_42 : decode cX7_flip 42 = .ok (.sipush 3000, 3) := by decide +kernel
theorem dX7_flip_45 : decode cX7_flip 45 = .ok (.bipush 40, 2) := by decide +kernel
theorem dX7_flip_47 : decode cX7_flip 47 = .ok (.iload_n 1, 1) := by decide +kernel
theorem dX7_flip_48 : decode cX7_flip 48 = .ok (.imul, 1) := by decide +kernel
theorem dX7_flip_49 : decode cX7_flip 49 = .ok (.iload_n 2, 1) := by decide +kernel
theorem dX7_flip_50 : decode cX7_flip 50 = .ok (.iadd, 1) := by decide +kernel
theorem dX7_flip_51 : decode cX7_flip 51 = .ok (.imul, 1) := by decide +kernel
theorem dX7_flip_52 : decode cX7_flip 52 = .ok (.iload_n 3, 1) := by decide +kernel
theorem dX7_flip_53 : decode cX7_flip 53 = .ok (.iadd, 1) := by decide +kernel
theorem dX7_flip_54 : decode cX7_flip 54 = .ok (.istore 4, 2) := by decide +kernel
theorem dX7_flip_56 : decode cX7_flip 56 = .ok (.aload_n 0, 1) := by decide +kernel
theorem dX7_flip_57 : decode cX7_flip 57 = .ok (.getfield 17, 3) := by decide +kernel
theorem dX7_flip_60 : decode cX7_flip 60 = .ok (.iload 4, 2) := by decide +kernel
theorem dX7_flip_62 : decode cX7_flip 62 = .ok (.iconst 1, 1) := by decide +kernel
theorem dX7_flip_63 : decode cX7_flip 63 = .ok (.aload_n 0, 1) := by decide +kernel
theorem dX7_flip_64 : decode cX7_flip 64 = .ok (.getfield 17, 3) := by decide +kernel
theorem dX7_flip_67 : decode cX7_flip 67 = .ok (.iload 4, 2) := by decide +kernel
theorem dX7_flip_69 : decode cX7_flip 69 = .ok (.iaload, 1) := by decide +kernel
theorem dX7_flip_70 : decode cX7_flip 70 = .ok (.isub, 1) := by decide +kernel
theorem dX7_flip_71 : decode cX7_flip 71 = .ok (.iastore, 1) := by decide +kernel
theorem dX7_flip_72 : decode cX7_flip 72 = .ok (.aload_n 0, 1) := by decide +kernel
theorem dX7_flip_73 : decode cX7_flip 73 = .ok (.getfield 17, 3) := by decide +kernel
theorem dX7_flip_76 : decode cX7_flip 76 = .ok (.iload 4, 2) := by decide +kernel
theorem dX7_flip_78 : decode cX7_flip 78 = .ok (.iaload, 1) := by decide +kernel
theorem dX7_flip_79 : decode cX7_flip 79 = .ok (.ireturn, 1) := by decide +kernel
set_option maxRecDepth 20000 in
theorem ggX7_drop_X7_isFrame : GoodIn wsX7_drop wsX7_isFrame := goodIn_r _ [6, 7, 8, 9, 5, 10, 21, 22, 23, 24, 25, 26, 27, 28, 29, 30, 31, 32, 33, 34, 35, 36, 37, 38, 39, 40, 41, 42, 43, 44, 45, 46, 47] (by decide +kernel) (by decide +kernel)
set_option maxRecDepth 20000 in
theorem gX7_drop_X7_isFrame : GoodIn wsX7_drop (wsV RX7 140 RX7 yX7_isFrame wsX7_isFrame) := goodIn_app (goodIn_of _ (by decide +kernel)) ggX7_drop_X7_isFrame
set_option maxRecDepth 20000 in
theorem ggX7_drop_X7_refuses : GoodIn wsX7_drop wsX7_refuses := goodIn_r _ [14, 15, 21, 22, 23, 24, 25, 26, 27, 28, 29, 30, 31, 32, 33, 34, 35, 36, 37, 38, 39, 40, 41, 42, 43, 44, 45, 46, 47] (by decide +kernel) (by decide +kernel)
set_option maxRecDepth 20000 in
theorem gX7_drop_X7_refuses : GoodIn wsX7_drop (wsV RX7 101 RX7 yX7_refuses wsX7_refuses) := goodIn_app (goodIn_of _ (by decide +kernel)) ggX7_drop_X7_refuses
set_option maxRecDepth 20000 in
theorem ggX7_drop_X7_goes : GoodIn wsX7_drop wsX7_goes := goodIn_r _ [19, 7, 1, 20, 21, 22, 23, 24, 25, 26, 27, 28, 29, 30, 31, 32, 33, 34, 35, 36, 37, 38, 39, 40, 41, 42, 43, 44, 45, 46, 47] (by decide +kernel) (by decide +kernel)
set_option maxRecDepth 20000 in
theorem gX7_drop_X7_goes : GoodIn wsX7_drop (wsV RX7 134 RX7 yX7_goes wsX7_goes) := goodIn_app (goodIn_of _ (by decide +kernel)) ggX7_drop_X7_goes
theorem dX7_drop_0 : decode cX7_drop 0 = .ok (.aload_n 0, 1) := by decide +kernel
theorem dX7_drop_1 : decode cX7_drop 1 = .ok (.aload_n 0, 1) := by decide +kernel
theorem dX7_drop_2 : decode cX7_drop 2 = .ok (.iload_n 1, 1) := by decide +kernel
theorem dX7_drop_3 : decode cX7_drop 3 = .ok (.iload_n 2, 1) := by decide +kernel
theorem dX7_drop_4 : decode cX7_drop 4 = .ok (.invokevirtual 140, 3) := by decide +kernel
theorem dX7_drop_7 : decode cX7_drop 7 = .ok (.ifCond .eq 7, 3) := by decide +kernel
theorem dX7_drop_10 : decode cX7_drop 10 = .ok (.iconst 0, 1) := by decide +kernel
theorem dX7_drop_11 : decode cX7_drop 11 = .ok (.goto 4, 3) := by decide +kernel
theorem dX7_drop_14 : decode cX7_drop 14 = .ok (.iconst 1, 1) := by decide +kernel
theorem dX7_drop_15 : decode cX7_drop 15 = .ok (.invokevirtual 101, 3) := by decide +kernel
theorem dX7_drop_18 : decode cX7_drop 18 = .ok (.ifCond .eq 5, 3) := by decide +kernel
theorem dX7_drop_21 : decode cX7_drop 21 = .ok (.iconst 0, 1) := by decide +kernel
theorem dX7_drop_22 : decode cX7_drop 22 = .ok (.ireturn, 1) := by decide +kernel
theorem dX7_drop_23 : decode cX7_drop 23 = .ok (.aload_n 0, 1) := by decide +kernel
theorem dX7_drop_24 : decode cX7_drop 24 = .ok (.getfield 13, 3) := by decide +kernel
theorem dX7_drop_27 : decode cX7_drop 27 = .ok (.bipush 40, 2) := by decide +kernel
theorem dX7_drop_29 : decode cX7_drop 29 = .ok (.iload_n 1, 1) := by decide +kernel
theorem dX7_drop_30 : decode cX7_drop 30 = .ok (.imul, 1) := by decide +kernel
theorem dX7_drop_31 : decode cX7_drop 31 = .ok (.iload_n 2, 1) := by decide +kernel
theorem dX7_drop_32 : decode cX7_drop 32 = .ok (.iadd, 1) := by decide +kernel
theorem dX7_drop_33 : decode cX7_drop 33 = .ok (.iaload, 1) := by decide +kernel
theorem dX7_drop_34 : decode cX7_drop 34 = .ok (.istore_n 3, 1) := by decide +kernel
theorem dX7_drop_35 : decode cX7_drop 35 = .ok (.aload_n 0, 1) := by decide +kernel
theorem dX7_drop_36 : decode cX7_drop 36 = .ok (.iload_n 1, 1) := by decide +kernel
theorem dX7_drop_37 : decode cX7_drop 37 = .ok (.iload_n 2, 1) := by decide +kernel
theorem dX7_drop_38 : decode cX7_drop 38 = .ok (.invokevirtual 134, 3) := by decide +kernel
theorem dX7_drop_41 : decode cX7_drop 41 = .ok (.iload_n 3, 1) := by decide +kernel
theorem dX7_drop_42 : decode cX7_drop 42 = .ok (.ireturn, 1) := by decide +kernel
set_option maxRecDepth 20000 in
theorem ggX7_bits_X7_isEnd : GoodIn wsX7_bits wsX7_isEnd := goodIn_r _ [6] (by decide +kernel) (by decide +kernel)
set_option maxRecDepth 20000 in
theorem gX7_bits_X7_isEnd : GoodIn wsX7_bits (va_wsS RX7 107 yX7_isEnd wsX7_isEnd) := goodIn_app (goodIn_of _ (by decide +kernel)) ggX7_bits_X7_isEnd
set_option maxRecDepth 20000 in
theorem ggX7_bits_X7_refuses : GoodIn wsX7_bits wsX7_refuses := goodIn_r _ [10, 11, 17, 18, 19, 20, 21, 22, 23, 24, 25, 26, 27, 28, 29, 30, 31, 32, 33, 34, 35, 36, 37, 38, 39, 40, 41, 42, 43] (by decide +kernel) (by decide +kernel)
set_option maxRecDepth 20000 in
theorem gX7_bits_X7_refuses : GoodIn wsX7_bits (wsV RX7 101 RX7 yX7_refuses wsX7_refuses) := goodIn_app (goodIn_of _ (by decide +kernel)) ggX7_bits_X7_refuses
set_option maxRecDepth 20000 in
theorem ggX7_bits_X7_bit : GoodIn wsX7_bits wsX7_bit := goodIn_r _ [15, 1, 16, 2, 17, 18, 19, 20, 21, 22, 23, 24, 25, 26, 27, 28, 29, 30, 31, 32, 33, 34, 35, 36, 37, 38, 39, 40, 41, 42, 43] (by decide +kernel) (by decide +kernel)
set_option maxRecDepth 20000 in
theorem gX7_bits_X7_bit : GoodIn wsX7_bits (wsV RX7 110 RX7 yX7_bit wsX7_bit) := goodIn_app (goodIn_of _ (by decide +kernel)) ggX7_bits_X7_bit
theorem dX7_bits_0 : decode cX7_bits 0 = .ok (.aload_n 0, 1) := by decide +kernel
theorem dX7_bits_1 : decode cX7_bits 1 = .ok (.iload_n 1, 1) := by decide +kernel
theorem dX7_bits_2 : decode cX7_bits 2 = .ok (.invokestatic 107, 3) := by decide +kernel
theorem dX7_bits_5 : decode cX7_bits 5 = .ok (.ifCond .eq 16, 3) := by decide +kernel
theorem dX7_bits_8 : decode cX7_bits 8 = .ok (.iload 4, 2) := by decide +kernel
theorem dX7_bits_10 : decode cX7_bits 10 = .ok (.iconst 1, 1) := by decide +kernel
theorem dX7_bits_11 : decode cX7_bits 11 = .ok (.if_icmp .lt 10, 3) := by decide +kernel
theorem dX7_bits_14 : decode cX7_bits 14 = .ok (.iload 4, 2) := by decide +kernel
theorem dX7_bits_16 : decode cX7_bits 16 = .ok (.bipush 64, 2) := by decide +kernel
theorem dX7_bits_18 : decode cX7_bits 18 = .ok (.if_icmp .le 7, 3) := by decide +kernel
theorem dX7_bits_21 : decode cX7_bits 21 = .ok (.iconst 1, 1) := by decide +kernel
theorem dX7_bits_22 : decode cX7_bits 22 = .ok (.goto 4, 3) := by decide +kernel
theorem dX7_bits_25 : decode cX7_bits 25 = .ok (.iconst 0, 1) := by decide +kernel
theorem dX7_bits_26 : decode cX7_bits 26 = .ok (.invokevirtual 101, 3) := by decide +kernel
theorem dX7_bits_29 : decode cX7_bits 29 = .ok (.ifCond .eq 5, 3) := by decide +kernel
theorem dX7_bits_32 : decode cX7_bits 32 = .ok (.iconst 0, 1) := by decide +kernel
theorem dX7_bits_33 : decode cX7_bits 33 = .ok (.ireturn, 1) := by decide +kernel
theorem dX7_bits_34 : decode cX7_bits 34 = .ok (.iload 5, 2) := by decide +kernel
theorem dX7_bits_36 : decode cX7_bits 36 = .ok (.ifCond .ne 12, 3) := by decide +kernel
theorem dX7_bits_39 : decode cX7_bits 39 = .ok (.aload_n 0, 1) := by decide +kernel
theorem dX7_bits_40 : decode cX7_bits 40 = .ok (.getfield 7, 3) := by decide +kernel
theorem dX7_bits_43 : decode cX7_bits 43 = .ok (.iload_n 1, 1) := by decide +kernel
theorem dX7_bits_44 : decode cX7_bits 44 = .ok (.iaload, 1) := by decide +kernel
theorem dX7_bits_45 : decode cX7_bits 45 = .ok (.ifCond .ne 7, 3) := by decide +kernel
theorem dX7_bits_48 : decode cX7_bits 48 = .ok (.iconst 1, 1) := by decide +kernel
theorem dX7_bits_49 : decode cX7_bits 49 = .ok (.goto 4, 3) := by decide +kernel
theorem dX7_bits_52 : decode cX7_bits 52 = .ok (.iconst 0, 1) := by decide +kernel
theorem dX7_bits_53 : decode cX7_bits 53 = .ok (.istore 6, 2) := by decide +kernel
theorem dX7_bits_55 : decode cX7_bits 55 = .ok (.bipush 40, 2) := by decide +kernel
theorem dX7_bits_57 : decode cX7_bits 57 = .ok (.iload_n 1, 1) := by decide +kernel
theorem dX7_bits_58 : decode cX7_bits 58 = .ok (.imul, 1) := by decide +kernel
theorem dX7_bits_59 : decode cX7_bits 59 = .ok (.aload_n 0, 1) := by decide +kernel
theorem dX7_bits_60 : decode cX7_bits 60 = .ok (.getfield 7, 3) := by decide +kernel
theorem dX7_bits_63 : decode cX7_bits 63 = .ok (.iload_n 1, 1) := by decide +kernel
theorem dX7_bits_64 : decode cX7_bits 64 = .ok (.iaload, 1) := by decide +kernel
theorem dX7_bits_65 : decode cX7_bits 65 = .ok (.iadd, 1) := by decide +kernel
theorem dX7_bits_66 : decode cX7_bits 66 = .ok (.iconst 1, 1) := by decide +kernel
theorem dX7_bits_67 : decode cX7_bits 67 = .ok (.isub, 1) := by decide +kernel
theorem dX7_bits_68 : decode cX7_bits 68 = .ok (.istore 7, 2) := by decide +kernel
theorem dX7_bits_70 : decode cX7_bits 70 = .ok (.aload_n 0, 1) := by decide +kernel
theorem dX7_bits_71 : decode cX7_bits 71 = .ok (.iload 6, 2) := by decide +kernel
theorem dX7_bits_73 : decode cX7_bits 73 = .ok (.ifCond .eq 22, 3) := by decide +kernel
theorem dX7_bits_76 : decode cX7_bits 76 = .ok (.aload_n 0, 1) := by decide +kernel
theorem dX7_bits_77 : decode cX7_bits 77 = .ok (.getfield 7, 3) := by decide +kernel
theorem dX7_bits_80 : decode cX7_bits 80 = .ok (.iload_n 1, 1) := by decide +kernel
theorem dX7_bits_81 : decode cX7_bits 81 = .ok (.iaload, 1) := by decide +kernel
theorem dX7_bits_82 : decode cX7_bits 82 = .ok (.bipush 40, 2) := by decide +kernel
theorem dX7_bits_84 : decode cX7_bits 84 = .ok (.if_icmp .ne 7, 3) := by decide +kernel
theorem dX7_bits_87 : decode cX7_bits 87 = .ok (.iconst 2, 1) := by decide +kernel
theorem dX7_bits_88 : decode cX7_bits 88 = .ok (.goto 28, 3) := by decide +kernel
theorem dX7_bits_91 : decode cX7_bits 91 = .ok (.iconst 0, 1) := by decide +kernel
theorem dX7_bits_92 : decode cX7_bits 92 = .ok (.goto 24, 3) := by decide +kernel
theorem dX7_bits_95 : decode cX7_bits 95 = .ok (.aload_n 0, 1) := by decide +kernel
theorem dX7_bits_96 : decode cX7_bits 96 = .ok (.getfield 13, 3) := by decide +kernel
theorem dX7_bits_99 : decode cX7_bits 99 = .ok (.iload 7, 2) := by decide +kernel
theorem dX7_bits_101 : decode cX7_bits 101 = .ok (.iaload, 1) := by decide +kernel
theorem dX7_bits_102 : decode cX7_bits 102 = .ok (.iload 4, 2) := by decide +kernel
theorem dX7_bits_104 : decode cX7_bits 104 = .ok (.iadd, 1) := by decide +kernel
theorem dX7_bits_105 : decode cX7_bits 105 = .ok (.sipush 3000, 3) := by decide +kernel
theorem dX7_bits_108 : decode cX7_bits 108 = .ok (.if_icmp .le 7, 3) := by decide +kernel
theorem dX7_bits_111 : decode cX7_bits 111 = .ok (.iconst 2, 1) := by decide +kernel
theorem dX7_bits_112 : decode cX7_bits 112 = .ok (.goto 4, 3) := by decide +kernel
theorem dX7_bits_115 : decode cX7_bits 115 = .ok (.iconst 0, 1) := by decide +kernel
theorem dX7_bits_116 : decode cX7_bits 116 = .ok (.invokevirtual 101, 3) := by decide +kernel
theorem dX7_bits_119 : decode cX7_bits 119 = .ok (.ifCond .eq 5, 3) := by decide +kernel
theorem dX7_bits_122 : decode cX7_bits 122 = .ok (.iconst 0, 1) := by decide +kernel
theorem dX7_bits_123 : decode cX7_bits 123 = .ok (.ireturn, 1) := by decide +kernel
theorem dX7_bits_124 : decode cX7_bits 124 = .ok (.iload 6, 2) := by decide +kernel
theorem dX7_bits_126 : decode cX7_bits 126 = .ok (.ifCond .eq 30, 3) := by decide +kernel
theorem dX7_bits_129 : decode cX7_bits 129 = .ok (.aload_n 0, 1) := by decide +kernel
theorem dX7_bits_130 : decode cX7_bits 130 = .ok (.getfield 13, 3) := by decide +kernel
theorem dX7_bits_133 : decode cX7_bits 133 = .ok (.bipush 40, 2) := by decide +kernel
theorem dX7_bits_135 : decode cX7_bits 135 = .ok (.iload_n 1, 1) := by decide +kernel
theorem dX7_bits_136 : decode cX7_bits 136 = .ok (.imul, 1) := by decide +kernel
theorem dX7_bits_137 : decode cX7_bits 137 = .ok (.aload_n 0, 1) := by decide +kernel
theorem dX7_bits_138 : decode cX7_bits 138 = .ok (.getfield 7, 3) := by decide +kernel
theorem dX7_bits_141 : decode cX7_bits 141 = .ok (.iload_n 1, 1) := by decide +kernel
theorem dX7_bits_142 : decode cX7_bits 142 = .ok (.iaload, 1) := by decide +kernel
theorem dX7_bits_143 : decode cX7_bits 143 = .ok (.iadd, 1) := by decide +kernel
theorem dX7_bits_144 : decode cX7_bits 144 = .ok (.iconst 0, 1) := by decide +kernel
theorem dX7_bits_145 : decode cX7_bits 145 = .ok (.iastore, 1) := by decide +kernel
theorem dX7_bits_146 : decode cX7_bits 146 = .ok (.aload_n 0, 1) := by decide +kernel
theorem dX7_bits_147 : decode cX7_bits 147 = .ok (.getfield 7, 3) := by decide +kernel
theorem dX7_bits_150 : decode cX7_bits 150 = .ok (.iload_n 1, 1) := by decide +kernel
theorem dX7_bits_151 : decode cX7_bits 151 = .ok (.dup2, 1) := by decide +kernel
theorem dX7_bits_152 : decode cX7_bits 152 = .ok (.iaload, 1) := by decide +kernel
theorem dX7_bits_153 : decode cX7_bits 153 = .ok (.iconst 1, 1) := by decide +kernel
theorem dX7_bits_154 : decode cX7_bits 154 = .ok (.iadd, 1) := by decide +kernel
theorem dX7_bits_155 : decode cX7_bits 155 = .ok (.iastore, 1) := by decide +kernel
theorem dX7_bits_156 : decode cX7_bits 156 = .ok (.iconst 0, 1) := by decide +kernel
theorem dX7_bits_157 : decode cX7_bits 157 = .ok (.istore 8, 2) := by decide +kernel
theorem dX7_bits_159 : decode cX7_bits 159 = .ok (.iload 8, 2) := by decide +kernel
theorem dX7_bits_161 : decode cX7_bits 161 = .ok (.iload 4, 2) := by decide +kernel
theorem dX7_bits_163 : decode cX7_bits 163 = .ok (.if_icmp .ge 21, 3) := by decide +kernel
theorem dX7_bits_166 : decode cX7_bits 166 = .ok (.aload_n 0, 1) := by decide +kernel
theorem dX7_bits_167 : decode cX7_bits 167 = .ok (.iload_n 1, 1) := by decide +kernel
theorem dX7_bits_168 : decode cX7_bits 168 = .ok (.lload_n 2, 1) := by decide +kernel
theorem dX7_bits_169 : decode cX7_bits 169 = .ok (.iload 8, 2) := by decide +kernel
theorem dX7_bits_171 : decode cX7_bits 171 = .ok (.lshr, 1) := by decide +kernel
theorem dX7_bits_172 : decode cX7_bits 172 = .ok (.lconst 1, 1) := by decide +kernel
theorem dX7_bits_173 : decode cX7_bits 173 = .ok (.land, 1) := by decide +kernel
theorem dX7_bits_174 : decode cX7_bits 174 = .ok (.l2i, 1) := by decide +kernel
theorem dX7_bits_175 : decode cX7_bits 175 = .ok (.invokevirtual 110, 3) := by decide +kernel
theorem dX7_bits_178 : decode cX7_bits 178 = .ok (.iinc 8 1, 3) := by decide +kernel
theorem dX7_bits_181 : decode cX7_bits 181 = .ok (.goto (-22), 3) := by decide +kernel
theorem dX7_bits_184 : decode cX7_bits 184 = .ok (.aload_n 0, 1) := by decide +kernel
theorem dX7_bits_185 : decode cX7_bits 185 = .ok (.getfield 13, 3) := by decide +kernel
theorem dX7_bits_188 : decode cX7_bits 188 = .ok (.bipush 40, 2) := by decide +kernel
theorem dX7_bits_190 : decode cX7_bits 190 = .ok (.iload_n 1, 1) := by decide +kernel
theorem dX7_bits_191 : decode cX7_bits 191 = .ok (.imul, 1) := by decide +kernel
theorem dX7_bits_192 : decode cX7_bits 192 = .ok (.aload_n 0, 1) := by decide +kernel
theorem dX7_bits_193 : decode cX7_bits 193 = .ok (.getfield 7, 3) := by decide +kernel
theorem dX7_bits_196 : decode cX7_bits 196 = .ok (.iload_n 1, 1) := by decide +kernel
theorem dX7_bits_197 : decode cX7_bits 197 = .ok (.iaload, 1) := by decide +kernel
theorem dX7_bits_198 : decode cX7_bits 198 = .ok (.iadd, 1) := by decide +kernel
theorem dX7_bits_199 : decode cX7_bits 199 = .ok (.iconst 1, 1) := by decide +kernel
theorem dX7_bits_200 : decode cX7_bits 200 = .ok (.isub, 1) := by decide +kernel
theorem dX7_bits_201 : decode cX7_bits 201 = .ok (.iaload, 1) := by decide +kernel
theorem dX7_bits_202 : decode cX7_bits 202 = .ok (.ireturn, 1) := by decide +kernel
set_option maxRecDepth 20000 in
theorem ggX7_bit__X7_isFrame : GoodIn wsX7_bit_ wsX7_isFrame := goodIn_r _ [7, 8, 9, 10, 6, 11, 17, 18, 19, 20, 21, 22, 23, 24, 25, 26, 27, 28, 29, 30, 31, 32, 33, 34, 35, 36, 37, 38, 39, 40, 41, 42, 43] (by decide +kernel) (by decide +kernel)
set_option maxRecDepth 20000 in
theorem gX7_bit__X7_isFrame : GoodIn wsX7_bit_ (wsV RX7 140 RX7 yX7_isFrame wsX7_isFrame) := goodIn_app (goodIn_of _ (by decide +kernel)) ggX7_bit__X7_isFrame
set_option maxRecDepth 20000 in
theorem ggX7_bit__X7_refuses : GoodIn wsX7_bit_ wsX7_refuses := goodIn_r _ [15, 16, 17, 18, 19, 20, 21, 22, 23, 24, 25, 26, 27, 28, 29, 30, 31, 32, 33, 34, 35, 36, 37, 38, 39, 40, 41, 42, 43] (by decide +kernel) (by decide +kernel)
set_option maxRecDepth 20000 in
theorem gX7_bit__X7_refuses : GoodIn wsX7_bit_ (wsV RX7 101 RX7 yX7_refuses wsX7_refuses) := goodIn_app (goodIn_of _ (by decide +kernel)) ggX7_bit__X7_refuses
theorem dX7_bit__0 : decode cX7_bit_ 0 = .ok (.aload_n 0, 1) := by decide +kernel
theorem dX7_bit__1 : decode cX7_bit_ 1 = .ok (.aload_n 0, 1) := by decide +kernel
theorem dX7_bit__2 : decode cX7_bit_ 2 = .ok (.iload_n 1, 1) := by decide +kernel
theorem dX7_bit__3 : decode cX7_bit_ 3 = .ok (.iload_n 2, 1) := by decide +kernel
theorem dX7_bit__4 : decode cX7_bit_ 4 = .ok (.invokevirtual 140, 3) := by decide +kernel
theorem dX7_bit__7 : decode cX7_bit_ 7 = .ok (.ifCond .eq 7, 3) := by decide +kernel
theorem dX7_bit__10 : decode cX7_bit_ 10 = .ok (.iconst 0, 1) := by decide +kernel
theorem dX7_bit__11 : decode cX7_bit_ 11 = .ok (.goto 4, 3) := by decide +kernel
theorem dX7_bit__14 : decode cX7_bit_ 14 = .ok (.iconst 1, 1) := by decide +kernel
theorem dX7_bit__15 : decode cX7_bit_ 15 = .ok (.invokevirtual 101, 3) := by decide +kernel
theorem dX7_bit__18 : decode cX7_bit_ 18 = .ok (.ifCond .eq 5, 3) := by decide +kernel
theorem dX7_bit__21 : decode cX7_bit_ 21 = .ok (.iconst 0, 1) := by decide +kernel
theorem dX7_bit__22 : decode cX7_bit_ 22 = .ok (.ireturn, 1) := by decide +kernel
theorem dX7_bit__23 : decode cX7_bit_ 23 = .ok (.bipush 40, 2) := by decide +kernel
theorem dX7_bit__25 : decode cX7_bit_ 25 = .ok (.iload_n 1, 1) := by decide +kernel
theorem dX7_bit__26 : decode cX7_bit_ 26 = .ok (.imul, 1) := by decide +kernel
theorem dX7_bit__27 : decode cX7_bit_ 27 = .ok (.iload_n 2, 1) := by decide +kernel
theorem dX7_bit__28 : decode cX7_bit_ 28 = .ok (.iadd, 1) := by decide +kernel
theorem dX7_bit__29 : decode cX7_bit_ 29 = .ok (.istore 4, 2) := by decide +kernel
theorem dX7_bit__31 : decode cX7_bit_ 31 = .ok (.iload_n 3, 1) := by decide +kernel
theorem dX7_bit__32 : decode cX7_bit_ 32 = .ok (.ifCond .lt 30, 3) := by decide +kernel
theorem dX7_bit__35 : decode cX7_bit_ 35 = .ok (.iload_n 3, 1) := by decide +kernel
theorem dX7_bit__36 : decode cX7_bit_ 36 = .ok (.aload_n 0, 1) := by decide +kernel
theorem dX7_bit__37 : decode cX7_bit_ 37 = .ok (.getfield 13, 3) := by decide +kernel
theorem dX7_bit__40 : decode cX7_bit_ 40 = .ok (.iload 4, 2) := by decide +kernel
theorem dX7_bit__42 : decode cX7_bit_ 42 = .ok (.iaload, 1) := by decide +kernel
theorem dX7_bit__43 : decode cX7_bit_ 43 = .ok (.if_icmp .ge 19, 3) := by decide +kernel
theorem dX7_bit__46 : decode cX7_bit_ 46 = .ok (.aload_n 0, 1) := by decide +kernel
theorem dX7_bit__47 : decode cX7_bit_ 47 = .ok (.getfield 17, 3) := by decide +kernel
theorem dX7_bit__50 : decode cX7_bit_ 50 = .ok (.sipush 3000, 3) := by decide +kernel
theorem dX7_bit__53 : decode cX7_bit_ 53 = .ok (.iload 4, 2) := by decide +kernel
theorem dX7_bit__55 : decode cX7_bit_ 55 = .ok (.imul, 1) := by decide +kernel
theorem dX7_bit__56 : decode cX7_bit_ 56 = .ok (.iload_n 3, 1) := by decide +kernel
theorem dX7_bit__57 : decode cX7_bit_ 57 = .ok (.iadd, 1) := by decide +kernel
theorem dX7_bit__58 : decode cX7_bit_ 58 = .ok (.iaload, 1) := by decide +kernel
theorem dX7_bit__59 : decode cX7_bit_ 59 = .ok (.goto 4, 3) := by decide +kernel
theorem dX7_bit__62 : decode cX7_bit_ 62 = .ok (.iconst (-1), 1) := by decide +kernel
theorem dX7_bit__63 : decode cX7_bit_ 63 = .ok (.ireturn, 1) := by decide +kernel
set_option maxRecDepth 20000 in
theorem ggX7_taken_X7_isEnd : GoodIn wsX7_taken wsX7_isEnd := goodIn_r _ [7] (by decide +kernel) (by decide +kernel)
set_option maxRecDepth 20000 in
theorem gX7_taken_X7_isEnd : GoodIn wsX7_taken (va_wsS RX7 107 yX7_isEnd wsX7_isEnd) := goodIn_app (goodIn_of _ (by decide +kernel)) ggX7_taken_X7_isEnd
set_option maxRecDepth 20000 in
theorem ggX7_taken_X7_refuses : GoodIn wsX7_taken wsX7_refuses := goodIn_r _ [11, 12, 13, 14, 15, 16, 17, 18, 19, 20, 21, 22, 23, 24, 25, 26, 27, 28, 29, 30, 31, 32, 33, 34, 35, 36, 37, 38, 39] (by decide +kernel) (by decide +kernel)
set_option maxRecDepth 20000 in
theorem gX7_taken_X7_refuses : GoodIn wsX7_taken (wsV RX7 101 RX7 yX7_refuses wsX7_refuses) := goodIn_app (goodIn_of _ (by decide +kernel)) ggX7_taken_X7_refuses
theorem dX7_taken_0 : decode cX7_taken 0 = .ok (.aload_n 0, 1) := by decide +kernel
theorem dX7_taken_1 : decode cX7_taken 1 = .ok (.iload_n 1, 1) := by decide +kernel
theorem dX7_taken_2 : decode cX7_taken 2 = .ok (.invokestatic 107, 3) := by decide +kernel
theorem dX7_taken_5 : decode cX7_taken 5 = .ok (.ifCond .eq 30, 3) := by decide +kernel
theorem dX7_taken_8 : decode cX7_taken 8 = .ok (.iload_n 2, 1) := by decide +kernel
theorem dX7_taken_9 : decode cX7_taken 9 = .ok (.ifCond .lt 26, 3) := by decide +kernel
theorem dX7_taken_12 : decode cX7_taken 12 = .ok (.iload_n 2, 1) := by decide +kernel
theorem dX7_taken_13 : decode cX7_taken 13 = .ok (.aload_n 0, 1) := by decide +kernel
theorem dX7_taken_14 : decode cX7_taken 14 = .ok (.getfield 72, 3) := by decide +kernel
theorem dX7_taken_17 : decode cX7_taken 17 = .ok (.iload_n 1, 1) := by decide +kernel
theorem dX7_taken_18 : decode cX7_taken 18 = .ok (.iaload, 1) := by decide +kernel
theorem dX7_taken_19 : decode cX7_taken 19 = .ok (.if_icmp .ge 16, 3) := by decide +kernel
theorem dX7_taken_22 : decode cX7_taken 22 = .ok (.iload_n 2, 1) := by decide +kernel
theorem dX7_taken_23 : decode cX7_taken 23 = .ok (.aload_n 0, 1) := by decide +kernel
theorem dX7_taken_24 : decode cX7_taken 24 = .ok (.getfield 72, 3) := by decide +kernel
theorem dX7_taken_27 : decode cX7_taken 27 = .ok (.iload_n 1, 1) := by decide +kernel
theorem dX7_taken_28 : decode cX7_taken 28 = .ok (.iaload, 1) := by decide +kernel
theorem dX7_taken_29 : decode cX7_taken 29 = .ok (.bipush 50, 2) := by decide +kernel
theorem dX7_taken_31 : decode cX7_taken 31 = .ok (.isub, 1) := by decide +kernel
theorem dX7_taken_32 : decode cX7_taken 32 = .ok (.if_icmp .ge 7, 3) := by decide +kernel
theorem dX7_taken_35 : decode cX7_taken 35 = .ok (.iconst 1, 1) := by decide +kernel
theorem dX7_taken_36 : decode cX7_taken 36 = .ok (.goto 4, 3) := by decide +kernel
theorem dX7_taken_39 : decode cX7_taken 39 = .ok (.iconst 0, 1) := by decide +kernel
theorem dX7_taken_40 : decode cX7_taken 40 = .ok (.invokevirtual 101, 3) := by decide +kernel
theorem dX7_taken_43 : decode cX7_taken 43 = .ok (.ifCond .eq 5, 3) := by decide +kernel
theorem dX7_taken_46 : decode cX7_taken 46 = .ok (.iconst 0, 1) := by decide +kernel
theorem dX7_taken_47 : decode cX7_taken 47 = .ok (.ireturn, 1) := by decide +kernel
theorem dX7_taken_48 : decode cX7_taken 48 = .ok (.bipush 50, 2) := by decide +kernel
theorem dX7_taken_50 : decode cX7_taken 50 = .ok (.iload_n 1, 1) := by decide +kernel
theorem dX7_taken_51 : decode cX7_taken 51 = .ok (.imul, 1) := by decide +kernel
theorem dX7_taken_52 : decode cX7_taken 52 = .ok (.iload_n 2, 1) := by decide +kernel
theorem dX7_taken_53 : decode cX7_taken 53 = .ok (.bipush 50, 2) := by decide +kernel
theorem dX7_taken_55 : decode cX7_taken 55 = .ok (.irem, 1) := by decide +kernel
theorem dX7_taken_56 : decode cX7_taken 56 = .ok (.iadd, 1) := by decide +kernel
theorem dX7_taken_57 : decode cX7_taken 57 = .ok (.istore 4, 2) := by decide +kernel
theorem dX7_taken_59 : decode cX7_taken 59 = .ok (.iload_n 3, 1) := by decide +kernel
theorem dX7_taken_60 : decode cX7_taken 60 = .ok (.ifCond .lt 30, 3) := by decide +kernel
theorem dX7_taken_63 : decode cX7_taken 63 = .ok (.iload_n 3, 1) := by decide +kernel
theorem dX7_taken_64 : decode cX7_taken 64 = .ok (.aload_n 0, 1) := by decide +kernel
theorem dX7_taken_65 : decode cX7_taken 65 = .ok (.getfield 75, 3) := by decide +kernel
theorem dX7_taken_68 : decode cX7_taken 68 = .ok (.iload 4, 2) := by decide +kernel
theorem dX7_taken_70 : decode cX7_taken 70 = .ok (.iaload, 1) := by decide +kernel
theorem dX7_taken_71 : decode cX7_taken 71 = .ok (.if_icmp .ge 19, 3) := by decide +kernel
theorem dX7_taken_74 : decode cX7_taken 74 = .ok (.aload_n 0, 1) := by decide +kernel
theorem dX7_taken_75 : decode cX7_taken 75 = .ok (.getfield 78, 3) := by decide +kernel
theorem dX7_taken_78 : decode cX7_taken 78 = .ok (.sipush 272, 3) := by decide +kernel
theorem dX7_taken_81 : decode cX7_taken 81 = .ok (.iload 4, 2) := by decide +kernel
theorem dX7_taken_83 : decode cX7_taken 83 = .ok (.imul, 1) := by decide +kernel
theorem dX7_taken_84 : decode cX7_taken 84 = .ok (.iload_n 3, 1) := by decide +kernel
theorem dX7_taken_85 : decode cX7_taken 85 = .ok (.iadd, 1) := by decide +kernel
theorem dX7_taken_86 : decode cX7_taken 86 = .ok (.iaload, 1) := by decide +kernel
theorem dX7_taken_87 : decode cX7_taken 87 = .ok (.goto 4, 3) := by decide +kernel
theorem dX7_taken_90 : decode cX7_taken 90 = .ok (.iconst (-1), 1) := by decide +kernel
theorem dX7_taken_91 : decode cX7_taken 91 = .ok (.ireturn, 1) := by decide +kernel
set_option maxRecDepth 20000 in
theorem ggX7_about_X7_isEnd : GoodIn wsX7_about wsX7_isEnd := goodIn_r _ [16] (by decide +kernel) (by decide +kernel)
set_option maxRecDepth 20000 in
theorem gX7_about_X7_isEnd : GoodIn wsX7_about (va_wsS RX7 107 yX7_isEnd wsX7_isEnd) := goodIn_app (goodIn_of _ (by decide +kernel)) ggX7_about_X7_isEnd
set_option maxRecDepth 20000 in
theorem ggX7_about_X7_refuses : GoodIn wsX7_about wsX7_refuses := goodIn_r _ [20, 21, 22, 23, 24, 25, 26, 27, 28, 29, 30, 31, 32, 33, 34, 35, 36, 37, 38, 39, 40, 41, 42, 43, 44, 45, 46, 47, 48] (by decide +kernel) (by decide +kernel)
set_option maxRecDepth 20000 in
theorem gX7_about_X7_refuses : GoodIn wsX7_about (wsV RX7 101 RX7 yX7_refuses wsX7_refuses) := goodIn_app (goodIn_of _ (by decide +kernel)) ggX7_about_X7_refuses
theorem dX7_about_0 : decode cX7_about 0 = .ok (.aload_n 0, 1) := by decide +kernel
theorem dX7_about_1 : decode cX7_about 1 = .ok (.iload_n 1, 1) := by decide +kernel
theorem dX7_about_2 : decode cX7_about 2 = .ok (.invokestatic 107, 3) := by decide +kernel
theorem dX7_about_5 : decode cX7_about 5 = .ok (.ifCond .eq 13, 3) := by decide +kernel
theorem dX7_about_8 : decode cX7_about 8 = .ok (.iload_n 2, 1) := by decide +kernel
theorem dX7_about_9 : decode cX7_about 9 = .ok (.ifCond .lt 9, 3) := by decide +kernel
theorem dX7_about_12 : decode cX7_about 12 = .ok (.iload_n 2, 1) := by decide +kernel
theorem dX7_about_13 : decode cX7_about 13 = .ok (.bipush 11, 2) := by decide +kernel
theorem dX7_about_15 : decode cX7_about 15 = .ok (.if_icmp .le 7, 3) := by decide +kernel
theorem dX7_about_18 : decode cX7_about 18 = .ok (.iconst 1, 1) := by decide +kernel
theorem dX7_about_19 : decode cX7_about 19 = .ok (.goto 4, 3) := by decide +kernel
theorem dX7_about_22 : decode cX7_about 22 = .ok (.iconst 0, 1) := by decide +kernel
theorem dX7_about_23 : decode cX7_about 23 = .ok (.invokevirtual 101, 3) := by decide +kernel
theorem dX7_about_26 : decode cX7_about 26 = .ok (.ifCond .eq 5, 3) := by decide +kernel
theorem dX7_about_29 : decode cX7_about 29 = .ok (.iconst 0, 1) := by decide +kernel
theorem dX7_about_30 : decode cX7_about 30 = .ok (.ireturn, 1) := by decide +kernel
theorem dX7_about_31 : decode cX7_about 31 = .ok (.iload_n 2, 1) := by decide +kernel
theorem dX7_about_32 : decode cX7_about 32 = .ok (.tableswitch 144 0 10 #[60, 67, 74, 81, 88, 95, 102, 116, 123, 130, 137], 60) := by decide +kernel
theorem dX7_about_92 : decode cX7_about 92 = .ok (.aload_n 0, 1) := by decide +kernel
theorem dX7_about_93 : decode cX7_about 93 = .ok (.getfield 20, 3) := by decide +kernel
theorem dX7_about_96 : decode cX7_about 96 = .ok (.iload_n 1, 1) := by decide +kernel
theorem dX7_about_97 : decode cX7_about 97 = .ok (.iaload, 1) := by decide +kernel
theorem dX7_about_98 : decode cX7_about 98 = .ok (.ireturn, 1) := by decide +kernel
theorem dX7_about_99 : decode cX7_about 99 = .ok (.aload_n 0, 1) := by decide +kernel
theorem dX7_about_100 : decode cX7_about 100 = .ok (.getfield 23, 3) := by decide +kernel
theorem dX7_about_103 : decode cX7_about 103 = .ok (.iload_n 1, 1) := by decide +kernel
theorem dX7_about_104 : decode cX7_about 104 = .ok (.iaload, 1) := by decide +kernel
theorem dX7_about_105 : decode cX7_about 105 = .ok (.ireturn, 1) := by decide +kernel
theorem dX7_about_106 : decode cX7_about 106 = .ok (.aload_n 0, 1) := by decide +kernel
theorem dX7_about_107 : decode cX7_about 107 = .ok (.getfield 26, 3) := by decide +kernel
theorem dX7_about_110 : decode cX7_about 110 = .ok (.iload_n 1, 1) := by decide +kernel
theorem dX7_about_111 : decode cX7_about 111 = .ok (.iaload, 1) := by decide +kernel
theorem dX7_about_112 : decode cX7_about 112 = .ok (.ireturn, 1) := by decide +kernel
theorem dX7_about_113 : decode cX7_about 113 = .ok (.aload_n 0, 1) := by decide +kernel
theorem dX7_about_114 : decode cX7_about 114 = .ok (.getfield 29, 3) := by decide +kernel
theorem dX7_about_117 : decode cX7_about 117 = .ok (.iload_n 1, 1) := by decide +kernel
theorem dX7_about_118 : decode cX7_about 118 = .ok (.iaload, 1) := by decide +kernel
theorem dX7_about_119 : decode cX7_about 119 = .ok (.ireturn, 1) := by decide +kernel
theorem dX7_about_120 : decode cX7_about 120 = .ok (.aload_n 0, 1) := by decide +kernel
theorem dX7_about_121 : decode cX7_about 121 = .ok (.getfield 35, 3) := by decide +kernel
theorem dX7_about_124 : decode cX7_about 124 = .ok (.iload_n 1, 1) := by decide +kernel
theorem dX7_about_125 : decode cX7_about 125 = .ok (.iaload, 1) := by decide +kernel
theorem dX7_about_126 : decode cX7_about 126 = .ok (.ireturn, 1) := by decide +kernel
theorem dX7_about_127 : decode cX7_about 127 = .ok (.aload_n 0, 1) := by decide +kernel
theorem dX7_about_128 : decode cX7_about 128 = .ok (.getfield 44, 3) := by decide +kernel
theorem dX7_about_131 : decode cX7_about 131 = .ok (.iload_n 1, 1) := by decide +kernel
theorem dX7_about_132 : decode cX7_about 132 = .ok (.iaload, 1) := by decide +kernel
theorem dX7_about_133 : decode cX7_about 133 = .ok (.ireturn, 1) := by decide +kernel
theorem dX7_about_134 : decode cX7_about 134 = .ok (.aload_n 0, 1) := by decide +kernel
theorem dX7_about_135 : decode cX7_about 135 = .ok (.getfield 44, 3) := by decide +kernel
theorem dX7_about_138 : decode cX7_about 138 = .ok (.iload_n 1, 1) := by decide +kernel
theorem dX7_about_139 : decode cX7_about 139 = .ok (.iaload, 1) := by decide +kernel
theorem dX7_about_140 : decode cX7_about 140 = .ok (.aload_n 0, 1) := by decide +kernel
theorem dX7_about_141 : decode cX7_about 141 = .ok (.getfield 56, 3) := by decide +kernel
theorem dX7_about_144 : decode cX7_about 144 = .ok (.iload_n 1, 1) := by decide +kernel
theorem dX7_about_145 : decode cX7_about 145 = .ok (.iaload, 1) := by decide +kernel
theorem dX7_about_146 : decode cX7_about 146 = .ok (.isub, 1) := by decide +kernel
theorem dX7_about_147 : decode cX7_about 147 = .ok (.ireturn, 1) := by decide +kernel
theorem dX7_about_148 : decode cX7_about 148 = .ok (.aload_n 0, 1) := by decide +kernel
theorem dX7_about_149 : decode cX7_about 149 = .ok (.getfield 72, 3) := by decide +kernel
theorem dX7_about_152 : decode cX7_about 152 = .ok (.iload_n 1, 1) := by decide +kernel
theorem dX7_about_153 : decode cX7_about 153 = .ok (.iaload, 1) := by decide +kernel
theorem dX7_about_154 : decode cX7_about 154 = .ok (.ireturn, 1) := by decide +kernel
theorem dX7_about_155 : decode cX7_about 155 = .ok (.aload_n 0, 1) := by decide +kernel
theorem dX7_about_156 : decode cX7_about 156 = .ok (.getfield 7, 3) := by decide +kernel
theorem dX7_about_159 : decode cX7_about 159 = .ok (.iload_n 1, 1) := by decide +kernel
theorem dX7_about_160 : decode cX7_about 160 = .ok (.iaload, 1) := by decide +kernel
theorem dX7_about_161 : decode cX7_about 161 = .ok (.ireturn, 1) := by decide +kernel
theorem dX7_about_162 : decode cX7_about 162 = .ok (.aload_n 0, 1) := by decide +kernel
theorem dX7_about_163 : decode cX7_about 163 = .ok (.getfield 59, 3) := by decide +kernel
theorem dX7_about_166 : decode cX7_about 166 = .ok (.iload_n 1, 1) := by decide +kernel
theorem dX7_about_167 : decode cX7_about 167 = .ok (.iaload, 1) := by decide +kernel
theorem dX7_about_168 : decode cX7_about 168 = .ok (.ireturn, 1) := by decide +kernel
theorem dX7_about_169 : decode cX7_about 169 = .ok (.aload_n 0, 1) := by decide +kernel
theorem dX7_about_170 : decode cX7_about 170 = .ok (.getfield 62, 3) := by decide +kernel
theorem dX7_about_173 : decode cX7_about 173 = .ok (.iload_n 1, 1) := by decide +kernel
theorem dX7_about_174 : decode cX7_about 174 = .ok (.iaload, 1) := by decide +kernel
theorem dX7_about_175 : decode cX7_about 175 = .ok (.ireturn, 1) := by decide +kernel
theorem dX7_about_176 : decode cX7_about 176 = .ok (.aload_n 0, 1) := by decide +kernel
theorem dX7_about_177 : decode cX7_about 177 = .ok (.getfield 68, 3) := by decide +kernel
theorem dX7_about_180 : decode cX7_about 180 = .ok (.iload_n 1, 1) := by decide +kernel
theorem dX7_about_181 : decode cX7_about 181 = .ok (.baload, 1) := by decide +kernel
theorem dX7_about_182 : decode cX7_about 182 = .ok (.ifCond .eq 7, 3) := by decide +kernel
theorem dX7_about_185 : decode cX7_about 185 = .ok (.iconst 1, 1) := by decide +kernel
theorem dX7_about_186 : decode cX7_about 186 = .ok (.goto 4, 3) := by decide +kernel
theorem dX7_about_189 : decode cX7_about 189 = .ok (.iconst 0, 1) := by decide +kernel
theorem dX7_about_190 : decode cX7_about 190 = .ok (.ireturn, 1) := by decide +kernel
set_option maxRecDepth 20000 in
theorem ggX7_restart_X7_isEnd : GoodIn wsX7_restart wsX7_isEnd := goodIn_r _ [4] (by decide +kernel) (by decide +kernel)
set_option maxRecDepth 20000 in
theorem gX7_restart_X7_isEnd : GoodIn wsX7_restart (va_wsS RX7 107 yX7_isEnd wsX7_isEnd) := goodIn_app (goodIn_of _ (by decide +kernel)) ggX7_restart_X7_isEnd
end
section
set_option maxRecDepth 20000 in
theorem ggX7_restart_X7_refuses : GoodIn wsX7_restart wsX7_refuses := goodIn_r _ [8, 9, 27, 28, 29, 30, 31, 32, 33, 34, 35, 36, 37, 38, 39, 40, 41, 42, 43, 44, 45, 46, 47, 48, 49, 50, 51, 52, 53] (by decide +kernel) (by decide +kernel)
set_option maxRecDepth 20000 in
theorem gX7_restart_X7_refuses : GoodIn wsX7_restart (wsV RX7 101 RX7 yX7_refuses wsX7_refuses) := goodIn_app (goodIn_of _ (by decide +kernel)) ggX7_restart_X7_refuses
set_option maxRecDepth 20000 in
theorem ggX7_restart_X7_begin : GoodIn wsX7_restart wsX7_begin := goodIn_r _ [13, 14, 15, 16, 17, 18, 19, 20, 21, 22, 23, 24, 25, 26, 27, 28, 29, 30, 31, 32, 33, 34, 35, 36, 37, 38, 39, 40, 41, 42, 43, 44, 45, 46, 47, 48, 49, 50, 51, 52, 53] (by decide +kernel) (by decide +kernel)
set_option maxRecDepth 20000 in
theorem gX7_restart_X7_begin : GoodIn wsX7_restart (wsV RX7 87 RX7 yX7_begin wsX7_begin) := goodIn_app (goodIn_of _ (by decide +kernel)) ggX7_restart_X7_begin
theorem dX7_restart_0 : decode cX7_restart 0 = .ok (.aload_n 0, 1) := by decide +kernel
theorem dX7_restart_1 : decode cX7_restart 1 = .ok (.iload_n 1, 1) := by decide +kernel
theorem dX7_restart_2 : decode cX7_restart 2 = .ok (.invokestatic 107, 3) := by decide +kernel
theorem dX7_restart_5 : decode cX7_restart 5 = .ok (.ifCond .eq 7, 3) := by decide +kernel
theorem dX7_restart_8 : decode cX7_restart 8 = .ok (.iconst 0, 1) := by decide +kernel
theorem dX7_restart_9 : decode cX7_restart 9 = .ok (.goto 4, 3) := by decide +kernel
theorem dX7_restart_12 : decode cX7_restart 12 = .ok (.iconst 1, 1) := by decide +kernel
theorem dX7_restart_13 : decode cX7_restart 13 = .ok (.invokevirtual 101, 3) := by decide +kernel
theorem dX7_restart_16 : decode cX7_restart 16 = .ok (.ifCond .ne 8, 3) := by decide +kernel
theorem dX7_restart_19 : decode cX7_restart 19 = .ok (.aload_n 0, 1) := by decide +kernel
theorem dX7_restart_20 : decode cX7_restart 20 = .ok (.iload_n 1, 1) := by decide +kernel
theorem dX7_restart_21 : decode cX7_restart 21 = .ok (.invokevirtual 87, 3) := by decide +kernel
theorem dX7_restart_24 : decode cX7_restart 24 = .ok (.return_, 1) := by decide +kernel
theorem dJ9_min_7cf53_0 : decode cJ9_min_7cf53 0 = .ok (.iload_n 0, 1) := by decide +kernel
theorem dJ9_min_7cf53_1 : decode cJ9_min_7cf53 1 = .ok (.iload_n 1, 1) := by decide +kernel
theorem dJ9_min_7cf53_2 : decode cJ9_min_7cf53 2 = .ok (.if_icmp .gt 7, 3) := by decide +kernel
theorem dJ9_min_7cf53_5 : decode cJ9_min_7cf53 5 = .ok (.iload_n 0, 1) := by decide +kernel
theorem dJ9_min_7cf53_6 : decode cJ9_min_7cf53 6 = .ok (.goto 4, 3) := by decide +kernel
theorem dJ9_min_7cf53_9 : decode cJ9_min_7cf53 9 = .ok (.iload_n 1, 1) := by decide +kernel
theorem dJ9_min_7cf53_10 : decode cJ9_min_7cf53 10 = .ok (.ireturn, 1) := by decide +kernel
set_option maxRecDepth 20000 in
theorem ggL_put_X6_put : GoodIn wsL_put wsX6_put := goodIn_ca (goodIn_ca (goodIn_r _ [7, 8, 9, 10, 11, 12, 13, 14, 6, 15, 16, 17, 18, 19, 20, 21, 22, 23, 24, 25, 26, 27, 28, 29, 30, 31, 32, 33, 34, 35, 36, 37, 38, 39, 40, 41, 42, 43, 44, 45, 46, 47, 48, 49, 50] (by decide +kernel) (by decide +kernel)) (goodIn_sub (fun _ h => List.mem_cons_of_mem _ (List.mem_append_left _ (List.mem_append_right _ h))) (by decide +kernel))) (goodIn_sub (fun _ h => List.mem_cons_of_mem _ (List.mem_append_right _ h)) (by decide +kernel))
set_option maxRecDepth 20000 in
theorem gL_put_X6_put : GoodIn wsL_put (wsV RL 7 RX6 yX6_put wsX6_put) := goodIn_app (goodIn_of _ (by decide +kernel)) ggL_put_X6_put
theorem dL_put_0 : decode cL_put 0 = .ok (.aload 4, 2) := by decide +kernel
theorem dL_put_2 : decode cL_put 2 = .ok (.iconst 0, 1) := by decide +kernel
theorem dL_put_3 : decode cL_put 3 = .ok (.aload_n 0, 1) := by decide +kernel
theorem dL_put_4 : decode cL_put 4 = .ok (.iload_n 1, 1) := by decide +kernel
theorem dL_put_5 : decode cL_put 5 = .ok (.iload_n 2, 1) := by decide +kernel
theorem dL_put_6 : decode cL_put 6 = .ok (.iload_n 3, 1) := by decide +kernel
theorem dL_put_7 : decode cL_put 7 = .ok (.invokevirtual 7, 3) := by decide +kernel
theorem dL_put_10 : decode cL_put 10 = .ok (.i2l, 1) := by decide +kernel
theorem dL_put_11 : decode cL_put 11 = .ok (.lastore, 1) := by decide +kernel
theorem dL_put_12 : decode cL_put 12 = .ok (.goto 11, 3) := by decide +kernel
theorem dL_put_15 : decode cL_put 15 = .ok (.astore 5, 2) := by decide +kernel
theorem dL_put_17 : decode cL_put 17 = .ok (.iconst 1, 1) := by decide +kernel
theorem dL_put_18 : decode cL_put 18 = .ok (.ireturn, 1) := by decide +kernel
theorem dL_put_19 : decode cL_put 19 = .ok (.astore 5, 2) := by decide +kernel
theorem dL_put_21 : decode cL_put 21 = .ok (.iconst 2, 1) := by decide +kernel
theorem dL_put_22 : decode cL_put 22 = .ok (.ireturn, 1) := by decide +kernel
theorem dL_put_23 : decode cL_put 23 = .ok (.iconst 0, 1) := by decide +kernel
theorem dL_put_24 : decode cL_put 24 = .ok (.ireturn, 1) := by decide +kernel
set_option maxRecDepth 20000 in
theorem ggL_send_X6_send : GoodIn wsL_send wsX6_send := goodIn_ca (goodIn_ca (goodIn_r _ [7, 8, 9, 10, 11, 12, 13, 6, 14, 15, 16, 17, 18, 19, 20, 21, 22, 23, 24, 25, 26, 27, 28, 29, 30, 31, 32, 33, 34, 35, 36, 37, 38, 39, 40, 41, 42, 43, 44, 45, 46, 47, 48, 49, 50, 51, 52, 53, 54, 55, 56, 57, 58, 59, 60, 61, 62, 63, 64, 65, 66, 67, 68, 69, 70, 71, 72, 73, 74, 75, 76, 77, 78, 79, 80, 81, 82, 83, 84, 85, 86, 87, 88, 89, 90, 91, 92, 93, 94, 95, 96, 97, 98, 99, 100, 101, 102, 103, 104, 105, 106, 107, 108, 109, 110, 111, 112, 113, 114, 115, 116, 117, 118, 119, 120, 121, 122, 123, 124, 125, 126, 127, 128, 129, 130, 131, 132, 133, 134, 135, 136, 137, 138, 139, 140, 141, 142, 143, 144, 145, 146, 147, 148, 149, 150] (by decide +kernel) (by decide +kernel)) (goodIn_sub (fun _ h => List.mem_cons_of_mem _ (List.mem_append_left _ (List.mem_append_right _ h))) (by decide +kernel))) (goodIn_sub (fun _ h => List.mem_cons_of_mem _ (List.mem_append_right _ h)) (by decide +kernel))
set_option maxRecDepth 20000 in
theorem gL_send_X6_send : GoodIn wsL_send (wsV RL 17 RX6 yX6_send wsX6_send) := goodIn_app (goodIn_of _ (by decide +kernel)) ggL_send_X6_send
theorem dL_send_0 : decode cL_send 0 = .ok (.aload_n 2, 1) := by decide +kernel
theorem dL_send_1 : decode cL_send 1 = .ok (.iconst 0, 1) := by decide +kernel
theorem dL_send_2 : decode cL_send 2 = .ok (.aload_n 0, 1) := by decide +kernel
theorem dL_send_3 : decode cL_send 3 = .ok (.iload_n 1, 1) := by decide +kernel
theorem dL_send_4 : decode cL_send 4 = .ok (.invokevirtual 17, 3) := by decide +kernel
theorem dL_send_7 : decode cL_send 7 = .ok (.i2l, 1) := by decide +kernel
theorem dL_send_8 : decode cL_send 8 = .ok (.lastore, 1) := by decide +kernel
theorem dL_send_9 : decode cL_send 9 = .ok (.goto 9, 3) := by decide +kernel
theorem dL_send_12 : decode cL_send 12 = .ok (.astore_n 3, 1) := by decide +kernel
theorem dL_send_13 : decode cL_send 13 = .ok (.iconst 1, 1) := by decide +kernel
theorem dL_send_14 : decode cL_send 14 = .ok (.ireturn, 1) := by decide +kernel
theorem dL_send_15 : decode cL_send 15 = .ok (.astore_n 3, 1) := by decide +kernel
theorem dL_send_16 : decode cL_send 16 = .ok (.iconst 2, 1) := by decide +kernel
theorem dL_send_17 : decode cL_send 17 = .ok (.ireturn, 1) := by decide +kernel
theorem dL_send_18 : decode cL_send 18 = .ok (.iconst 0, 1) := by decide +kernel
theorem dL_send_19 : decode cL_send 19 = .ok (.ireturn, 1) := by decide +kernel
set_option maxRecDepth 20000 in
theorem ggL_take_X6_take : GoodIn wsL_take wsX6_take := goodIn_ca (goodIn_ca (goodIn_r _ [7, 8, 9, 10, 11, 12, 13, 14, 6, 15, 16, 17, 18, 19, 20, 21, 22, 23, 24, 25, 26, 27, 28, 29, 30, 31, 32, 33, 34, 35, 36, 37, 38, 39, 40, 41, 42, 43, 44, 45, 46, 47, 48, 49, 50, 51, 52, 53, 54, 55, 56, 57, 58, 59, 60, 61, 62, 63, 64, 65, 66, 67, 68, 69, 70, 71, 72, 73, 74, 75, 76, 77, 78, 79, 80, 81, 82, 83, 84, 85, 86, 87, 88, 89, 90, 91, 92, 93, 94, 95, 96, 97, 98, 99, 100, 101, 102, 103, 104, 105, 106, 107, 108, 109, 110, 111, 112, 113, 114, 115, 116, 117, 118, 119, 120, 121, 122, 123, 124, 125, 126, 127, 128, 129, 130, 131, 132, 133, 134, 135, 136, 137, 138, 139, 140, 141, 142, 143, 144, 145, 146, 147, 148, 149, 150, 151, 152, 153, 154, 155, 156, 157, 158, 159, 160, 161, 162, 163, 164, 165, 166, 167, 168, 169, 170, 171, 172, 173, 174, 175, 176, 177, 178, 179, 180, 181, 182] (by decide +kernel) (by decide +kernel)) (goodIn_sub (fun _ h => List.mem_cons_of_mem _ (List.mem_append_left _ (List.mem_append_right _ h))) (by decide +kernel))) (goodIn_sub (fun _ h => List.mem_cons_of_mem _ (List.mem_append_right _ h)) (by decide +kernel))
set_option maxRecDepth 20000 in
theorem gL_take_X6_take : GoodIn wsL_take (wsV RL 21 RX6 yX6_take wsX6_take) := goodIn_app (goodIn_of _ (by decide +kernel)) ggL_take_X6_take
theorem dL_take_0 : decode cL_take 0 = .ok (.aload_n 2, 1) := by decide +kernel
theorem dL_take_1 : decode cL_take 1 = .ok (.iconst 0, 1) := by decide +kernel
theorem dL_take_2 : decode cL_take 2 = .ok (.aload_n 0, 1) := by decide +kernel
theorem dL_take_3 : decode cL_take 3 = .ok (.iload_n 1, 1) := by decide +kernel
theorem dL_take_4 : decode cL_take 4 = .ok (.invokevirtual 21, 3) := by decide +kernel
theorem dL_take_7 : decode cL_take 7 = .ok (.i2l, 1) := by decide +kernel
theorem dL_take_8 : decode cL_take 8 = .ok (.lastore, 1) := by decide +kernel
theorem dL_take_9 : decode cL_take 9 = .ok (.goto 9, 3) := by decide +kernel
theorem dL_take_12 : decode cL_take 12 = .ok (.astore_n 3, 1) := by decide +kernel
theorem dL_take_13 : decode cL_take 13 = .ok (.iconst 1, 1) := by decide +kernel
theorem dL_take_14 : decode cL_take 14 = .ok (.ireturn, 1) := by decide +kernel
theorem dL_take_15 : decode cL_take 15 = .ok (.astore_n 3, 1) := by decide +kernel
theorem dL_take_16 : decode cL_take 16 = .ok (.iconst 2, 1) := by decide +kernel
theorem dL_take_17 : decode cL_take 17 = .ok (.ireturn, 1) := by decide +kernel
theorem dL_take_18 : decode cL_take 18 = .ok (.iconst 0, 1) := by decide +kernel
theorem dL_take_19 : decode cL_take 19 = .ok (.ireturn, 1) := by decide +kernel
set_option maxRecDepth 20000 in
theorem ggL_flip_X6_flip : GoodIn wsL_flip wsX6_flip := goodIn_ca (goodIn_r _ [6, 7, 8, 9, 10, 11, 5, 12, 13, 14, 15, 16, 17, 18, 19, 20, 21, 22, 23, 24, 25, 26, 27, 28, 29, 30, 31, 32, 33, 34, 35, 36, 37, 38, 39, 40, 41, 42, 43, 44, 45] (by decide +kernel) (by decide +kernel)) (goodIn_sub (fun _ h => List.mem_cons_of_mem _ (List.mem_append_right _ h)) (by decide +kernel))
set_option maxRecDepth 20000 in
theorem gL_flip_X6_flip : GoodIn wsL_flip (wsV RL 24 RX6 yX6_flip wsX6_flip) := goodIn_app (goodIn_of _ (by decide +kernel)) ggL_flip_X6_flip
theorem dL_flip_0 : decode cL_flip 0 = .ok (.aload 4, 2) := by decide +kernel
theorem dL_flip_2 : decode cL_flip 2 = .ok (.iconst 0, 1) := by decide +kernel
theorem dL_flip_3 : decode cL_flip 3 = .ok (.aload_n 0, 1) := by decide +kernel
theorem dL_flip_4 : decode cL_flip 4 = .ok (.iload_n 1, 1) := by decide +kernel
theorem dL_flip_5 : decode cL_flip 5 = .ok (.iload_n 2, 1) := by decide +kernel
theorem dL_flip_6 : decode cL_flip 6 = .ok (.iload_n 3, 1) := by decide +kernel
theorem dL_flip_7 : decode cL_flip 7 = .ok (.invokevirtual 24, 3) := by decide +kernel
theorem dL_flip_10 : decode cL_flip 10 = .ok (.i2l, 1) := by decide +kernel
theorem dL_flip_11 : decode cL_flip 11 = .ok (.lastore, 1) := by decide +kernel
theorem dL_flip_12 : decode cL_flip 12 = .ok (.goto 7, 3) := by decide +kernel
theorem dL_flip_15 : decode cL_flip 15 = .ok (.astore 5, 2) := by decide +kernel
theorem dL_flip_17 : decode cL_flip 17 = .ok (.iconst 1, 1) := by decide +kernel
theorem dL_flip_18 : decode cL_flip 18 = .ok (.ireturn, 1) := by decide +kernel
theorem dL_flip_19 : decode cL_flip 19 = .ok (.iconst 0, 1) := by decide +kernel
theorem dL_flip_20 : decode cL_flip 20 = .ok (.ireturn, 1) := by decide +kernel
set_option maxRecDepth 20000 in
theorem ggL_drop_X6_drop : GoodIn wsL_drop wsX6_drop := goodIn_ca (goodIn_r _ [6, 7, 8, 9, 10, 5, 11, 12, 13, 14, 15, 16, 17, 18, 19, 20, 21, 22, 23, 24, 25, 26, 27, 28, 29, 30, 31, 32, 33, 34, 35, 36, 37, 38, 39, 40, 41, 42] (by decide +kernel) (by decide +kernel)) (goodIn_sub (fun _ h => List.mem_cons_of_mem _ (List.mem_append_right _ h)) (by decide +kernel))
set_option maxRecDepth 20000 in
theorem gL_drop_X6_drop : GoodIn wsL_drop (wsV RL 27 RX6 yX6_drop wsX6_drop) := goodIn_app (goodIn_of _ (by decide +kernel)) ggL_drop_X6_drop
theorem dL_drop_0 : decode cL_drop 0 = .ok (.aload_n 3, 1) := by decide +kernel
theorem dL_drop_1 : decode cL_drop 1 = .ok (.iconst 0, 1) := by decide +kernel
theorem dL_drop_2 : decode cL_drop 2 = .ok (.aload_n 0, 1) := by decide +kernel
theorem dL_drop_3 : decode cL_drop 3 = .ok (.iload_n 1, 1) := by decide +kernel
theorem dL_drop_4 : decode cL_drop 4 = .ok (.iload_n 2, 1) := by decide +kernel
theorem dL_drop_5 : decode cL_drop 5 = .ok (.invokevirtual 27, 3) := by decide +kernel
theorem dL_drop_8 : decode cL_drop 8 = .ok (.i2l, 1) := by decide +kernel
theorem dL_drop_9 : decode cL_drop 9 = .ok (.lastore, 1) := by decide +kernel
theorem dL_drop_10 : decode cL_drop 10 = .ok (.goto 7, 3) := by decide +kernel
theorem dL_drop_13 : decode cL_drop 13 = .ok (.astore 4, 2) := by decide +kernel
theorem dL_drop_15 : decode cL_drop 15 = .ok (.iconst 1, 1) := by decide +kernel
theorem dL_drop_16 : decode cL_drop 16 = .ok (.ireturn, 1) := by decide +kernel
theorem dL_drop_17 : decode cL_drop 17 = .ok (.iconst 0, 1) := by decide +kernel
theorem dL_drop_18 : decode cL_drop 18 = .ok (.ireturn, 1) := by decide +kernel
set_option maxRecDepth 20000 in
theorem ggL_bits_X6_bits : GoodIn wsL_bits wsX6_bits := goodIn_ca (goodIn_ca (goodIn_r _ [7, 8, 9, 10, 11, 12, 13, 14, 6, 15, 16, 17, 18, 19, 20, 21, 22, 23, 24, 25, 26, 27, 28, 29, 30, 31, 32, 33, 34, 35, 36, 37, 38, 39, 40, 41, 42, 43, 44, 45, 46, 47, 48, 49, 50, 51, 52, 53, 54, 55, 56, 57, 58, 59, 60, 61, 62, 63, 64, 65] (by decide +kernel) (by decide +kernel)) (goodIn_sub (fun _ h => List.mem_cons_of_mem _ (List.mem_append_left _ (List.mem_append_right _ h))) (by decide +kernel))) (goodIn_sub (fun _ h => List.mem_cons_of_mem _ (List.mem_append_right _ h)) (by decide +kernel))
set_option maxRecDepth 20000 in
theorem gL_bits_X6_bits : GoodIn wsL_bits (wsV RL 31 RX6 yX6_bits wsX6_bits) := goodIn_app (goodIn_of _ (by decide +kernel)) ggL_bits_X6_bits
theorem dL_bits_0 : decode cL_bits 0 = .ok (.aload 6, 2) := by decide +kernel
theorem dL_bits_2 : decode cL_bits 2 = .ok (.iconst 0, 1) := by decide +kernel
theorem dL_bits_3 : decode cL_bits 3 = .ok (.aload_n 0, 1) := by decide +kernel
theorem dL_bits_4 : decode cL_bits 4 = .ok (.iload_n 1, 1) := by decide +kernel
theorem dL_bits_5 : decode cL_bits 5 = .ok (.lload_n 2, 1) := by decide +kernel
theorem dL_bits_6 : decode cL_bits 6 = .ok (.iload 4, 2) := by decide +kernel
theorem dL_bits_8 : decode cL_bits 8 = .ok (.iload 5, 2) := by decide +kernel
theorem dL_bits_10 : decode cL_bits 10 = .ok (.invokevirtual 31, 3) := by decide +kernel
theorem dL_bits_13 : decode cL_bits 13 = .ok (.i2l, 1) := by decide +kernel
theorem dL_bits_14 : decode cL_bits 14 = .ok (.lastore, 1) := by decide +kernel
theorem dL_bits_15 : decode cL_bits 15 = .ok (.goto 11, 3) := by decide +kernel
theorem dL_bits_18 : decode cL_bits 18 = .ok (.astore 7, 2) := by decide +kernel
theorem dL_bits_20 : decode cL_bits 20 = .ok (.iconst 1, 1) := by decide +kernel
theorem dL_bits_21 : decode cL_bits 21 = .ok (.ireturn, 1) := by decide +kernel
theorem dL_bits_22 : decode cL_bits 22 = .ok (.astore 7, 2) := by decide +kernel
theorem dL_bits_24 : decode cL_bits 24 = .ok (.iconst 2, 1) := by decide +kernel
theorem dL_bits_25 : decode cL_bits 25 = .ok (.ireturn, 1) := by decide +kernel
theorem dL_bits_26 : decode cL_bits 26 = .ok (.iconst 0, 1) := by decide +kernel
theorem dL_bits_27 : decode cL_bits 27 = .ok (.ireturn, 1) := by decide +kernel
set_option maxRecDepth 20000 in
theorem ggL_bit_X6_bit : GoodIn wsL_bit wsX6_bit := goodIn_ca (goodIn_r _ [6, 7, 8, 9, 10, 11, 5, 12, 13, 14, 15, 16, 17, 18, 19, 20, 21, 22, 23, 24, 25, 26, 27, 28, 29, 30, 31, 32, 33, 34, 35, 36, 37, 38, 39, 40, 41] (by decide +kernel) (by decide +kernel)) (goodIn_sub (fun _ h => List.mem_cons_of_mem _ (List.mem_append_right _ h)) (by decide +kernel))
set_option maxRecDepth 20000 in
theorem gL_bit_X6_bit : GoodIn wsL_bit (wsV RL 35 RX6 yX6_bit wsX6_bit) := goodIn_app (goodIn_of _ (by decide +kernel)) ggL_bit_X6_bit
theorem dL_bit_0 : decode cL_bit 0 = .ok (.aload 4, 2) := by decide +kernel
theorem dL_bit_2 : decode cL_bit 2 = .ok (.iconst 0, 1) := by decide +kernel
theorem dL_bit_3 : decode cL_bit 3 = .ok (.aload_n 0, 1) := by decide +kernel
theorem dL_bit_4 : decode cL_bit 4 = .ok (.iload_n 1, 1) := by decide +kernel
theorem dL_bit_5 : decode cL_bit 5 = .ok (.iload_n 2, 1) := by decide +kernel
theorem dL_bit_6 : decode cL_bit 6 = .ok (.iload_n 3, 1) := by decide +kernel
theorem dL_bit_7 : decode cL_bit 7 = .ok (.invokevirtual 35, 3) := by decide +kernel
theorem dL_bit_10 : decode cL_bit 10 = .ok (.i2l, 1) := by decide +kernel
theorem dL_bit_11 : decode cL_bit 11 = .ok (.lastore, 1) := by decide +kernel
theorem dL_bit_12 : decode cL_bit 12 = .ok (.goto 7, 3) := by decide +kernel
theorem dL_bit_15 : decode cL_bit 15 = .ok (.astore 5, 2) := by decide +kernel
theorem dL_bit_17 : decode cL_bit 17 = .ok (.iconst 1, 1) := by decide +kernel
theorem dL_bit_18 : decode cL_bit 18 = .ok (.ireturn, 1) := by decide +kernel
theorem dL_bit_19 : decode cL_bit 19 = .ok (.iconst 0, 1) := by decide +kernel
theorem dL_bit_20 : decode cL_bit 20 = .ok (.ireturn, 1) := by decide +kernel
set_option maxRecDepth 20000 in
theorem ggL_taken_X6_taken : GoodIn wsL_taken wsX6_taken := goodIn_ca (goodIn_r _ [6, 7, 8, 9, 10, 11, 5, 12, 13, 14, 15, 16, 17, 18, 19, 20, 21, 22, 23, 24, 25, 26, 27, 28, 29, 30, 31, 32, 33, 34, 35, 36, 37, 38, 39, 40, 41, 42] (by decide +kernel) (by decide +kernel)) (goodIn_sub (fun _ h => List.mem_cons_of_mem _ (List.mem_append_right _ h)) (by decide +kernel))
set_option maxRecDepth 20000 in
theorem gL_taken_X6_taken : GoodIn wsL_taken (wsV RL 38 RX6 yX6_taken wsX6_taken) := goodIn_app (goodIn_of _ (by decide +kernel)) ggL_taken_X6_taken
theorem dL_taken_0 : decode cL_taken 0 = .ok (.aload 4, 2) := by decide +kernel
theorem dL_taken_2 : decode cL_taken 2 = .ok (.iconst 0, 1) := by decide +kernel
theorem dL_taken_3 : decode cL_taken 3 = .ok (.aload_n 0, 1) := by decide +kernel
theorem dL_taken_4 : decode cL_taken 4 = .ok (.iload_n 1, 1) := by decide +kernel
theorem dL_taken_5 : decode cL_taken 5 = .ok (.iload_n 2, 1) := by decide +kernel
theorem dL_taken_6 : decode cL_taken 6 = .ok (.iload_n 3, 1) := by decide +kernel
theorem dL_taken_7 : decode cL_taken 7 = .ok (.invokevirtual 38, 3) := by decide +kernel
theorem dL_taken_10 : decode cL_taken 10 = .ok (.i2l, 1) := by decide +kernel
theorem dL_taken_11 : decode cL_taken 11 = .ok (.lastore, 1) := by decide +kernel
theorem dL_taken_12 : decode cL_taken 12 = .ok (.goto 7, 3) := by decide +kernel
theorem dL_taken_15 : decode cL_taken 15 = .ok (.astore 5, 2) := by decide +kernel
theorem dL_taken_17 : decode cL_taken 17 = .ok (.iconst 1, 1) := by decide +kernel
theorem dL_taken_18 : decode cL_taken 18 = .ok (.ireturn, 1) := by decide +kernel
theorem dL_taken_19 : decode cL_taken 19 = .ok (.iconst 0, 1) := by decide +kernel
theorem dL_taken_20 : decode cL_taken 20 = .ok (.ireturn, 1) := by decide +kernel
set_option maxRecDepth 20000 in
theorem ggL_check_X6_check : GoodIn wsL_check wsX6_check := goodIn_ca (goodIn_r _ [6, 7, 8, 9, 10, 11, 5, 12, 13] (by decide +kernel) (by decide +kernel)) (goodIn_sub (fun _ h => List.mem_cons_of_mem _ (List.mem_append_right _ h)) (by decide +kernel))
set_option maxRecDepth 20000 in
theorem gL_check_X6_check : GoodIn wsL_check (wsV RL 41 RX6 yX6_check wsX6_check) := goodIn_app (goodIn_of _ (by decide +kernel)) ggL_check_X6_check
theorem dL_check_0 : decode cL_check 0 = .ok (.aload 4, 2) := by decide +kernel
theorem dL_check_2 : decode cL_check 2 = .ok (.iconst 0, 1) := by decide +kernel
theorem dL_check_3 : decode cL_check 3 = .ok (.aload_n 0, 1) := by decide +kernel
theorem dL_check_4 : decode cL_check 4 = .ok (.lload_n 1, 1) := by decide +kernel
theorem dL_check_5 : decode cL_check 5 = .ok (.iload_n 3, 1) := by decide +kernel
theorem dL_check_6 : decode cL_check 6 = .ok (.invokevirtual 41, 3) := by decide +kernel
theorem dL_check_9 : decode cL_check 9 = .ok (.i2l, 1) := by decide +kernel
theorem dL_check_10 : decode cL_check 10 = .ok (.lastore, 1) := by decide +kernel
theorem dL_check_11 : decode cL_check 11 = .ok (.goto 7, 3) := by decide +kernel
theorem dL_check_14 : decode cL_check 14 = .ok (.astore 5, 2) := by decide +kernel
theorem dL_check_16 : decode cL_check 16 = .ok (.iconst 1, 1) := by decide +kernel
theorem dL_check_17 : decode cL_check 17 = .ok (.ireturn, 1) := by decide +kernel
theorem dL_check_18 : decode cL_check 18 = .ok (.iconst 0, 1) := by decide +kernel
theorem dL_check_19 : decode cL_check 19 = .ok (.ireturn, 1) := by decide +kernel
set_option maxRecDepth 20000 in
theorem ggL_about_X6_about : GoodIn wsL_about wsX6_about := goodIn_ca (goodIn_r _ [6, 7, 8, 9, 10, 11, 5, 12, 13, 14, 15, 16, 17, 18, 19, 20, 21, 22, 23, 24, 25, 26, 27, 28, 29, 30, 31, 32, 33, 34, 35, 36, 37, 38, 39, 40, 41, 42, 43, 44, 45, 46, 47, 48, 49, 50, 51, 52, 53] (by decide +kernel) (by decide +kernel)) (goodIn_sub (fun _ h => List.mem_cons_of_mem _ (List.mem_append_right _ h)) (by decide +kernel))
set_option maxRecDepth 20000 in
theorem gL_about_X6_about : GoodIn wsL_about (wsV RL 45 RX6 yX6_about wsX6_about) := goodIn_app (goodIn_of _ (by decide +kernel)) ggL_about_X6_about
theorem dL_about_0 : decode cL_about 0 = .ok (.aload_n 3, 1) := by decide +kernel
theorem dL_about_1 : decode cL_about 1 = .ok (.iconst 0, 1) := by decide +kernel
theorem dL_about_2 : decode cL_about 2 = .ok (.aload_n 0, 1) := by decide +kernel
theorem dL_about_3 : decode cL_about 3 = .ok (.iload_n 1, 1) := by decide +kernel
theorem dL_about_4 : decode cL_about 4 = .ok (.iload_n 2, 1) := by decide +kernel
theorem dL_about_5 : decode cL_about 5 = .ok (.invokevirtual 45, 3) := by decide +kernel
theorem dL_about_8 : decode cL_about 8 = .ok (.i2l, 1) := by decide +kernel
theorem dL_about_9 : decode cL_about 9 = .ok (.lastore, 1) := by decide +kernel
theorem dL_about_10 : decode cL_about 10 = .ok (.goto 7, 3) := by decide +kernel
theorem dL_about_13 : decode cL_about 13 = .ok (.astore 4, 2) := by decide +kernel
theorem dL_about_15 : decode cL_about 15 = .ok (.iconst 1, 1) := by decide +kernel
theorem dL_about_16 : decode cL_about 16 = .ok (.ireturn, 1) := by decide +kernel
theorem dL_about_17 : decode cL_about 17 = .ok (.iconst 0, 1) := by decide +kernel
theorem dL_about_18 : decode cL_about 18 = .ok (.ireturn, 1) := by decide +kernel
set_option maxRecDepth 20000 in
theorem ggL_restart_X6_restart : GoodIn wsL_restart wsX6_restart := goodIn_ca (goodIn_r _ [6, 7, 8, 9, 5, 10, 11, 12, 13, 14, 15, 16, 17, 18, 19, 20, 21, 22, 23, 24, 25, 26, 27, 28, 29, 30, 31, 32, 33, 34, 35, 36, 37, 38, 39, 40, 41, 42, 43, 44, 45, 46, 47, 48, 49, 50, 51, 52, 53, 54, 55, 56, 57, 58, 59] (by decide +kernel) (by decide +kernel)) (goodIn_sub (fun _ h => List.mem_cons_of_mem _ (List.mem_append_right _ h)) (by decide +kernel))
set_option maxRecDepth 20000 in
theorem gL_restart_X6_restart : GoodIn wsL_restart (wsV RL 48 RX6 yX6_restart wsX6_restart) := goodIn_app (goodIn_of _ (by decide +kernel)) ggL_restart_X6_restart
theorem dL_restart_0 : decode cL_restart 0 = .ok (.aload_n 0, 1) := by decide +kernel
theorem dL_restart_1 : decode cL_restart 1 = .ok (.iload_n 1, 1) := by decide +kernel
theorem dL_restart_2 : decode cL_restart 2 = .ok (.invokevirtual 48, 3) := by decide +kernel
theorem dL_restart_5 : decode cL_restart 5 = .ok (.goto 6, 3) := by decide +kernel
theorem dL_restart_8 : decode cL_restart 8 = .ok (.astore_n 2, 1) := by decide +kernel
theorem dL_restart_9 : decode cL_restart 9 = .ok (.iconst 1, 1) := by decide +kernel
theorem dL_restart_10 : decode cL_restart 10 = .ok (.ireturn, 1) := by decide +kernel
theorem dL_restart_11 : decode cL_restart 11 = .ok (.iconst 0, 1) := by decide +kernel
theorem dL_restart_12 : decode cL_restart 12 = .ok (.ireturn, 1) := by decide +kernel
theorem dL_law_0 : decode cL_law 0 = .ok (.new 8, 3) := by decide +kernel
theorem dL_law_3 : decode cL_law 3 = .ok (.dup, 1) := by decide +kernel
theorem dL_law_4 : decode cL_law 4 = .ok (.invokespecial 52, 3) := by decide +kernel
theorem dL_law_7 : decode cL_law 7 = .ok (.astore_n 1, 1) := by decide +kernel
theorem dL_law_8 : decode cL_law 8 = .ok (.new 53, 3) := by decide +kernel
theorem dL_law_11 : decode cL_law 11 = .ok (.dup, 1) := by decide +kernel
theorem dL_law_12 : decode cL_law 12 = .ok (.invokespecial 55, 3) := by decide +kernel
theorem dL_law_15 : decode cL_law 15 = .ok (.astore_n 2, 1) := by decide +kernel
theorem dL_law_16 : decode cL_law 16 = .ok (.iconst 1, 1) := by decide +kernel
theorem dL_law_17 : decode cL_law 17 = .ok (.newarray .long, 2) := by decide +kernel
theorem dL_law_19 : decode cL_law 19 = .ok (.astore_n 3, 1) := by decide +kernel
theorem dL_law_20 : decode cL_law 20 = .ok (.iconst 0, 1) := by decide +kernel
theorem dL_law_21 : decode cL_law 21 = .ok (.istore 4, 2) := by decide +kernel
theorem dL_law_23 : decode cL_law 23 = .ok (.iload 4, 2) := by decide +kernel
theorem dL_law_25 : decode cL_law 25 = .ok (.aload_n 0, 1) := by decide +kernel
theorem dL_law_26 : decode cL_law 26 = .ok (.arraylength, 1) := by decide +kernel
theorem dL_law_27 : decode cL_law 27 = .ok (.bipush 6, 2) := by decide +kernel
theorem dL_law_29 : decode cL_law 29 = .ok (.isub, 1) := by decide +kernel
theorem dL_law_30 : decode cL_law 30 = .ok (.if_icmp .gt 657, 3) := by decide +kernel
theorem dL_law_33 : decode cL_law 33 = .ok (.aload_n 0, 1) := by decide +kernel
theorem dL_law_34 : decode cL_law 34 = .ok (.iload 4, 2) := by decide +kernel
theorem dL_law_36 : decode cL_law 36 = .ok (.iaload, 1) := by decide +kernel
theorem dL_law_37 : decode cL_law 37 = .ok (.bipush 15, 2) := by decide +kernel
theorem dL_law_39 : decode cL_law 39 = .ok (.iand, 1) := by decide +kernel
theorem dL_law_40 : decode cL_law 40 = .ok (.tableswitch 641 0 10 #[60, 112, 140, 168, 220, 260, 372, 424, 476, 576, 616], 60) := by decide +kernel
theorem dL_law_100 : decode cL_law 100 = .ok (.aload_n 1, 1) := by decide +kernel
theorem dL_law_101 : decode cL_law 101 = .ok (.aload_n 0, 1) := by decide +kernel
theorem dL_law_102 : decode cL_law 102 = .ok (.iload 4, 2) := by decide +kernel
theorem dL_law_104 : decode cL_law 104 = .ok (.iconst 1, 1) := by decide +kernel
theorem dL_law_105 : decode cL_law 105 = .ok (.iadd, 1) := by decide +kernel
theorem dL_law_106 : decode cL_law 106 = .ok (.iaload, 1) := by decide +kernel
theorem dL_law_107 : decode cL_law 107 = .ok (.aload_n 0, 1) := by decide +kernel
theorem dL_law_108 : decode cL_law 108 = .ok (.iload 4, 2) := by decide +kernel
theorem dL_law_110 : decode cL_law 110 = .ok (.iconst 2, 1) := by decide +kernel
theorem dL_law_111 : decode cL_law 111 = .ok (.iadd, 1) := by decide +kernel
theorem dL_law_112 : decode cL_law 112 = .ok (.iaload, 1) := by decide +kernel
theorem dL_law_113 : decode cL_law 113 = .ok (.aload_n 0, 1) := by decide +kernel
theorem dL_law_114 : decode cL_law 114 = .ok (.iload 4, 2) := by decide +kernel
theorem dL_law_116 : decode cL_law 116 = .ok (.iconst 3, 1) := by decide +kernel
theorem dL_law_117 : decode cL_law 117 = .ok (.iadd, 1) := by decide +kernel
theorem dL_law_118 : decode cL_law 118 = .ok (.iaload, 1) := by decide +kernel
theorem dL_law_119 : decode cL_law 119 = .ok (.aload_n 3, 1) := by decide +kernel
theorem dL_law_120 : decode cL_law 120 = .ok (.invokestatic 56, 3) := by decide +kernel
theorem dL_law_123 : decode cL_law 123 = .ok (.istore 5, 2) := by decide +kernel
theorem dL_law_125 : decode cL_law 125 = .ok (.aload_n 2, 1) := by decide +kernel
theorem dL_law_126 : decode cL_law 126 = .ok (.aload_n 0, 1) := by decide +kernel
theorem dL_law_127 : decode cL_law 127 = .ok (.iload 4, 2) := by decide +kernel
theorem dL_law_129 : decode cL_law 129 = .ok (.iconst 1, 1) := by decide +kernel
theorem dL_law_130 : decode cL_law 130 = .ok (.iadd, 1) := by decide +kernel
theorem dL_law_131 : decode cL_law 131 = .ok (.iaload, 1) := by decide +kernel
theorem dL_law_132 : decode cL_law 132 = .ok (.aload_n 0, 1) := by decide +kernel
theorem dL_law_133 : decode cL_law 133 = .ok (.iload 4, 2) := by decide +kernel
theorem dL_law_135 : decode cL_law 135 = .ok (.iconst 2, 1) := by decide +kernel
theorem dL_law_136 : decode cL_law 136 = .ok (.iadd, 1) := by decide +kernel
theorem dL_law_137 : decode cL_law 137 = .ok (.iaload, 1) := by decide +kernel
theorem dL_law_138 : decode cL_law 138 = .ok (.aload_n 0, 1) := by decide +kernel
theorem dL_law_139 : decode cL_law 139 = .ok (.iload 4, 2) := by decide +kernel
theorem dL_law_141 : decode cL_law 141 = .ok (.iconst 3, 1) := by decide +kernel
theorem dL_law_142 : decode cL_law 142 = .ok (.iadd, 1) := by decide +kernel
theorem dL_law_143 : decode cL_law 143 = .ok (.iaload, 1) := by decide +kernel
theorem dL_law_144 : decode cL_law 144 = .ok (.invokevirtual 61, 3) := by decide +kernel
theorem dL_law_147 : decode cL_law 147 = .ok (.istore 6, 2) := by decide +kernel
theorem dL_law_149 : decode cL_law 149 = .ok (.goto 532, 3) := by decide +kernel
theorem dL_law_152 : decode cL_law 152 = .ok (.aload_n 1, 1) := by decide +kernel
theorem dL_law_153 : decode cL_law 153 = .ok (.aload_n 0, 1) := by decide +kernel
theorem dL_law_154 : decode cL_law 154 = .ok (.iload 4, 2) := by decide +kernel
theorem dL_law_156 : decode cL_law 156 = .ok (.iconst 1, 1) := by decide +kernel
theorem dL_law_157 : decode cL_law 157 = .ok (.iadd, 1) := by decide +kernel
theorem dL_law_158 : decode cL_law 158 = .ok (.iaload, 1) := by decide +kernel
theorem dL_law_159 : decode cL_law 159 = .ok (.aload_n 3, 1) := by decide +kernel
theorem dL_law_160 : decode cL_law 160 = .ok (.invokestatic 62, 3) := by decide +kernel
theorem dL_law_163 : decode cL_law 163 = .ok (.istore 5, 2) := by decide +kernel
theorem dL_law_165 : decode cL_law 165 = .ok (.aload_n 2, 1) := by decide +kernel
theorem dL_law_166 : decode cL_law 166 = .ok (.aload_n 0, 1) := by decide +kernel
theorem dL_law_167 : decode cL_law 167 = .ok (.iload 4, 2) := by decide +kernel
theorem dL_law_169 : decode cL_law 169 = .ok (.iconst 1, 1) := by decide +kernel
theorem dL_law_170 : decode cL_law 170 = .ok (.iadd, 1) := by decide +kernel
theorem dL_law_171 : decode cL_law 171 = .ok (.iaload, 1) := by decide +kernel
theorem dL_law_172 : decode cL_law 172 = .ok (.invokevirtual 65, 3) := by decide +kernel
theorem dL_law_175 : decode cL_law 175 = .ok (.istore 6, 2) := by decide +kernel
theorem dL_law_177 : decode cL_law 177 = .ok (.goto 504, 3) := by decide +kernel
theorem dL_law_180 : decode cL_law 180 = .ok (.aload_n 1, 1) := by decide +kernel
theorem dL_law_181 : decode cL_law 181 = .ok (.aload_n 0, 1) := by decide +kernel
theorem dL_law_182 : decode cL_law 182 = .ok (.iload 4, 2) := by decide +kernel
theorem dL_law_184 : decode cL_law 184 = .ok (.iconst 1, 1) := by decide +kernel
theorem dL_law_185 : decode cL_law 185 = .ok (.iadd, 1) := by decide +kernel
theorem dL_law_186 : decode cL_law 186 = .ok (.iaload, 1) := by decide +kernel
theorem dL_law_187 : decode cL_law 187 = .ok (.aload_n 3, 1) := by decide +kernel
theorem dL_law_188 : decode cL_law 188 = .ok (.invokestatic 66, 3) := by decide +kernel
theorem dL_law_191 : decode cL_law 191 = .ok (.istore 5, 2) := by decide +kernel
theorem dL_law_193 : decode cL_law 193 = .ok (.aload_n 2, 1) := by decide +kernel
theorem dL_law_194 : decode cL_law 194 = .ok (.aload_n 0, 1) := by decide +kernel
theorem dL_law_195 : decode cL_law 195 = .ok (.iload 4, 2) := by decide +kernel
theorem dL_law_197 : decode cL_law 197 = .ok (.iconst 1, 1) := by decide +kernel
theorem dL_law_198 : decode cL_law 198 = .ok (.iadd, 1) := by decide +kernel
theorem dL_law_199 : decode cL_law 199 = .ok (.iaload, 1) := by decide +kernel
theorem dL_law_200 : decode cL_law 200 = .ok (.invokevirtual 68, 3) := by decide +kernel
theorem dL_law_203 : decode cL_law 203 = .ok (.istore 6, 2) := by decide +kernel
theorem dL_law_205 : decode cL_law 205 = .ok (.goto 476, 3) := by decide +kernel
theorem dL_law_208 : decode cL_law 208 = .ok (.aload_n 1, 1) := by decide +kernel
theorem dL_law_209 : decode cL_law 209 = .ok (.aload_n 0, 1) := by decide +kernel
theorem dL_law_210 : decode cL_law 210 = .ok (.iload 4, 2) := by decide +kernel
theorem dL_law_212 : decode cL_law 212 = .ok (.iconst 1, 1) := by decide +kernel
theorem dL_law_213 : decode cL_law 213 = .ok (.iadd, 1) := by decide +kernel
theorem dL_law_214 : decode cL_law 214 = .ok (.iaload, 1) := by decide +kernel
theorem dL_law_215 : decode cL_law 215 = .ok (.aload_n 0, 1) := by decide +kernel
theorem dL_law_216 : decode cL_law 216 = .ok (.iload 4, 2) := by decide +kernel
theorem dL_law_218 : decode cL_law 218 = .ok (.iconst 2, 1) := by decide +kernel
theorem dL_law_219 : decode cL_law 219 = .ok (.iadd, 1) := by decide +kernel
theorem dL_law_220 : decode cL_law 220 = .ok (.iaload, 1) := by decide +kernel
theorem dL_law_221 : decode cL_law 221 = .ok (.aload_n 0, 1) := by decide +kernel
theorem dL_law_222 : decode cL_law 222 = .ok (.iload 4, 2) := by decide +kernel
theorem dL_law_224 : decode cL_law 224 = .ok (.iconst 3, 1) := by decide +kernel
theorem dL_law_225 : decode cL_law 225 = .ok (.iadd, 1) := by decide +kernel
theorem dL_law_226 : decode cL_law 226 = .ok (.iaload, 1) := by decide +kernel
theorem dL_law_227 : decode cL_law 227 = .ok (.aload_n 3, 1) := by decide +kernel
theorem dL_law_228 : decode cL_law 228 = .ok (.invokestatic 69, 3) := by decide +kernel
theorem dL_law_231 : decode cL_law 231 = .ok (.istore 5, 2) := by decide +kernel
theorem dL_law_233 : decode cL_law 233 = .ok (.aload_n 2, 1) := by decide +kernel
theorem dL_law_234 : decode cL_law 234 = .ok (.aload_n 0, 1) := by decide +kernel
theorem dL_law_235 : decode cL_law 235 = .ok (.iload 4, 2) := by decide +kernel
theorem dL_law_237 : decode cL_law 237 = .ok (.iconst 1, 1) := by decide +kernel
theorem dL_law_238 : decode cL_law 238 = .ok (.iadd, 1) := by decide +kernel
theorem dL_law_239 : decode cL_law 239 = .ok (.iaload, 1) := by decide +kernel
theorem dL_law_240 : decode cL_law 240 = .ok (.aload_n 0, 1) := by decide +kernel
theorem dL_law_241 : decode cL_law 241 = .ok (.iload 4, 2) := by decide +kernel
theorem dL_law_243 : decode cL_law 243 = .ok (.iconst 2, 1) := by decide +kernel
theorem dL_law_244 : decode cL_law 244 = .ok (.iadd, 1) := by decide +kernel
theorem dL_law_245 : decode cL_law 245 = .ok (.iaload, 1) := by decide +kernel
theorem dL_law_246 : decode cL_law 246 = .ok (.aload_n 0, 1) := by decide +kernel
theorem dL_law_247 : decode cL_law 247 = .ok (.iload 4, 2) := by decide +kernel
theorem dL_law_249 : decode cL_law 249 = .ok (.iconst 3, 1) := by decide +kernel
theorem dL_law_250 : decode cL_law 250 = .ok (.iadd, 1) := by decide +kernel
theorem dL_law_251 : decode cL_law 251 = .ok (.iaload, 1) := by decide +kernel
theorem dL_law_252 : decode cL_law 252 = .ok (.invokevirtual 71, 3) := by decide +kernel
theorem dL_law_255 : decode cL_law 255 = .ok (.istore 6, 2) := by decide +kernel
theorem dL_law_257 : decode cL_law 257 = .ok (.goto 424, 3) := by decide +kernel
theorem dL_law_260 : decode cL_law 260 = .ok (.aload_n 1, 1) := by decide +kernel
theorem dL_law_261 : decode cL_law 261 = .ok (.aload_n 0, 1) := by decide +kernel
theorem dL_law_262 : decode cL_law 262 = .ok (.iload 4, 2) := by decide +kernel
theorem dL_law_264 : decode cL_law 264 = .ok (.iconst 1, 1) := by decide +kernel
theorem dL_law_265 : decode cL_law 265 = .ok (.iadd, 1) := by decide +kernel
theorem dL_law_266 : decode cL_law 266 = .ok (.iaload, 1) := by decide +kernel
theorem dL_law_267 : decode cL_law 267 = .ok (.aload_n 0, 1) := by decide +kernel
theorem dL_law_268 : decode cL_law 268 = .ok (.iload 4, 2) := by decide +kernel
theorem dL_law_270 : decode cL_law 270 = .ok (.iconst 2, 1) := by decide +kernel
theorem dL_law_271 : decode cL_law 271 = .ok (.iadd, 1) := by decide +kernel
theorem dL_law_272 : decode cL_law 272 = .ok (.iaload, 1) := by decide +kernel
theorem dL_law_273 : decode cL_law 273 = .ok (.aload_n 3, 1) := by decide +kernel
theorem dL_law_274 : decode cL_law 274 = .ok (.invokestatic 72, 3) := by decide +kernel
theorem dL_law_277 : decode cL_law 277 = .ok (.istore 5, 2) := by decide +kernel
theorem dL_law_279 : decode cL_law 279 = .ok (.aload_n 2, 1) := by decide +kernel
theorem dL_law_280 : decode cL_law 280 = .ok (.aload_n 0, 1) := by decide +kernel
theorem dL_law_281 : decode cL_law 281 = .ok (.iload 4, 2) := by decide +kernel
theorem dL_law_283 : decode cL_law 283 = .ok (.iconst 1, 1) := by decide +kernel
theorem dL_law_284 : decode cL_law 284 = .ok (.iadd, 1) := by decide +kernel
theorem dL_law_285 : decode cL_law 285 = .ok (.iaload, 1) := by decide +kernel
theorem dL_law_286 : decode cL_law 286 = .ok (.aload_n 0, 1) := by decide +kernel
theorem dL_law_287 : decode cL_law 287 = .ok (.iload 4, 2) := by decide +kernel
theorem dL_law_289 : decode cL_law 289 = .ok (.iconst 2, 1) := by decide +kernel
theorem dL_law_290 : decode cL_law 290 = .ok (.iadd, 1) := by decide +kernel
theorem dL_law_291 : decode cL_law 291 = .ok (.iaload, 1) := by decide +kernel
theorem dL_law_292 : decode cL_law 292 = .ok (.invokevirtual 75, 3) := by decide +kernel
theorem dL_law_295 : decode cL_law 295 = .ok (.istore 6, 2) := by decide +kernel
theorem dL_law_297 : decode cL_law 297 = .ok (.goto 384, 3) := by decide +kernel
theorem dL_law_300 : decode cL_law 300 = .ok (.aload_n 1, 1) := by decide +kernel
theorem dL_law_301 : decode cL_law 301 = .ok (.aload_n 0, 1) := by decide +kernel
theorem dL_law_302 : decode cL_law 302 = .ok (.iload 4, 2) := by decide +kernel
theorem dL_law_304 : decode cL_law 304 = .ok (.iconst 1, 1) := by decide +kernel
theorem dL_law_305 : decode cL_law 305 = .ok (.iadd, 1) := by decide +kernel
theorem dL_law_306 : decode cL_law 306 = .ok (.iaload, 1) := by decide +kernel
theorem dL_law_307 : decode cL_law 307 = .ok (.aload_n 0, 1) := by decide +kernel
theorem dL_law_308 : decode cL_law 308 = .ok (.iload 4, 2) := by decide +kernel
theorem dL_law_310 : decode cL_law 310 = .ok (.iconst 2, 1) := by decide +kernel
theorem dL_law_311 : decode cL_law 311 = .ok (.iadd, 1) := by decide +kernel
theorem dL_law_312 : decode cL_law 312 = .ok (.iaload, 1) := by decide +kernel
theorem dL_law_313 : decode cL_law 313 = .ok (.i2l, 1) := by decide +kernel
theorem dL_law_314 : decode cL_law 314 = .ok (.bipush 32, 2) := by decide +kernel
theorem dL_law_316 : decode cL_law 316 = .ok (.lshl, 1) := by decide +kernel
theorem dL_law_317 : decode cL_law 317 = .ok (.aload_n 0, 1) := by decide +kernel
theorem dL_law_318 : decode cL_law 318 = .ok (.iload 4, 2) := by decide +kernel
theorem dL_law_320 : decode cL_law 320 = .ok (.iconst 3, 1) := by decide +kernel
theorem dL_law_321 : decode cL_law 321 = .ok (.iadd, 1) := by decide +kernel
theorem dL_law_322 : decode cL_law 322 = .ok (.iaload, 1) := by decide +kernel
theorem dL_law_323 : decode cL_law 323 = .ok (.i2l, 1) := by decide +kernel
theorem dL_law_324 : decode cL_law 324 = .ok (.ldc2_w 76, 3) := by decide +kernel
theorem dL_law_327 : decode cL_law 327 = .ok (.land, 1) := by decide +kernel
theorem dL_law_328 : decode cL_law 328 = .ok (.lor, 1) := by decide +kernel
theorem dL_law_329 : decode cL_law 329 = .ok (.aload_n 0, 1) := by decide +kernel
theorem dL_law_330 : decode cL_law 330 = .ok (.iload 4, 2) := by decide +kernel
theorem dL_law_332 : decode cL_law 332 = .ok (.iconst 4, 1) := by decide +kernel
theorem dL_law_333 : decode cL_law 333 = .ok (.iadd, 1) := by decide +kernel
theorem dL_law_334 : decode cL_law 334 = .ok (.iaload, 1) := by decide +kernel
theorem dL_law_335 : decode cL_law 335 = .ok (.aload_n 0, 1) := by decide +kernel
theorem dL_law_336 : decode cL_law 336 = .ok (.iload 4, 2) := by decide +kernel
theorem dL_law_338 : decode cL_law 338 = .ok (.iconst 5, 1) := by decide +kernel
theorem dL_law_339 : decode cL_law 339 = .ok (.iadd, 1) := by decide +kernel
theorem dL_law_340 : decode cL_law 340 = .ok (.iaload, 1) := by decide +kernel
theorem dL_law_341 : decode cL_law 341 = .ok (.ifCond .eq 7, 3) := by decide +kernel
theorem dL_law_344 : decode cL_law 344 = .ok (.iconst 1, 1) := by decide +kernel
theorem dL_law_345 : decode cL_law 345 = .ok (.goto 4, 3) := by decide +kernel
theorem dL_law_348 : decode cL_law 348 = .ok (.iconst 0, 1) := by decide +kernel
theorem dL_law_349 : decode cL_law 349 = .ok (.aload_n 3, 1) := by decide +kernel
theorem dL_law_350 : decode cL_law 350 = .ok (.invokestatic 78, 3) := by decide +kernel
theorem dL_law_353 : decode cL_law 353 = .ok (.istore 5, 2) := by decide +kernel
theorem dL_law_355 : decode cL_law 355 = .ok (.aload_n 2, 1) := by decide +kernel
theorem dL_law_356 : decode cL_law 356 = .ok (.aload_n 0, 1) := by decide +kernel
theorem dL_law_357 : decode cL_law 357 = .ok (.iload 4, 2) := by decide +kernel
theorem dL_law_359 : decode cL_law 359 = .ok (.iconst 1, 1) := by decide +kernel
theorem dL_law_360 : decode cL_law 360 = .ok (.iadd, 1) := by decide +kernel
theorem dL_law_361 : decode cL_law 361 = .ok (.iaload, 1) := by decide +kernel
theorem dL_law_362 : decode cL_law 362 = .ok (.aload_n 0, 1) := by decide +kernel
theorem dL_law_363 : decode cL_law 363 = .ok (.iload 4, 2) := by decide +kernel
theorem dL_law_365 : decode cL_law 365 = .ok (.iconst 2, 1) := by decide +kernel
theorem dL_law_366 : decode cL_law 366 = .ok (.iadd, 1) := by decide +kernel
theorem dL_law_367 : decode cL_law 367 = .ok (.iaload, 1) := by decide +kernel
theorem dL_law_368 : decode cL_law 368 = .ok (.i2l, 1) := by decide +kernel
theorem dL_law_369 : decode cL_law 369 = .ok (.bipush 32, 2) := by decide +kernel
theorem dL_law_371 : decode cL_law 371 = .ok (.lshl, 1) := by decide +kernel
theorem dL_law_372 : decode cL_law 372 = .ok (.aload_n 0, 1) := by decide +kernel
theorem dL_law_373 : decode cL_law 373 = .ok (.iload 4, 2) := by decide +kernel
theorem dL_law_375 : decode cL_law 375 = .ok (.iconst 3, 1) := by decide +kernel
theorem dL_law_376 : decode cL_law 376 = .ok (.iadd, 1) := by decide +kernel
theorem dL_law_377 : decode cL_law 377 = .ok (.iaload, 1) := by decide +kernel
theorem dL_law_378 : decode cL_law 378 = .ok (.i2l, 1) := by decide +kernel
theorem dL_law_379 : decode cL_law 379 = .ok (.ldc2_w 76, 3) := by decide +kernel
theorem dL_law_382 : decode cL_law 382 = .ok (.land, 1) := by decide +kernel
theorem dL_law_383 : decode cL_law 383 = .ok (.lor, 1) := by decide +kernel
theorem dL_law_384 : decode cL_law 384 = .ok (.aload_n 0, 1) := by decide +kernel
theorem dL_law_385 : decode cL_law 385 = .ok (.iload 4, 2) := by decide +kernel
theorem dL_law_387 : decode cL_law 387 = .ok (.iconst 4, 1) := by decide +kernel
theorem dL_law_388 : decode cL_law 388 = .ok (.iadd, 1) := by decide +kernel
theorem dL_law_389 : decode cL_law 389 = .ok (.iaload, 1) := by decide +kernel
theorem dL_law_390 : decode cL_law 390 = .ok (.aload_n 0, 1) := by decide +kernel
theorem dL_law_391 : decode cL_law 391 = .ok (.iload 4, 2) := by decide +kernel
theorem dL_law_393 : decode cL_law 393 = .ok (.iconst 5, 1) := by decide +kernel
theorem dL_law_394 : decode cL_law 394 = .ok (.iadd, 1) := by decide +kernel
theorem dL_law_395 : decode cL_law 395 = .ok (.iaload, 1) := by decide +kernel
theorem dL_law_396 : decode cL_law 396 = .ok (.ifCond .eq 7, 3) := by decide +kernel
theorem dL_law_399 : decode cL_law 399 = .ok (.iconst 1, 1) := by decide +kernel
theorem dL_law_400 : decode cL_law 400 = .ok (.goto 4, 3) := by decide +kernel
theorem dL_law_403 : decode cL_law 403 = .ok (.iconst 0, 1) := by decide +kernel
theorem dL_law_404 : decode cL_law 404 = .ok (.invokevirtual 81, 3) := by decide +kernel
theorem dL_law_407 : decode cL_law 407 = .ok (.istore 6, 2) := by decide +kernel
theorem dL_law_409 : decode cL_law 409 = .ok (.goto 272, 3) := by decide +kernel
theorem dL_law_412 : decode cL_law 412 = .ok (.aload_n 1, 1) := by decide +kernel
theorem dL_law_413 : decode cL_law 413 = .ok (.aload_n 0, 1) := by decide +kernel
theorem dL_law_414 : decode cL_law 414 = .ok (.iload 4, 2) := by decide +kernel
theorem dL_law_416 : decode cL_law 416 = .ok (.iconst 1, 1) := by decide +kernel
theorem dL_law_417 : decode cL_law 417 = .ok (.iadd, 1) := by decide +kernel
theorem dL_law_418 : decode cL_law 418 = .ok (.iaload, 1) := by decide +kernel
theorem dL_law_419 : decode cL_law 419 = .ok (.aload_n 0, 1) := by decide +kernel
theorem dL_law_420 : decode cL_law 420 = .ok (.iload 4, 2) := by decide +kernel
theorem dL_law_422 : decode cL_law 422 = .ok (.iconst 2, 1) := by decide +kernel
theorem dL_law_423 : decode cL_law 423 = .ok (.iadd, 1) := by decide +kernel
theorem dL_law_424 : decode cL_law 424 = .ok (.iaload, 1) := by decide +kernel
theorem dL_law_425 : decode cL_law 425 = .ok (.aload_n 0, 1) := by decide +kernel
theorem dL_law_426 : decode cL_law 426 = .ok (.iload 4, 2) := by decide +kernel
theorem dL_law_428 : decode cL_law 428 = .ok (.iconst 3, 1) := by decide +kernel
theorem dL_law_429 : decode cL_law 429 = .ok (.iadd, 1) := by decide +kernel
theorem dL_law_430 : decode cL_law 430 = .ok (.iaload, 1) := by decide +kernel
theorem dL_law_431 : decode cL_law 431 = .ok (.aload_n 3, 1) := by decide +kernel
theorem dL_law_432 : decode cL_law 432 = .ok (.invokestatic 82, 3) := by decide +kernel
end
section
theorem dL_law_435 : decode cL_law 435 = .ok (.istore 5, 2) := by decide +kernel
theorem dL_law_437 : decode cL_law 437 = .ok (.aload_n 2, 1) := by decide +kernel
theorem dL_law_438 : decode cL_law 438 = .ok (.aload_n 0, 1) := by decide +kernel
theorem dL_law_439 : decode cL_law 439 = .ok (.iload 4, 2) := by decide +kernel
theorem dL_law_441 : decode cL_law 441 = .ok (.iconst 1, 1) := by decide +kernel
theorem dL_law_442 : decode cL_law 442 = .ok (.iadd, 1) := by decide +kernel
theorem dL_law_443 : decode cL_law 443 = .ok (.iaload, 1) := by decide +kernel
theorem dL_law_444 : decode cL_law 444 = .ok (.aload_n 0, 1) := by decide +kernel
theorem dL_law_445 : decode cL_law 445 = .ok (.iload 4, 2) := by decide +kernel
theorem dL_law_447 : decode cL_law 447 = .ok (.iconst 2, 1) := by decide +kernel
theorem dL_law_448 : decode cL_law 448 = .ok (.iadd, 1) := by decide +kernel
theorem dL_law_449 : decode cL_law 449 = .ok (.iaload, 1) := by decide +kernel
theorem dL_law_450 : decode cL_law 450 = .ok (.aload_n 0, 1) := by decide +kernel
theorem dL_law_451 : decode cL_law 451 = .ok (.iload 4, 2) := by decide +kernel
theorem dL_law_453 : decode cL_law 453 = .ok (.iconst 3, 1) := by decide +kernel
theorem dL_law_454 : decode cL_law 454 = .ok (.iadd, 1) := by decide +kernel
theorem dL_law_455 : decode cL_law 455 = .ok (.iaload, 1) := by decide +kernel
theorem dL_law_456 : decode cL_law 456 = .ok (.invokevirtual 84, 3) := by decide +kernel
theorem dL_law_459 : decode cL_law 459 = .ok (.istore 6, 2) := by decide +kernel
theorem dL_law_461 : decode cL_law 461 = .ok (.goto 220, 3) := by decide +kernel
theorem dL_law_464 : decode cL_law 464 = .ok (.aload_n 1, 1) := by decide +kernel
theorem dL_law_465 : decode cL_law 465 = .ok (.aload_n 0, 1) := by decide +kernel
theorem dL_law_466 : decode cL_law 466 = .ok (.iload 4, 2) := by decide +kernel
theorem dL_law_468 : decode cL_law 468 = .ok (.iconst 1, 1) := by decide +kernel
theorem dL_law_469 : decode cL_law 469 = .ok (.iadd, 1) := by decide +kernel
theorem dL_law_470 : decode cL_law 470 = .ok (.iaload, 1) := by decide +kernel
theorem dL_law_471 : decode cL_law 471 = .ok (.aload_n 0, 1) := by decide +kernel
theorem dL_law_472 : decode cL_law 472 = .ok (.iload 4, 2) := by decide +kernel
theorem dL_law_474 : decode cL_law 474 = .ok (.iconst 2, 1) := by decide +kernel
theorem dL_law_475 : decode cL_law 475 = .ok (.iadd, 1) := by decide +kernel
theorem dL_law_476 : decode cL_law 476 = .ok (.iaload, 1) := by decide +kernel
theorem dL_law_477 : decode cL_law 477 = .ok (.aload_n 0, 1) := by decide +kernel
theorem dL_law_478 : decode cL_law 478 = .ok (.iload 4, 2) := by decide +kernel
theorem dL_law_480 : decode cL_law 480 = .ok (.iconst 3, 1) := by decide +kernel
theorem dL_law_481 : decode cL_law 481 = .ok (.iadd, 1) := by decide +kernel
theorem dL_law_482 : decode cL_law 482 = .ok (.iaload, 1) := by decide +kernel
theorem dL_law_483 : decode cL_law 483 = .ok (.aload_n 3, 1) := by decide +kernel
theorem dL_law_484 : decode cL_law 484 = .ok (.invokestatic 85, 3) := by decide +kernel
theorem dL_law_487 : decode cL_law 487 = .ok (.istore 5, 2) := by decide +kernel
theorem dL_law_489 : decode cL_law 489 = .ok (.aload_n 2, 1) := by decide +kernel
theorem dL_law_490 : decode cL_law 490 = .ok (.aload_n 0, 1) := by decide +kernel
theorem dL_law_491 : decode cL_law 491 = .ok (.iload 4, 2) := by decide +kernel
theorem dL_law_493 : decode cL_law 493 = .ok (.iconst 1, 1) := by decide +kernel
theorem dL_law_494 : decode cL_law 494 = .ok (.iadd, 1) := by decide +kernel
theorem dL_law_495 : decode cL_law 495 = .ok (.iaload, 1) := by decide +kernel
theorem dL_law_496 : decode cL_law 496 = .ok (.aload_n 0, 1) := by decide +kernel
theorem dL_law_497 : decode cL_law 497 = .ok (.iload 4, 2) := by decide +kernel
theorem dL_law_499 : decode cL_law 499 = .ok (.iconst 2, 1) := by decide +kernel
theorem dL_law_500 : decode cL_law 500 = .ok (.iadd, 1) := by decide +kernel
theorem dL_law_501 : decode cL_law 501 = .ok (.iaload, 1) := by decide +kernel
theorem dL_law_502 : decode cL_law 502 = .ok (.aload_n 0, 1) := by decide +kernel
theorem dL_law_503 : decode cL_law 503 = .ok (.iload 4, 2) := by decide +kernel
theorem dL_law_505 : decode cL_law 505 = .ok (.iconst 3, 1) := by decide +kernel
theorem dL_law_506 : decode cL_law 506 = .ok (.iadd, 1) := by decide +kernel
theorem dL_law_507 : decode cL_law 507 = .ok (.iaload, 1) := by decide +kernel
theorem dL_law_508 : decode cL_law 508 = .ok (.invokevirtual 87, 3) := by decide +kernel
theorem dL_law_511 : decode cL_law 511 = .ok (.istore 6, 2) := by decide +kernel
theorem dL_law_513 : decode cL_law 513 = .ok (.goto 168, 3) := by decide +kernel
theorem dL_law_516 : decode cL_law 516 = .ok (.aload_n 1, 1) := by decide +kernel
theorem dL_law_517 : decode cL_law 517 = .ok (.aload_n 0, 1) := by decide +kernel
theorem dL_law_518 : decode cL_law 518 = .ok (.iload 4, 2) := by decide +kernel
theorem dL_law_520 : decode cL_law 520 = .ok (.iconst 1, 1) := by decide +kernel
theorem dL_law_521 : decode cL_law 521 = .ok (.iadd, 1) := by decide +kernel
theorem dL_law_522 : decode cL_law 522 = .ok (.iaload, 1) := by decide +kernel
theorem dL_law_523 : decode cL_law 523 = .ok (.i2l, 1) := by decide +kernel
theorem dL_law_524 : decode cL_law 524 = .ok (.bipush 32, 2) := by decide +kernel
theorem dL_law_526 : decode cL_law 526 = .ok (.lshl, 1) := by decide +kernel
theorem dL_law_527 : decode cL_law 527 = .ok (.aload_n 0, 1) := by decide +kernel
theorem dL_law_528 : decode cL_law 528 = .ok (.iload 4, 2) := by decide +kernel
theorem dL_law_530 : decode cL_law 530 = .ok (.iconst 2, 1) := by decide +kernel
theorem dL_law_531 : decode cL_law 531 = .ok (.iadd, 1) := by decide +kernel
theorem dL_law_532 : decode cL_law 532 = .ok (.iaload, 1) := by decide +kernel
theorem dL_law_533 : decode cL_law 533 = .ok (.i2l, 1) := by decide +kernel
theorem dL_law_534 : decode cL_law 534 = .ok (.ldc2_w 76, 3) := by decide +kernel
theorem dL_law_537 : decode cL_law 537 = .ok (.land, 1) := by decide +kernel
theorem dL_law_538 : decode cL_law 538 = .ok (.lor, 1) := by decide +kernel
theorem dL_law_539 : decode cL_law 539 = .ok (.aload_n 0, 1) := by decide +kernel
theorem dL_law_540 : decode cL_law 540 = .ok (.iload 4, 2) := by decide +kernel
theorem dL_law_542 : decode cL_law 542 = .ok (.iconst 3, 1) := by decide +kernel
theorem dL_law_543 : decode cL_law 543 = .ok (.iadd, 1) := by decide +kernel
theorem dL_law_544 : decode cL_law 544 = .ok (.iaload, 1) := by decide +kernel
theorem dL_law_545 : decode cL_law 545 = .ok (.aload_n 3, 1) := by decide +kernel
theorem dL_law_546 : decode cL_law 546 = .ok (.invokestatic 88, 3) := by decide +kernel
theorem dL_law_549 : decode cL_law 549 = .ok (.istore 5, 2) := by decide +kernel
theorem dL_law_551 : decode cL_law 551 = .ok (.aload_n 2, 1) := by decide +kernel
theorem dL_law_552 : decode cL_law 552 = .ok (.aload_n 0, 1) := by decide +kernel
theorem dL_law_553 : decode cL_law 553 = .ok (.iload 4, 2) := by decide +kernel
theorem dL_law_555 : decode cL_law 555 = .ok (.iconst 1, 1) := by decide +kernel
theorem dL_law_556 : decode cL_law 556 = .ok (.iadd, 1) := by decide +kernel
theorem dL_law_557 : decode cL_law 557 = .ok (.iaload, 1) := by decide +kernel
theorem dL_law_558 : decode cL_law 558 = .ok (.i2l, 1) := by decide +kernel
theorem dL_law_559 : decode cL_law 559 = .ok (.bipush 32, 2) := by decide +kernel
theorem dL_law_561 : decode cL_law 561 = .ok (.lshl, 1) := by decide +kernel
theorem dL_law_562 : decode cL_law 562 = .ok (.aload_n 0, 1) := by decide +kernel
theorem dL_law_563 : decode cL_law 563 = .ok (.iload 4, 2) := by decide +kernel
theorem dL_law_565 : decode cL_law 565 = .ok (.iconst 2, 1) := by decide +kernel
theorem dL_law_566 : decode cL_law 566 = .ok (.iadd, 1) := by decide +kernel
theorem dL_law_567 : decode cL_law 567 = .ok (.iaload, 1) := by decide +kernel
theorem dL_law_568 : decode cL_law 568 = .ok (.i2l, 1) := by decide +kernel
theorem dL_law_569 : decode cL_law 569 = .ok (.ldc2_w 76, 3) := by decide +kernel
theorem dL_law_572 : decode cL_law 572 = .ok (.land, 1) := by decide +kernel
theorem dL_law_573 : decode cL_law 573 = .ok (.lor, 1) := by decide +kernel
theorem dL_law_574 : decode cL_law 574 = .ok (.aload_n 0, 1) := by decide +kernel
theorem dL_law_575 : decode cL_law 575 = .ok (.iload 4, 2) := by decide +kernel
theorem dL_law_577 : decode cL_law 577 = .ok (.iconst 3, 1) := by decide +kernel
theorem dL_law_578 : decode cL_law 578 = .ok (.iadd, 1) := by decide +kernel
theorem dL_law_579 : decode cL_law 579 = .ok (.iaload, 1) := by decide +kernel
theorem dL_law_580 : decode cL_law 580 = .ok (.invokevirtual 91, 3) := by decide +kernel
theorem dL_law_583 : decode cL_law 583 = .ok (.istore 6, 2) := by decide +kernel
theorem dL_law_585 : decode cL_law 585 = .ok (.aload_n 2, 1) := by decide +kernel
theorem dL_law_586 : decode cL_law 586 = .ok (.invokevirtual 92, 3) := by decide +kernel
theorem dL_law_589 : decode cL_law 589 = .ok (.iload 5, 2) := by decide +kernel
theorem dL_law_591 : decode cL_law 591 = .ok (.if_icmp .eq 5, 3) := by decide +kernel
theorem dL_law_594 : decode cL_law 594 = .ok (.iconst 0, 1) := by decide +kernel
theorem dL_law_595 : decode cL_law 595 = .ok (.ireturn, 1) := by decide +kernel
theorem dL_law_596 : decode cL_law 596 = .ok (.iload 5, 2) := by decide +kernel
theorem dL_law_598 : decode cL_law 598 = .ok (.ifCond .ne 15, 3) := by decide +kernel
theorem dL_law_601 : decode cL_law 601 = .ok (.aload_n 3, 1) := by decide +kernel
theorem dL_law_602 : decode cL_law 602 = .ok (.iconst 0, 1) := by decide +kernel
theorem dL_law_603 : decode cL_law 603 = .ok (.laload, 1) := by decide +kernel
theorem dL_law_604 : decode cL_law 604 = .ok (.iload 6, 2) := by decide +kernel
theorem dL_law_606 : decode cL_law 606 = .ok (.i2l, 1) := by decide +kernel
theorem dL_law_607 : decode cL_law 607 = .ok (.lcmp, 1) := by decide +kernel
theorem dL_law_608 : decode cL_law 608 = .ok (.ifCond .eq 5, 3) := by decide +kernel
theorem dL_law_611 : decode cL_law 611 = .ok (.iconst 0, 1) := by decide +kernel
theorem dL_law_612 : decode cL_law 612 = .ok (.ireturn, 1) := by decide +kernel
theorem dL_law_613 : decode cL_law 613 = .ok (.goto 68, 3) := by decide +kernel
theorem dL_law_616 : decode cL_law 616 = .ok (.aload_n 1, 1) := by decide +kernel
theorem dL_law_617 : decode cL_law 617 = .ok (.aload_n 0, 1) := by decide +kernel
theorem dL_law_618 : decode cL_law 618 = .ok (.iload 4, 2) := by decide +kernel
theorem dL_law_620 : decode cL_law 620 = .ok (.iconst 1, 1) := by decide +kernel
theorem dL_law_621 : decode cL_law 621 = .ok (.iadd, 1) := by decide +kernel
theorem dL_law_622 : decode cL_law 622 = .ok (.iaload, 1) := by decide +kernel
theorem dL_law_623 : decode cL_law 623 = .ok (.aload_n 0, 1) := by decide +kernel
theorem dL_law_624 : decode cL_law 624 = .ok (.iload 4, 2) := by decide +kernel
theorem dL_law_626 : decode cL_law 626 = .ok (.iconst 2, 1) := by decide +kernel
theorem dL_law_627 : decode cL_law 627 = .ok (.iadd, 1) := by decide +kernel
theorem dL_law_628 : decode cL_law 628 = .ok (.iaload, 1) := by decide +kernel
theorem dL_law_629 : decode cL_law 629 = .ok (.aload_n 3, 1) := by decide +kernel
theorem dL_law_630 : decode cL_law 630 = .ok (.invokestatic 96, 3) := by decide +kernel
theorem dL_law_633 : decode cL_law 633 = .ok (.istore 5, 2) := by decide +kernel
theorem dL_law_635 : decode cL_law 635 = .ok (.aload_n 2, 1) := by decide +kernel
theorem dL_law_636 : decode cL_law 636 = .ok (.aload_n 0, 1) := by decide +kernel
theorem dL_law_637 : decode cL_law 637 = .ok (.iload 4, 2) := by decide +kernel
theorem dL_law_639 : decode cL_law 639 = .ok (.iconst 1, 1) := by decide +kernel
theorem dL_law_640 : decode cL_law 640 = .ok (.iadd, 1) := by decide +kernel
theorem dL_law_641 : decode cL_law 641 = .ok (.iaload, 1) := by decide +kernel
theorem dL_law_642 : decode cL_law 642 = .ok (.aload_n 0, 1) := by decide +kernel
theorem dL_law_643 : decode cL_law 643 = .ok (.iload 4, 2) := by decide +kernel
theorem dL_law_645 : decode cL_law 645 = .ok (.iconst 2, 1) := by decide +kernel
theorem dL_law_646 : decode cL_law 646 = .ok (.iadd, 1) := by decide +kernel
theorem dL_law_647 : decode cL_law 647 = .ok (.iaload, 1) := by decide +kernel
theorem dL_law_648 : decode cL_law 648 = .ok (.invokevirtual 98, 3) := by decide +kernel
theorem dL_law_651 : decode cL_law 651 = .ok (.istore 6, 2) := by decide +kernel
theorem dL_law_653 : decode cL_law 653 = .ok (.goto 28, 3) := by decide +kernel
theorem dL_law_656 : decode cL_law 656 = .ok (.aload_n 1, 1) := by decide +kernel
theorem dL_law_657 : decode cL_law 657 = .ok (.aload_n 0, 1) := by decide +kernel
theorem dL_law_658 : decode cL_law 658 = .ok (.iload 4, 2) := by decide +kernel
theorem dL_law_660 : decode cL_law 660 = .ok (.iconst 1, 1) := by decide +kernel
theorem dL_law_661 : decode cL_law 661 = .ok (.iadd, 1) := by decide +kernel
theorem dL_law_662 : decode cL_law 662 = .ok (.iaload, 1) := by decide +kernel
theorem dL_law_663 : decode cL_law 663 = .ok (.invokestatic 99, 3) := by decide +kernel
theorem dL_law_666 : decode cL_law 666 = .ok (.istore 5, 2) := by decide +kernel
theorem dL_law_668 : decode cL_law 668 = .ok (.aload_n 2, 1) := by decide +kernel
theorem dL_law_669 : decode cL_law 669 = .ok (.aload_n 0, 1) := by decide +kernel
theorem dL_law_670 : decode cL_law 670 = .ok (.iload 4, 2) := by decide +kernel
theorem dL_law_672 : decode cL_law 672 = .ok (.iconst 1, 1) := by decide +kernel
theorem dL_law_673 : decode cL_law 673 = .ok (.iadd, 1) := by decide +kernel
theorem dL_law_674 : decode cL_law 674 = .ok (.iaload, 1) := by decide +kernel
theorem dL_law_675 : decode cL_law 675 = .ok (.invokevirtual 102, 3) := by decide +kernel
theorem dL_law_678 : decode cL_law 678 = .ok (.goto 3, 3) := by decide +kernel
theorem dL_law_681 : decode cL_law 681 = .ok (.iinc 4 6, 3) := by decide +kernel
theorem dL_law_684 : decode cL_law 684 = .ok (.goto (-661), 3) := by decide +kernel
theorem dL_law_687 : decode cL_law 687 = .ok (.iconst 1, 1) := by decide +kernel
theorem dL_law_688 : decode cL_law 688 = .ok (.ireturn, 1) := by decide +kernel
abbrev vwCl : List vw_C := [(RX0, TX0, 12), (RX1, TX1, 2), (RX2, TX2, 2), (RX3, TX3, 6), (RX4, TX4, 3), (RX5, TX5, 2), (RX6, TX6, 2), (RX7, TX7, 27)]
end
section
/-! ===== worlds as maps: what lies at an address; a callee gets the caller's whole map, so no cells are cut out or joined ===== -/
abbrev mw_M : Type := Nat → Option va_E
abbrev mw_G : Type := va_G × (Nat → ClassId)
def mw_tys (G : mw_G) : List (ClassId × FieldType) := [(G.2 0, .byte), (G.2 1, .int), (G.2 2, .long), (G.2 3, .boolean), (G.2 4, .object "LinkPair$End"), (G.2 5, .object "LinkPair$Frame")]
def mw_P (G : mw_G) (M : mw_M) (H : Heap) : Prop := ∀ (q : Nat) (x : va_E), M q = some x → va_at G.1 vwCl (q, x) H
/-- what a method may change: its map's addresses, and what it makes -/
def mw_A (M : mw_M) (sz : Nat) : Nat → Prop := fun q => (∃ x, M q = some x) ∨ sz ≤ q
/-- the words of nest mates, and arrays of references -/
def mw_E (G : mw_G) (U : State) : Prop := va_K G.1 vwCl (mw_tys G) U ∧ (∀ w ∈ mw_nestF, va_Nw w U) ∧ (∀ w ∈ mw_nestM, va_Nw w U) ∧ va_AO "LinkPair$End" U ∧ va_AO "LinkPair$Frame" U ∧ (∀ w ∈ mw_xw, va_Nw w U) ∧ va_Nc "java/lang/IllegalStateException" "java/lang/IllegalArgumentException" U
def mw_Z (A : Nat → Prop) (U : State) (H : Heap) : Prop := vx_Zq Bundle.tN "UNASSIGNED_STACK" Bundle.steD A U H ∧ vx_Zq Bundle.tN "SUPPRESSED_SENTINEL" Bundle.listD A U H
/-- what stays the same all through a body -/
def mw_C (G : mw_G) (A : Nat → Prop) (s : State) : Prop := mw_E G s ∧ mw_Z A s s.heap ∧ ∀ q : Nat, s.heap.size ≤ q → A q
/-- where a body stands -/
def mw_St (G : mw_G) (A : Nat → Prop) (s : State) (M : mw_M) (H : Heap) (locs : List Loc) : Prop := mw_P G M H ∧ (∀ (q : Nat) (x : va_E), M q = some x → A q) ∧ va_S A s.heap H locs
def mw_pre (G : mw_G) (M : mw_M) (sz : Nat) (av : List Value) : Array Value → State → Prop := va_Pc av (fun U => U.heap.size = sz ∧ mw_P G M U.heap ∧ mw_E G U ∧ mw_Z (mw_A M sz) U U.heap)
def mw_end (G : mw_G) (M M' : mw_M) (sz : Nat) (t : State) : Prop := mw_P G M' t.heap ∧ ∀ (q : Nat) (x : va_E), M' q = some x → mw_A M sz q
def mw_Qi (G : mw_G) (M : mw_M) (sz : Nat) (r : Int32) (M' : mw_M) : Array Value → State → Outcome → State → Prop := va_Qi (fun (r' : Int32) (_ : Unit) => r' = r) (fun _ t => mw_end G M M' sz t) (mw_A M sz)
def mw_Qv (G : mw_G) (M : mw_M) (sz : Nat) (M' : mw_M) : Array Value → State → Outcome → State → Prop := va_Qv (fun (_ : Unit) => True) (fun _ t => mw_end G M M' sz t) (mw_A M sz)
def mw_Qr (G : mw_G) (M : mw_M) (sz : Nat) (r : Nat) (M' : mw_M) : Array Value → State → Outcome → State → Prop := va_Qr (fun (_ : Unit) => True) (fun _ a t => a = r ∧ mw_end G M M' sz t) (mw_A M sz)
theorem mw_E.warm {G : mw_G} {s U : State} (hW : s.WarmedH U.vm) (h : mw_E G s) : mw_E G U := by
  obtain ⟨h1, h2, h3, h4, h5, h6, h7⟩ := h
  refine ⟨va_K.moved hW.alike h1, fun w hw => ?_, fun w hw => ?_, va_AO.moved hW.alike h4, va_AO.moved hW.alike h5, fun w hw => ?_, h7.moved hW.alike⟩
  · obtain ⟨a, i, b, n, d, g, rfl⟩ := mw_nestF_form w hw
    exact va_Nw.warmF hW (h2 _ hw)
  · obtain ⟨a, i, x, g, rfl⟩ := mw_nestM_form w hw
    exact va_Nw.warmM hW (h3 _ hw)
  · rcases mw_xw_form w hw with ⟨x, rfl⟩ | ⟨a, b, rfl⟩
    · exact va_Nw.warmD hW (h6 _ hw)
    · exact va_Nw.warmC hW (h6 _ hw)
theorem mw_Z.moved {A : Nat → Prop} {u U : State} {H : Heap} (hvm : u.vm.Alike U.vm) (h : mw_Z A u H) : mw_Z A U H := ⟨vx_Zq.moved hvm h.1, vx_Zq.moved hvm h.2⟩
theorem mw_Z.kept {A : Nat → Prop} {U : State} {H H1 : Heap} (h : mw_Z A U H) (hq : ∀ a : Nat, a < H.size → ¬ A a → H1[a]? = H[a]?) : mw_Z A U H1 := ⟨h.1.kept hq, h.2.kept hq⟩
theorem mw_Z.narrow {A B : Nat → Prop} {U : State} {H : Heap} (h : mw_Z A U H) (hAB : ∀ q, B q → A q) : mw_Z B U H := ⟨h.1.narrow hAB, h.2.narrow hAB⟩
theorem mw_blind {G : mw_G} {M : mw_M} {sz : Nat} {av : List Value} : FrameBlind (mw_pre G M sz av) := by
  intro a U g mk h
  obtain ⟨h1, h2, h3, h4, h5⟩ := h
  exact ⟨h1, h2, h3, mw_E.warm (s := U) (U := U.calling g mk a) (State.WarmedH.refl U) h4, mw_Z.moved (u := U) (U := U.calling g mk a) (Vm.Alike.refl U.vm) h5⟩
theorem mw_sub {G : mw_G} {A : Nat → Prop} {s : State} {M : mw_M} {H : Heap} {locs : List Loc} (hC : mw_C G A s) (hw : mw_St G A s M H locs) : ∀ q, mw_A M H.size q → A q := by
  intro q h
  rcases h with ⟨x, h⟩ | h
  · exact hw.2.1 q x h
  · exact hC.2.2 q (Nat.le_trans hw.2.2.1 h)
theorem mw_preS {G : mw_G} {A : Nat → Prop} {s : State} {M : mw_M} {H : Heap} {locs : List Loc} {av : List Value} (hC : mw_C G A s) (hw : mw_St G A s M H locs) : PreS s H (mw_pre G M H.size av) av := by
  refine ⟨mw_blind, fun U hU hW => ⟨rfl, by rw [hU], by rw [hU]; exact hw.1, hC.1.warm hW, ?_⟩⟩
  rw [hU]
  exact ((hC.2.1.kept hw.2.2.2.1).moved hW.alike).narrow (mw_sub hC hw)
theorem mw_recv {G : mw_G} {A : Nat → Prop} {s : State} {M : mw_M} {H : Heap} {locs : List Loc} {b ci : Nat} {q : vw_C} {fs : List Value} (hC : mw_C G A s) (hw : mw_St G A s M H locs) (hc : vwCl[ci]? = some q) (he : M b = some (.inr (ci, fs))) : ∃ cell : Cell, H[b]? = some cell ∧ cell.vm.isStatics = false ∧ s.vm.findClass q.1 = some cell.cls := by
  obtain ⟨q', h1, cell, g1, g2, g3, -⟩ := hw.1 b _ he
  exact ⟨cell, g1, by rw [g3]; rfl, by rw [g2]; exact (hC.1.1.1 ci q hc).2.1⟩
theorem mw_preV {G : mw_G} {A : Nat → Prop} {s : State} {M : mw_M} {H : Heap} {locs : List Loc} {b ci : Nat} {q : vw_C} {fs As : List Value} (hC : mw_C G A s) (hw : mw_St G A s M H locs) (hc : vwCl[ci]? = some q) (he : M b = some (.inr (ci, fs))) : PreV s H q.1 b (mw_pre G M H.size (.ref b :: As)) As :=
  ⟨mw_blind, mw_recv hC hw hc he, (mw_preS hC hw).2⟩
/-- at the entry of a body -/
theorem mw_in {G : mw_G} {M : mw_M} {sz : Nat} {av : List Value} {args : Array Value} {s : State} (h : mw_pre G M sz av args s) : args = av.toArray ∧ s.heap.size = sz ∧ mw_C G (mw_A M sz) s ∧ mw_St G (mw_A M sz) s M s.heap [] := by
  obtain ⟨h1, h2, h3, h4, h5⟩ := h
  refine ⟨h1, h2, ⟨h4, h5, fun q hq => Or.inr (by rw [← h2]; exact hq)⟩, h3, fun q x hx => Or.inl ⟨x, hx⟩, va_S.rf⟩
theorem mw_upd {G : mw_G} {A : Nat → Prop} {s : State} {M : mw_M} {H H1 : Heap} {locs : List Loc} {a i : Nat} {x0 x : va_E} (hw : mw_St G A s M H locs) (he : M a = some x0) (hx : va_at G.1 vwCl (a, x) H1) (z : H1.size = H.size) (oq : ∀ q : Nat, q ≠ a → H1[q]? = H[q]?) : mw_St G A s (va_up M a (some x)) H1 (locs ++ [⟨a, i⟩]) := by
  refine ⟨fun q y hy => ?_, fun q y hy => ?_, hw.2.2.put z oq (hw.2.1 a _ he)⟩
  · by_cases hq : q = a
    · subst hq
      rw [va_up_self] at hy
      cases hy
      exact hx
    · rw [va_up_ne _ _ hq] at hy
      exact (hw.1 q y hy).kept (oq q hq)
  · by_cases hq : q = a
    · subst hq
      exact hw.2.1 q _ he
    · rw [va_up_ne _ _ hq] at hy
      exact hw.2.1 q y hy
theorem mw_add {G : mw_G} {A : Nat → Prop} {s : State} {M : mw_M} {H H1 : Heap} {locs : List Loc} {a : Nat} {x : va_E} (hC : mw_C G A s) (hw : mw_St G A s M H locs) (ha : a = H.size) (hx : va_at G.1 vwCl (a, x) H1) (z : H1.size = H.size + 1) (oq : ∀ q : Nat, q < H.size → H1[q]? = H[q]?) : mw_St G A s (va_up M a (some x)) H1 locs := by
  subst ha
  refine ⟨fun q y hy => ?_, fun q y hy => ?_, Nat.le_trans hw.2.2.1 (by omega), fun q h1 h2 => (oq q (Nat.lt_of_lt_of_le h1 hw.2.2.1)).trans (hw.2.2.2.1 q h1 h2), hw.2.2.2.2⟩
  · by_cases hq : q = H.size
    · subst hq
      rw [va_up_self] at hy
      cases hy
      exact hx
    · rw [va_up_ne _ _ hq] at hy
      exact (hw.1 q y hy).kept (oq q (hw.1 q y hy).lt)
  · by_cases hq : q = H.size
    · subst hq
      exact hC.2.2 _ hw.2.2.1
    · rw [va_up_ne _ _ hq] at hy
      exact hw.2.1 q y hy
theorem mw_fresh {G : mw_G} {A : Nat → Prop} {s : State} {M : mw_M} {H : Heap} {locs : List Loc} {q : Nat} {x : va_E} (hw : mw_St G A s M H locs) (h : M q = some x) : q < H.size := (hw.1 q x h).lt
/-- another map of the same things -/
theorem mw_St.to {G : mw_G} {A : Nat → Prop} {s : State} {M M' : mw_M} {H : Heap} {locs : List Loc} (hw : mw_St G A s M H locs) (h : ∀ (q : Nat) (x : va_E), M' q = some x → M q = some x) : mw_St G A s M' H locs :=
  ⟨fun q x hx => hw.1 q x (h q x hx), fun q x hx => hw.2.1 q x (h q x hx), hw.2.2⟩
theorem mw_ne {M : mw_M} {a b : Nat} {x y : va_E} (ha : M a = some x) (hb : M b = some y) (h : x ≠ y) : a ≠ b := fun e => h (by subst e; exact Option.some.inj (ha.symm.trans hb))
theorem mw_u0 {M : mw_M} {a : Nat} {x : Option va_E} : va_up M a x a = x := va_up_self _ _ _
theorem mw_u1 {M : mw_M} {a b : Nat} {x y : Option va_E} (h : b ≠ a) (e : M b = y) : va_up M a x b = y := (va_up_ne _ _ h).trans e
section MWR
variable {p : Program} {l : Launch} {e : Env} {R : Room} {s : State} {m : MethodId} {args : Array Value} {below : List Frame} {meth : Method} {c : Code} {H : Heap} {locs : List Loc} {cells slots : Nat} {Q : State → Prop}
variable {cc : ByteArray} {pc : Nat} {ls : Array Slot} {rest : List Value} {G : mw_G} {A : Nat → Prop} {a : Nat} {M : mw_M}
theorem mw_get (hexec : p.tables.exec = Jvm.exec) (hb : c.code = cc) {own C : String} {T : u_T} {N ci index : Nat} {Ts : List Cond} (hts : ∀ w ∈ Ts, w.before args s = true) (hin : ∀ w ∈ u_ws C T N, w ∈ Ts) (hown : s.vm.findClass own = some m.cls) (hC : mw_C G A s) (hw : mw_St G A s M H locs) {fs : List Value} (he : M a = some (.inr (ci, fs))) (hc : vwCl[ci]? = some (C, T, N)) (k : Nat) (hk : k < N) (hlink : (Cond.fieldLink own index (T k).1 (T k).2.1 (T k).2.2.1).before args s = true) {v : Value} (hv : fs[k]? = some v) (hdg : decode cc pc = .ok (.getfield index, 3))
    (kk : W p l e R s m args below meth c H locs cells slots Q (F0 m (pc + 3) ls (v :: rest))) : W p l e R s m args below meth c H locs cells slots Q (F0 m pc ls (.ref a :: rest)) := by
  obtain ⟨r, h1, cell, q1, q2, q3, q4⟩ := hw.1 a _ he
  have hr : r = (C, T, N) := Option.some.inj (h1.symm.trans hc)
  subst hr
  obtain ⟨hS, hfc, kC, hkC, hkind⟩ := hC.1.1.1 ci _ hc
  obtain ⟨cf, kf, fi, f, hi, hsl⟩ := hS k hk
  refine W.getf hexec hb hown hlink hi (u_facts hfc hkC (u_lays hts hin hk) hi).1 q1 (by rw [q3]; exact fun h => by cases h) (v := v) ?_ rfl rfl hdg kk
  rw [hsl, q4 k hk]
  simp [vp_V, hv]
theorem mw_getN (hexec : p.tables.exec = Jvm.exec) (hb : c.code = cc) {own C host : String} {T : u_T} {N ci index : Nat} {Ts : List Cond} (hts : ∀ w ∈ Ts, w.before args s = true) (hin : ∀ w ∈ u_ws C T N, w ∈ Ts) (hown : s.vm.findClass own = some m.cls) (hC : mw_C G A s) (hw : mw_St G A s M H locs) {fs : List Value} (he : M a = some (.inr (ci, fs))) (hc : vwCl[ci]? = some (C, T, N)) (k : Nat) (hk : k < N) (hlink : Cond.fieldLinkNest own index (T k).1 (T k).2.1 (T k).2.2.1 host ∈ mw_nestF) {v : Value} (hv : fs[k]? = some v) (hdg : decode cc pc = .ok (.getfield index, 3))
    (kk : W p l e R s m args below meth c H locs cells slots Q (F0 m (pc + 3) ls (v :: rest))) : W p l e R s m args below meth c H locs cells slots Q (F0 m pc ls (.ref a :: rest)) := by
  obtain ⟨r, h1, cell, q1, q2, q3, q4⟩ := hw.1 a _ he
  have hr : r = (C, T, N) := Option.some.inj (h1.symm.trans hc)
  subst hr
  obtain ⟨hS, hfc, kC, hkC, hkind⟩ := hC.1.1.1 ci _ hc
  obtain ⟨cf, kf, fi, f, hi, hsl⟩ := hS k hk
  refine va_Wgetf hexec hb hown (va_Nw.use rfl (hC.1.2.1 _ hlink)) hi (u_facts hfc hkC (u_lays hts hin hk) hi).1 q1 (by rw [q3]; exact fun h => by cases h) (v := v) ?_ rfl rfl hdg kk
  rw [hsl, q4 k hk]
  simp [vp_V, hv]
theorem mw_put (hexec : p.tables.exec = Jvm.exec) (hb : c.code = cc) {own C : String} {T : u_T} {N ci index : Nat} {Ts : List Cond} (hts : ∀ w ∈ Ts, w.before args s = true) (hin : ∀ w ∈ u_ws C T N, w ∈ Ts) (ty0 : Nat → FieldType) (hty : ∀ k, k < N → parseFieldDescriptor (T k).2.2.1 = some (ty0 k)) (hnm : ∀ a, a < N → ∀ b, b < N → a ≠ b → (T a).2.1 ≠ (T b).2.1) (hown : s.vm.findClass own = some m.cls) (hC : mw_C G A s) (hw : mw_St G A s M H locs) {fs : List Value} (he : M a = some (.inr (ci, fs))) (hc : vwCl[ci]? = some (C, T, N)) (k : Nat) (hk : k < N) (hlink : (Cond.fieldLink own index (T k).1 (T k).2.1 (T k).2.2.1).before args s = true) (hfin : (T k).2.2.2 = false) {v : Value} (hn : narrow (ty0 k) v = v) (hfit : fits (ty0 k) v = true) (hl : k < fs.length)
    (hdg : decode cc pc = .ok (.putfield index, 3)) (kk : ∀ (H1 : Heap) (locs1 : List Loc), mw_St G A s (va_up M a (some (.inr (ci, fs.set k v)))) H1 locs1 → W p l e R s m args below meth c H1 locs1 cells slots Q (F0 m (pc + 3) ls rest)) : W p l e R s m args below meth c H locs cells slots Q (F0 m pc ls (v :: .ref a :: rest)) := by
  have hap := va_apart (own := own) hts hin ty0 hty hnm hC.1.1 hc
  obtain ⟨r, h1, cell, q1, q2, q3, q4⟩ := hw.1 a _ he
  have hr : r = (C, T, N) := Option.some.inj (h1.symm.trans hc)
  subst hr
  obtain ⟨hS, hfc, kC, hkC, hkind⟩ := hC.1.1.1 ci _ hc
  obtain ⟨cf, kf, fi, f, hi, hsl⟩ := hS k hk
  have hlay := hts _ (hin _ (u_in_lay hk))
  unfold u_lay at hlay
  rw [if_neg (by rw [hfin]; decide)] at hlay
  have hst := (u_facts hfc hkC (u_lays hts hin hk) hi).1
  have h6 := u_store hfc hkC hkind hlay hi (hty k hk) hn hfit
  refine W.putK hexec hb (f := f) ⟨hown, hlink, ⟨_, _, _, hi⟩, hst⟩ (by rw [q2]; exact h6) q1 q3 (by rw [hsl]; exact k2_hasslot (q4 k hk)) rfl rfl hdg fun H' e1 e2 e3 => ?_
  rw [hsl] at e1 ⊢
  exact kk H' _ (mw_upd hw he ⟨_, hc, t_OB.to (V := updV (vp_V fs) k v) ⟨_, e1, q2, q3, t_set q4 hap hk v⟩ (fun j _ => vp_updV_set hl v j)⟩ e2 e3)
theorem mw_putN (hexec : p.tables.exec = Jvm.exec) (hb : c.code = cc) {own C host : String} {T : u_T} {N ci index : Nat} {Ts : List Cond} (hts : ∀ w ∈ Ts, w.before args s = true) (hin : ∀ w ∈ u_ws C T N, w ∈ Ts) (ty0 : Nat → FieldType) (hty : ∀ k, k < N → parseFieldDescriptor (T k).2.2.1 = some (ty0 k)) (hnm : ∀ a, a < N → ∀ b, b < N → a ≠ b → (T a).2.1 ≠ (T b).2.1) (hown : s.vm.findClass own = some m.cls) (hC : mw_C G A s) (hw : mw_St G A s M H locs) {fs : List Value} (he : M a = some (.inr (ci, fs))) (hc : vwCl[ci]? = some (C, T, N)) (k : Nat) (hk : k < N) (hlink : Cond.fieldLinkNest own index (T k).1 (T k).2.1 (T k).2.2.1 host ∈ mw_nestF) (hfin : (T k).2.2.2 = false) {v : Value} (hn : narrow (ty0 k) v = v) (hfit : fits (ty0 k) v = true) (hl : k < fs.length)
    (hdg : decode cc pc = .ok (.putfield index, 3)) (kk : ∀ (H1 : Heap) (locs1 : List Loc), mw_St G A s (va_up M a (some (.inr (ci, fs.set k v)))) H1 locs1 → W p l e R s m args below meth c H1 locs1 cells slots Q (F0 m (pc + 3) ls rest)) : W p l e R s m args below meth c H locs cells slots Q (F0 m pc ls (v :: .ref a :: rest)) := by
  have hap := va_apart (own := own) hts hin ty0 hty hnm hC.1.1 hc
  obtain ⟨r, h1, cell, q1, q2, q3, q4⟩ := hw.1 a _ he
  have hr : r = (C, T, N) := Option.some.inj (h1.symm.trans hc)
  subst hr
  obtain ⟨hS, hfc, kC, hkC, hkind⟩ := hC.1.1.1 ci _ hc
  obtain ⟨cf, kf, fi, f, hi, hsl⟩ := hS k hk
  have hlay := hts _ (hin _ (u_in_lay hk))
  unfold u_lay at hlay
  rw [if_neg (by rw [hfin]; decide)] at hlay
  have hst := (u_facts hfc hkC (u_lays hts hin hk) hi).1
  have h6 := u_store hfc hkC hkind hlay hi (hty k hk) hn hfit
  refine va_WputK hexec hb (f := f) hown (va_Nw.use rfl (hC.1.2.1 _ hlink)) hi hst (by rw [q2]; exact h6) q1 q3 (by rw [hsl]; exact k2_hasslot (q4 k hk)) rfl rfl hdg fun H' e1 e2 e3 => ?_
  rw [hsl] at e1 ⊢
  exact kk H' _ (mw_upd hw he ⟨_, hc, t_OB.to (V := updV (vp_V fs) k v) ⟨_, e1, q2, q3, t_set q4 hap hk v⟩ (fun j _ => vp_updV_set hl v j)⟩ e2 e3)
theorem mw_putF (hexec : p.tables.exec = Jvm.exec) (hb : c.code = cc) {own C : String} {T : u_T} {N ci index : Nat} {Ts : List Cond} (hts : ∀ w ∈ Ts, w.before args s = true) (hin : ∀ w ∈ u_ws C T N, w ∈ Ts) (ty0 : Nat → FieldType) (hty : ∀ k, k < N → parseFieldDescriptor (T k).2.2.1 = some (ty0 k)) (hnm : ∀ a, a < N → ∀ b, b < N → a ≠ b → (T a).2.1 ≠ (T b).2.1) (hown : s.vm.findClass own = some m.cls) (hC : mw_C G A s) (hw : mw_St G A s M H locs) {fs : List Value} (he : M a = some (.inr (ci, fs))) (hc : vwCl[ci]? = some (C, T, N)) (k : Nat) (hk : k < N) (hlink : (Cond.fieldLink own index (T k).1 (T k).2.1 (T k).2.2.1).before args s = true) (hfin : (T k).2.2.2 = true) (hin2 : meth.name = "<init>") (hdecl : (T k).1 = own) {v : Value} (hn : narrow (ty0 k) v = v) (hfit : fits (ty0 k) v = true) (hl : k < fs.length)
    (hdg : decode cc pc = .ok (.putfield index, 3)) (kk : ∀ (H1 : Heap) (locs1 : List Loc), mw_St G A s (va_up M a (some (.inr (ci, fs.set k v)))) H1 locs1 → W p l e R s m args below meth c H1 locs1 cells slots Q (F0 m (pc + 3) ls rest)) : W p l e R s m args below meth c H locs cells slots Q (F0 m pc ls (v :: .ref a :: rest)) := by
  have hap := va_apart (own := own) hts hin ty0 hty hnm hC.1.1 hc
  obtain ⟨r, h1, cell, q1, q2, q3, q4⟩ := hw.1 a _ he
  have hr : r = (C, T, N) := Option.some.inj (h1.symm.trans hc)
  subst hr
  obtain ⟨hS, hfc, kC, hkC, hkind⟩ := hC.1.1.1 ci _ hc
  obtain ⟨cf, kf, fi, f, hi, hsl⟩ := hS k hk
  have hlay := hts _ (hin _ (u_in_lay hk))
  unfold u_lay at hlay
  rw [if_pos hfin] at hlay
  have hst := (u_facts hfc hkC (u_lays hts hin hk) hi).1
  have hcf : m.cls = cf := by
    obtain ⟨_, _, c', _, _, _, -, -, hf', -, -, -, hown2, -⟩ := Cond.laysFinal_spec hlay
    have e1 : c' = cf := by have := hi.symm.trans hf'; simp at this; exact this.1.symm
    rw [hdecl] at hown2
    rw [← e1]; exact Option.some.inj (hown.symm.trans hown2)
  have h6 := u_fits hfc hkC hkind (Or.inr hlay) hi (hty k hk) hn hfit
  refine W.putFinK hexec hb hown hlink hi hst hcf hin2 (by rw [q2]; exact h6) q1 q3 (by rw [hsl]; exact k2_hasslot (q4 k hk)) rfl rfl hdg fun H' e1 e2 e3 => ?_
  rw [hsl] at e1 ⊢
  exact kk H' _ (mw_upd hw he ⟨_, hc, t_OB.to (V := updV (vp_V fs) k v) ⟨_, e1, q2, q3, t_set q4 hap hk v⟩ (fun j _ => vp_updV_set hl v j)⟩ e2 e3)
theorem mw_iald (hexec : p.tables.exec = Jvm.exec) (hb : c.code = cc) (hC : mw_C G A s) (hw : mw_St G A s M H locs) {n : Nat} {f : Nat → Int32} (he : M a = some (.inl (G.2 1, n, .inl f))) {i : Int32} (hin : vp_in i n) (hdg : decode cc pc = .ok (.iaload, 1))
    (kk : W p l e R s m args below meth c H locs cells slots Q (F0 m (pc + 1) ls (.int (f i.toNatClampNeg) :: rest))) : W p l e R s m args below meth c H locs cells slots Q (F0 m pc ls (.int i :: .ref a :: rest)) := by
  have hlt : i.toNatClampNeg < n := Nat.not_le.mp fun q => hin (Or.inr q)
  exact W.iald (v := .int (f i.toNatClampNeg)) hexec hb (hw.1 a _ he) ((hC.1.1.2 1 _ rfl).1 n (fun j => .int (f j))) (fun q => by cases q) (by show ¬ (i < 0 ∨ (arrV _ _ _).slots.size ≤ _); rw [arrV_size]; exact hin) (by show (arrV _ _ _).slots[_]? = _; rw [arrV_read _ _ hlt]) rfl rfl hdg kk
theorem mw_bald (hexec : p.tables.exec = Jvm.exec) (hb : c.code = cc) (hC : mw_C G A s) (hw : mw_St G A s M H locs) {n : Nat} {f : Nat → Int32} (he : M a = some (.inl (G.2 0, n, .inl f))) {i : Int32} (hin : vp_in i n) (hdg : decode cc pc = .ok (.baload, 1))
    (kk : W p l e R s m args below meth c H locs cells slots Q (F0 m (pc + 1) ls (.int (f i.toNatClampNeg) :: rest))) : W p l e R s m args below meth c H locs cells slots Q (F0 m pc ls (.int i :: .ref a :: rest)) := by
  have hlt : i.toNatClampNeg < n := Nat.not_le.mp fun q => hin (Or.inr q)
  exact W.bald (v := .int (f i.toNatClampNeg)) hexec hb (hw.1 a _ he) ((hC.1.1.2 0 _ rfl).1 n (fun j => .int (f j))) (fun q => by cases q) (by show ¬ (i < 0 ∨ (arrV _ _ _).slots.size ≤ _); rw [arrV_size]; exact hin) (by show (arrV _ _ _).slots[_]? = _; rw [arrV_read _ _ hlt]) rfl rfl hdg kk
theorem mw_zald (hexec : p.tables.exec = Jvm.exec) (hb : c.code = cc) (hC : mw_C G A s) (hw : mw_St G A s M H locs) {n : Nat} {f : Nat → Int32} (he : M a = some (.inl (G.2 3, n, .inl f))) {i : Int32} (hin : vp_in i n) (hdg : decode cc pc = .ok (.baload, 1))
    (kk : W p l e R s m args below meth c H locs cells slots Q (F0 m (pc + 1) ls (.int (f i.toNatClampNeg) :: rest))) : W p l e R s m args below meth c H locs cells slots Q (F0 m pc ls (.int i :: .ref a :: rest)) := by
  have hlt : i.toNatClampNeg < n := Nat.not_le.mp fun q => hin (Or.inr q)
  exact W.zald (v := .int (f i.toNatClampNeg)) hexec hb (hw.1 a _ he) ((hC.1.1.2 3 _ rfl).1 n (fun j => .int (f j))) (fun q => by cases q) (by show ¬ (i < 0 ∨ (arrV _ _ _).slots.size ≤ _); rw [arrV_size]; exact hin) (by show (arrV _ _ _).slots[_]? = _; rw [arrV_read _ _ hlt]) rfl rfl hdg kk
theorem mw_lald (hexec : p.tables.exec = Jvm.exec) (hb : c.code = cc) (hC : mw_C G A s) (hw : mw_St G A s M H locs) {n : Nat} {f : Nat → Int64} (he : M a = some (.inl (G.2 2, n, .inr (.inl f)))) {i : Int32} (hin : vp_in i n) (hdg : decode cc pc = .ok (.laload, 1))
    (kk : W p l e R s m args below meth c H locs cells slots Q (F0 m (pc + 1) ls (.long (f i.toNatClampNeg) :: rest))) : W p l e R s m args below meth c H locs cells slots Q (F0 m pc ls (.int i :: .ref a :: rest)) := by
  have hlt : i.toNatClampNeg < n := Nat.not_le.mp fun q => hin (Or.inr q)
  exact W.lald (v := .long (f i.toNatClampNeg)) hexec hb (hw.1 a _ he) ((hC.1.1.2 2 _ rfl).1 n (fun j => .long (f j))) (fun q => by cases q) (by show ¬ (i < 0 ∨ (arrV _ _ _).slots.size ≤ _); rw [arrV_size]; exact hin) (by show (arrV _ _ _).slots[_]? = _; rw [arrV_read _ _ hlt]) rfl rfl hdg kk
theorem mw_eald (hexec : p.tables.exec = Jvm.exec) (hb : c.code = cc) (hC : mw_C G A s) (hw : mw_St G A s M H locs) {n : Nat} {f : Nat → Option Nat} (he : M a = some (.inl (G.2 4, n, .inr (.inr (.inr (.inr f)))))) {i : Int32} (hin : vp_in i n) (hdg : decode cc pc = .ok (.aaload, 1))
    (kk : W p l e R s m args below meth c H locs cells slots Q (F0 m (pc + 1) ls (va_rf (f i.toNatClampNeg) :: rest))) : W p l e R s m args below meth c H locs cells slots Q (F0 m pc ls (.int i :: .ref a :: rest)) := by
  have hlt : i.toNatClampNeg < n := Nat.not_le.mp fun q => hin (Or.inr q)
  exact W.aald (v := va_rf (f i.toNatClampNeg)) (ty := .object "LinkPair$End") hexec hb (hw.1 a _ he) ((hC.1.1.2 4 _ rfl).1 n (fun j => va_rf (f j))) rfl (fun q => by cases q) (by show ¬ (i < 0 ∨ (arrV _ _ _).slots.size ≤ _); rw [arrV_size]; exact hin) (by show (arrV _ _ _).slots[_]? = _; rw [arrV_read _ _ hlt]) rfl rfl hdg kk
theorem mw_fald (hexec : p.tables.exec = Jvm.exec) (hb : c.code = cc) (hC : mw_C G A s) (hw : mw_St G A s M H locs) {n : Nat} {f : Nat → Option Nat} (he : M a = some (.inl (G.2 5, n, .inr (.inr (.inr (.inr f)))))) {i : Int32} (hin : vp_in i n) (hdg : decode cc pc = .ok (.aaload, 1))
    (kk : W p l e R s m args below meth c H locs cells slots Q (F0 m (pc + 1) ls (va_rf (f i.toNatClampNeg) :: rest))) : W p l e R s m args below meth c H locs cells slots Q (F0 m pc ls (.int i :: .ref a :: rest)) := by
  have hlt : i.toNatClampNeg < n := Nat.not_le.mp fun q => hin (Or.inr q)
  exact W.aald (v := va_rf (f i.toNatClampNeg)) (ty := .object "LinkPair$Frame") hexec hb (hw.1 a _ he) ((hC.1.1.2 5 _ rfl).1 n (fun j => va_rf (f j))) rfl (fun q => by cases q) (by show ¬ (i < 0 ∨ (arrV _ _ _).slots.size ≤ _); rw [arrV_size]; exact hin) (by show (arrV _ _ _).slots[_]? = _; rw [arrV_read _ _ hlt]) rfl rfl hdg kk
theorem mw_iast (hexec : p.tables.exec = Jvm.exec) (hb : c.code = cc) (hC : mw_C G A s) (hw : mw_St G A s M H locs) {n : Nat} {f : Nat → Int32} (he : M a = some (.inl (G.2 1, n, .inl f))) {i : Int32} {x : Int32} (hin : vp_in i n) (hdg : decode cc pc = .ok (.iastore, 1))
    (kk : ∀ (H1 : Heap) (locs1 : List Loc), mw_St G A s (va_up M a (some (.inl (G.2 1, n, .inl (upd f i.toNatClampNeg x))))) H1 locs1 → W p l e R s m args below meth c H1 locs1 cells slots Q (F0 m (pc + 1) ls rest)) : W p l e R s m args below meth c H locs cells slots Q (F0 m pc ls (.int x :: .int i :: .ref a :: rest)) := by
  refine W.iast hexec hb (hw.1 a _ he) ((hC.1.1.2 1 _ rfl).1 n (fun j => .int (f j))) (fun q => by cases q) (by show ¬ (i < 0 ∨ (arrV _ _ _).slots.size ≤ _); rw [arrV_size]; exact hin) rfl rfl hdg fun H1 e z oq => ?_
  refine kk H1 _ (mw_upd hw he ?_ z oq)
  show H1[a]? = some (vp_cell _ _)
  rw [e]
  rw [vp_cell_i, vp_cell_i, arrV_store]
  congr 2
  funext q
  by_cases hq : q = i.toNatClampNeg
  · subst hq
    simp [updV, upd]
    try rfl
  · simp [updV, upd, hq]
theorem mw_bast (hexec : p.tables.exec = Jvm.exec) (hb : c.code = cc) (hC : mw_C G A s) (hw : mw_St G A s M H locs) {n : Nat} {f : Nat → Int32} (he : M a = some (.inl (G.2 0, n, .inl f))) {i : Int32} {x : Int32} (hin : vp_in i n) (hdg : decode cc pc = .ok (.bastore, 1))
    (kk : ∀ (H1 : Heap) (locs1 : List Loc), mw_St G A s (va_up M a (some (.inl (G.2 0, n, .inl (upd f i.toNatClampNeg (vp_nar .byte x)))))) H1 locs1 → W p l e R s m args below meth c H1 locs1 cells slots Q (F0 m (pc + 1) ls rest)) : W p l e R s m args below meth c H locs cells slots Q (F0 m pc ls (.int x :: .int i :: .ref a :: rest)) := by
  refine W.bast hexec hb (hw.1 a _ he) ((hC.1.1.2 0 _ rfl).1 n (fun j => .int (f j))) (fun q => by cases q) (by show ¬ (i < 0 ∨ (arrV _ _ _).slots.size ≤ _); rw [arrV_size]; exact hin) rfl rfl hdg fun H1 e z oq => ?_
  refine kk H1 _ (mw_upd hw he ?_ z oq)
  show H1[a]? = some (vp_cell _ _)
  rw [e]
  rw [vp_cell_i, vp_cell_i, arrV_store]
  congr 2
  funext q
  by_cases hq : q = i.toNatClampNeg
  · subst hq
    simp [updV, upd, vp_nar]
    try rfl
  · simp [updV, upd, vp_nar, hq]
theorem mw_zast (hexec : p.tables.exec = Jvm.exec) (hb : c.code = cc) (hC : mw_C G A s) (hw : mw_St G A s M H locs) {n : Nat} {f : Nat → Int32} (he : M a = some (.inl (G.2 3, n, .inl f))) {i : Int32} {x : Int32} (hin : vp_in i n) (hdg : decode cc pc = .ok (.bastore, 1))
    (kk : ∀ (H1 : Heap) (locs1 : List Loc), mw_St G A s (va_up M a (some (.inl (G.2 3, n, .inl (upd f i.toNatClampNeg (vp_nar .boolean x)))))) H1 locs1 → W p l e R s m args below meth c H1 locs1 cells slots Q (F0 m (pc + 1) ls rest)) : W p l e R s m args below meth c H locs cells slots Q (F0 m pc ls (.int x :: .int i :: .ref a :: rest)) := by
  refine W.zast hexec hb (hw.1 a _ he) ((hC.1.1.2 3 _ rfl).1 n (fun j => .int (f j))) (fun q => by cases q) (by show ¬ (i < 0 ∨ (arrV _ _ _).slots.size ≤ _); rw [arrV_size]; exact hin) rfl rfl hdg fun H1 e z oq => ?_
  refine kk H1 _ (mw_upd hw he ?_ z oq)
  show H1[a]? = some (vp_cell _ _)
  rw [e]
  rw [vp_cell_i, vp_cell_i, arrV_store]
  congr 2
  funext q
  by_cases hq : q = i.toNatClampNeg
  · subst hq
    simp [updV, upd, vp_nar]
    try rfl
  · simp [updV, upd, vp_nar, hq]
theorem mw_last (hexec : p.tables.exec = Jvm.exec) (hb : c.code = cc) (hC : mw_C G A s) (hw : mw_St G A s M H locs) {n : Nat} {f : Nat → Int64} (he : M a = some (.inl (G.2 2, n, .inr (.inl f)))) {i : Int32} {x : Int64} (hin : vp_in i n) (hdg : decode cc pc = .ok (.lastore, 1))
    (kk : ∀ (H1 : Heap) (locs1 : List Loc), mw_St G A s (va_up M a (some (.inl (G.2 2, n, .inr (.inl (vp_updL f i.toNatClampNeg x)))))) H1 locs1 → W p l e R s m args below meth c H1 locs1 cells slots Q (F0 m (pc + 1) ls rest)) : W p l e R s m args below meth c H locs cells slots Q (F0 m pc ls (.long x :: .int i :: .ref a :: rest)) := by
  refine W.last hexec hb (hw.1 a _ he) ((hC.1.1.2 2 _ rfl).1 n (fun j => .long (f j))) (fun q => by cases q) (by show ¬ (i < 0 ∨ (arrV _ _ _).slots.size ≤ _); rw [arrV_size]; exact hin) rfl rfl hdg fun H1 e z oq => ?_
  refine kk H1 _ (mw_upd hw he ?_ z oq)
  show H1[a]? = some (vp_cell _ _)
  rw [e]
  rw [vp_cell_l, vp_cell_l, arrV_store]
  congr 2
  funext q
  by_cases hq : q = i.toNatClampNeg
  · subst hq
    simp [updV, vp_updL]
    try rfl
  · simp [updV, vp_updL, hq]
theorem mw_east (hexec : p.tables.exec = Jvm.exec) (hb : c.code = cc) (hC : mw_C G A s) (hw : mw_St G A s M H locs) {n v : Nat} {vs : List Value} {f : Nat → Option Nat} (he : M a = some (.inl (G.2 4, n, .inr (.inr (.inr (.inr f)))))) (hv : M v = some (.inr (0, vs))) {i : Int32} (hin : vp_in i n) (hdg : decode cc pc = .ok (.aastore, 1))
    (kk : ∀ (H1 : Heap) (locs1 : List Loc), mw_St G A s (va_up M a (some (.inl (G.2 4, n, .inr (.inr (.inr (.inr (va_up f i.toNatClampNeg (some v)))))))))  H1 locs1 → W p l e R s m args below meth c H1 locs1 cells slots Q (F0 m (pc + 1) ls rest)) : W p l e R s m args below meth c H locs cells slots Q (F0 m pc ls (.ref v :: .int i :: .ref a :: rest)) := by
  have hlt : i.toNatClampNeg < n := Nat.not_le.mp fun q => hin (Or.inr q)
  have h0 : ¬ i < 0 := fun q => hin (Or.inl q)
  obtain ⟨r', hr', cellV, g1, g2, g3, -⟩ := hw.1 v _ hv
  have hcls := (hC.1.1.1 0 (RX0, TX0, 12) rfl).2
  obtain ⟨kA, comp, k1, k2, k3, -⟩ := (hC.1.1.2 4 _ rfl).2
  have hcomp : comp = G.1.1 0 := Option.some.inj (k3.symm.trans hcls.1)
  subst hcomp
  obtain ⟨kC, hkC, -⟩ := hcls.2
  refine W.aast hexec hb (hw.1 a _ he) (fun q h => by cases h) (fun h => by cases h) k1 k2 rfl hkC ⟨h0, by show _ < (arrV _ _ _).slots.size; rw [arrV_size]; exact hlt⟩ g1 (fun q h => by rw [g3] at h; cases h) (by rw [g2]; exact hkC) (by rw [g2]; exact va_assign hcls) rfl rfl hdg fun H1 e z oq => ?_
  refine kk H1 _ (mw_upd hw he ?_ z oq)
  show H1[a]? = some (vp_cell _ _)
  rw [e]
  rw [vp_cell_q, vp_cell_q, arrV_store]
  congr 2
  funext q
  by_cases hq : q = i.toNatClampNeg
  · subst hq
    simp [updV, va_up, va_rf]
  · simp [updV, va_up, hq]
theorem mw_fast (hexec : p.tables.exec = Jvm.exec) (hb : c.code = cc) (hC : mw_C G A s) (hw : mw_St G A s M H locs) {n v : Nat} {vs : List Value} {f : Nat → Option Nat} (he : M a = some (.inl (G.2 5, n, .inr (.inr (.inr (.inr f)))))) (hv : M v = some (.inr (1, vs))) {i : Int32} (hin : vp_in i n) (hdg : decode cc pc = .ok (.aastore, 1))
    (kk : ∀ (H1 : Heap) (locs1 : List Loc), mw_St G A s (va_up M a (some (.inl (G.2 5, n, .inr (.inr (.inr (.inr (va_up f i.toNatClampNeg (some v)))))))))  H1 locs1 → W p l e R s m args below meth c H1 locs1 cells slots Q (F0 m (pc + 1) ls rest)) : W p l e R s m args below meth c H locs cells slots Q (F0 m pc ls (.ref v :: .int i :: .ref a :: rest)) := by
  have hlt : i.toNatClampNeg < n := Nat.not_le.mp fun q => hin (Or.inr q)
  have h0 : ¬ i < 0 := fun q => hin (Or.inl q)
  obtain ⟨r', hr', cellV, g1, g2, g3, -⟩ := hw.1 v _ hv
  have hcls := (hC.1.1.1 1 (RX1, TX1, 2) rfl).2
  obtain ⟨kA, comp, k1, k2, k3, -⟩ := (hC.1.1.2 5 _ rfl).2
  have hcomp : comp = G.1.1 1 := Option.some.inj (k3.symm.trans hcls.1)
  subst hcomp
  obtain ⟨kC, hkC, -⟩ := hcls.2
  refine W.aast hexec hb (hw.1 a _ he) (fun q h => by cases h) (fun h => by cases h) k1 k2 rfl hkC ⟨h0, by show _ < (arrV _ _ _).slots.size; rw [arrV_size]; exact hlt⟩ g1 (fun q h => by rw [g3] at h; cases h) (by rw [g2]; exact hkC) (by rw [g2]; exact va_assign hcls) rfl rfl hdg fun H1 e z oq => ?_
  refine kk H1 _ (mw_upd hw he ?_ z oq)
  show H1[a]? = some (vp_cell _ _)
  rw [e]
  rw [vp_cell_q, vp_cell_q, arrV_store]
  congr 2
  funext q
  by_cases hq : q = i.toNatClampNeg
  · subst hq
    simp [updV, va_up, va_rf]
  · simp [updV, va_up, hq]
theorem mw_alen (hexec : p.tables.exec = Jvm.exec) (hb : c.code = cc) (hC : mw_C G A s) (hw : mw_St G A s M H locs) (t0 : Nat) {cA : ClassId} {x : vp_A} (he : M a = some (.inl (cA, x))) {ty : FieldType} (ht : (mw_tys G)[t0]? = some (cA, ty)) (hdg : decode cc pc = .ok (.arraylength, 1))
    (kk : W p l e R s m args below meth c H locs cells slots Q (F0 m (pc + 1) ls (.int (nI x.1) :: rest))) : W p l e R s m args below meth c H locs cells slots Q (F0 m pc ls (.ref a :: rest)) := by
  refine va_alen (D := G.1) (cl := vwCl) (ws := [(a, .inl (cA, x))]) hexec hb hC.1.1 (fun k q hq => ?_) 0 t0 rfl ht rfl hdg kk
  match k, hq with
  | 0, hq => cases hq; exact hw.1 a _ he
  | k + 1, hq => simp at hq
theorem mw_newa (hexec : p.tables.exec = Jvm.exec) (hb : c.code = cc) {atype : ArrayType} (harr : (Cond.arrayClass (newarray.typeOf atype)).before args s = true) {ty : FieldType} (hty : newarray.typeOf atype = ty) (hC : mw_C G A s) (hw : mw_St G A s M H locs) (t0 : Nat) {cA : ClassId} (ht : (mw_tys G)[t0]? = some (cA, ty)) (hprim : ∀ C, ty ≠ .object C)
    {n : Int32} {N' : Nat} {a0 : vp_A} (ha : ∀ cA : ClassId, vp_cell cA a0 = arrV cA N' (fun _ => defaultValue ty)) (hn : ¬ n < 0) (hN : n.toNatClampNeg = N') (hbytes : N' * componentBytes ty ≤ 536870912) (hcells : cells + 1 ≤ R.cells) (hslots : slots + N' ≤ R.slots) (hdg : decode cc pc = .ok (.newarray atype, 2))
    (kk : ∀ (H1 : Heap), M H.size = none → mw_St G A s (va_up M H.size (some (.inl (cA, a0)))) H1 locs →
      W p l e R s m args below meth c H1 locs (cells + 1) (slots + N') Q (F0 m (pc + 2) ls (.ref H.size :: rest))) : W p l e R s m args below meth c H locs cells slots Q (F0 m pc ls (.int n :: rest)) := by
  subst hty
  refine va_newaK hexec hb harr rfl hdg rfl hn hN hbytes hcells hslots rfl fun H1 cB e1 z1 o1 hAr hNm => ?_
  have hcc : cB = cA := by
    have h2 := (hC.1.1.2 t0 _ ht).2
    have h3 : s.vm.findClass ("[" ++ (newarray.typeOf atype).toString) = some cA := by
      cases atype <;> exact h2
    exact Option.some.inj (hNm.symm.trans h3)
  subst hcc
  refine kk H1 ?_ (mw_add hC hw rfl ?_ z1 o1)
  · cases hm : M H.size with
    | none => rfl
    | some x => exact absurd (mw_fresh hw hm) (Nat.lt_irrefl _)
  · show H1[H.size]? = some (vp_cell _ _)
    rw [ha]
    exact e1
theorem mw_new {C : String} {T : u_T} {N ci index : Nat} {own : String} {Ts : List Cond} (hexec : p.tables.exec = Jvm.exec) (hb : c.code = cc) (hts : ∀ w ∈ Ts, w.before args s = true) (hin : ∀ w ∈ u_ws C T N, w ∈ Ts) (ty : Nat → FieldType) (hty : ∀ k, k < N → parseFieldDescriptor (T k).2.2.1 = some (ty k)) (hown : s.vm.findClass own = some m.cls) (hcl : (Cond.classLink own index C).before args s = true) (hinst : (Cond.instantiable C N).before args s = true) (hini : (Cond.initialized C).before args s = true)
    (hC : mw_C G A s) (hw : mw_St G A s M H locs) (hc : vwCl[ci]? = some (C, T, N)) {fs : List Value} (hfs : ∀ j, j < N → defaultValue (ty j) = vp_V fs j) (hcells : cells + 1 ≤ R.cells) (hslots : slots + N ≤ R.slots) (hdg : decode cc pc = .ok (.new index, 3))
    (kk : ∀ (H1 : Heap), M H.size = none → mw_St G A s (va_up M H.size (some (.inr (ci, fs)))) H1 locs →
      W p l e R s m args below meth c H1 locs (cells + 1) (slots + N) Q (F0 m (pc + 3) ls (.ref H.size :: rest))) : W p l e R s m args below meth c H locs cells slots Q (F0 m pc ls rest) := by
  have hKn := hC.1.1.1 ci _ hc
  refine W.newcK hexec hb hown hcl hinst hini rfl hdg hcells hslots hKn.2.1 rfl fun H1 kC hkC e1 z1 o1 => ?_
  refine kk H1 ?_ (mw_add hC hw rfl ?_ z1 o1)
  · cases hm : M H.size with
    | none => rfl
    | some x => exact absurd (mw_fresh hw hm) (Nat.lt_irrefl _)
  · exact ⟨_, hc, (u_born ty hts hin hKn hkC e1 hty).to hfs⟩
theorem mw_newE (hexec : p.tables.exec = Jvm.exec) (hb : c.code = cc) {own : String} {index : Nat} (hown : s.vm.findClass own = some m.cls) (hclink : (Cond.classLink own index "LinkPair$End").before args s = true) (hC : mw_C G A s) (hw : mw_St G A s M H locs)
    {n : Int32} {N' : Nat} (hn : ¬ n < 0) (hN : n.toNatClampNeg = N') (hbytes : N' * 4 ≤ 536870912) (hcells : cells + 1 ≤ R.cells) (hslots : slots + N' ≤ R.slots) (hdg : decode cc pc = .ok (.anewarray index, 3))
    (kk : ∀ (H1 : Heap), M H.size = none → mw_St G A s (va_up M H.size (some (.inl (G.2 4, N', .inr (.inr (.inr (.inr (fun _ => none)))))))) H1 locs →
      W p l e R s m args below meth c H1 locs (cells + 1) (slots + N') Q (F0 m (pc + 3) ls (.ref H.size :: rest))) : W p l e R s m args below meth c H locs cells slots Q (F0 m pc ls (.int n :: rest)) := by
  subst hN
  refine W.anew hexec hb hown hclink (va_AO.use hC.1.2.2.2.1) rfl hdg rfl hn hbytes hcells hslots fun cA kA comp f1 f2 f3 f4 => ?_
  generalize hH1 : H.push ({ cls := cA, slots := Array.replicate n.toNatClampNeg .null, vm := .none } : Cell) = H1
  have z1 : H1.size = H.size + 1 := by rw [← hH1, Array.size_push]
  have e1 : H1[H.size]? = some (arrV cA n.toNatClampNeg (fun _ => .null)) := by rw [← hH1, Array.getElem?_push_size, ← arrV_new]
  have o1 : ∀ q : Nat, q < H.size → H1[q]? = H[q]? := fun q hq => by rw [← hH1, Array.getElem?_push, if_neg (Nat.ne_of_lt hq)]
  obtain ⟨kB, compB, k1, k2, k3, k4⟩ := (hC.1.1.2 4 (G.2 4, .object "LinkPair$End") rfl).2
  have hcc : cA = G.2 4 := Option.some.inj (f1.symm.trans k4)
  subst hcc
  refine kk H1 ?_ (mw_add hC hw rfl ?_ z1 o1)
  · cases hm : M H.size with
    | none => rfl
    | some x => exact absurd (mw_fresh hw hm) (Nat.lt_irrefl _)
  · show H1[H.size]? = some (vp_cell _ _)
    rw [vp_cell_q]
    exact e1
theorem mw_newF (hexec : p.tables.exec = Jvm.exec) (hb : c.code = cc) {own : String} {index : Nat} (hown : s.vm.findClass own = some m.cls) (hclink : (Cond.classLink own index "LinkPair$Frame").before args s = true) (hC : mw_C G A s) (hw : mw_St G A s M H locs)
    {n : Int32} {N' : Nat} (hn : ¬ n < 0) (hN : n.toNatClampNeg = N') (hbytes : N' * 4 ≤ 536870912) (hcells : cells + 1 ≤ R.cells) (hslots : slots + N' ≤ R.slots) (hdg : decode cc pc = .ok (.anewarray index, 3))
    (kk : ∀ (H1 : Heap), M H.size = none → mw_St G A s (va_up M H.size (some (.inl (G.2 5, N', .inr (.inr (.inr (.inr (fun _ => none)))))))) H1 locs →
      W p l e R s m args below meth c H1 locs (cells + 1) (slots + N') Q (F0 m (pc + 3) ls (.ref H.size :: rest))) : W p l e R s m args below meth c H locs cells slots Q (F0 m pc ls (.int n :: rest)) := by
  subst hN
  refine W.anew hexec hb hown hclink (va_AO.use hC.1.2.2.2.2.1) rfl hdg rfl hn hbytes hcells hslots fun cA kA comp f1 f2 f3 f4 => ?_
  generalize hH1 : H.push ({ cls := cA, slots := Array.replicate n.toNatClampNeg .null, vm := .none } : Cell) = H1
  have z1 : H1.size = H.size + 1 := by rw [← hH1, Array.size_push]
  have e1 : H1[H.size]? = some (arrV cA n.toNatClampNeg (fun _ => .null)) := by rw [← hH1, Array.getElem?_push_size, ← arrV_new]
  have o1 : ∀ q : Nat, q < H.size → H1[q]? = H[q]? := fun q hq => by rw [← hH1, Array.getElem?_push, if_neg (Nat.ne_of_lt hq)]
  obtain ⟨kB, compB, k1, k2, k3, k4⟩ := (hC.1.1.2 5 (G.2 5, .object "LinkPair$Frame") rfl).2
  have hcc : cA = G.2 5 := Option.some.inj (f1.symm.trans k4)
  subst hcc
  refine kk H1 ?_ (mw_add hC hw rfl ?_ z1 o1)
  · cases hm : M H.size with
    | none => rfl
    | some x => exact absurd (mw_fresh hw hm) (Nat.lt_irrefl _)
  · show H1[H.size]? = some (vp_cell _ _)
    rw [vp_cell_q]
    exact e1
theorem mw_ci {mc ms : Nat} {st0 : List Value} {r : Int32} {M' : mw_M} {a9 : Array Value} (hC : mw_C G A s) (hw : mw_St G A s M H locs) (hr : va_Run p l e R s m args below meth c H locs cells slots mc ms (F0 m pc ls st0) rest (mw_Qi G M H.size r M' a9) (mw_A M H.size))
    (kk : ∀ (H1 : Heap) (locs1 : List Loc), H.size ≤ H1.size → mw_St G A s M' H1 locs1 → W p l e R s m args below meth c H1 locs1 (cells + mc) (slots + ms) Q (F0 m (pc + 3) ls (.int r :: rest))) : W p l e R s m args below meth c H locs cells slots Q (F0 m pc ls st0) := by
  refine va_calli hr hw.2.2 (fun q _ h => mw_sub hC hw q h) (mw_sub hC hw) (fun r' u t H1 locs1 ht hvm hp hB hz hk hS => ?_)
  rw [hp]
  refine kk H1 locs1 hz ⟨by rw [← ht]; exact hB.1, fun q x hx => mw_sub hC hw q (hB.2 q x hx), hS⟩
theorem mw_cv {mc ms : Nat} {st0 : List Value} {M' : mw_M} {a9 : Array Value} (hC : mw_C G A s) (hw : mw_St G A s M H locs) (hr : va_Run p l e R s m args below meth c H locs cells slots mc ms (F0 m pc ls st0) rest (mw_Qv G M H.size M' a9) (mw_A M H.size))
    (kk : ∀ (H1 : Heap) (locs1 : List Loc), H.size ≤ H1.size → mw_St G A s M' H1 locs1 → W p l e R s m args below meth c H1 locs1 (cells + mc) (slots + ms) Q (F0 m (pc + 3) ls rest)) : W p l e R s m args below meth c H locs cells slots Q (F0 m pc ls st0) := by
  refine va_callv hr hw.2.2 (fun q _ h => mw_sub hC hw q h) (mw_sub hC hw) (fun u t H1 locs1 ht hvm hp hB hz hk hS => ?_)
  refine kk H1 locs1 hz ⟨by rw [← ht]; exact hB.1, fun q x hx => mw_sub hC hw q (hB.2 q x hx), hS⟩
theorem mw_cr {mc ms : Nat} {st0 : List Value} {r : Nat} {M' : mw_M} {a9 : Array Value} (hC : mw_C G A s) (hw : mw_St G A s M H locs) (hr : va_Run p l e R s m args below meth c H locs cells slots mc ms (F0 m pc ls st0) rest (mw_Qr G M H.size r M' a9) (mw_A M H.size))
    (kk : ∀ (H1 : Heap) (locs1 : List Loc), H.size ≤ H1.size → mw_St G A s M' H1 locs1 → W p l e R s m args below meth c H1 locs1 (cells + mc) (slots + ms) Q (F0 m (pc + 3) ls (.ref r :: rest))) : W p l e R s m args below meth c H locs cells slots Q (F0 m pc ls st0) := by
  refine va_callr hr hw.2.2 (fun q _ h => mw_sub hC hw q h) (mw_sub hC hw) (fun u ra t H1 locs1 ht hvm hp hB hz hk hS => ?_)
  rw [hB.1]
  refine kk H1 locs1 hz ⟨by rw [← ht]; exact hB.2.1, fun q x hx => mw_sub hC hw q (hB.2.2 q x hx), hS⟩
theorem mw_iret {M0 M' : mw_M} {v r : Int32} (hexec : p.tables.exec = Jvm.exec) (hb : c.code = cc) (hr : meth.sig.returnType = some .int) (hlocks : meth.locks = false) (hw : mw_St G (mw_A M0 s.heap.size) s M H locs) (hv : v = r) (hM : ∀ (q : Nat) (x : va_E), M' q = some x → M q = some x) (hdg : decode cc pc = .ok (.ireturn, 1)) :
    W p l e R s m args below meth c H locs cells slots (MQ below (mw_Qi G M0 s.heap.size r M') args s cells slots (mw_A M0 s.heap.size)) (F0 m pc ls [.int v]) := by
  have hw2 := hw.to hM
  exact W.iret (v := v) hexec hb hr (fun t ht hW => ⟨⟨v, (), rfl, hv, by rw [ht]; exact hw2.1, hw2.2.1⟩, hw.2.2.F ht⟩) hw.2.2.2.2 hdg hlocks
theorem mw_zret {M0 M' : mw_M} {v r : Int32} (hexec : p.tables.exec = Jvm.exec) (hb : c.code = cc) (hr : meth.sig.returnType = some .boolean) (hlocks : meth.locks = false) (hw : mw_St G (mw_A M0 s.heap.size) s M H locs) (hn : narrow .boolean (.int v) = .int v) (hv : v = r) (hM : ∀ (q : Nat) (x : va_E), M' q = some x → M q = some x) (hdg : decode cc pc = .ok (.ireturn, 1)) :
    W p l e R s m args below meth c H locs cells slots (MQ below (mw_Qi G M0 s.heap.size r M') args s cells slots (mw_A M0 s.heap.size)) (F0 m pc ls [.int v]) := by
  have hw2 := hw.to hM
  exact W.zret (v := v) hexec hb hr hn (fun t ht hW => ⟨⟨v, (), rfl, hv, by rw [ht]; exact hw2.1, hw2.2.1⟩, hw.2.2.F ht⟩) hw.2.2.2.2 hdg hlocks
theorem mw_vret {M0 M' : mw_M} (hexec : p.tables.exec = Jvm.exec) (hb : c.code = cc) (hr : meth.sig.returnType = none) (hlocks : meth.locks = false) (hw : mw_St G (mw_A M0 s.heap.size) s M H locs) (hM : ∀ (q : Nat) (x : va_E), M' q = some x → M q = some x) (hdg : decode cc pc = .ok (.return_, 1)) :
    W p l e R s m args below meth c H locs cells slots (MQ below (mw_Qv G M0 s.heap.size M') args s cells slots (mw_A M0 s.heap.size)) (F0 m pc ls []) := by
  have hw2 := hw.to hM
  exact W.vret hexec hb hr (fun t ht hW => ⟨⟨(), rfl, trivial, by rw [ht]; exact hw2.1, hw2.2.1⟩, hw.2.2.F ht⟩) hw.2.2.2.2 hdg hlocks
theorem mw_aret {M0 M' : mw_M} {v r : Nat} {rt : FieldType} (hexec : p.tables.exec = Jvm.exec) (hb : c.code = cc) (hr : meth.sig.returnType = some rt) (hrt : ∃ n, rt = .object n) (hlocks : meth.locks = false) (hw : mw_St G (mw_A M0 s.heap.size) s M H locs) (hv : v = r) (hM : ∀ (q : Nat) (x : va_E), M' q = some x → M q = some x) (hdg : decode cc pc = .ok (.areturn, 1)) :
    W p l e R s m args below meth c H locs cells slots (MQ below (mw_Qr G M0 s.heap.size r M') args s cells slots (mw_A M0 s.heap.size)) (F0 m pc ls [.ref v]) := by
  have hw2 := hw.to hM
  exact W.aret (v := .ref v) hexec hb hr (Or.inl hrt) (Or.inr ⟨v, rfl⟩) (fun t ht hW => ⟨⟨(), v, rfl, trivial, hv, by rw [ht]; exact hw2.1, hw2.2.1⟩, hw.2.2.F ht⟩) hw.2.2.2.2 hdg hlocks
end MWR
end
section
section MWN
variable {p : Program} {l : Launch} {e : Env} {R : Room} {s : State} {m : MethodId} {args : Array Value} {below : List Frame} {meth : Method} {c : Code} {H : Heap} {locs : List Loc} {cells slots : Nat} {Q : State → Prop}
variable {cc : ByteArray} {pc : Nat} {ls : Array Slot} {rest : List Value} {G : mw_G} {A : Nat → Prop} {a : Nat} {M : mw_M}
theorem mw_ti {v v' : Int32} (h : v = v') (kk : W p l e R s m args below meth c H locs cells slots Q (F0 m pc ls (.int v' :: rest))) : W p l e R s m args below meth c H locs cells slots Q (F0 m pc ls (.int v :: rest)) := h ▸ kk
theorem mw_tl {v v' : Int64} (h : v = v') (kk : W p l e R s m args below meth c H locs cells slots Q (F0 m pc ls (.long v' :: rest))) : W p l e R s m args below meth c H locs cells slots Q (F0 m pc ls (.long v :: rest)) := h ▸ kk
theorem mw_tr {v : Option Nat} {v' : Nat} (h : v = some v') (kk : W p l e R s m args below meth c H locs cells slots Q (F0 m pc ls (.ref v' :: rest))) : W p l e R s m args below meth c H locs cells slots Q (F0 m pc ls (va_rf v :: rest)) := by subst h; exact kk
theorem mw_start {M0 : mw_M} {g : JFrame} (kk : ∀ (H : Heap) (locs : List Loc), mw_St G A s M0 H locs → W p l e R s m args below meth c H locs cells slots Q g) (hw : mw_St G A s M0 s.heap []) : W p l e R s m args below meth c s.heap [] cells slots Q g := kk _ _ hw
theorem mw_ialdN (hexec : p.tables.exec = Jvm.exec) (hb : c.code = cc) (hC : mw_C G A s) (hw : mw_St G A s M H locs) {n : Nat} {f : Nat → Int32} (he : M a = some (.inl (G.2 1, n, .inl f))) {i : Nat} (hi : i < n) (hn : n < 2 ^ 31) (hdg : decode cc pc = .ok (.iaload, 1))
    (kk : W p l e R s m args below meth c H locs cells slots Q (F0 m (pc + 1) ls (.int (f i) :: rest))) : W p l e R s m args below meth c H locs cells slots Q (F0 m pc ls (.int (nI i) :: .ref a :: rest)) := by
  refine mw_iald hexec hb hC hw he (vp_in_nI hi hn) hdg ?_
  rw [nI_clamp (Nat.lt_trans hi hn)]
  exact kk
theorem mw_baldN (hexec : p.tables.exec = Jvm.exec) (hb : c.code = cc) (hC : mw_C G A s) (hw : mw_St G A s M H locs) {n : Nat} {f : Nat → Int32} (he : M a = some (.inl (G.2 0, n, .inl f))) {i : Nat} (hi : i < n) (hn : n < 2 ^ 31) (hdg : decode cc pc = .ok (.baload, 1))
    (kk : W p l e R s m args below meth c H locs cells slots Q (F0 m (pc + 1) ls (.int (f i) :: rest))) : W p l e R s m args below meth c H locs cells slots Q (F0 m pc ls (.int (nI i) :: .ref a :: rest)) := by
  refine mw_bald hexec hb hC hw he (vp_in_nI hi hn) hdg ?_
  rw [nI_clamp (Nat.lt_trans hi hn)]
  exact kk
theorem mw_zaldN (hexec : p.tables.exec = Jvm.exec) (hb : c.code = cc) (hC : mw_C G A s) (hw : mw_St G A s M H locs) {n : Nat} {f : Nat → Int32} (he : M a = some (.inl (G.2 3, n, .inl f))) {i : Nat} (hi : i < n) (hn : n < 2 ^ 31) (hdg : decode cc pc = .ok (.baload, 1))
    (kk : W p l e R s m args below meth c H locs cells slots Q (F0 m (pc + 1) ls (.int (f i) :: rest))) : W p l e R s m args below meth c H locs cells slots Q (F0 m pc ls (.int (nI i) :: .ref a :: rest)) := by
  refine mw_zald hexec hb hC hw he (vp_in_nI hi hn) hdg ?_
  rw [nI_clamp (Nat.lt_trans hi hn)]
  exact kk
theorem mw_laldN (hexec : p.tables.exec = Jvm.exec) (hb : c.code = cc) (hC : mw_C G A s) (hw : mw_St G A s M H locs) {n : Nat} {f : Nat → Int64} (he : M a = some (.inl (G.2 2, n, .inr (.inl f)))) {i : Nat} (hi : i < n) (hn : n < 2 ^ 31) (hdg : decode cc pc = .ok (.laload, 1))
    (kk : W p l e R s m args below meth c H locs cells slots Q (F0 m (pc + 1) ls (.long (f i) :: rest))) : W p l e R s m args below meth c H locs cells slots Q (F0 m pc ls (.int (nI i) :: .ref a :: rest)) := by
  refine mw_lald hexec hb hC hw he (vp_in_nI hi hn) hdg ?_
  rw [nI_clamp (Nat.lt_trans hi hn)]
  exact kk
theorem mw_ealdN (hexec : p.tables.exec = Jvm.exec) (hb : c.code = cc) (hC : mw_C G A s) (hw : mw_St G A s M H locs) {n : Nat} {f : Nat → Option Nat} (he : M a = some (.inl (G.2 4, n, .inr (.inr (.inr (.inr f)))))) {i : Nat} (hi : i < n) (hn : n < 2 ^ 31) (hdg : decode cc pc = .ok (.aaload, 1))
    (kk : W p l e R s m args below meth c H locs cells slots Q (F0 m (pc + 1) ls (va_rf (f i) :: rest))) : W p l e R s m args below meth c H locs cells slots Q (F0 m pc ls (.int (nI i) :: .ref a :: rest)) := by
  refine mw_eald hexec hb hC hw he (vp_in_nI hi hn) hdg ?_
  rw [nI_clamp (Nat.lt_trans hi hn)]
  exact kk
theorem mw_faldN (hexec : p.tables.exec = Jvm.exec) (hb : c.code = cc) (hC : mw_C G A s) (hw : mw_St G A s M H locs) {n : Nat} {f : Nat → Option Nat} (he : M a = some (.inl (G.2 5, n, .inr (.inr (.inr (.inr f)))))) {i : Nat} (hi : i < n) (hn : n < 2 ^ 31) (hdg : decode cc pc = .ok (.aaload, 1))
    (kk : W p l e R s m args below meth c H locs cells slots Q (F0 m (pc + 1) ls (va_rf (f i) :: rest))) : W p l e R s m args below meth c H locs cells slots Q (F0 m pc ls (.int (nI i) :: .ref a :: rest)) := by
  refine mw_fald hexec hb hC hw he (vp_in_nI hi hn) hdg ?_
  rw [nI_clamp (Nat.lt_trans hi hn)]
  exact kk
theorem mw_iastN (hexec : p.tables.exec = Jvm.exec) (hb : c.code = cc) (hC : mw_C G A s) (hw : mw_St G A s M H locs) {n : Nat} {f : Nat → Int32} (he : M a = some (.inl (G.2 1, n, .inl f))) {i : Nat} {x : Int32} (hi : i < n) (hn : n < 2 ^ 31) (hdg : decode cc pc = .ok (.iastore, 1))
    (kk : ∀ (H1 : Heap) (locs1 : List Loc), mw_St G A s (va_up M a (some (.inl (G.2 1, n, .inl (upd f i x))))) H1 locs1 → W p l e R s m args below meth c H1 locs1 cells slots Q (F0 m (pc + 1) ls rest)) : W p l e R s m args below meth c H locs cells slots Q (F0 m pc ls (.int x :: .int (nI i) :: .ref a :: rest)) := by
  refine mw_iast hexec hb hC hw he (vp_in_nI hi hn) hdg (fun H1 locs1 h1 => ?_)
  rw [nI_clamp (Nat.lt_trans hi hn)] at h1
  exact kk H1 locs1 h1
theorem mw_bastN (hexec : p.tables.exec = Jvm.exec) (hb : c.code = cc) (hC : mw_C G A s) (hw : mw_St G A s M H locs) {n : Nat} {f : Nat → Int32} (he : M a = some (.inl (G.2 0, n, .inl f))) {i : Nat} {x : Int32} (hi : i < n) (hn : n < 2 ^ 31) (hdg : decode cc pc = .ok (.bastore, 1))
    (kk : ∀ (H1 : Heap) (locs1 : List Loc), mw_St G A s (va_up M a (some (.inl (G.2 0, n, .inl (upd f i (vp_nar .byte x)))))) H1 locs1 → W p l e R s m args below meth c H1 locs1 cells slots Q (F0 m (pc + 1) ls rest)) : W p l e R s m args below meth c H locs cells slots Q (F0 m pc ls (.int x :: .int (nI i) :: .ref a :: rest)) := by
  refine mw_bast hexec hb hC hw he (vp_in_nI hi hn) hdg (fun H1 locs1 h1 => ?_)
  rw [nI_clamp (Nat.lt_trans hi hn)] at h1
  exact kk H1 locs1 h1
theorem mw_zastN (hexec : p.tables.exec = Jvm.exec) (hb : c.code = cc) (hC : mw_C G A s) (hw : mw_St G A s M H locs) {n : Nat} {f : Nat → Int32} (he : M a = some (.inl (G.2 3, n, .inl f))) {i : Nat} {x : Int32} (hi : i < n) (hn : n < 2 ^ 31) (hdg : decode cc pc = .ok (.bastore, 1))
    (kk : ∀ (H1 : Heap) (locs1 : List Loc), mw_St G A s (va_up M a (some (.inl (G.2 3, n, .inl (upd f i (vp_nar .boolean x)))))) H1 locs1 → W p l e R s m args below meth c H1 locs1 cells slots Q (F0 m (pc + 1) ls rest)) : W p l e R s m args below meth c H locs cells slots Q (F0 m pc ls (.int x :: .int (nI i) :: .ref a :: rest)) := by
  refine mw_zast hexec hb hC hw he (vp_in_nI hi hn) hdg (fun H1 locs1 h1 => ?_)
  rw [nI_clamp (Nat.lt_trans hi hn)] at h1
  exact kk H1 locs1 h1
theorem mw_lastN (hexec : p.tables.exec = Jvm.exec) (hb : c.code = cc) (hC : mw_C G A s) (hw : mw_St G A s M H locs) {n : Nat} {f : Nat → Int64} (he : M a = some (.inl (G.2 2, n, .inr (.inl f)))) {i : Nat} {x : Int64} (hi : i < n) (hn : n < 2 ^ 31) (hdg : decode cc pc = .ok (.lastore, 1))
    (kk : ∀ (H1 : Heap) (locs1 : List Loc), mw_St G A s (va_up M a (some (.inl (G.2 2, n, .inr (.inl (vp_updL f i x)))))) H1 locs1 → W p l e R s m args below meth c H1 locs1 cells slots Q (F0 m (pc + 1) ls rest)) : W p l e R s m args below meth c H locs cells slots Q (F0 m pc ls (.long x :: .int (nI i) :: .ref a :: rest)) := by
  refine mw_last hexec hb hC hw he (vp_in_nI hi hn) hdg (fun H1 locs1 h1 => ?_)
  rw [nI_clamp (Nat.lt_trans hi hn)] at h1
  exact kk H1 locs1 h1
theorem mw_eastN (hexec : p.tables.exec = Jvm.exec) (hb : c.code = cc) (hC : mw_C G A s) (hw : mw_St G A s M H locs) {n : Nat} {f : Nat → Option Nat} (he : M a = some (.inl (G.2 4, n, .inr (.inr (.inr (.inr f)))))) {i : Nat} {x : Nat} {vs : List Value} (hv : M x = some (.inr (0, vs))) (hi : i < n) (hn : n < 2 ^ 31) (hdg : decode cc pc = .ok (.aastore, 1))
    (kk : ∀ (H1 : Heap) (locs1 : List Loc), mw_St G A s (va_up M a (some (.inl (G.2 4, n, .inr (.inr (.inr (.inr (va_up f i (some x))))))))) H1 locs1 → W p l e R s m args below meth c H1 locs1 cells slots Q (F0 m (pc + 1) ls rest)) : W p l e R s m args below meth c H locs cells slots Q (F0 m pc ls (.ref x :: .int (nI i) :: .ref a :: rest)) := by
  refine mw_east hexec hb hC hw he hv (vp_in_nI hi hn) hdg (fun H1 locs1 h1 => ?_)
  rw [nI_clamp (Nat.lt_trans hi hn)] at h1
  exact kk H1 locs1 h1
theorem mw_fastN (hexec : p.tables.exec = Jvm.exec) (hb : c.code = cc) (hC : mw_C G A s) (hw : mw_St G A s M H locs) {n : Nat} {f : Nat → Option Nat} (he : M a = some (.inl (G.2 5, n, .inr (.inr (.inr (.inr f)))))) {i : Nat} {x : Nat} {vs : List Value} (hv : M x = some (.inr (1, vs))) (hi : i < n) (hn : n < 2 ^ 31) (hdg : decode cc pc = .ok (.aastore, 1))
    (kk : ∀ (H1 : Heap) (locs1 : List Loc), mw_St G A s (va_up M a (some (.inl (G.2 5, n, .inr (.inr (.inr (.inr (va_up f i (some x))))))))) H1 locs1 → W p l e R s m args below meth c H1 locs1 cells slots Q (F0 m (pc + 1) ls rest)) : W p l e R s m args below meth c H locs cells slots Q (F0 m pc ls (.ref x :: .int (nI i) :: .ref a :: rest)) := by
  refine mw_fast hexec hb hC hw he hv (vp_in_nI hi hn) hdg (fun H1 locs1 h1 => ?_)
  rw [nI_clamp (Nat.lt_trans hi hn)] at h1
  exact kk H1 locs1 h1
end MWN
end
section
theorem wb_tb (n : Nat) : (lN n).toBitVec = BitVec.ofNat 64 n := rfl
theorem wb_inj {a b : Int64} (h : a.toBitVec = b.toBitVec) : a = b := Int64.toBitVec_inj.mp h
theorem wb_tn {n : Nat} (h : n < 2 ^ 64) : (lN n).toBitVec.toNat = n := by rw [wb_tb, BitVec.toNat_ofNat, Nat.mod_eq_of_lt h]
theorem wb_of (x : Int64) : ∃ n, n < 2 ^ 64 ∧ x = lN n := ⟨x.toBitVec.toNat, x.toBitVec.isLt, wb_inj (by rw [wb_tb]; simp)⟩
theorem wb_of32 (x : Int32) : ∃ n, n < 2 ^ 32 ∧ x = nI n := ⟨x.toBitVec.toNat, x.toBitVec.isLt, Int32.toBitVec_inj.mp (by show _ = BitVec.ofNat 32 _; simp)⟩
theorem wb_c : ∀ k, k < 64 → ((nI k).toInt64 &&& 63) = lN k := by decide +kernel
theorem wb_cu : ∀ k, k < 64 → ((nI k).toInt64.toUInt64 &&& Int64.toUInt64 63) = UInt64.ofNat k := by decide +kernel
theorem wb_sm : ∀ k, k < 64 → (BitVec.ofNat 64 k).smod 64 = BitVec.ofNat 64 k := by decide +kernel
theorem wb_pw {a b : Nat} (h : a ≤ b) : 2 ^ b = 2 ^ a * 2 ^ (b - a) := by rw [← Nat.pow_add]; congr 1; omega
theorem wb_lt2 {a b : Nat} (h : a < b) : 2 ^ a < 2 ^ b := Nat.pow_lt_pow_right (by decide) h
theorem wb_mod (n : Nat) : lN n = lN (n % 2 ^ 64) := wb_inj (by rw [wb_tb, wb_tb]; apply BitVec.eq_of_toNat_eq; rw [BitVec.toNat_ofNat, BitVec.toNat_ofNat, Nat.mod_mod])
theorem wb_shr {n k : Nat} (hn : n < 2 ^ 64) (hk : k < 64) : ((lN n).toUInt64 >>> ((nI k).toInt64.toUInt64 &&& Int64.toUInt64 63)).toInt64 = lN (n / 2 ^ k) := by
  rw [wb_cu k hk]
  apply wb_inj
  apply BitVec.eq_of_toNat_eq
  show ((lN n).toUInt64 >>> UInt64.ofNat k).toNat = (BitVec.ofNat 64 _).toNat
  have h1 : (UInt64.ofNat k).toNat = k := by
    show (BitVec.ofNat 64 k).toNat = k
    rw [BitVec.toNat_ofNat, Nat.mod_eq_of_lt (by omega)]
  have h2 : (lN n).toUInt64.toNat = n := wb_tn hn
  rw [UInt64.toNat_shiftRight, h1, h2, Nat.mod_eq_of_lt hk, Nat.shiftRight_eq_div_pow, BitVec.toNat_ofNat, Nat.mod_eq_of_lt (Nat.lt_of_le_of_lt (Nat.div_le_self _ _) hn)]
theorem wb_shl (n : Nat) {k : Nat} (hk : k < 64) : lN n <<< ((nI k).toInt64 &&& 63) = lN (n * 2 ^ k) := by
  rw [wb_c k hk]
  apply wb_inj
  rw [Int64.toBitVec_shiftLeft, wb_tb, wb_tb, wb_tb, wb_sm k hk]
  apply BitVec.eq_of_toNat_eq
  rw [BitVec.shiftLeft_eq', BitVec.toNat_shiftLeft, BitVec.toNat_ofNat, BitVec.toNat_ofNat, BitVec.toNat_ofNat, Nat.mod_eq_of_lt (show k < 2 ^ 64 by omega), Nat.shiftLeft_eq, Nat.mul_mod, Nat.mod_mod, ← Nat.mul_mod]
theorem wb_and {a b : Nat} (ha : a < 2 ^ 64) (hb : b < 2 ^ 64) : lN a &&& lN b = lN (a &&& b) := by
  apply wb_inj
  rw [Int64.toBitVec_and, wb_tb, wb_tb, wb_tb]
  apply BitVec.eq_of_toNat_eq
  rw [BitVec.toNat_and, BitVec.toNat_ofNat, BitVec.toNat_ofNat, BitVec.toNat_ofNat, Nat.mod_eq_of_lt ha, Nat.mod_eq_of_lt hb, Nat.mod_eq_of_lt (Nat.and_lt_two_pow _ hb)]
theorem wb_or {a b : Nat} (ha : a < 2 ^ 64) (hb : b < 2 ^ 64) : lN a ||| lN b = lN (a ||| b) := by
  apply wb_inj
  rw [Int64.toBitVec_or, wb_tb, wb_tb, wb_tb]
  apply BitVec.eq_of_toNat_eq
  rw [BitVec.toNat_or, BitVec.toNat_ofNat, BitVec.toNat_ofNat, BitVec.toNat_ofNat, Nat.mod_eq_of_lt ha, Nat.mod_eq_of_lt hb, Nat.mod_eq_of_lt (Nat.or_lt_two_pow ha hb)]
theorem wb_mask {n k : Nat} (hn : n < 2 ^ 64) (hk : k < 64) : lN n &&& lN (2 ^ k - 1) = lN (n % 2 ^ k) := by
  rw [wb_and hn (by have := wb_lt2 hk; omega), Nat.and_two_pow_sub_one_eq_mod]
theorem wb_a1 {n : Nat} (hn : n < 2 ^ 64) : lN n &&& 1 = lN (n % 2) := wb_mask (k := 1) hn (by decide)
theorem wb_bit {n k : Nat} (hn : n < 2 ^ 64) (hk : k < 64) : ((lN n).toUInt64 >>> ((nI k).toInt64.toUInt64 &&& Int64.toUInt64 63)).toInt64 &&& 1 = lN (n / 2 ^ k % 2) := by
  rw [wb_shr hn hk, wb_a1 (Nat.lt_of_le_of_lt (Nat.div_le_self _ _) hn)]
/-! ===== bits of a frame's words ===== -/
/-- bit i of the words f -/
def fb (f : Nat → Int64) (i : Nat) : Nat := ((f (i / 64)).toBitVec.getLsbD (i % 64)).toNat
theorem fb_le (f : Nat → Int64) (i : Nat) : fb f i ≤ 1 := Bool.toNat_le _
/-- the words with bit i turned -/
def ft (f : Nat → Int64) (i : Nat) : Nat → Int64 := vp_updL f (i / 64) (f (i / 64) ^^^ ((1 : Int64) <<< ((nI (i % 64)).toInt64 &&& 63)))
/-- the words with the bit v put at place n -/
def fadd (f : Nat → Int64) (n v : Nat) : Nat → Int64 := if fb f n = v then f else ft f n
theorem pu_one : ∀ k, k < 64 → ((1 : Int64) <<< ((nI k).toInt64 &&& 63)).toBitVec = BitVec.twoPow 64 k := by decide +kernel
theorem pu_and1 (m : Nat) : nI m &&& nI 1 = nI (m % 2) := by
  rw [pk_and (nI m) (m := nI 1) 1 (by decide)]
  congr 1
  show (BitVec.ofNat 32 m).toNat % 2 ^ 1 = m % 2
  rw [BitVec.toNat_ofNat]
  omega
theorem pu_tb (n k : Nat) : (n.testBit k).toNat = n / 2 ^ k % 2 := by
  rw [Nat.testBit_eq_decide_div_mod_eq]
  rcases Nat.mod_two_eq_zero_or_one (n / 2 ^ k) with h | h <;> simp [h]
theorem fb_val (f : Nat → Int64) (i : Nat) : ((f (i / 64)).toUInt64 >>> ((nI (i % 64)).toInt64.toUInt64 &&& Int64.toUInt64 63)).toInt64.toInt32 &&& nI 1 = nI (fb f i) := by
  have hk : i % 64 < 64 := Nat.mod_lt _ (by decide)
  unfold fb
  obtain ⟨n, hn, e⟩ := wb_of (f (i / 64))
  rw [e, wb_shr hn hk, lN_i, pu_and1, wb_tb, BitVec.getLsbD_ofNat]
  simp only [hk, decide_true, Bool.true_and]
  rw [pu_tb]
theorem fb_ft (f : Nat → Int64) (i j : Nat) : fb (ft f i) j = if j = i then 1 - fb f i else fb f j := by
  have hk : i % 64 < 64 := Nat.mod_lt _ (by decide)
  unfold fb ft
  by_cases hd : j / 64 = i / 64
  · rw [hd, pk_uLs, Int64.toBitVec_xor, BitVec.getLsbD_xor, pu_one _ hk, BitVec.getLsbD_twoPow]
    by_cases hj : j = i
    · subst hj
      cases h : (f (j / 64)).toBitVec.getLsbD (j % 64) <;> simp [hk]
    · have hm : ¬ i % 64 = j % 64 := by omega
      have hm2 : ¬ j % 64 = i % 64 := by omega
      rw [if_neg hj]
      simp [hm, hm2]
  · have hj : ¬ j = i := fun e => hd (by rw [e])
    rw [pk_uLn hd, if_neg hj]
theorem fb_fadd (f : Nat → Int64) (n v : Nat) (hv : v ≤ 1) (j : Nat) : fb (fadd f n v) j = if j = n then v else fb f j := by
  unfold fadd
  by_cases h : fb f n = v
  · rw [if_pos h]
    by_cases hj : j = n
    · rw [if_pos hj, hj, h]
    · rw [if_neg hj]
  · rw [if_neg h, fb_ft]
    by_cases hj : j = n
    · rw [if_pos hj, if_pos hj]
      have := fb_le f n
      omega
    · rw [if_neg hj, if_neg hj]
/-- the flag's bits -/
def flg (k : Nat) : Nat := 126 / 2 ^ k % 2
theorem flg_val : ∀ k, k < 8 → (nI 126 >>> (nI k &&& 31)) &&& nI 1 = nI (flg k) := by decide +kernel
theorem flg_le (k : Nat) : flg k ≤ 1 := by unfold flg; omega
def ffl (f : Nat → Int64) (n : Nat) : Nat → (Nat → Int64)
  | 0 => f
  | k + 1 => fadd (ffl f n k) (n + k) (flg k)
/-- whether the first k bits from a on are the flag's -/
def isfl (f : Nat → Int64) (a : Nat) : Nat → Bool
  | 0 => true
  | k + 1 => isfl f a k && decide (fb f (a + k) = flg k)
/-- ones in a row up to place i, counted from 8 on; six seen: none -/
def b2n (b : Bool) : Nat := if b then 1 else 0
theorem b2n_le (b : Bool) : b2n b ≤ 1 := by cases b <;> decide
/-- how many ones stand one behind the other just ahead of place 8 + k, where no six were met -/
def onesAt (f : Nat → Int64) : Nat → Nat
  | 0 => 0
  | k + 1 => if fb f (8 + k) = 1 then onesAt f k + 1 else 0
/-- six ones one behind the other among the first k places from 8 on -/
def sixIn (f : Nat → Int64) : Nat → Bool
  | 0 => false
  | k + 1 => sixIn f k || decide (5 < onesAt f (k + 1))
theorem onesAt_le (f : Nat → Int64) (k : Nat) : onesAt f k ≤ k := by
  induction k with
  | zero => exact Nat.le_refl _
  | succ k ih => simp only [onesAt]; split <;> omega
theorem sixIn_up {f : Nat → Int64} {k : Nat} (h : sixIn f k = true) (d : Nat) : sixIn f (k + d) = true := by
  induction d with
  | zero => exact h
  | succ d ih => show (sixIn f (k + d) || _) = true; rw [ih]; rfl
theorem sixIn_hit {f : Nat → Int64} {k m : Nat} (h1 : fb f (8 + k) = 1) (h2 : 5 < onesAt f k + 1) (h : k < m) : sixIn f m = true := by
  have h3 : sixIn f (k + 1) = true := by
    show (sixIn f k || decide (5 < onesAt f (k + 1))) = true
    have h4 : onesAt f (k + 1) = onesAt f k + 1 := if_pos h1
    rw [h4, decide_eq_true h2, Bool.or_true]
  have h5 := sixIn_up h3 (m - (k + 1))
  rw [show k + 1 + (m - (k + 1)) = m by omega] at h5
  exact h5
/-! ===== the frames' row with one taken out ===== -/
def lsh (fr : Nat → Option Nat) (f k : Nat) : Nat → Option Nat := fun j => if f ≤ j ∧ j < k then fr (j + 1) else fr j
theorem lsh_0 (fr : Nat → Option Nat) (f : Nat) : lsh fr f f = fr := by
  funext j
  simp only [lsh]
  rw [if_neg (by omega)]
theorem lsh_hi (fr : Nat → Option Nat) (f : Nat) {k j : Nat} (h : k ≤ j) : lsh fr f k j = fr j := by
  simp only [lsh]
  rw [if_neg (by omega)]
theorem lsh_s (fr : Nat → Option Nat) {f k : Nat} (h : f ≤ k) : va_up (lsh fr f k) k (fr (k + 1)) = lsh fr f (k + 1) := by
  funext j
  by_cases hj : j = k
  · subst hj
    simp only [va_up_self, lsh]
    rw [if_pos (by omega)]
  · rw [va_up_ne _ _ hj]
    simp only [lsh]
    by_cases h1 : f ≤ j ∧ j < k
    · rw [if_pos h1, if_pos (by omega)]
    · rw [if_neg h1, if_neg (by omega)]
/-! ===== the check's register ===== -/
def rs1 (r v i : Nat) : Nat := if r % 2 = v / 2 ^ i % 2 then r / 2 else (r / 2) ^^^ 33800
def rst (r v : Nat) : Nat → Nat
  | 0 => r
  | k + 1 => rs1 (rst r v k) v k
theorem rs1_lt {r v i : Nat} (h : r < 65536) : rs1 r v i < 65536 := by
  unfold rs1
  split
  · omega
  · exact Nat.xor_lt_two_pow (n := 16) (by omega) (by decide)
theorem rst_lt {r v : Nat} (h : r < 65536) (k : Nat) : rst r v k < 65536 := by
  induction k with
  | zero => exact h
  | succ k ih => exact rs1_lt ih
theorem nx_xor (a b : Nat) : nI a ^^^ nI b = nI (a ^^^ b) := by
  apply Int32.toBitVec_inj.mp
  rw [Int32.toBitVec_xor]
  show BitVec.ofNat 32 a ^^^ BitVec.ofNat 32 b = BitVec.ofNat 32 (a ^^^ b)
  rw [BitVec.ofNat_xor]
theorem nx_or (a b : Nat) : nI a ||| nI b = nI (a ||| b) := by
  apply Int32.toBitVec_inj.mp
  rw [Int32.toBitVec_or]
  show BitVec.ofNat 32 a ||| BitVec.ofNat 32 b = BitVec.ofNat 32 (a ||| b)
  rw [BitVec.ofNat_or]
theorem sh_l : ∀ n, n < 32 → ((nI n &&& 31).toBitVec.smod 32).toNat = n := by decide +kernel
/-- a byte's bit -/
theorem sh_bit {v k : Nat} (hv : v < 2 ^ 31) (hk : k < 32) : nI v >>> (nI k &&& 31) = nI (v / 2 ^ k) := pk_shrN hv _ k (sh_l k hk)
def cdu (g : Nat → Nat) : Nat → Nat
  | 0 => 65535
  | k + 1 => rst (cdu g k) (g k) 8
theorem cdu_lt (g : Nat → Nat) (k : Nat) : cdu g k < 65536 := by
  induction k with
  | zero => exact (by decide : 65535 < 65536)
  | succ k ih => exact rst_lt ih 8
def bod (g : Nat → Nat) (s : Nat) : Nat → (Nat → Nat)
  | 0 => g
  | k + 1 => va_up (bod g s k) (3 + k) ((s + 37 * k + k / 8) % 256)
def gbit (g : Nat → Nat) (k : Nat) : Nat := g (k / 8) / 2 ^ (k % 8) % 2
theorem gbit_le (g : Nat → Nat) (k : Nat) : gbit g k ≤ 1 := by unfold gbit; omega
abbrev wtT : Type := (Nat → Int64) × Nat × Nat
def wt1 (b : Nat) (S : wtT) : wtT :=
  if b = 1 then (if S.2.2 + 1 = 5 then (fadd (fadd S.1 S.2.1 b) (S.2.1 + 1) 0, S.2.1 + 1 + 1, 0) else (fadd S.1 S.2.1 b, S.2.1 + 1, S.2.2 + 1)) else (fadd S.1 S.2.1 b, S.2.1 + 1, 0)
def wts (g : Nat → Nat) (f : Nat → Int64) (n : Nat) : Nat → wtT
  | 0 => (f, n, 0)
  | k + 1 => wt1 (gbit g k) (wts g f n k)
theorem wts_le (g : Nat → Nat) (f : Nat → Int64) (n k : Nat) : (wts g f n k).2.2 ≤ 4 ∧ 5 * (wts g f n k).2.1 + (wts g f n k).2.2 ≤ 5 * n + 6 * k := by
  induction k with
  | zero => simp [wts]
  | succ k ih =>
    simp only [wts, wt1]
    split
    · split
      · simp only; omega
      · simp only; omega
    · simp only; omega
/-! ===== reading a frame ===== -/
theorem sh_shl {v k : Nat} (hv : v ≤ 1) (hk : k < 8) : nI v <<< (nI k &&& 31) = nI (v * 2 ^ k) := by
  refine pk_shlN _ k (sh_l k (by omega)) ?_
  have h1 : 2 ^ k ≤ 2 ^ 7 := Nat.pow_le_pow_right (by decide) (by omega)
  have h2 : v * 2 ^ k ≤ 1 * 2 ^ k := Nat.mul_le_mul_right _ hv
  omega
def wbv (g : Nat → Nat) (i v : Nat) : Nat := (if i % 8 = 0 then 0 else g (i / 8)) ||| v * 2 ^ (i % 8)
theorem wbv_lt {g : Nat → Nat} {i v : Nat} (hg : g (i / 8) < 256) (hv : v ≤ 1) : wbv g i v < 256 := by
  unfold wbv
  have h1 : 2 ^ (i % 8) ≤ 2 ^ 7 := Nat.pow_le_pow_right (by decide) (by omega)
  have h2 : v * 2 ^ (i % 8) ≤ 1 * 2 ^ (i % 8) := Nat.mul_le_mul_right _ hv
  refine Nat.or_lt_two_pow (n := 8) ?_ (by omega)
  split <;> omega
abbrev rbT : Type := Nat × Nat × (Nat → Nat)
def rb1 (b : Nat) (S : rbT) : rbT := if S.2.1 = 5 then (S.1, 0, S.2.2) else (S.1 + 1, if b = 1 then S.2.1 + 1 else 0, if S.1 < 2216 then va_up S.2.2 (S.1 / 8) (wbv S.2.2 S.1 b) else S.2.2)
def rbs (f : Nat → Int64) (g : Nat → Nat) : Nat → rbT
  | 0 => (0, 0, g)
  | k + 1 => rb1 (fb f (8 + k)) (rbs f g k)
theorem rbs_le (f : Nat → Int64) (g : Nat → Nat) (k : Nat) : (rbs f g k).1 ≤ k ∧ (rbs f g k).2.1 ≤ 5 := by
  induction k with
  | zero => simp [rbs]
  | succ k ih =>
    simp only [rbs, rb1]
    split
    · simp only; omega
    · simp only; split <;> omega
theorem rbs_lt (f : Nat → Int64) (g : Nat → Nat) (hg : ∀ i, i < 277 → g i < 256) (k : Nat) : ∀ i, i < 277 → (rbs f g k).2.2 i < 256 := by
  induction k with
  | zero => exact hg
  | succ k ih =>
    intro i hi
    simp only [rbs, rb1]
    split
    · exact ih i hi
    · simp only
      split
      · by_cases h : i = (rbs f g k).1 / 8
        · rw [h, va_up_self]
          exact wbv_lt (ih _ (by omega)) (fb_le f (8 + k))
        · rw [va_up_ne _ _ h]
          exact ih i hi
      · exact ih i hi
def rdok (f : Nat → Int64) (q : Nat) : Bool := decide (16 ≤ q) && isfl f 0 8 && isfl f (q - 8) 8
abbrev rdB (f : Nat → Int64) (g : Nat → Nat) (q : Nat) : rbT := rbs f g (q - 16)
/-- what reading a frame of q bits gives: the fault, the unit's count, its bytes -/
def rdT (f : Nat → Int64) (q : Nat) (g : Nat → Nat) (n : Nat) : Nat × Nat × (Nat → Nat) :=
  if rdok f q = false then (1, n, g) else if sixIn f (q - 16) = true then (2, n, g) else
  if (rdB f g q).1 % 8 ≠ 0 ∨ (rdB f g q).1 < 40 ∨ 2216 < (rdB f g q).1 then (3, n, (rdB f g q).2.2) else
  if (rdB f g q).2.2 ((rdB f g q).1 / 8 - 2) + 256 * (rdB f g q).2.2 ((rdB f g q).1 / 8 - 1) ≠ 65535 - cdu (rdB f g q).2.2 ((rdB f g q).1 / 8 - 2) then (4, (rdB f g q).1 / 8, (rdB f g q).2.2) else
  if (rdB f g q).2.2 2 = min ((rdB f g q).1 / 8 - 5) 63 then (0, (rdB f g q).1 / 8, (rdB f g q).2.2) else (5, (rdB f g q).1 / 8, (rdB f g q).2.2)
/-! ===== the store ===== -/
def kee (bg g : Nat → Nat) (r : Nat) : Nat → (Nat → Nat)
  | 0 => bg
  | k + 1 => va_up (kee bg g r k) (r * 272 + k) (g (3 + k))
theorem st_lt {k t : Nat} (hk : k < 2 ^ 30) (ht : t < 2 ^ 30) : nI k < nI t - nI 50 ↔ k + 50 < t := by
  rw [Int32.lt_iff_toInt_lt, nI_toInt (by omega), pk_sub_toInt ht (by decide)]
  omega
theorem sb_255 {c : Nat} (h : c < 256) : sb_b c &&& nI 255 = nI c := (sb_byte c h).1
/-! ===== numbers and booleans ===== -/
theorem nar_b (b : Bool) : narrow .boolean (.int (nI (b2n b))) = .int (nI (b2n b)) := by cases b <;> rfl
theorem fit_b (b : Bool) : fits .boolean (.int (nI (b2n b))) = true := by cases b <;> rfl
theorem nI_big (a : Nat) : nI (a + 4294967296) = nI a := by
  apply Int32.toBitVec_inj.mp
  show BitVec.ofNat 32 _ = BitVec.ofNat 32 _
  apply BitVec.eq_of_toNat_eq
  rw [BitVec.toNat_ofNat, BitVec.toNat_ofNat]
  omega
theorem nI_and127 (m : Nat) : nI m &&& nI 127 = nI (m % 128) := by
  rw [pk_and (nI m) (m := nI 127) 7 (by decide)]
  congr 1
  show (BitVec.ofNat 32 m).toNat % 2 ^ 7 = m % 128
  rw [BitVec.toNat_ofNat]
  omega
theorem nm_sub {a b : Nat} (ha : a < 128) (hb : b ≤ 128) : (nI a - nI b) &&& nI 127 = nI ((a + 128 - b) % 128) := by
  rw [← nI_big a, pk_sub (by omega), nI_and127]
  congr 1
  omega
theorem tb_val {b s u : Nat} (hb : b < 128) (hs : s < 128) (hu : u ≤ 127) : (nI b - (nI s - nI u)) &&& nI 127 = nI ((b + u + 128 - s) % 128) := by
  have e : nI b - (nI s - nI u) = nI b + nI u - nI s := by
    rw [Int32.sub_eq_add_neg, Int32.neg_sub, Int32.sub_eq_add_neg (nI u), Int32.sub_eq_add_neg (nI b + nI u), Int32.add_assoc]
  rw [e, nI_add, ← nI_big (b + u), pk_sub (by omega), nI_and127]
  congr 1
  omega
/-- the bytes of a unit with its check -/
def ubs (g : Nat → Nat) (b f ln se : Nat) : Nat → Nat :=
  let g2 := bod (va_up (va_up (va_up g 0 b) 1 f) 2 (min ln 63)) se (5 + ln - 5)
  va_up (va_up g2 (5 + ln - 2) ((65535 - cdu g2 (5 + ln - 2)) % 256)) (5 + ln - 1) ((65535 - cdu g2 (5 + ln - 2)) / 256)
theorem bod_lt {g : Nat → Nat} (hg : ∀ i, i < 277 → g i < 256) (s k : Nat) : ∀ i, i < 277 → bod g s k i < 256 := by
  induction k with
  | zero => exact hg
  | succ k ih =>
    intro i hi
    simp only [bod]
    by_cases h : i = 3 + k
    · rw [h, va_up_self]; omega
    · rw [va_up_ne _ _ h]; exact ih i hi
theorem up_lt {g : Nat → Nat} (hg : ∀ i, i < 277 → g i < 256) {k v : Nat} (hv : v < 256) : ∀ i, i < 277 → va_up g k v i < 256 := by
  intro i hi
  by_cases h : i = k
  · rw [h, va_up_self]; exact hv
  · rw [va_up_ne _ _ h]; exact hg i hi
def ufr (g : Nat → Nat) (f : Nat → Int64) (n : Nat) : wtT := wts g (ffl f 0 8) (0 + 8) (8 * n)
/-- the bucket leaks -/
def lk (er un : Nat) : Nat := if (un + 1) % 256 = 0 ∧ 0 < er then er - 1 else er
theorem ubs_lt {g : Nat → Nat} (hg : ∀ i, i < 277 → g i < 256) {b f ln : Nat} (hb : b < 256) (hf : f < 256) (hln : ln ≤ 272) (se : Nat) : ∀ i, i < 277 → ubs g b f ln se i < 256 := by
  have hg1 : ∀ i, i < 277 → va_up (va_up (va_up g 0 b) 1 f) 2 (min ln 63) i < 256 := up_lt (up_lt (up_lt hg hb) hf) (by omega)
  have hg2 := bod_lt hg1 se (5 + ln - 5)
  have hcd := cdu_lt (bod (va_up (va_up (va_up g 0 b) 1 f) 2 (min ln 63)) se (5 + ln - 5)) (5 + ln - 2)
  exact up_lt (up_lt hg2 (by omega)) (by omega)
end
section
/-! ===== the reference: one object, 25 arrays; what they hold is A k (array k), c (code), u (unitLength) ===== -/
def md_obj (a : Nat → Nat) (c u : Nat) : va_E := .inr (7, [.int (nI c), .ref (a 1), .ref (a 2), .ref (a 3), .ref (a 4), .ref (a 5), .ref (a 6), .ref (a 7), .ref (a 8), .ref (a 9), .ref (a 10), .ref (a 11), .ref (a 12), .ref (a 13), .ref (a 14), .ref (a 15), .ref (a 16), .ref (a 17), .ref (a 18), .ref (a 19), .ref (a 20), .ref (a 21), .ref (a 22), .ref (a 23), .ref (a 24), .int (nI u), .ref (a 26)])
def md_len (k : Nat) : Nat := match k with
  | 1 => 2
  | 2 => 80
  | 3 => 240000
  | 4 => 2
  | 5 => 2
  | 6 => 2
  | 7 => 2
  | 8 => 2
  | 9 => 2
  | 10 => 120
  | 11 => 120
  | 12 => 2
  | 13 => 254
  | 14 => 254
  | 15 => 254
  | 16 => 2
  | 17 => 2
  | 18 => 2
  | 19 => 2
  | 20 => 2
  | 21 => 2
  | 22 => 100
  | 23 => 27200
  | 24 => 280
  | 26 => 3000
  | _ => 0
def md_arr (G : mw_G) (k : Nat) (g : Nat → Nat) : va_E := .inl (G.2 (if k = 20 then 3 else 1), md_len k, .inl (fun j => nI (g j)))
def md_ok (k : Nat) : Bool := decide (1 ≤ k) && decide (k ≤ 26) && decide (k ≠ 25)
abbrev md_S : Type := Nat → Nat → Nat
def md_at (G : mw_G) (M : mw_M) (h0 : Nat) (a : Nat → Nat) (c u : Nat) (A : md_S) : Prop := M h0 = some (md_obj a c u) ∧ (∀ k, md_ok k = true → M (a k) = some (md_arr G k (A k))) ∧ ∀ i j, md_ok i = true → md_ok j = true → a i = a j → i = j
def md_fr (h0 : Nat) (a : Nat → Nat) (M M' : mw_M) : Prop := ∀ q, q ≠ h0 → (∀ k, md_ok k = true → q ≠ a k) → M' q = M q
def md_u (A : md_S) (k i v : Nat) : md_S := va_up A k (va_up (A k) i v)
theorem md_fr.rf {h0 : Nat} {a : Nat → Nat} {M : mw_M} : md_fr h0 a M M := fun _ _ _ => rfl
theorem md_fr.tr {h0 : Nat} {a : Nat → Nat} {M M1 M2 : mw_M} (h : md_fr h0 a M M1) (h2 : md_fr h0 a M1 M2) : md_fr h0 a M M2 := fun q a1 a2 => (h2 q a1 a2).trans (h q a1 a2)
theorem md_ne0 {G : mw_G} {M : mw_M} {h0 : Nat} {a : Nat → Nat} {c u : Nat} {A : md_S} (hm : md_at G M h0 a c u A) {k : Nat} (hk : md_ok k = true) : a k ≠ h0 := fun e => by
  have h := hm.2.1 k hk
  rw [e, hm.1] at h
  cases h
theorem md_at.st {G : mw_G} {M : mw_M} {h0 : Nat} {a : Nat → Nat} {c u : Nat} {A : md_S} (hm : md_at G M h0 a c u A) {k : Nat} (hk : md_ok k = true) (i v : Nat) : md_at G (va_up M (a k) (some (md_arr G k (va_up (A k) i v)))) h0 a c u (md_u A k i v) := by
  refine ⟨(va_up_ne _ _ (Ne.symm (md_ne0 hm hk))).trans hm.1, fun j hj => ?_, hm.2.2⟩
  by_cases h : j = k
  · subst h
    rw [va_up_self, md_u, va_up_self]
  · rw [va_up_ne _ _ (fun e => h (hm.2.2 j k hj hk e)), hm.2.1 j hj, md_u, va_up_ne _ _ h]
theorem md_at.co {G : mw_G} {M : mw_M} {h0 : Nat} {a : Nat → Nat} {c u : Nat} {A : md_S} (hm : md_at G M h0 a c u A) (c' u' : Nat) : md_at G (va_up M h0 (some (md_obj a c' u'))) h0 a c' u' A :=
  ⟨va_up_self _ _ _, fun j hj => (va_up_ne _ _ (md_ne0 hm hj)).trans (hm.2.1 j hj), hm.2.2⟩
theorem md_fr.st {h0 : Nat} {a : Nat → Nat} {M : mw_M} {k : Nat} (hk : md_ok k = true) {x : Option va_E} : md_fr h0 a M (va_up M (a k) x) := fun q _ h2 => va_up_ne _ _ (h2 k hk)
theorem md_fr.co {h0 : Nat} {a : Nat → Nat} {M : mw_M} {x : Option va_E} : md_fr h0 a M (va_up M h0 x) := fun q h1 _ => va_up_ne _ _ h1
def md_Qi (G : mw_G) (M : mw_M) (sz h0 : Nat) (a : Nat → Nat) (r : Int32) (c u : Nat) (A : md_S) : Array Value → State → Outcome → State → Prop := va_Qi (fun (r' : Int32) (M' : mw_M) => r' = r ∧ md_at G M' h0 a c u A ∧ md_fr h0 a M M') (fun M' t => mw_end G M M' sz t) (mw_A M sz)
def md_Qv (G : mw_G) (M : mw_M) (sz h0 : Nat) (a : Nat → Nat) (c u : Nat) (A : md_S) : Array Value → State → Outcome → State → Prop := va_Qv (fun (M' : mw_M) => md_at G M' h0 a c u A ∧ md_fr h0 a M M') (fun M' t => mw_end G M M' sz t) (mw_A M sz)
theorem mw_iset (g : Nat → Nat) (i v : Nat) : upd (fun j => nI (g j)) i (nI v) = fun j => nI (va_up g i v j) := by
  funext j
  by_cases h : j = i
  · simp [upd, va_up, h]
  · simp [upd, va_up, h]
theorem mw_zset (g : Nat → Nat) (i v : Nat) (hv : v ≤ 1) : upd (fun j => nI (g j)) i (vp_nar .boolean (nI v)) = fun j => nI (va_up g i v j) := by
  have h1 : vp_nar .boolean (nI v) = nI v := by
    rcases (show v = 0 ∨ v = 1 by omega) with rfl | rfl <;> decide
  rw [h1, mw_iset]
section MDR
variable {p : Program} {l : Launch} {e : Env} {R : Room} {s : State} {m : MethodId} {args : Array Value} {below : List Frame} {meth : Method} {c0 : Code} {H : Heap} {locs : List Loc} {cells slots : Nat} {Q : State → Prop}
variable {cc : ByteArray} {pc : Nat} {ls : Array Slot} {rest : List Value} {G : mw_G} {A0 : Nat → Prop} {a : Nat → Nat} {M : mw_M} {h0 c u : Nat} {A : md_S}
theorem md_ald (k : Nat) {n : Nat} (hexec : p.tables.exec = Jvm.exec) (hb : c0.code = cc) (hC : mw_C G A0 s) (hw : mw_St G A0 s M H locs) (hm : md_at G M h0 a c u A) (hk : md_ok k = true) (h20 : k ≠ 20) (hn : md_len k = n) {i : Nat} (hi : i < n) (hn2 : n < 2 ^ 31) (hdg : decode cc pc = .ok (.iaload, 1))
    (kk : W p l e R s m args below meth c0 H locs cells slots Q (F0 m (pc + 1) ls (.int (nI (A k i)) :: rest))) : W p l e R s m args below meth c0 H locs cells slots Q (F0 m pc ls (.int (nI i) :: .ref (a k) :: rest)) := by
  subst hn
  refine mw_ialdN (f := fun j => nI (A k j)) hexec hb hC hw (n := md_len k) ?_ hi hn2 hdg kk
  rw [hm.2.1 k hk, md_arr, if_neg h20]
theorem md_zld (k : Nat) {n : Nat} (hexec : p.tables.exec = Jvm.exec) (hb : c0.code = cc) (hC : mw_C G A0 s) (hw : mw_St G A0 s M H locs) (hm : md_at G M h0 a c u A) (hk : md_ok k = true) (h20 : k = 20) (hn : md_len k = n) {i : Nat} (hi : i < n) (hn2 : n < 2 ^ 31) (hdg : decode cc pc = .ok (.baload, 1))
    (kk : W p l e R s m args below meth c0 H locs cells slots Q (F0 m (pc + 1) ls (.int (nI (A k i)) :: rest))) : W p l e R s m args below meth c0 H locs cells slots Q (F0 m pc ls (.int (nI i) :: .ref (a k) :: rest)) := by
  subst hn
  refine mw_zaldN (f := fun j => nI (A k j)) hexec hb hC hw (n := md_len k) ?_ hi hn2 hdg kk
  rw [hm.2.1 k hk, md_arr, if_pos h20]
theorem md_ast (k : Nat) {n v : Nat} (hexec : p.tables.exec = Jvm.exec) (hb : c0.code = cc) (hC : mw_C G A0 s) (hw : mw_St G A0 s M H locs) (hm : md_at G M h0 a c u A) (hk : md_ok k = true) (h20 : k ≠ 20) (hn : md_len k = n) {i : Nat} (hi : i < n) (hn2 : n < 2 ^ 31) (hdg : decode cc pc = .ok (.iastore, 1))
    (kk : ∀ (M1 : mw_M) (H1 : Heap) (locs1 : List Loc), md_at G M1 h0 a c u (md_u A k i v) → md_fr h0 a M M1 → mw_St G A0 s M1 H1 locs1 → W p l e R s m args below meth c0 H1 locs1 cells slots Q (F0 m (pc + 1) ls rest)) : W p l e R s m args below meth c0 H locs cells slots Q (F0 m pc ls (.int (nI v) :: .int (nI i) :: .ref (a k) :: rest)) := by
  subst hn
  refine mw_iastN (f := fun j => nI (A k j)) hexec hb hC hw (n := md_len k) (by rw [hm.2.1 k hk, md_arr, if_neg h20]) hi hn2 hdg (fun H1 locs1 h1 => ?_)
  rw [mw_iset] at h1
  have e9 : (.inl (G.2 1, md_len k, .inl (fun j => nI (va_up (A k) i v j))) : va_E) = md_arr G k (va_up (A k) i v) := by rw [md_arr, if_neg h20]
  rw [e9] at h1
  exact kk _ H1 locs1 (hm.st hk i v) (md_fr.st hk) h1
theorem md_zst (k : Nat) {n v : Nat} (hexec : p.tables.exec = Jvm.exec) (hb : c0.code = cc) (hC : mw_C G A0 s) (hw : mw_St G A0 s M H locs) (hm : md_at G M h0 a c u A) (hk : md_ok k = true) (h20 : k = 20) (hn : md_len k = n) {i : Nat} (hi : i < n) (hn2 : n < 2 ^ 31) (hv : v ≤ 1) (hdg : decode cc pc = .ok (.bastore, 1))
    (kk : ∀ (M1 : mw_M) (H1 : Heap) (locs1 : List Loc), md_at G M1 h0 a c u (md_u A k i v) → md_fr h0 a M M1 → mw_St G A0 s M1 H1 locs1 → W p l e R s m args below meth c0 H1 locs1 cells slots Q (F0 m (pc + 1) ls rest)) : W p l e R s m args below meth c0 H locs cells slots Q (F0 m pc ls (.int (nI v) :: .int (nI i) :: .ref (a k) :: rest)) := by
  subst hn
  refine mw_zastN (f := fun j => nI (A k j)) hexec hb hC hw (n := md_len k) (by rw [hm.2.1 k hk, md_arr, if_pos h20]) hi hn2 hdg (fun H1 locs1 h1 => ?_)
  rw [mw_zset _ _ _ hv] at h1
  have e9 : (.inl (G.2 3, md_len k, .inl (fun j => nI (va_up (A k) i v j))) : va_E) = md_arr G k (va_up (A k) i v) := by rw [md_arr, if_pos h20]
  rw [e9] at h1
  exact kk _ H1 locs1 (hm.st hk i v) (md_fr.st hk) h1
theorem md_ci {mc ms : Nat} {st0 : List Value} {r : Int32} {a9 : Array Value} {c' u' : Nat} {A' : md_S} (hC : mw_C G A0 s) (hw : mw_St G A0 s M H locs) (hr : va_Run p l e R s m args below meth c0 H locs cells slots mc ms (F0 m pc ls st0) rest (md_Qi G M H.size h0 a r c' u' A' a9) (mw_A M H.size))
    (kk : ∀ (M1 : mw_M) (H1 : Heap) (locs1 : List Loc), md_at G M1 h0 a c' u' A' → md_fr h0 a M M1 → mw_St G A0 s M1 H1 locs1 → W p l e R s m args below meth c0 H1 locs1 (cells + mc) (slots + ms) Q (F0 m (pc + 3) ls (.int r :: rest))) : W p l e R s m args below meth c0 H locs cells slots Q (F0 m pc ls st0) := by
  refine va_calli hr hw.2.2 (fun q _ h => mw_sub hC hw q h) (mw_sub hC hw) (fun r' M1 t H1 locs1 ht hvm hp hB hz hk hS => ?_)
  obtain ⟨rfl, hm, hf⟩ := hp
  exact kk M1 H1 locs1 hm hf ⟨by rw [← ht]; exact hB.1, fun q x hx => mw_sub hC hw q (hB.2 q x hx), hS⟩
theorem md_cv {mc ms : Nat} {st0 : List Value} {a9 : Array Value} {c' u' : Nat} {A' : md_S} (hC : mw_C G A0 s) (hw : mw_St G A0 s M H locs) (hr : va_Run p l e R s m args below meth c0 H locs cells slots mc ms (F0 m pc ls st0) rest (md_Qv G M H.size h0 a c' u' A' a9) (mw_A M H.size))
    (kk : ∀ (M1 : mw_M) (H1 : Heap) (locs1 : List Loc), md_at G M1 h0 a c' u' A' → md_fr h0 a M M1 → mw_St G A0 s M1 H1 locs1 → W p l e R s m args below meth c0 H1 locs1 (cells + mc) (slots + ms) Q (F0 m (pc + 3) ls rest)) : W p l e R s m args below meth c0 H locs cells slots Q (F0 m pc ls st0) := by
  refine va_callv hr hw.2.2 (fun q _ h => mw_sub hC hw q h) (mw_sub hC hw) (fun M1 t H1 locs1 ht hvm hp hB hz hk hS => ?_)
  obtain ⟨hm, hf⟩ := hp
  exact kk M1 H1 locs1 hm hf ⟨by rw [← ht]; exact hB.1, fun q x hx => mw_sub hC hw q (hB.2 q x hx), hS⟩
theorem md_iret {M0 : mw_M} {v r : Int32} (hexec : p.tables.exec = Jvm.exec) (hb : c0.code = cc) (hr : meth.sig.returnType = some .int) (hlocks : meth.locks = false) (hw : mw_St G (mw_A M0 s.heap.size) s M H locs) (hm : md_at G M h0 a c u A) (hf : md_fr h0 a M0 M) (hv : v = r) (hdg : decode cc pc = .ok (.ireturn, 1)) :
    W p l e R s m args below meth c0 H locs cells slots (MQ below (md_Qi G M0 s.heap.size h0 a r c u A) args s cells slots (mw_A M0 s.heap.size)) (F0 m pc ls [.int v]) :=
  W.iret (v := v) hexec hb hr (fun t ht hW => ⟨⟨v, M, rfl, ⟨hv, hm, hf⟩, by rw [ht]; exact hw.1, hw.2.1⟩, hw.2.2.F ht⟩) hw.2.2.2.2 hdg hlocks
theorem md_zret {M0 : mw_M} {v r : Int32} (hexec : p.tables.exec = Jvm.exec) (hb : c0.code = cc) (hr : meth.sig.returnType = some .boolean) (hlocks : meth.locks = false) (hw : mw_St G (mw_A M0 s.heap.size) s M H locs) (hm : md_at G M h0 a c u A) (hf : md_fr h0 a M0 M) (hn : narrow .boolean (.int v) = .int v) (hv : v = r) (hdg : decode cc pc = .ok (.ireturn, 1)) :
    W p l e R s m args below meth c0 H locs cells slots (MQ below (md_Qi G M0 s.heap.size h0 a r c u A) args s cells slots (mw_A M0 s.heap.size)) (F0 m pc ls [.int v]) :=
  W.zret (v := v) hexec hb hr hn (fun t ht hW => ⟨⟨v, M, rfl, ⟨hv, hm, hf⟩, by rw [ht]; exact hw.1, hw.2.1⟩, hw.2.2.F ht⟩) hw.2.2.2.2 hdg hlocks
theorem md_vret {M0 : mw_M} (hexec : p.tables.exec = Jvm.exec) (hb : c0.code = cc) (hr : meth.sig.returnType = none) (hlocks : meth.locks = false) (hw : mw_St G (mw_A M0 s.heap.size) s M H locs) (hm : md_at G M h0 a c u A) (hf : md_fr h0 a M0 M) (hdg : decode cc pc = .ok (.return_, 1)) :
    W p l e R s m args below meth c0 H locs cells slots (MQ below (md_Qv G M0 s.heap.size h0 a c u A) args s cells slots (mw_A M0 s.heap.size)) (F0 m pc ls []) :=
  W.vret hexec hb hr (fun t ht hW => ⟨⟨M, rfl, ⟨hm, hf⟩, by rw [ht]; exact hw.1, hw.2.1⟩, hw.2.2.F ht⟩) hw.2.2.2.2 hdg hlocks
end MDR
end
section
section MWM
variable {p : Program} {l : Launch} {e : Env} {R : Room} {s : State} {m : MethodId} {args : Array Value} {below : List Frame} {meth : Method} {c : Code} {H : Heap} {locs : List Loc} {cells slots : Nat} {Q : State → Prop}
variable {cc : ByteArray} {pc : Nat} {ls : Array Slot} {rest : List Value} {G : mw_G} {A : Nat → Prop} {a : Nat} {M : mw_M}
/-- int arrays whose contents are told as Nats -/
theorem mw_ildM (hexec : p.tables.exec = Jvm.exec) (hb : c.code = cc) (hC : mw_C G A s) (hw : mw_St G A s M H locs) {n : Nat} {g : Nat → Nat} (he : M a = some (.inl (G.2 1, n, .inl (fun j => nI (g j))))) {i : Nat} (hi : i < n) (hn : n < 2 ^ 31) (hdg : decode cc pc = .ok (.iaload, 1))
    (kk : W p l e R s m args below meth c H locs cells slots Q (F0 m (pc + 1) ls (.int (nI (g i)) :: rest))) : W p l e R s m args below meth c H locs cells slots Q (F0 m pc ls (.int (nI i) :: .ref a :: rest)) := mw_ialdN hexec hb hC hw he hi hn hdg kk
theorem mw_istM (hexec : p.tables.exec = Jvm.exec) (hb : c.code = cc) (hC : mw_C G A s) (hw : mw_St G A s M H locs) {n : Nat} {g : Nat → Nat} (he : M a = some (.inl (G.2 1, n, .inl (fun j => nI (g j))))) {i v : Nat} (hi : i < n) (hn : n < 2 ^ 31) (hdg : decode cc pc = .ok (.iastore, 1))
    (kk : ∀ (H1 : Heap) (locs1 : List Loc), mw_St G A s (va_up M a (some (.inl (G.2 1, n, .inl (fun j => nI (va_up g i v j)))))) H1 locs1 → W p l e R s m args below meth c H1 locs1 cells slots Q (F0 m (pc + 1) ls rest)) : W p l e R s m args below meth c H locs cells slots Q (F0 m pc ls (.int (nI v) :: .int (nI i) :: .ref a :: rest)) := by
  refine mw_iastN hexec hb hC hw he hi hn hdg (fun H1 locs1 h1 => ?_)
  rw [mw_iset] at h1
  exact kk H1 locs1 h1
/-- byte arrays: each holds the byte of a Nat -/
theorem mw_bset (g : Nat → Nat) (i v : Nat) : upd (fun j => sb_b (g j)) i (vp_nar .byte (sb_b v)) = fun j => sb_b (va_up g i v j) := by
  have h1 : vp_nar .byte (sb_b v) = sb_b v := pk_vb _
  rw [h1]
  funext j
  by_cases h : j = i
  · simp [upd, va_up, h]
  · simp [upd, va_up, h]
theorem mw_bldM (hexec : p.tables.exec = Jvm.exec) (hb : c.code = cc) (hC : mw_C G A s) (hw : mw_St G A s M H locs) {n : Nat} {g : Nat → Nat} (he : M a = some (.inl (G.2 0, n, .inl (fun j => sb_b (g j))))) {i : Nat} (hi : i < n) (hn : n < 2 ^ 31) (hdg : decode cc pc = .ok (.baload, 1))
    (kk : W p l e R s m args below meth c H locs cells slots Q (F0 m (pc + 1) ls (.int (sb_b (g i)) :: rest))) : W p l e R s m args below meth c H locs cells slots Q (F0 m pc ls (.int (nI i) :: .ref a :: rest)) := mw_baldN hexec hb hC hw he hi hn hdg kk
theorem mw_bstM (hexec : p.tables.exec = Jvm.exec) (hb : c.code = cc) (hC : mw_C G A s) (hw : mw_St G A s M H locs) {n : Nat} {g : Nat → Nat} (he : M a = some (.inl (G.2 0, n, .inl (fun j => sb_b (g j))))) {i v : Nat} (hi : i < n) (hn : n < 2 ^ 31) (hdg : decode cc pc = .ok (.bastore, 1))
    (kk : ∀ (H1 : Heap) (locs1 : List Loc), mw_St G A s (va_up M a (some (.inl (G.2 0, n, .inl (fun j => sb_b (va_up g i v j)))))) H1 locs1 → W p l e R s m args below meth c H1 locs1 cells slots Q (F0 m (pc + 1) ls rest)) : W p l e R s m args below meth c H locs cells slots Q (F0 m pc ls (.int (sb_b v) :: .int (nI i) :: .ref a :: rest)) := by
  refine mw_bastN hexec hb hC hw he hi hn hdg (fun H1 locs1 h1 => ?_)
  rw [mw_bset] at h1
  exact kk H1 locs1 h1
end MWM
theorem mw_min {x y : Nat} (hx : x < 2 ^ 31) (hy : y < 2 ^ 31) : (if nI y < nI x then nI y else nI x) = nI (min x y) := by
  by_cases h : y < x
  · rw [if_pos ((nI_ltI hy hx).mpr h), Nat.min_eq_right (Nat.le_of_lt h)]
  · rw [if_neg (fun q => h ((nI_ltI hy hx).mp q)), Nat.min_eq_left (Nat.not_lt.mp h)]
theorem md_u_k {A : md_S} {k k2 i v j : Nat} (h : k ≠ k2) : md_u A k2 i v k j = A k j := by rw [md_u, va_up_ne _ _ h]
theorem md_u_s {A : md_S} {k i v : Nat} : md_u A k i v k i = v := by rw [md_u, va_up_self, va_up_self]
theorem md_u_i {A : md_S} {k i v j : Nat} (h : j ≠ i) : md_u A k i v k j = A k j := by rw [md_u, va_up_self, va_up_ne _ _ h]
end
section
/-! ===== throwing ===== -/
abbrev exA : String := "java/lang/IllegalArgumentException"
abbrev exS : String := "java/lang/IllegalStateException"
abbrev exN : List String := ["java/lang/RuntimeException", "java/lang/Exception"]
def mw_X (G : mw_G) (M : mw_M) (sz : Nat) (E : String) (M' : mw_M) : String → State → State → Prop := vx_X (fun (_ : Unit) => True) (fun E' _ t => E' = E ∧ mw_end G M M' sz t) (mw_A M sz)
abbrev mw_no : Array Value → State → Outcome → State → Prop := fun _ _ _ _ => False
theorem exA_bad : ∀ w ∈ (vx_at0 RX6 29 exA exN).filter (fun w => !goodWord w), w ∈ mw_xw := by decide +kernel
theorem exS_bad : ∀ w ∈ (vx_at0 RX6 46 exS exN).filter (fun w => !goodWord w), w ∈ mw_xw := by decide +kernel
theorem exA_ot : ∀ w ∈ Cond.classLink RX6 27 exA :: Cond.initialized exA :: vx_at0 RX6 29 exA exN, vx_ot w = true := by decide +kernel
theorem exS_ot : ∀ w ∈ Cond.classLink RX6 44 exS :: Cond.initialized exS :: vx_at0 RX6 46 exS exN, vx_ot w = true := by decide +kernel
section MWX
variable {p : Program} {l : Launch} {e : Env} {R : Room} {s : State} {m : MethodId} {args : Array Value} {below : List Frame} {meth : Method} {c : Code} {H : Heap} {locs : List Loc} {cells slots : Nat} {Q : State → Prop}
variable {cc : ByteArray} {pc : Nat} {ls : Array Slot} {rest : List Value} {G : mw_G} {A : Nat → Prop} {a : Nat} {M : mw_M}
theorem mw_throw {E : String} {ik ic : Nat} {M0 : mw_M} {Qc : Array Value → State → Outcome → State → Prop} (hexec : p.tables.exec = Jvm.exec) (hb : c.code = cc) (hlt : l.stackTraces = false) (hown : s.vm.findClass RX6 = some m.cls) (hcls : Bundle.fit E = true)
    (hk : (Cond.classLink RX6 ik E).before args s = true) (hini : (Cond.initialized E).before args s = true) (hat : ∀ w ∈ (vx_at0 RX6 ic E exN).filter goodWord, w.before args s = true) (hbad : ∀ w ∈ (vx_at0 RX6 ic E exN).filter (fun w => !goodWord w), w ∈ mw_xw)
    (hot : ∀ w ∈ Cond.classLink RX6 ik E :: Cond.initialized E :: vx_at0 RX6 ic E exN, vx_ot w = true)
    (hC : mw_C G (mw_A M0 s.heap.size) s) (hw : mw_St G (mw_A M0 s.heap.size) s M H locs) (hsize : ls.size = c.maxLocals) (hex : ∀ x ∈ c.exceptionTable.toList, False)
    (d0 : decode cc pc = .ok (.new ik, 3)) (d3 : decode cc (pc + 3) = .ok (.dup, 1)) (d4 : decode cc (pc + 4) = .ok (.invokespecial ic, 3)) (d7 : decode cc (pc + 7) = .ok (.athrow, 1))
    (hRf : 5 < R.frames) (hRl : (rest.map fun v => v.category).sum + 81 ≤ R.locals) (hRc : cells + 1 ≤ R.cells) (hRs : slots + 6 ≤ R.slots) (hlocks : meth.locks = false) {mc ms : Nat} (hc : cells + 1 ≤ mc) (hs : slots + 6 ≤ ms) :
    W p l e R s m args below meth c H locs cells slots (vx_MQ below Qc (mw_X G M0 s.heap.size E M) args s mc ms (mw_A M0 s.heap.size)) (F0 m pc ls rest) := by
  refine vx_throw0 hexec hb hlt hown hcls (by decide +kernel) hk hini (vx_hat hat hbad (fun w hw => va_Nw.use (mw_xw_ot w hw) (hC.1.2.2.2.2.2.1 w hw))) hot hC.2.1.1 hC.2.1.2 hw.2.2 hsize d0 d3 d4 d7 (fun x hx => (hex x hx).elim) hRf hRl hRc hRs hlocks (fun t hvm hz ho => ?_) hw.2.2.2.2 hc hs
  refine ⟨(), trivial, ⟨rfl, fun q x hx => (hw.1 q x hx).kept (ho q (hw.1 q x hx).lt), hw.2.1⟩, Nat.le_trans hw.2.2.1 hz, fun q h1 h2 => (ho q (Nat.lt_of_lt_of_le h1 hw.2.2.1)).trans (hw.2.2.2.1 q h1 h2)⟩
/-- a call that throws -/
theorem mw_ct {mc ms : Nat} {st0 : List Value} {E : String} {M' : mw_M} {a9 : Array Value} (hC : mw_C G A s) (hw : mw_St G A s M H locs) (hr : vx_Run p l e R s m args below meth c H locs cells slots mc ms (F0 m pc ls st0) rest (mw_no a9) (mw_X G M H.size E M') (mw_A M H.size))
    (kx : ∀ (ce : Cell) (q9 : Addr) (H1 : Heap) (locs1 : List Loc), mw_St G A s M' H1 locs1 → H1[q9]? = some ce → ce.vm = .none → s.vm.findClass E = some ce.cls → vx_W p l e R s m args below meth c H1 locs1 (cells + mc) (slots + ms) Q (F0 m pc ls rest) q9) : W p l e R s m args below meth c H locs cells slots Q (F0 m pc ls st0) := by
  intro T hT X
  rcases hr T hT X with ⟨v, st₀, t, T', L, h0, X', hL, e1, e2, hq, st⟩ | ⟨q, st₀, t, T', L, E', ce, h0, X', hL, e1, e2, ⟨u, hp, ⟨rfl, hb⟩, hF⟩, hce, hcv, hcl, st⟩
  · exact hq.elim
  · obtain ⟨k1, k2, k3⟩ := vx_keep h0 e1 hw.2.2 (fun q _ h => mw_sub hC hw q h) (mw_sub hC hw) hL hF
    obtain ⟨t2, a1, b1⟩ := kx ce q T'.heap (locs ++ L) ⟨by rw [e1]; exact hb.1, fun q x hx => mw_sub hC hw q (hb.2 q x hx), k3⟩ (by rw [e1]; exact hce) hcv hcl T' rfl X'
    exact ⟨t2, st.trans a1, b1⟩
/-- .. and isn't caught -/
theorem mw_pass {E : String} {M0 : mw_M} {Qc : Array Value → State → Outcome → State → Prop} {ce : Cell} {q9 : Addr} {mc ms : Nat} (hlocks : meth.locks = false) (hex : ∀ x ∈ c.exceptionTable.toList, False) (hw : mw_St G (mw_A M0 s.heap.size) s M H locs) (hcell : H[q9]? = some ce) (hv : ce.vm = .none) (hcl : s.vm.findClass E = some ce.cls) (hc : cells ≤ mc) (hs : slots ≤ ms) :
    vx_W p l e R s m args below meth c H locs cells slots (vx_MQ below Qc (mw_X G M0 s.heap.size E M) args s mc ms (mw_A M0 s.heap.size)) (F0 m pc ls rest) q9 :=
  vx_out (fun x hx => (hex x hx).elim) hlocks hcell hv hcl (fun t ht hvm => ⟨(), trivial, ⟨rfl, by rw [ht]; exact hw.1, hw.2.1⟩, hw.2.2.F ht⟩) hw.2.2.2.2 hc hs
end MWX
end
section
/-! ===== more of reading ===== -/
theorem rdT_lt {f : Nat → Int64} {g : Nat → Nat} (hg : ∀ i, i < 277 → g i < 256) (q n : Nat) : ∀ i, i < 277 → (rdT f q g n).2.2 i < 256 := by
  intro i hi
  have h1 := rbs_lt f g hg (q - 16) i hi
  have h2 := hg i hi
  unfold rdT
  split
  · exact h2
  · split
    · exact h2
    · split
      · exact h1
      · split
        · exact h1
        · split <;> exact h1
theorem rdT_ok {f : Nat → Int64} {g : Nat → Nat} {q n : Nat} (h : (rdT f q g n).1 = 0) : 5 ≤ (rdT f q g n).2.1 ∧ (rdT f q g n).2.1 ≤ 277 := by
  unfold rdT at h ⊢
  split at h
  · exact absurd h (by simp)
  · rename_i h1
    rw [if_neg h1]
    split at h
    · exact absurd h (by simp)
    · rename_i h2
      rw [if_neg h2]
      split at h
      · exact absurd h (by simp)
      · rename_i h3
        rw [if_neg h3]
        split at h
        · exact absurd h (by simp)
        · rename_i h4
          rw [if_neg h4]
          split at h
          · rename_i h5
            rw [if_pos h5]
            simp only
            omega
          · exact absurd h (by simp)
theorem rdT_le {f : Nat → Int64} {g : Nat → Nat} (q n : Nat) : (rdT f q g n).1 ≤ 5 := by
  unfold rdT
  split
  · simp
  · split
    · simp
    · split
      · simp
      · split
        · simp
        · split <;> simp
/-! ===== bits out of a long ===== -/
def wbt (v : Int64) (k : Nat) : Nat := (v.toBitVec.getLsbD k).toNat
theorem wbt_le (v : Int64) (k : Nat) : wbt v k ≤ 1 := Bool.toNat_le _
theorem wbt_val (v : Int64) {k : Nat} (hk : k < 64) : (v.toUInt64 >>> ((nI k).toInt64.toUInt64 &&& Int64.toUInt64 63)).toInt64.toInt32 &&& nI 1 = nI (wbt v k) := by
  unfold wbt
  obtain ⟨n, hn, e⟩ := wb_of v
  rw [e, wb_shr hn hk, lN_i, pu_and1, wb_tb, BitVec.getLsbD_ofNat]
  simp only [hk, decide_true, Bool.true_and]
  rw [pu_tb]
def bts (f : Nat → Int64) (n : Nat) (v : Int64) : Nat → (Nat → Int64)
  | 0 => f
  | k + 1 => fadd (bts f n v k) (n + k) (wbt v k)
/-- byte k of a long -/
def wby (v : Int64) (k : Nat) : Nat := v.toBitVec.toNat / 2 ^ (8 * k) % 256
theorem wby_lt (v : Int64) (k : Nat) : wby v k < 256 := by unfold wby; omega
theorem pu_and255 (m : Nat) : nI m &&& nI 255 = nI (m % 256) := by
  rw [pk_and (nI m) (m := nI 255) 8 (by decide)]
  congr 1
  show (BitVec.ofNat 32 m).toNat % 2 ^ 8 = m % 256
  rw [BitVec.toNat_ofNat]
  omega
theorem wby_val (v : Int64) {k : Nat} (hk : k < 8) : (v.toUInt64 >>> ((nI (8 * k)).toInt64.toUInt64 &&& Int64.toUInt64 63)).toInt64.toInt32 &&& nI 255 = nI (wby v k) := by
  unfold wby
  obtain ⟨n, hn, e⟩ := wb_of v
  rw [e, wb_shr hn (by omega), lN_i, pu_and255, wb_tn hn]
def ckl (v : Int64) : Nat → Nat
  | 0 => 65535
  | k + 1 => rst (ckl v k) (wby v k) 8
theorem ckl_lt (v : Int64) (k : Nat) : ckl v k < 65536 := by
  induction k with
  | zero => exact (by decide : 65535 < 65536)
  | succ k ih => exact rst_lt ih 8
end
section
/-! ===== the reference's pure side ===== -/
theorem md_w_s {A : md_S} {k i : Nat} {g : Nat → Nat} : va_up A k g k i = g i := by rw [va_up_self]
theorem md_w_k {A : md_S} {k k2 j : Nat} {g : Nat → Nat} (h : k ≠ k2) : va_up A k2 g k j = A k j := by rw [va_up_ne _ _ h]
theorem md_uw {A : md_S} {k i v : Nat} {g : Nat → Nat} : md_u (va_up A k g) k i v = va_up A k (va_up g i v) := by
  unfold md_u
  rw [va_up_self, bx_uu]
def mbit (A : md_S) (ed v : Nat) : md_S := md_u (md_u A 3 (3000 * (40 * ed + A 1 ed - 1) + A 2 (40 * ed + A 1 ed - 1)) v) 2 (40 * ed + A 1 ed - 1) (A 2 (40 * ed + A 1 ed - 1) + 1)
theorem mbit_o (A : md_S) (ed v : Nat) {k : Nat} (h2 : k ≠ 2) (h3 : k ≠ 3) : mbit A ed v k = A k := by
  unfold mbit md_u
  rw [va_up_ne _ _ h2, va_up_ne _ _ h3]
theorem mbit_2 (A : md_S) (ed v : Nat) : mbit A ed v 2 (40 * ed + A 1 ed - 1) = A 2 (40 * ed + A 1 ed - 1) + 1 := by
  unfold mbit
  rw [md_u_s]
def mfl (A : md_S) (ed : Nat) : Nat → md_S
  | 0 => A
  | k + 1 => mbit (mfl A ed k) ed (flg k)
theorem mfl_o (A : md_S) (ed k : Nat) {j : Nat} (h2 : j ≠ 2) (h3 : j ≠ 3) : mfl A ed k j = A j := by
  induction k with
  | zero => rfl
  | succ k ih => rw [mfl, mbit_o _ _ _ h2 h3, ih]
theorem mfl_2 (A : md_S) (ed k : Nat) : mfl A ed k 2 (40 * ed + A 1 ed - 1) = A 2 (40 * ed + A 1 ed - 1) + k := by
  induction k with
  | zero => rfl
  | succ k ih =>
    have h := mbit_2 (mfl A ed k) ed (flg k)
    rw [mfl_o A ed k (j := 1) (by decide) (by decide), ih] at h
    exact h
def mw1 (b ed : Nat) (S : md_S × Nat) : md_S × Nat := if b = 1 then (if S.2 + 1 = 5 then (mbit (mbit S.1 ed b) ed 0, 0) else (mbit S.1 ed b, S.2 + 1)) else (mbit S.1 ed b, 0)
def mws (g : Nat → Nat) (A : md_S) (ed : Nat) : Nat → md_S × Nat
  | 0 => (A, 0)
  | k + 1 => mw1 (gbit g k) ed (mws g A ed k)
theorem mws_o (g : Nat → Nat) (A : md_S) (ed k : Nat) {j : Nat} (h2 : j ≠ 2) (h3 : j ≠ 3) : (mws g A ed k).1 j = A j := by
  induction k with
  | zero => rfl
  | succ k ih =>
    simp only [mws, mw1]
    split
    · split
      · simp only [mbit_o _ _ _ h2 h3, ih]
      · simp only [mbit_o _ _ _ h2 h3, ih]
    · simp only [mbit_o _ _ _ h2 h3, ih]
theorem mws_le (g : Nat → Nat) (A : md_S) (ed k : Nat) : (mws g A ed k).2 ≤ 4 ∧ 5 * (mws g A ed k).1 2 (40 * ed + A 1 ed - 1) + (mws g A ed k).2 ≤ 5 * A 2 (40 * ed + A 1 ed - 1) + 6 * k := by
  induction k with
  | zero => simp [mws]
  | succ k ih =>
    have h1 := mws_o g A ed k (j := 1) (by decide) (by decide)
    have h2 : ∀ v, mbit (mws g A ed k).1 ed v 2 (40 * ed + A 1 ed - 1) = (mws g A ed k).1 2 (40 * ed + A 1 ed - 1) + 1 := fun v => by
      have h := mbit_2 (mws g A ed k).1 ed v
      rw [h1] at h
      exact h
    have h3 : ∀ v w, mbit (mbit (mws g A ed k).1 ed v) ed w 2 (40 * ed + A 1 ed - 1) = (mws g A ed k).1 2 (40 * ed + A 1 ed - 1) + 1 + 1 := fun v w => by
      have h := mbit_2 (mbit (mws g A ed k).1 ed v) ed w
      rw [mbit_o _ _ _ (k := 1) (by decide) (by decide), h1, h2] at h
      exact h
    simp only [mws, mw1]
    split
    · split
      · simp only [h3]; omega
      · simp only [h2]; omega
    · simp only [h2]; omega
def ifl (A : md_S) (fm : Nat) : Nat → Nat
  | 0 => 0
  | k + 1 => 2 * ifl A fm k + A 3 (fm + k)
theorem ifl_lt (A : md_S) (fm k : Nat) (h : ∀ i, i < k → A 3 (fm + i) ≤ 1) : ifl A fm k < 2 ^ k := by
  induction k with
  | zero => exact (by decide : 0 < 1)
  | succ k ih =>
    have h1 := ih (fun i hi => h i (by omega))
    have h2 := h k (by omega)
    simp only [ifl, Nat.pow_succ]
    omega
end
section
/-! ===== LinkPairModel, small ones ===== -/
def RM_X7_isEnd : Room := { frames := 0, cells := 0, slots := 0, locals := 0 }
set_option maxHeartbeats 4000000 in
set_option maxRecDepth 100000 in
theorem c_X7_isEnd (l : Launch) (G : mw_G) (M : mw_M) (sz : Nat) (ed : Nat)  (hed : ed ≤ 1)  : Met l yX7_isEnd wsX7_isEnd RM_X7_isEnd (mw_pre G M sz [.int (nI (ed))]) (mw_Qi G M sz (nI (1)) M) 0 0 (mw_A M sz) := by
  refine Met.ofW (cc := cX7_isEnd) (maxL := 1) (ret := (some .boolean)) (by decide) rfl ?_
  intro p e s m args below meth c s₁ B hml hv
  obtain ⟨rfl, rfl, hC, hw⟩ := mw_in hv
  have hx := B.exec
  have hb := B.bytes
  have hr := B.returns
  have hts := atoms_spec (ws := wsX7_isEnd) B.pre
  have hown : s.vm.findClass RX7 = some m.cls := findClass_of_methodNamed B.named
  have hlocks := B.notSynchronized
  have hl := lv_entry ([.int (nI (ed))]) (n := 1) (Nat.le_of_ble_eq_true rfl)
  rw [lg_entry_eq]
  generalize (lg_sl ([.int (nI (ed))]) ++ List.replicate (1 - (lg_sl ([.int (nI (ed))])).length) Slot.unset).toArray = ls at hl ⊢
  have hl : lv_has ls 1 [(0, .int (nI (ed)))] := hl
  refine mw_start (fun H locs hw => ?_) hw
  refine lv_iload_n hx hb dX7_isEnd_0 rfl (lv_at hl 0 rfl) ?_
  refine lv_if_eq (tgt := 9) hx hb dX7_isEnd_1 (by decide) (fun c_1 => ?_) (fun c_1 => ?_)
  · skip
    have c_1 : ed = 0 := (nI_eq (a := ed) (b := 0) (by omega) (by omega)).mp c_1
    refine lv_iconst (v := nI 1) hx hb dX7_isEnd_9 (by decide) ?_
    refine lv_goto (tgt := 14) hx hb dX7_isEnd_10 (by decide) ?_
    exact mw_zret hx hb hr hlocks hw (by decide) (rfl) (fun _ _ h9 => h9) dX7_isEnd_14
  · skip
    have c_1 : ed ≠ 0 := fun h => c_1 ((nI_eq (a := ed) (b := 0) (by omega) (by omega)).mpr h)
    refine lv_iload_n hx hb dX7_isEnd_4 rfl (lv_at hl 0 rfl) ?_
    refine lv_iconst (v := nI 1) hx hb dX7_isEnd_5 (by decide) ?_
    refine lv_icmp_ne (tgt := 13) hx hb dX7_isEnd_6 (by decide) (fun c_2 => ?_) (fun c_2 => ?_)
    · skip
      have c_2 : ed ≠ 1 := fun h => c_2 ((nI_eq (a := ed) (b := 1) (by omega) (by omega)).mpr h)
      exfalso; omega
    · skip
      have c_2 : ed = 1 := (nI_eq (a := ed) (b := 1) (by omega) (by omega)).mp c_2
      refine lv_iconst (v := nI 1) hx hb dX7_isEnd_9 (by decide) ?_
      refine lv_goto (tgt := 14) hx hb dX7_isEnd_10 (by decide) ?_
      exact mw_zret hx hb hr hlocks hw (by decide) (rfl) (fun _ _ h9 => h9) dX7_isEnd_14
def RM_X7_isEnd_bad : Room := { frames := 0, cells := 0, slots := 0, locals := 0 }
set_option maxHeartbeats 4000000 in
set_option maxRecDepth 100000 in
theorem c_X7_isEnd_bad (l : Launch) (G : mw_G) (M : mw_M) (sz : Nat) (ed : Int32)  (hb1 : ed < 0 ∨ nI 1 < ed)  : Met l yX7_isEnd wsX7_isEnd RM_X7_isEnd_bad (mw_pre G M sz [.int (ed)]) (mw_Qi G M sz (nI (0)) M) 0 0 (mw_A M sz) := by
  refine Met.ofW (cc := cX7_isEnd) (maxL := 1) (ret := (some .boolean)) (by decide) rfl ?_
  intro p e s m args below meth c s₁ B hml hv
  obtain ⟨rfl, rfl, hC, hw⟩ := mw_in hv
  have hx := B.exec
  have hb := B.bytes
  have hr := B.returns
  have hts := atoms_spec (ws := wsX7_isEnd) B.pre
  have hown : s.vm.findClass RX7 = some m.cls := findClass_of_methodNamed B.named
  have hlocks := B.notSynchronized
  have hl := lv_entry ([.int (ed)]) (n := 1) (Nat.le_of_ble_eq_true rfl)
  rw [lg_entry_eq]
  generalize (lg_sl ([.int (ed)]) ++ List.replicate (1 - (lg_sl ([.int (ed)])).length) Slot.unset).toArray = ls at hl ⊢
  have hl : lv_has ls 1 [(0, .int (ed))] := hl
  refine mw_start (fun H locs hw => ?_) hw
  refine lv_iload_n hx hb dX7_isEnd_0 rfl (lv_at hl 0 rfl) ?_
  refine lv_if_eq (tgt := 9) hx hb dX7_isEnd_1 (by decide) (fun c_1 => ?_) (fun c_1 => ?_)
  · skip
    exact hb1.elim (fun h => absurd (c_1 ▸ h : (0 : Int32) < 0) (by decide)) (fun h => absurd (c_1 ▸ h : nI 1 < (0 : Int32)) (by decide))
  · skip
    refine lv_iload_n hx hb dX7_isEnd_4 rfl (lv_at hl 0 rfl) ?_
    refine lv_iconst (v := nI 1) hx hb dX7_isEnd_5 (by decide) ?_
    refine lv_icmp_ne (tgt := 13) hx hb dX7_isEnd_6 (by decide) (fun c_2 => ?_) (fun c_2 => ?_)
    · skip
      refine lv_iconst (v := nI 0) hx hb dX7_isEnd_13 (by decide) ?_
      exact mw_zret hx hb hr hlocks hw (by decide) (rfl) (fun _ _ h9 => h9) dX7_isEnd_14
    · skip
      exact hb1.elim (fun h => absurd (c_2 ▸ h : nI 1 < (0 : Int32)) (by decide)) (fun h => absurd (c_2 ▸ h : nI 1 < nI 1) (by decide))
def RM_X7_checked : Room := { frames := 0, cells := 0, slots := 0, locals := 0 }
set_option maxHeartbeats 4000000 in
set_option maxRecDepth 100000 in
theorem c_X7_checked (l : Launch) (G : mw_G) (M : mw_M) (sz : Nat) (r v : Nat)  (hr_ : r < 65536) (hv_ : v < 2 ^ 31)  : Met l yX7_checked wsX7_checked RM_X7_checked (mw_pre G M sz [.int (nI (r)), .int (nI (v))]) (mw_Qi G M sz (nI (rst r v 8)) M) 0 0 (mw_A M sz) := by
  refine Met.ofW (cc := cX7_checked) (maxL := 4) (ret := (some .int)) (by decide) rfl ?_
  intro p e s m args below meth c s₁ B hml hv
  obtain ⟨rfl, rfl, hC, hw⟩ := mw_in hv
  have hx := B.exec
  have hb := B.bytes
  have hr := B.returns
  have hts := atoms_spec (ws := wsX7_checked) B.pre
  have hown : s.vm.findClass RX7 = some m.cls := findClass_of_methodNamed B.named
  have hlocks := B.notSynchronized
  have k_0 := hts (.constant RX7 95 (33800)) (by decide +kernel)
  have hl := lv_entry ([.int (nI (r)), .int (nI (v))]) (n := 4) (Nat.le_of_ble_eq_true rfl)
  rw [lg_entry_eq]
  generalize (lg_sl ([.int (nI (r)), .int (nI (v))]) ++ List.replicate (4 - (lg_sl ([.int (nI (r)), .int (nI (v))])).length) Slot.unset).toArray = ls at hl ⊢
  have hl : lv_has ls 4 [(0, .int (nI (r))), (1, .int (nI (v)))] := hl
  refine mw_start (fun H locs hw => ?_) hw
  refine lv_iload_n hx hb dX7_checked_0 rfl (lv_at hl 0 rfl) ?_
  refine lv_istore_n (lv' := [(2, .int (nI (r))), (0, .int (nI (r))), (1, .int (nI (v)))]) hx hb dX7_checked_1 rfl hl (by decide) rfl (fun ls hl => ?_)
  refine lv_iconst (v := nI 0) hx hb dX7_checked_2 (by decide) ?_
  refine lv_istore_n (lv' := [(3, .int (nI (0))), (2, .int (nI (r))), (0, .int (nI (r))), (1, .int (nI (v)))]) hx hb dX7_checked_3 rfl hl (by decide) rfl (fun ls hl => ?_)
  have lp_1 : ∀ (n9 : Nat) (k : Nat), (hk : k ≤ 8) → 8 - k < n9 → ∀ (H : Heap) (locs : List Loc) (ls : Array Slot), mw_St G (mw_A M s.heap.size) s M H locs → lv_has ls 4 [(0, .int (nI (r))), (1, .int (nI (v))), (2, .int (nI (rst r v k))), (3, .int (nI (k)))] → W p l e (headSpec wsX7_checked RM_X7_checked).room s m ([.int (nI (r)), .int (nI (v))] : List Value).toArray below meth c H locs 0 0 (MQ below (mw_Qi G M s.heap.size (nI (rst r v 8)) M) ([.int (nI (r)), .int (nI (v))] : List Value).toArray s 0 0 (mw_A M s.heap.size)) (F0 m 4 ls []) := by
    intro n9
    induction n9 with
    | zero => intro k hk h9; exact absurd h9 (Nat.not_lt_zero _)
    | succ n9 ih =>
      intro k hk h9 H locs ls hw hl
      have hrb := rst_lt (v := v) hr_ k
      have hvk : v / 2 ^ k ≤ v := Nat.div_le_self _ _
      refine lv_iload_n hx hb dX7_checked_4 rfl (lv_at hl 3 rfl) ?_
      refine lv_bipush (v := nI 8) hx hb dX7_checked_5 (by decide) ?_
      refine lv_icmp_ge (tgt := 40) hx hb dX7_checked_7 (by decide) (fun c_2 => ?_) (fun c_2 => ?_)
      · skip
        have c_2 : k ≥ 8 := (nI_leI (a := 8) (b := k) (by omega) (by omega)).mp c_2
        obtain rfl : k = 8 := by omega
        refine lv_iload_n hx hb dX7_checked_40 rfl (lv_at hl 2 rfl) ?_
        exact mw_iret hx hb hr hlocks hw (rfl) (fun _ _ h9 => h9) dX7_checked_41
      · skip
        have c_2 : k < 8 := Nat.not_le.mp (fun h => c_2 ((nI_leI (a := 8) (b := k) (by omega) (by omega)).mpr h))
        refine lv_iload_n hx hb dX7_checked_10 rfl (lv_at hl 2 rfl) ?_
        refine lv_iconst (v := nI 1) hx hb dX7_checked_11 (by decide) ?_
        refine lv_iand hx hb dX7_checked_12 ?_
        refine mw_ti (v' := nI ((rst r v k) % 2)) (pk_andN (by omega) 1 (by decide)) ?_
        refine lv_iload_n hx hb dX7_checked_13 rfl (lv_at hl 1 rfl) ?_
        refine lv_iload_n hx hb dX7_checked_14 rfl (lv_at hl 3 rfl) ?_
        refine lv_ishr hx hb dX7_checked_15 ?_
        refine mw_ti (v' := nI (v / 2 ^ k)) (sh_bit (by omega) (by omega)) ?_
        refine lv_iconst (v := nI 1) hx hb dX7_checked_16 (by decide) ?_
        refine lv_iand hx hb dX7_checked_17 ?_
        refine mw_ti (v' := nI ((v / 2 ^ k) % 2)) (pk_andN (by omega) 1 (by decide)) ?_
        refine lv_icmp_eq (tgt := 30) hx hb dX7_checked_18 (by decide) (fun c_3 => ?_) (fun c_3 => ?_)
        · skip
          have c_3 : (rst r v k) % 2 = (v / 2 ^ k) % 2 := (nI_eq (a := (rst r v k) % 2) (b := (v / 2 ^ k) % 2) (by omega) (by omega)).mp c_3
          refine lv_iload_n hx hb dX7_checked_30 rfl (lv_at hl 2 rfl) ?_
          refine lv_iconst (v := nI 1) hx hb dX7_checked_31 (by decide) ?_
          refine lv_ishr hx hb dX7_checked_32 ?_
          refine mw_ti (v' := nI ((rst r v k) / 2)) (pk_shrN (by omega) _ 1 (by decide)) ?_
          refine lv_istore_n (lv' := [(2, .int (nI ((rst r v k) / 2))), (0, .int (nI (r))), (1, .int (nI (v))), (3, .int (nI (k)))]) hx hb dX7_checked_33 rfl hl (by decide) rfl (fun ls hl => ?_)
          refine lv_iinc (v := nI (k + 1)) (lv' := [(3, .int (nI (k + 1))), (2, .int (nI ((rst r v k) / 2))), (0, .int (nI (r))), (1, .int (nI (v)))]) hx hb dX7_checked_34 hl (k := 3) rfl (by rw [show Int32.ofInt 1 = nI 1 by decide]; exact nI_add _ _) (by decide) rfl (fun ls hl => ?_)
          refine lv_goto (tgt := 4) hx hb dX7_checked_37 (by decide) ?_
          have hv_4 : (.int (nI ((rst r v k) / 2)) : Value) = .int (nI (rst r v (k + 1))) := by first | (rw [rst, rs1, if_neg (by assumption)]; done) | (rw [rst, rs1, if_pos (by assumption)])
          rw [hv_4] at hl
          exact ih (k + 1) (by omega) (by omega) _ _ ls hw (lv_sub hl [2, 3, 1, 0] rfl)
        · skip
          have c_3 : (rst r v k) % 2 ≠ (v / 2 ^ k) % 2 := fun h => c_3 ((nI_eq (a := (rst r v k) % 2) (b := (v / 2 ^ k) % 2) (by omega) (by omega)).mpr h)
          refine lv_iload_n hx hb dX7_checked_21 rfl (lv_at hl 2 rfl) ?_
          refine lv_iconst (v := nI 1) hx hb dX7_checked_22 (by decide) ?_
          refine lv_ishr hx hb dX7_checked_23 ?_
          refine mw_ti (v' := nI ((rst r v k) / 2)) (pk_shrN (by omega) _ 1 (by decide)) ?_
          refine lv_ldc hx hb hown k_0 dX7_checked_24 ?_
          refine mw_ti (show (33800 : Int32) = nI 33800 by decide) ?_
          refine lv_ixor hx hb dX7_checked_26 ?_
          refine mw_ti (v' := nI (rst r v k / 2 ^^^ 33800)) (nx_xor _ _) ?_
          refine lv_goto (tgt := 33) hx hb dX7_checked_27 (by decide) ?_
          refine lv_istore_n (lv' := [(2, .int (nI (rst r v k / 2 ^^^ 33800))), (0, .int (nI (r))), (1, .int (nI (v))), (3, .int (nI (k)))]) hx hb dX7_checked_33 rfl hl (by decide) rfl (fun ls hl => ?_)
          refine lv_iinc (v := nI (k + 1)) (lv' := [(3, .int (nI (k + 1))), (2, .int (nI (rst r v k / 2 ^^^ 33800))), (0, .int (nI (r))), (1, .int (nI (v)))]) hx hb dX7_checked_34 hl (k := 3) rfl (by rw [show Int32.ofInt 1 = nI 1 by decide]; exact nI_add _ _) (by decide) rfl (fun ls hl => ?_)
          refine lv_goto (tgt := 4) hx hb dX7_checked_37 (by decide) ?_
          have hv_5 : (.int (nI (rst r v k / 2 ^^^ 33800)) : Value) = .int (nI (rst r v (k + 1))) := by first | (rw [rst, rs1, if_neg (by assumption)]; done) | (rw [rst, rs1, if_pos (by assumption)])
          rw [hv_5] at hl
          exact ih (k + 1) (by omega) (by omega) _ _ ls hw (lv_sub hl [2, 3, 1, 0] rfl)
  exact lp_1 (8 - 0 + 1) 0 (by omega) (Nat.lt_succ_self _) _ _ ls hw (lv_sub hl [2, 3, 1, 0] rfl)
theorem inX7_thrown_X7 : ∀ w ∈ wsX70, w ∈ wsX7_thrown := by decide +kernel
def RM_X7_thrown : Room := { frames := 0, cells := 0, slots := 0, locals := 0 }
set_option maxHeartbeats 4000000 in
set_option maxRecDepth 100000 in
theorem c_X7_thrown (l : Launch) (G : mw_G) (M : mw_M) (sz : Nat) (h0 : Nat) (a : Nat → Nat) (c u : Nat) (A : md_S)  (hm : md_at G M h0 a c u A)  : Met l yX7_thrown wsX7_thrown RM_X7_thrown (mw_pre G M sz [.ref (h0)]) (md_Qi G M sz h0 a (nI (c)) c u A) 0 0 (mw_A M sz) := by
  refine Met.ofW (cc := cX7_thrown) (maxL := 1) (ret := (some .int)) (by decide) rfl ?_
  intro p e s m args below meth c0 s₁ B hml hv
  obtain ⟨rfl, rfl, hC, hw⟩ := mw_in hv
  have hx := B.exec
  have hb := B.bytes
  have hr := B.returns
  have hts := atoms_spec (ws := wsX7_thrown) B.pre
  have hown : s.vm.findClass RX7 = some m.cls := findClass_of_methodNamed B.named
  have hlocks := B.notSynchronized
  have hf : md_fr h0 a M M := md_fr.rf
  have k_0 := hts (.fieldLink RX7 91 "LinkPairModel" "code" "I") (by decide +kernel)
  have hl := lv_entry ([.ref (h0)]) (n := 1) (Nat.le_of_ble_eq_true rfl)
  rw [lg_entry_eq]
  generalize (lg_sl ([.ref (h0)]) ++ List.replicate (1 - (lg_sl ([.ref (h0)])).length) Slot.unset).toArray = ls at hl ⊢
  have hl : lv_has ls 1 [(0, .ref (h0))] := hl
  refine mw_start (fun H locs hw => ?_) hw
  refine lv_aload_n hx hb dX7_thrown_0 rfl (lv_at hl 0 rfl) ?_
  refine mw_get (C := RX7) (T := TX7) (N := 27) (v := .int (nI (c))) hx hb hts inX7_thrown_X7 hown hC hw hm.1 rfl 0 (by decide) k_0 rfl dX7_thrown_1 ?_
  exact md_iret hx hb hr hlocks hw hm hf (rfl) dX7_thrown_4
theorem inX7_refuses_X7 : ∀ w ∈ wsX70, w ∈ wsX7_refuses := by decide +kernel
def RM_X7_refuses : Room := { frames := 0, cells := 0, slots := 0, locals := 0 }
set_option maxHeartbeats 4000000 in
set_option maxRecDepth 100000 in
theorem c_X7_refuses (l : Launch) (G : mw_G) (M : mw_M) (sz : Nat) (h0 : Nat) (a : Nat → Nat) (c u : Nat) (A : md_S) (z : Nat) (hm : md_at G M h0 a c u A) (hz : z ≤ 2) : Met l yX7_refuses wsX7_refuses RM_X7_refuses (mw_pre G M sz [.ref (h0), .int (nI (z))]) (md_Qi G M sz h0 a (nI (b2n (decide (0 < z)))) z u A) 0 0 (mw_A M sz) := by
  refine Met.ofW (cc := cX7_refuses) (maxL := 2) (ret := (some .boolean)) (by decide) rfl ?_
  intro p e s m args below meth c0 s₁ B hml hv
  obtain ⟨rfl, rfl, hC, hw⟩ := mw_in hv
  have hx := B.exec
  have hb := B.bytes
  have hr := B.returns
  have hts := atoms_spec (ws := wsX7_refuses) B.pre
  have hown : s.vm.findClass RX7 = some m.cls := findClass_of_methodNamed B.named
  have hlocks := B.notSynchronized
  have hf : md_fr h0 a M M := md_fr.rf
  have k_0 := hts (.fieldLink RX7 91 "LinkPairModel" "code" "I") (by decide +kernel)
  have hl := lv_entry ([.ref (h0), .int (nI (z))]) (n := 2) (Nat.le_of_ble_eq_true rfl)
  rw [lg_entry_eq]
  generalize (lg_sl ([.ref (h0), .int (nI (z))]) ++ List.replicate (2 - (lg_sl ([.ref (h0), .int (nI (z))])).length) Slot.unset).toArray = ls at hl ⊢
  have hl : lv_has ls 2 [(0, .ref (h0)), (1, .int (nI (z)))] := hl
  refine mw_start (fun H locs hw => ?_) hw
  refine lv_aload_n hx hb dX7_refuses_0 rfl (lv_at hl 0 rfl) ?_
  refine lv_iload_n hx hb dX7_refuses_1 rfl (lv_at hl 1 rfl) ?_
  refine mw_put (C := RX7) (T := TX7) (N := 27) hx hb hts inX7_refuses_X7 tyX7 tyX7_ok nmX7 hown hC hw hm.1 rfl 0 (by decide) k_0 rfl rfl rfl (Nat.le_of_ble_eq_true rfl) dX7_refuses_2 (fun H locs hw => ?_)
  have hw : mw_St G (mw_A M s.heap.size) s (va_up _ h0 (some (md_obj a z u))) H locs := hw
  have hm := hm.co z u
  have hf := hf.tr (md_fr.co (x := some (md_obj a z u)))
  refine lv_iload_n hx hb dX7_refuses_5 rfl (lv_at hl 1 rfl) ?_
  refine lv_if_le (tgt := 13) hx hb dX7_refuses_6 (by decide) (fun c_1 => ?_) (fun c_1 => ?_)
  · skip
    have c_1 : z ≤ 0 := (nI_leI (a := z) (b := 0) (by omega) (by omega)).mp c_1
    refine lv_iconst (v := nI 0) hx hb dX7_refuses_13 (by decide) ?_
    exact md_zret hx hb hr hlocks hw hm hf (by decide) (by unfold b2n; rw [if_neg (by simp <;> omega)]) dX7_refuses_14
  · skip
    have c_1 : z > 0 := Nat.not_le.mp (fun h => c_1 ((nI_leI (a := z) (b := 0) (by omega) (by omega)).mpr h))
    refine lv_iconst (v := nI 1) hx hb dX7_refuses_9 (by decide) ?_
    refine lv_goto (tgt := 14) hx hb dX7_refuses_10 (by decide) ?_
    exact md_zret hx hb hr hlocks hw hm hf (by decide) (by unfold b2n; rw [if_pos (by simp <;> omega)]) dX7_refuses_14
theorem inX7_begin_X7 : ∀ w ∈ wsX70, w ∈ wsX7_begin := by decide +kernel
def RM_X7_begin : Room := { frames := 0, cells := 0, slots := 0, locals := 0 }
set_option maxHeartbeats 4000000 in
set_option maxRecDepth 100000 in
theorem c_X7_begin (l : Launch) (G : mw_G) (M : mw_M) (sz : Nat) (h0 : Nat) (a : Nat → Nat) (c u : Nat) (A : md_S) (ed : Nat) (hm : md_at G M h0 a c u A) (hed : ed ≤ 1) : Met l yX7_begin wsX7_begin RM_X7_begin (mw_pre G M sz [.ref (h0), .int (nI (ed))]) (md_Qv G M sz h0 a c u (md_u ((md_u ((md_u ((md_u ((md_u ((md_u ((md_u ((md_u ((md_u ((md_u ((md_u ((md_u ((md_u A 1 ed 0)) 4 ed 1)) 5 ed 1)) 6 ed 127)) 7 ed 127)) 8 ed 127)) 9 ed 0)) 12 ed 0)) 16 ed 0)) 17 ed 0)) 18 ed 0)) 19 ed 0)) 20 ed 0)) 0 0 (mw_A M sz) := by
  refine Met.ofW (cc := cX7_begin) (maxL := 2) (ret := none) (by decide) rfl ?_
  intro p e s m args below meth c0 s₁ B hml hv
  obtain ⟨rfl, rfl, hC, hw⟩ := mw_in hv
  have hx := B.exec
  have hb := B.bytes
  have hr := B.returns
  have hts := atoms_spec (ws := wsX7_begin) B.pre
  have hown : s.vm.findClass RX7 = some m.cls := findClass_of_methodNamed B.named
  have hlocks := B.notSynchronized
  have hf : md_fr h0 a M M := md_fr.rf
  have k_0 := hts (.fieldLink RX7 7 "LinkPairModel" "frames" "[I") (by decide +kernel)
  have k_1 := hts (.fieldLink RX7 20 "LinkPairModel" "fib" "[I") (by decide +kernel)
  have k_2 := hts (.fieldLink RX7 23 "LinkPairModel" "bib" "[I") (by decide +kernel)
  have k_3 := hts (.fieldLink RX7 26 "LinkPairModel" "sentLatest" "[I") (by decide +kernel)
  have k_4 := hts (.fieldLink RX7 29 "LinkPairModel" "takenLatest" "[I") (by decide +kernel)
  have k_5 := hts (.fieldLink RX7 32 "LinkPairModel" "toldLatest" "[I") (by decide +kernel)
  have k_6 := hts (.fieldLink RX7 35 "LinkPairModel" "waits" "[I") (by decide +kernel)
  have k_7 := hts (.fieldLink RX7 44 "LinkPairModel" "open" "[I") (by decide +kernel)
  have k_8 := hts (.fieldLink RX7 56 "LinkPairModel" "again" "[I") (by decide +kernel)
  have k_9 := hts (.fieldLink RX7 59 "LinkPairModel" "errors" "[I") (by decide +kernel)
  have k_10 := hts (.fieldLink RX7 62 "LinkPairModel" "units" "[I") (by decide +kernel)
  have k_11 := hts (.fieldLink RX7 65 "LinkPairModel" "abnormal" "[I") (by decide +kernel)
  have k_12 := hts (.fieldLink RX7 68 "LinkPairModel" "failed" "[Z") (by decide +kernel)
  have hl := lv_entry ([.ref (h0), .int (nI (ed))]) (n := 2) (Nat.le_of_ble_eq_true rfl)
  rw [lg_entry_eq]
  generalize (lg_sl ([.ref (h0), .int (nI (ed))]) ++ List.replicate (2 - (lg_sl ([.ref (h0), .int (nI (ed))])).length) Slot.unset).toArray = ls at hl ⊢
  have hl : lv_has ls 2 [(0, .ref (h0)), (1, .int (nI (ed)))] := hl
  refine mw_start (fun H locs hw => ?_) hw
  refine lv_aload_n hx hb dX7_begin_0 rfl (lv_at hl 0 rfl) ?_
  refine mw_get (C := RX7) (T := TX7) (N := 27) (v := .ref (a 1)) hx hb hts inX7_begin_X7 hown hC hw hm.1 rfl 1 (by decide) k_0 rfl dX7_begin_1 ?_
  refine lv_iload_n hx hb dX7_begin_4 rfl (lv_at hl 1 rfl) ?_
  refine lv_iconst (v := nI 0) hx hb dX7_begin_5 (by decide) ?_
  refine md_ast 1 (n := 2) (v := 0) hx hb hC hw hm rfl (by decide) rfl (by omega) (by decide) dX7_begin_6 (fun M1 H locs hm hf1 hw => ?_)
  have hf := hf.tr hf1
  refine lv_aload_n hx hb dX7_begin_7 rfl (lv_at hl 0 rfl) ?_
  refine mw_get (C := RX7) (T := TX7) (N := 27) (v := .ref (a 4)) hx hb hts inX7_begin_X7 hown hC hw hm.1 rfl 4 (by decide) k_1 rfl dX7_begin_8 ?_
  refine lv_iload_n hx hb dX7_begin_11 rfl (lv_at hl 1 rfl) ?_
  refine lv_iconst (v := nI 1) hx hb dX7_begin_12 (by decide) ?_
  refine md_ast 4 (n := 2) (v := 1) hx hb hC hw hm rfl (by decide) rfl (by omega) (by decide) dX7_begin_13 (fun M1 H locs hm hf1 hw => ?_)
  have hf := hf.tr hf1
  refine lv_aload_n hx hb dX7_begin_14 rfl (lv_at hl 0 rfl) ?_
  refine mw_get (C := RX7) (T := TX7) (N := 27) (v := .ref (a 5)) hx hb hts inX7_begin_X7 hown hC hw hm.1 rfl 5 (by decide) k_2 rfl dX7_begin_15 ?_
  refine lv_iload_n hx hb dX7_begin_18 rfl (lv_at hl 1 rfl) ?_
  refine lv_iconst (v := nI 1) hx hb dX7_begin_19 (by decide) ?_
  refine md_ast 5 (n := 2) (v := 1) hx hb hC hw hm rfl (by decide) rfl (by omega) (by decide) dX7_begin_20 (fun M1 H locs hm hf1 hw => ?_)
  have hf := hf.tr hf1
  refine lv_aload_n hx hb dX7_begin_21 rfl (lv_at hl 0 rfl) ?_
  refine mw_get (C := RX7) (T := TX7) (N := 27) (v := .ref (a 6)) hx hb hts inX7_begin_X7 hown hC hw hm.1 rfl 6 (by decide) k_3 rfl dX7_begin_22 ?_
  refine lv_iload_n hx hb dX7_begin_25 rfl (lv_at hl 1 rfl) ?_
  refine lv_bipush (v := nI 127) hx hb dX7_begin_26 (by decide) ?_
  refine md_ast 6 (n := 2) (v := 127) hx hb hC hw hm rfl (by decide) rfl (by omega) (by decide) dX7_begin_28 (fun M1 H locs hm hf1 hw => ?_)
  have hf := hf.tr hf1
  refine lv_aload_n hx hb dX7_begin_29 rfl (lv_at hl 0 rfl) ?_
  refine mw_get (C := RX7) (T := TX7) (N := 27) (v := .ref (a 7)) hx hb hts inX7_begin_X7 hown hC hw hm.1 rfl 7 (by decide) k_4 rfl dX7_begin_30 ?_
  refine lv_iload_n hx hb dX7_begin_33 rfl (lv_at hl 1 rfl) ?_
  refine lv_bipush (v := nI 127) hx hb dX7_begin_34 (by decide) ?_
  refine md_ast 7 (n := 2) (v := 127) hx hb hC hw hm rfl (by decide) rfl (by omega) (by decide) dX7_begin_36 (fun M1 H locs hm hf1 hw => ?_)
  have hf := hf.tr hf1
  refine lv_aload_n hx hb dX7_begin_37 rfl (lv_at hl 0 rfl) ?_
  refine mw_get (C := RX7) (T := TX7) (N := 27) (v := .ref (a 8)) hx hb hts inX7_begin_X7 hown hC hw hm.1 rfl 8 (by decide) k_5 rfl dX7_begin_38 ?_
  refine lv_iload_n hx hb dX7_begin_41 rfl (lv_at hl 1 rfl) ?_
  refine lv_bipush (v := nI 127) hx hb dX7_begin_42 (by decide) ?_
  refine md_ast 8 (n := 2) (v := 127) hx hb hC hw hm rfl (by decide) rfl (by omega) (by decide) dX7_begin_44 (fun M1 H locs hm hf1 hw => ?_)
  have hf := hf.tr hf1
  refine lv_aload_n hx hb dX7_begin_45 rfl (lv_at hl 0 rfl) ?_
  refine mw_get (C := RX7) (T := TX7) (N := 27) (v := .ref (a 9)) hx hb hts inX7_begin_X7 hown hC hw hm.1 rfl 9 (by decide) k_6 rfl dX7_begin_46 ?_
  refine lv_iload_n hx hb dX7_begin_49 rfl (lv_at hl 1 rfl) ?_
  refine lv_iconst (v := nI 0) hx hb dX7_begin_50 (by decide) ?_
  refine md_ast 9 (n := 2) (v := 0) hx hb hC hw hm rfl (by decide) rfl (by omega) (by decide) dX7_begin_51 (fun M1 H locs hm hf1 hw => ?_)
  have hf := hf.tr hf1
  refine lv_aload_n hx hb dX7_begin_52 rfl (lv_at hl 0 rfl) ?_
  refine mw_get (C := RX7) (T := TX7) (N := 27) (v := .ref (a 12)) hx hb hts inX7_begin_X7 hown hC hw hm.1 rfl 12 (by decide) k_7 rfl dX7_begin_53 ?_
  refine lv_iload_n hx hb dX7_begin_56 rfl (lv_at hl 1 rfl) ?_
  refine lv_iconst (v := nI 0) hx hb dX7_begin_57 (by decide) ?_
  refine md_ast 12 (n := 2) (v := 0) hx hb hC hw hm rfl (by decide) rfl (by omega) (by decide) dX7_begin_58 (fun M1 H locs hm hf1 hw => ?_)
  have hf := hf.tr hf1
  refine lv_aload_n hx hb dX7_begin_59 rfl (lv_at hl 0 rfl) ?_
  refine mw_get (C := RX7) (T := TX7) (N := 27) (v := .ref (a 16)) hx hb hts inX7_begin_X7 hown hC hw hm.1 rfl 16 (by decide) k_8 rfl dX7_begin_60 ?_
  refine lv_iload_n hx hb dX7_begin_63 rfl (lv_at hl 1 rfl) ?_
  refine lv_iconst (v := nI 0) hx hb dX7_begin_64 (by decide) ?_
  refine md_ast 16 (n := 2) (v := 0) hx hb hC hw hm rfl (by decide) rfl (by omega) (by decide) dX7_begin_65 (fun M1 H locs hm hf1 hw => ?_)
  have hf := hf.tr hf1
  refine lv_aload_n hx hb dX7_begin_66 rfl (lv_at hl 0 rfl) ?_
  refine mw_get (C := RX7) (T := TX7) (N := 27) (v := .ref (a 17)) hx hb hts inX7_begin_X7 hown hC hw hm.1 rfl 17 (by decide) k_9 rfl dX7_begin_67 ?_
  refine lv_iload_n hx hb dX7_begin_70 rfl (lv_at hl 1 rfl) ?_
  refine lv_iconst (v := nI 0) hx hb dX7_begin_71 (by decide) ?_
  refine md_ast 17 (n := 2) (v := 0) hx hb hC hw hm rfl (by decide) rfl (by omega) (by decide) dX7_begin_72 (fun M1 H locs hm hf1 hw => ?_)
  have hf := hf.tr hf1
  refine lv_aload_n hx hb dX7_begin_73 rfl (lv_at hl 0 rfl) ?_
  refine mw_get (C := RX7) (T := TX7) (N := 27) (v := .ref (a 18)) hx hb hts inX7_begin_X7 hown hC hw hm.1 rfl 18 (by decide) k_10 rfl dX7_begin_74 ?_
  refine lv_iload_n hx hb dX7_begin_77 rfl (lv_at hl 1 rfl) ?_
  refine lv_iconst (v := nI 0) hx hb dX7_begin_78 (by decide) ?_
  refine md_ast 18 (n := 2) (v := 0) hx hb hC hw hm rfl (by decide) rfl (by omega) (by decide) dX7_begin_79 (fun M1 H locs hm hf1 hw => ?_)
  have hf := hf.tr hf1
  refine lv_aload_n hx hb dX7_begin_80 rfl (lv_at hl 0 rfl) ?_
  refine mw_get (C := RX7) (T := TX7) (N := 27) (v := .ref (a 19)) hx hb hts inX7_begin_X7 hown hC hw hm.1 rfl 19 (by decide) k_11 rfl dX7_begin_81 ?_
  refine lv_iload_n hx hb dX7_begin_84 rfl (lv_at hl 1 rfl) ?_
  refine lv_iconst (v := nI 0) hx hb dX7_begin_85 (by decide) ?_
  refine md_ast 19 (n := 2) (v := 0) hx hb hC hw hm rfl (by decide) rfl (by omega) (by decide) dX7_begin_86 (fun M1 H locs hm hf1 hw => ?_)
  have hf := hf.tr hf1
  refine lv_aload_n hx hb dX7_begin_87 rfl (lv_at hl 0 rfl) ?_
  refine mw_get (C := RX7) (T := TX7) (N := 27) (v := .ref (a 20)) hx hb hts inX7_begin_X7 hown hC hw hm.1 rfl 20 (by decide) k_12 rfl dX7_begin_88 ?_
  refine lv_iload_n hx hb dX7_begin_91 rfl (lv_at hl 1 rfl) ?_
  refine lv_iconst (v := nI 0) hx hb dX7_begin_92 (by decide) ?_
  refine md_zst 20 (n := 2) (v := 0) hx hb hC hw hm rfl (by decide) rfl (by omega) (by decide) (by omega) dX7_begin_93 (fun M1 H locs hm hf1 hw => ?_)
  have hf := hf.tr hf1
  exact md_vret hx hb hr hlocks hw hm hf dX7_begin_94
theorem inX7_unitCheck_X7 : ∀ w ∈ wsX70, w ∈ wsX7_unitCheck := by decide +kernel
def RM_X7_unitCheck : Room := { frames := 1, cells := 0, slots := 0, locals := 23 }
set_option maxHeartbeats 4000000 in
set_option maxRecDepth 100000 in
theorem c_X7_unitCheck (l : Launch) (G : mw_G) (M : mw_M) (sz : Nat) (h0 : Nat) (a : Nat → Nat) (c u : Nat) (A : md_S) (n : Nat) (hm : md_at G M h0 a c u A) (hn : n ≤ 280) (hug : ∀ i, i < 280 → A 24 i < 256) : Met l yX7_unitCheck wsX7_unitCheck RM_X7_unitCheck (mw_pre G M sz [.ref (h0), .int (nI (n))]) (md_Qi G M sz h0 a (nI (65535 - cdu (A 24) n)) c u A) 0 0 (mw_A M sz) := by
  refine Met.ofW (cc := cX7_unitCheck) (maxL := 4) (ret := (some .int)) (by decide) rfl ?_
  intro p e s m args below meth c0 s₁ B hml hv
  obtain ⟨rfl, rfl, hC, hw⟩ := mw_in hv
  have hx := B.exec
  have hb := B.bytes
  have hr := B.returns
  have hts := atoms_spec (ws := wsX7_unitCheck) B.pre
  have hown : s.vm.findClass RX7 = some m.cls := findClass_of_methodNamed B.named
  have hlocks := B.notSynchronized
  have hf : md_fr h0 a M M := md_fr.rf
  have k_0 := hts (.constant RX7 96 (65535)) (by decide +kernel)
  have k_1 := hts (.fieldLink RX7 81 "LinkPairModel" "unit" "[I") (by decide +kernel)
  have hl := lv_entry ([.ref (h0), .int (nI (n))]) (n := 4) (Nat.le_of_ble_eq_true rfl)
  rw [lg_entry_eq]
  generalize (lg_sl ([.ref (h0), .int (nI (n))]) ++ List.replicate (4 - (lg_sl ([.ref (h0), .int (nI (n))])).length) Slot.unset).toArray = ls at hl ⊢
  have hl : lv_has ls 4 [(0, .ref (h0)), (1, .int (nI (n)))] := hl
  refine mw_start (fun H locs hw => ?_) hw
  refine lv_ldc hx hb hown k_0 dX7_unitCheck_0 ?_
  refine mw_ti (show (65535 : Int32) = nI 65535 by decide) ?_
  refine lv_istore_n (lv' := [(2, .int (nI (65535))), (0, .ref (h0)), (1, .int (nI (n)))]) hx hb dX7_unitCheck_2 rfl hl (by decide) rfl (fun ls hl => ?_)
  refine lv_iconst (v := nI 0) hx hb dX7_unitCheck_3 (by decide) ?_
  refine lv_istore_n (lv' := [(3, .int (nI (0))), (2, .int (nI (65535))), (0, .ref (h0)), (1, .int (nI (n)))]) hx hb dX7_unitCheck_4 rfl hl (by decide) rfl (fun ls hl => ?_)
  have lp_1 : ∀ (n9 : Nat) (k : Nat), (hk : k ≤ n) → n - k < n9 → ∀ (M1 : mw_M) (H : Heap) (locs : List Loc) (ls : Array Slot), md_at G M1 h0 a c u A → md_fr h0 a M M1 → mw_St G (mw_A M s.heap.size) s M1 H locs → lv_has ls 4 [(0, .ref (h0)), (1, .int (nI (n))), (2, .int (nI (cdu (A 24) k))), (3, .int (nI (k)))] → W p l e (headSpec wsX7_unitCheck RM_X7_unitCheck).room s m ([.ref (h0), .int (nI (n))] : List Value).toArray below meth c0 H locs 0 0 (MQ below (md_Qi G M s.heap.size h0 a (nI (65535 - cdu (A 24) n)) c u A) ([.ref (h0), .int (nI (n))] : List Value).toArray s 0 0 (mw_A M s.heap.size)) (F0 m 5 ls []) := by
    intro n9
    induction n9 with
    | zero => intro k hk h9; exact absurd h9 (Nat.not_lt_zero _)
    | succ n9 ih =>
      intro k hk h9 M1 H locs ls hm hf hw hl
      have hcd := cdu_lt (A 24) k
      refine lv_iload_n hx hb dX7_unitCheck_5 rfl (lv_at hl 3 rfl) ?_
      refine lv_iload_n hx hb dX7_unitCheck_6 rfl (lv_at hl 1 rfl) ?_
      refine lv_icmp_ge (tgt := 27) hx hb dX7_unitCheck_7 (by decide) (fun c_2 => ?_) (fun c_2 => ?_)
      · skip
        have c_2 : k ≥ n := (nI_leI (a := n) (b := k) (by omega) (by omega)).mp c_2
        obtain rfl : n = k := by omega
        refine lv_ldc hx hb hown k_0 dX7_unitCheck_27 ?_
        refine mw_ti (show (65535 : Int32) = nI 65535 by decide) ?_
        refine lv_iload_n hx hb dX7_unitCheck_29 rfl (lv_at hl 2 rfl) ?_
        refine lv_isub hx hb dX7_unitCheck_30 ?_
        refine mw_ti (v' := nI (65535 - (cdu (A 24) n))) (pk_sub (by omega)) ?_
        exact md_iret hx hb hr hlocks hw hm hf (by first | rfl | simp_all | (congr 1; omega)) dX7_unitCheck_31
      · skip
        have c_2 : k < n := Nat.not_le.mp (fun h => c_2 ((nI_leI (a := n) (b := k) (by omega) (by omega)).mpr h))
        refine lv_iload_n hx hb dX7_unitCheck_10 rfl (lv_at hl 2 rfl) ?_
        refine lv_aload_n hx hb dX7_unitCheck_11 rfl (lv_at hl 0 rfl) ?_
        refine mw_get (C := RX7) (T := TX7) (N := 27) (v := .ref (a 24)) hx hb hts inX7_unitCheck_X7 hown hC hw hm.1 rfl 24 (by decide) k_1 rfl dX7_unitCheck_12 ?_
        refine lv_iload_n hx hb dX7_unitCheck_15 rfl (lv_at hl 3 rfl) ?_
        refine md_ald 24 (n := 280) hx hb hC hw hm rfl (by decide) rfl (by omega) (by decide) dX7_unitCheck_16 ?_
        have hgk := hug k (by omega)
        refine mw_ci hC hw (va_runS (As := [.int (nI (cdu (A 24) k)), .int (nI (A 24 k))]) (rest := []) ⟨hx, hb, hml, hown, hts⟩ (c_X7_checked l G _ H.size (cdu (A 24) k) (A 24 k)  (by omega) (by omega)) (cwS 2 hts gX7_unitCheck_X7_checked rfl rfl rfl (by decide +kernel) ⟨Nat.le_of_ble_eq_true rfl, Nat.le_of_ble_eq_true rfl⟩) (mw_preS hC hw) rfl rfl hl.1 rfl (lv_room (Nat.le_of_ble_eq_true rfl)) dX7_unitCheck_17 ⟨Nat.le_of_ble_eq_true rfl, Nat.le_of_ble_eq_true rfl⟩) (fun H locs hz hw => ?_)
        refine lv_istore_n (lv' := [(2, .int (nI (rst (cdu (A 24) k) (A 24 k) 8))), (0, .ref (h0)), (1, .int (nI (n))), (3, .int (nI (k)))]) hx hb dX7_unitCheck_20 rfl hl (by decide) rfl (fun ls hl => ?_)
        refine lv_iinc (v := nI (k + 1)) (lv' := [(3, .int (nI (k + 1))), (2, .int (nI (rst (cdu (A 24) k) (A 24 k) 8))), (0, .ref (h0)), (1, .int (nI (n)))]) hx hb dX7_unitCheck_21 hl (k := 3) rfl (by rw [show Int32.ofInt 1 = nI 1 by decide]; exact nI_add _ _) (by decide) rfl (fun ls hl => ?_)
        refine lv_goto (tgt := 5) hx hb dX7_unitCheck_24 (by decide) ?_
        have hv_3 : (.int (nI (rst (cdu (A 24) k) (A 24 k) 8)) : Value) = .int (nI (cdu (A 24) (k + 1))) := by first | rfl | simp_all
        rw [hv_3] at hl
        exact ih  (k + 1) (by omega) (by omega) _ _ _ ls hm hf hw (lv_sub hl [2, 3, 1, 0] rfl)
  have hv_4 : (.int (nI (65535)) : Value) = .int (nI (cdu (A 24) 0)) := by first | rfl | simp_all
  rw [hv_4] at hl
  exact lp_1 (n - 0 + 1) 0 (by omega) (Nat.lt_succ_self _) _ _ _ ls hm hf hw (lv_sub hl [2, 3, 1, 0] rfl)
theorem inX7_bit_X7 : ∀ w ∈ wsX70, w ∈ wsX7_bit := by decide +kernel
def RM_X7_bit : Room := { frames := 0, cells := 0, slots := 0, locals := 0 }
set_option maxHeartbeats 4000000 in
set_option maxRecDepth 100000 in
theorem c_X7_bit (l : Launch) (G : mw_G) (M : mw_M) (sz : Nat) (h0 : Nat) (a : Nat → Nat) (c u : Nat) (A : md_S) (ed v : Nat) (hm : md_at G M h0 a c u A) (hed : ed ≤ 1) (hf1 : 1 ≤ A 1 ed) (hf2 : A 1 ed ≤ 40) (hl_ : A 2 (40 * ed + A 1 ed - 1) < 3000) : Met l yX7_bit wsX7_bit RM_X7_bit (mw_pre G M sz [.ref (h0), .int (nI (ed)), .int (nI (v))]) (md_Qv G M sz h0 a c u (mbit A ed v)) 0 0 (mw_A M sz) := by
  refine Met.ofW (cc := cX7_bit) (maxL := 4) (ret := none) (by decide) rfl ?_
  intro p e s m args below meth c0 s₁ B hml hv
  obtain ⟨rfl, rfl, hC, hw⟩ := mw_in hv
  have hx := B.exec
  have hb := B.bytes
  have hr := B.returns
  have hts := atoms_spec (ws := wsX7_bit) B.pre
  have hown : s.vm.findClass RX7 = some m.cls := findClass_of_methodNamed B.named
  have hlocks := B.notSynchronized
  have hf : md_fr h0 a M M := md_fr.rf
  have k_0 := hts (.fieldLink RX7 7 "LinkPairModel" "frames" "[I") (by decide +kernel)
  have k_1 := hts (.fieldLink RX7 17 "LinkPairModel" "bits" "[I") (by decide +kernel)
  have k_2 := hts (.fieldLink RX7 13 "LinkPairModel" "lengths" "[I") (by decide +kernel)
  have hl := lv_entry ([.ref (h0), .int (nI (ed)), .int (nI (v))]) (n := 4) (Nat.le_of_ble_eq_true rfl)
  rw [lg_entry_eq]
  generalize (lg_sl ([.ref (h0), .int (nI (ed)), .int (nI (v))]) ++ List.replicate (4 - (lg_sl ([.ref (h0), .int (nI (ed)), .int (nI (v))])).length) Slot.unset).toArray = ls at hl ⊢
  have hl : lv_has ls 4 [(0, .ref (h0)), (1, .int (nI (ed))), (2, .int (nI (v)))] := hl
  refine mw_start (fun H locs hw => ?_) hw
  refine lv_bipush (v := nI 40) hx hb dX7_bit_0 (by decide) ?_
  refine lv_iload_n hx hb dX7_bit_2 rfl (lv_at hl 1 rfl) ?_
  refine lv_imul hx hb dX7_bit_3 ?_
  refine mw_ti (v' := nI (40 * ed)) (pk_mul _ _) ?_
  refine lv_aload_n hx hb dX7_bit_4 rfl (lv_at hl 0 rfl) ?_
  refine mw_get (C := RX7) (T := TX7) (N := 27) (v := .ref (a 1)) hx hb hts inX7_bit_X7 hown hC hw hm.1 rfl 1 (by decide) k_0 rfl dX7_bit_5 ?_
  refine lv_iload_n hx hb dX7_bit_8 rfl (lv_at hl 1 rfl) ?_
  refine md_ald 1 (n := 2) hx hb hC hw hm rfl (by decide) rfl (by omega) (by decide) dX7_bit_9 ?_
  refine lv_iadd hx hb dX7_bit_10 ?_
  refine mw_ti (v' := nI (40 * ed + A 1 ed)) (nI_add _ _) ?_
  refine lv_iconst (v := nI 1) hx hb dX7_bit_11 (by decide) ?_
  refine lv_isub hx hb dX7_bit_12 ?_
  refine mw_ti (v' := nI (40 * ed + A 1 ed - 1)) (pk_sub (by omega)) ?_
  refine lv_istore_n (lv' := [(3, .int (nI (40 * ed + A 1 ed - 1))), (0, .ref (h0)), (1, .int (nI (ed))), (2, .int (nI (v)))]) hx hb dX7_bit_13 rfl hl (by decide) rfl (fun ls hl => ?_)
  refine lv_aload_n hx hb dX7_bit_14 rfl (lv_at hl 1 rfl) ?_
  refine mw_get (C := RX7) (T := TX7) (N := 27) (v := .ref (a 3)) hx hb hts inX7_bit_X7 hown hC hw hm.1 rfl 3 (by decide) k_1 rfl dX7_bit_15 ?_
  refine lv_sipush (v := nI 3000) hx hb dX7_bit_18 (by decide) ?_
  refine lv_iload_n hx hb dX7_bit_21 rfl (lv_at hl 0 rfl) ?_
  refine lv_imul hx hb dX7_bit_22 ?_
  refine mw_ti (v' := nI (3000 * (40 * ed + A 1 ed - 1))) (pk_mul _ _) ?_
  refine lv_aload_n hx hb dX7_bit_23 rfl (lv_at hl 1 rfl) ?_
  refine mw_get (C := RX7) (T := TX7) (N := 27) (v := .ref (a 2)) hx hb hts inX7_bit_X7 hown hC hw hm.1 rfl 2 (by decide) k_2 rfl dX7_bit_24 ?_
  refine lv_iload_n hx hb dX7_bit_27 rfl (lv_at hl 0 rfl) ?_
  refine md_ald 2 (n := 80) hx hb hC hw hm rfl (by decide) rfl (by omega) (by decide) dX7_bit_28 ?_
  refine lv_iadd hx hb dX7_bit_29 ?_
  refine mw_ti (v' := nI (3000 * (40 * ed + A 1 ed - 1) + (A 2 (40 * ed + A 1 ed - 1)))) (nI_add _ _) ?_
  refine lv_iload_n hx hb dX7_bit_30 rfl (lv_at hl 3 rfl) ?_
  refine md_ast 3 (n := 240000) (v := v) hx hb hC hw hm rfl (by decide) rfl (by omega) (by decide) dX7_bit_31 (fun M1 H locs hm hf1 hw => ?_)
  have hf := hf.tr hf1
  refine lv_aload_n hx hb dX7_bit_32 rfl (lv_at hl 1 rfl) ?_
  refine mw_get (C := RX7) (T := TX7) (N := 27) (v := .ref (a 2)) hx hb hts inX7_bit_X7 hown hC hw hm.1 rfl 2 (by decide) k_2 rfl dX7_bit_33 ?_
  refine lv_iload_n hx hb dX7_bit_36 rfl (lv_at hl 0 rfl) ?_
  refine lv_dup2_11 hx hb dX7_bit_37 rfl rfl ?_
  refine md_ald 2 (n := 80) hx hb hC hw hm rfl (by decide) rfl (by omega) (by decide) dX7_bit_38 ?_
  refine mw_ti (v' := nI (A 2 (40 * ed + A 1 ed - 1))) (congrArg nI (md_u_k (by decide))) ?_
  refine lv_iconst (v := nI 1) hx hb dX7_bit_39 (by decide) ?_
  refine lv_iadd hx hb dX7_bit_40 ?_
  refine mw_ti (v' := nI (A 2 (40 * ed + A 1 ed - 1) + 1)) (nI_add _ _) ?_
  refine md_ast 2 (n := 80) (v := A 2 (40 * ed + A 1 ed - 1) + 1) hx hb hC hw hm rfl (by decide) rfl (by omega) (by decide) dX7_bit_41 (fun M1 H locs hm hf1 hw => ?_)
  have hf := hf.tr hf1
  have hA_1 : md_u ((md_u A 3 (3000 * (40 * ed + A 1 ed - 1) + (A 2 (40 * ed + A 1 ed - 1))) v)) 2 (40 * ed + A 1 ed - 1) (A 2 (40 * ed + A 1 ed - 1) + 1) = mbit A ed v := by first | rfl | simp_all
  rw [hA_1] at hm
  exact md_vret hx hb hr hlocks hw hm hf dX7_bit_42
def RM_X7_flag : Room := { frames := 1, cells := 0, slots := 0, locals := 23 }
set_option maxHeartbeats 4000000 in
set_option maxRecDepth 100000 in
theorem c_X7_flag (l : Launch) (G : mw_G) (M : mw_M) (sz : Nat) (h0 : Nat) (a : Nat → Nat) (c u : Nat) (A : md_S) (ed : Nat) (hm : md_at G M h0 a c u A) (hed : ed ≤ 1) (hf1 : 1 ≤ A 1 ed) (hf2 : A 1 ed ≤ 40) (hl_ : A 2 (40 * ed + A 1 ed - 1) + 8 ≤ 3000) : Met l yX7_flag wsX7_flag RM_X7_flag (mw_pre G M sz [.ref (h0), .int (nI (ed))]) (md_Qv G M sz h0 a c u (mfl A ed 8)) 0 0 (mw_A M sz) := by
  refine Met.ofW (cc := cX7_flag) (maxL := 3) (ret := none) (by decide) rfl ?_
  intro p e s m args below meth c0 s₁ B hml hv
  obtain ⟨rfl, rfl, hC, hw⟩ := mw_in hv
  have hx := B.exec
  have hb := B.bytes
  have hr := B.returns
  have hts := atoms_spec (ws := wsX7_flag) B.pre
  have hown : s.vm.findClass RX7 = some m.cls := findClass_of_methodNamed B.named
  have hlocks := B.notSynchronized
  have hf : md_fr h0 a M M := md_fr.rf
  have hl := lv_entry ([.ref (h0), .int (nI (ed))]) (n := 3) (Nat.le_of_ble_eq_true rfl)
  rw [lg_entry_eq]
  generalize (lg_sl ([.ref (h0), .int (nI (ed))]) ++ List.replicate (3 - (lg_sl ([.ref (h0), .int (nI (ed))])).length) Slot.unset).toArray = ls at hl ⊢
  have hl : lv_has ls 3 [(0, .ref (h0)), (1, .int (nI (ed)))] := hl
  refine mw_start (fun H locs hw => ?_) hw
  refine lv_iconst (v := nI 0) hx hb dX7_flag_0 (by decide) ?_
  refine lv_istore_n (lv' := [(2, .int (nI (0))), (0, .ref (h0)), (1, .int (nI (ed)))]) hx hb dX7_flag_1 rfl hl (by decide) rfl (fun ls hl => ?_)
  have lp_1 : ∀ (n9 : Nat) (k : Nat), (hk : k ≤ 8) → 8 - k < n9 → ∀ (M1 : mw_M) (H : Heap) (locs : List Loc) (ls : Array Slot), md_at G M1 h0 a c u (mfl A ed k) → md_fr h0 a M M1 → mw_St G (mw_A M s.heap.size) s M1 H locs → lv_has ls 3 [(0, .ref (h0)), (1, .int (nI (ed))), (2, .int (nI (k)))] → W p l e (headSpec wsX7_flag RM_X7_flag).room s m ([.ref (h0), .int (nI (ed))] : List Value).toArray below meth c0 H locs 0 0 (MQ below (md_Qv G M s.heap.size h0 a c u (mfl A ed 8)) ([.ref (h0), .int (nI (ed))] : List Value).toArray s 0 0 (mw_A M s.heap.size)) (F0 m 2 ls []) := by
    intro n9
    induction n9 with
    | zero => intro k hk h9; exact absurd h9 (Nat.not_lt_zero _)
    | succ n9 ih =>
      intro k hk h9 M1 H locs ls hm hf hw hl
      have h1 := mfl_o A ed k (j := 1) (by decide) (by decide)
      have h2 := mfl_2 A ed k
      refine lv_iload_n hx hb dX7_flag_2 rfl (lv_at hl 2 rfl) ?_
      refine lv_bipush (v := nI 8) hx hb dX7_flag_3 (by decide) ?_
      refine lv_icmp_ge (tgt := 34) hx hb dX7_flag_5 (by decide) (fun c_2 => ?_) (fun c_2 => ?_)
      · skip
        have c_2 : k ≥ 8 := (nI_leI (a := 8) (b := k) (by omega) (by omega)).mp c_2
        obtain rfl : k = 8 := by omega
        exact md_vret hx hb hr hlocks hw hm hf dX7_flag_34
      · skip
        have c_2 : k < 8 := Nat.not_le.mp (fun h => c_2 ((nI_leI (a := 8) (b := k) (by omega) (by omega)).mpr h))
        refine lv_aload_n hx hb dX7_flag_8 rfl (lv_at hl 0 rfl) ?_
        refine lv_iload_n hx hb dX7_flag_9 rfl (lv_at hl 1 rfl) ?_
        refine lv_iload_n hx hb dX7_flag_10 rfl (lv_at hl 2 rfl) ?_
        refine lv_if_eq (tgt := 20) hx hb dX7_flag_11 (by decide) (fun c_3 => ?_) (fun c_3 => ?_)
        · skip
          have c_3 : k = 0 := (nI_eq (a := k) (b := 0) (by omega) (by omega)).mp c_3
          have hfg : flg k = 0 := by rcases (show k = 0 ∨ k = 7 by omega) with rfl | rfl <;> rfl
          refine lv_iconst (v := nI 0) hx hb dX7_flag_20 (by decide) ?_
          refine lv_goto (tgt := 25) hx hb dX7_flag_21 (by decide) ?_
          refine md_cv hC hw (va_runV (As := [.int (nI (ed)), .int (nI (0))]) (rest := []) ⟨hx, hb, hml, hown, hts⟩ (c_X7_bit l G _ H.size h0 a c u (mfl A ed k) ed 0 hm (by omega) (by rw [h1]; exact hf1) (by rw [h1]; exact hf2) (by rw [h1, h2]; omega)) (cwV 2 hts gX7_flag_X7_bit rfl rfl rfl (by decide +kernel) ⟨Nat.le_of_ble_eq_true rfl, Nat.le_of_ble_eq_true rfl⟩) (mw_preV (ci := 7) hC hw rfl hm.1) rfl rfl hl.1 rfl (lv_room (Nat.le_of_ble_eq_true rfl)) dX7_flag_25 ⟨Nat.le_of_ble_eq_true rfl, Nat.le_of_ble_eq_true rfl⟩) (fun M1 H locs hm hf1 hw => ?_)
          have hf := hf.tr hf1
          refine lv_iinc (v := nI (k + 1)) (lv' := [(2, .int (nI (k + 1))), (0, .ref (h0)), (1, .int (nI (ed)))]) hx hb dX7_flag_28 hl (k := 2) rfl (by rw [show Int32.ofInt 1 = nI 1 by decide]; exact nI_add _ _) (by decide) rfl (fun ls hl => ?_)
          refine lv_goto (tgt := 2) hx hb dX7_flag_31 (by decide) ?_
          have hA_4 : mbit (mfl A ed k) ed 0 = mfl A ed (k + 1) := by rw [mfl, hfg]
          rw [hA_4] at hm
          exact ih  (k + 1) (by omega) (by omega) _ _ _ ls hm hf hw (lv_sub hl [1, 2, 0] rfl)
        · skip
          have c_3 : k ≠ 0 := fun h => c_3 ((nI_eq (a := k) (b := 0) (by omega) (by omega)).mpr h)
          refine lv_iload_n hx hb dX7_flag_14 rfl (lv_at hl 2 rfl) ?_
          refine lv_bipush (v := nI 7) hx hb dX7_flag_15 (by decide) ?_
          refine lv_icmp_ne (tgt := 24) hx hb dX7_flag_17 (by decide) (fun c_5 => ?_) (fun c_5 => ?_)
          · skip
            have c_5 : k ≠ 7 := fun h => c_5 ((nI_eq (a := k) (b := 7) (by omega) (by omega)).mpr h)
            have hfg : flg k = 1 := by rcases (show k = 1 ∨ k = 2 ∨ k = 3 ∨ k = 4 ∨ k = 5 ∨ k = 6 by omega) with rfl | rfl | rfl | rfl | rfl | rfl <;> rfl
            refine lv_iconst (v := nI 1) hx hb dX7_flag_24 (by decide) ?_
            refine md_cv hC hw (va_runV (As := [.int (nI (ed)), .int (nI (1))]) (rest := []) ⟨hx, hb, hml, hown, hts⟩ (c_X7_bit l G _ H.size h0 a c u (mfl A ed k) ed 1 hm (by omega) (by rw [h1]; exact hf1) (by rw [h1]; exact hf2) (by rw [h1, h2]; omega)) (cwV 2 hts gX7_flag_X7_bit rfl rfl rfl (by decide +kernel) ⟨Nat.le_of_ble_eq_true rfl, Nat.le_of_ble_eq_true rfl⟩) (mw_preV (ci := 7) hC hw rfl hm.1) rfl rfl hl.1 rfl (lv_room (Nat.le_of_ble_eq_true rfl)) dX7_flag_25 ⟨Nat.le_of_ble_eq_true rfl, Nat.le_of_ble_eq_true rfl⟩) (fun M1 H locs hm hf1 hw => ?_)
            have hf := hf.tr hf1
            refine lv_iinc (v := nI (k + 1)) (lv' := [(2, .int (nI (k + 1))), (0, .ref (h0)), (1, .int (nI (ed)))]) hx hb dX7_flag_28 hl (k := 2) rfl (by rw [show Int32.ofInt 1 = nI 1 by decide]; exact nI_add _ _) (by decide) rfl (fun ls hl => ?_)
            refine lv_goto (tgt := 2) hx hb dX7_flag_31 (by decide) ?_
            have hA_6 : mbit (mfl A ed k) ed 1 = mfl A ed (k + 1) := by rw [mfl, hfg]
            rw [hA_6] at hm
            exact ih  (k + 1) (by omega) (by omega) _ _ _ ls hm hf hw (lv_sub hl [1, 2, 0] rfl)
          · skip
            have c_5 : k = 7 := (nI_eq (a := k) (b := 7) (by omega) (by omega)).mp c_5
            have hfg : flg k = 0 := by rcases (show k = 0 ∨ k = 7 by omega) with rfl | rfl <;> rfl
            refine lv_iconst (v := nI 0) hx hb dX7_flag_20 (by decide) ?_
            refine lv_goto (tgt := 25) hx hb dX7_flag_21 (by decide) ?_
            refine md_cv hC hw (va_runV (As := [.int (nI (ed)), .int (nI (0))]) (rest := []) ⟨hx, hb, hml, hown, hts⟩ (c_X7_bit l G _ H.size h0 a c u (mfl A ed k) ed 0 hm (by omega) (by rw [h1]; exact hf1) (by rw [h1]; exact hf2) (by rw [h1, h2]; omega)) (cwV 2 hts gX7_flag_X7_bit rfl rfl rfl (by decide +kernel) ⟨Nat.le_of_ble_eq_true rfl, Nat.le_of_ble_eq_true rfl⟩) (mw_preV (ci := 7) hC hw rfl hm.1) rfl rfl hl.1 rfl (lv_room (Nat.le_of_ble_eq_true rfl)) dX7_flag_25 ⟨Nat.le_of_ble_eq_true rfl, Nat.le_of_ble_eq_true rfl⟩) (fun M1 H locs hm hf1 hw => ?_)
            have hf := hf.tr hf1
            refine lv_iinc (v := nI (k + 1)) (lv' := [(2, .int (nI (k + 1))), (0, .ref (h0)), (1, .int (nI (ed)))]) hx hb dX7_flag_28 hl (k := 2) rfl (by rw [show Int32.ofInt 1 = nI 1 by decide]; exact nI_add _ _) (by decide) rfl (fun ls hl => ?_)
            refine lv_goto (tgt := 2) hx hb dX7_flag_31 (by decide) ?_
            have hA_7 : mbit (mfl A ed k) ed 0 = mfl A ed (k + 1) := by rw [mfl, hfg]
            rw [hA_7] at hm
            exact ih  (k + 1) (by omega) (by omega) _ _ _ ls hm hf hw (lv_sub hl [1, 2, 0] rfl)
  have hA_8 : A = mfl A ed 0 := by first | rfl | simp_all
  rw [hA_8] at hm
  exact lp_1 (8 - 0 + 1) 0 (by omega) (Nat.lt_succ_self _) _ _ _ ls hm hf hw (lv_sub hl [1, 2, 0] rfl)
theorem inX7_isFlag_X7 : ∀ w ∈ wsX70, w ∈ wsX7_isFlag := by decide +kernel
def RM_X7_isFlag : Room := { frames := 0, cells := 0, slots := 0, locals := 0 }
set_option maxHeartbeats 4000000 in
set_option maxRecDepth 100000 in
theorem c_X7_isFlag (l : Launch) (G : mw_G) (M : mw_M) (sz : Nat) (h0 : Nat) (a : Nat → Nat) (c u : Nat) (A : md_S) (fm : Nat) (hm : md_at G M h0 a c u A) (hfm : fm + 8 ≤ 240000) (hb_ : ∀ i, i < 8 → A 3 (fm + i) ≤ 1) : Met l yX7_isFlag wsX7_isFlag RM_X7_isFlag (mw_pre G M sz [.ref (h0), .int (nI (fm))]) (md_Qi G M sz h0 a (nI (ifl A fm 8)) c u A) 0 0 (mw_A M sz) := by
  refine Met.ofW (cc := cX7_isFlag) (maxL := 4) (ret := (some .int)) (by decide) rfl ?_
  intro p e s m args below meth c0 s₁ B hml hv
  obtain ⟨rfl, rfl, hC, hw⟩ := mw_in hv
  have hx := B.exec
  have hb := B.bytes
  have hr := B.returns
  have hts := atoms_spec (ws := wsX7_isFlag) B.pre
  have hown : s.vm.findClass RX7 = some m.cls := findClass_of_methodNamed B.named
  have hlocks := B.notSynchronized
  have hf : md_fr h0 a M M := md_fr.rf
  have k_0 := hts (.fieldLink RX7 17 "LinkPairModel" "bits" "[I") (by decide +kernel)
  have hl := lv_entry ([.ref (h0), .int (nI (fm))]) (n := 4) (Nat.le_of_ble_eq_true rfl)
  rw [lg_entry_eq]
  generalize (lg_sl ([.ref (h0), .int (nI (fm))]) ++ List.replicate (4 - (lg_sl ([.ref (h0), .int (nI (fm))])).length) Slot.unset).toArray = ls at hl ⊢
  have hl : lv_has ls 4 [(0, .ref (h0)), (1, .int (nI (fm)))] := hl
  refine mw_start (fun H locs hw => ?_) hw
  refine lv_iconst (v := nI 0) hx hb dX7_isFlag_0 (by decide) ?_
  refine lv_istore_n (lv' := [(2, .int (nI (0))), (0, .ref (h0)), (1, .int (nI (fm)))]) hx hb dX7_isFlag_1 rfl hl (by decide) rfl (fun ls hl => ?_)
  refine lv_iconst (v := nI 0) hx hb dX7_isFlag_2 (by decide) ?_
  refine lv_istore_n (lv' := [(3, .int (nI (0))), (2, .int (nI (0))), (0, .ref (h0)), (1, .int (nI (fm)))]) hx hb dX7_isFlag_3 rfl hl (by decide) rfl (fun ls hl => ?_)
  have lp_1 : ∀ (n9 : Nat) (k : Nat), (hk : k ≤ 8) → 8 - k < n9 → ∀ (M1 : mw_M) (H : Heap) (locs : List Loc) (ls : Array Slot), md_at G M1 h0 a c u A → md_fr h0 a M M1 → mw_St G (mw_A M s.heap.size) s M1 H locs → lv_has ls 4 [(0, .ref (h0)), (1, .int (nI (fm))), (2, .int (nI (ifl A fm k))), (3, .int (nI (k)))] → W p l e (headSpec wsX7_isFlag RM_X7_isFlag).room s m ([.ref (h0), .int (nI (fm))] : List Value).toArray below meth c0 H locs 0 0 (MQ below (md_Qi G M s.heap.size h0 a (nI (ifl A fm 8)) c u A) ([.ref (h0), .int (nI (fm))] : List Value).toArray s 0 0 (mw_A M s.heap.size)) (F0 m 4 ls []) := by
    intro n9
    induction n9 with
    | zero => intro k hk h9; exact absurd h9 (Nat.not_lt_zero _)
    | succ n9 ih =>
      intro k hk h9 M1 H locs ls hm hf hw hl
      have hi := ifl_lt A fm k (fun i hi => hb_ i (by omega))
      have hp2 : 2 ^ k ≤ 2 ^ 8 := Nat.pow_le_pow_right (by decide) hk
      refine lv_iload_n hx hb dX7_isFlag_4 rfl (lv_at hl 3 rfl) ?_
      refine lv_bipush (v := nI 8) hx hb dX7_isFlag_5 (by decide) ?_
      refine lv_icmp_ge (tgt := 29) hx hb dX7_isFlag_7 (by decide) (fun c_2 => ?_) (fun c_2 => ?_)
      · skip
        have c_2 : k ≥ 8 := (nI_leI (a := 8) (b := k) (by omega) (by omega)).mp c_2
        obtain rfl : k = 8 := by omega
        refine lv_iload_n hx hb dX7_isFlag_29 rfl (lv_at hl 2 rfl) ?_
        exact md_iret hx hb hr hlocks hw hm hf (rfl) dX7_isFlag_30
      · skip
        have c_2 : k < 8 := Nat.not_le.mp (fun h => c_2 ((nI_leI (a := 8) (b := k) (by omega) (by omega)).mpr h))
        refine lv_iconst (v := nI 2) hx hb dX7_isFlag_10 (by decide) ?_
        refine lv_iload_n hx hb dX7_isFlag_11 rfl (lv_at hl 2 rfl) ?_
        refine lv_imul hx hb dX7_isFlag_12 ?_
        refine mw_ti (v' := nI (2 * (ifl A fm k))) (pk_mul _ _) ?_
        refine lv_aload_n hx hb dX7_isFlag_13 rfl (lv_at hl 0 rfl) ?_
        refine mw_get (C := RX7) (T := TX7) (N := 27) (v := .ref (a 3)) hx hb hts inX7_isFlag_X7 hown hC hw hm.1 rfl 3 (by decide) k_0 rfl dX7_isFlag_14 ?_
        refine lv_iload_n hx hb dX7_isFlag_17 rfl (lv_at hl 1 rfl) ?_
        refine lv_iload_n hx hb dX7_isFlag_18 rfl (lv_at hl 3 rfl) ?_
        refine lv_iadd hx hb dX7_isFlag_19 ?_
        refine mw_ti (v' := nI (fm + k)) (nI_add _ _) ?_
        refine md_ald 3 (n := 240000) hx hb hC hw hm rfl (by decide) rfl (by omega) (by decide) dX7_isFlag_20 ?_
        refine lv_iadd hx hb dX7_isFlag_21 ?_
        refine mw_ti (v' := nI (2 * (ifl A fm k) + A 3 (fm + k))) (nI_add _ _) ?_
        refine lv_istore_n (lv' := [(2, .int (nI (2 * (ifl A fm k) + A 3 (fm + k)))), (0, .ref (h0)), (1, .int (nI (fm))), (3, .int (nI (k)))]) hx hb dX7_isFlag_22 rfl hl (by decide) rfl (fun ls hl => ?_)
        refine lv_iinc (v := nI (k + 1)) (lv' := [(3, .int (nI (k + 1))), (2, .int (nI (2 * (ifl A fm k) + A 3 (fm + k)))), (0, .ref (h0)), (1, .int (nI (fm)))]) hx hb dX7_isFlag_23 hl (k := 3) rfl (by rw [show Int32.ofInt 1 = nI 1 by decide]; exact nI_add _ _) (by decide) rfl (fun ls hl => ?_)
        refine lv_goto (tgt := 4) hx hb dX7_isFlag_26 (by decide) ?_
        have hv_3 : (.int (nI (2 * (ifl A fm k) + A 3 (fm + k))) : Value) = .int (nI (ifl A fm (k + 1))) := by first | rfl | simp_all
        rw [hv_3] at hl
        exact ih  (k + 1) (by omega) (by omega) _ _ _ ls hm hf hw (lv_sub hl [2, 3, 1, 0] rfl)
  have hv_4 : (.int (nI (0)) : Value) = .int (nI (ifl A fm 0)) := by first | rfl | simp_all
  have hl : lv_has ls 4 [(3, .int (nI (0))), (2, .int (nI (ifl A fm 0))), (0, .ref (h0)), (1, .int (nI (fm)))] := by rw [← hv_4]; exact hl
  exact lp_1 (8 - 0 + 1) 0 (by omega) (Nat.lt_succ_self _) _ _ _ ls hm hf hw (lv_sub hl [2, 3, 1, 0] rfl)
end
section
theorem bodN {N : Nat} {g : Nat → Nat} (hg : ∀ i, i < N → g i < 256) (s k : Nat) : ∀ i, i < N → bod g s k i < 256 := by
  induction k with
  | zero => exact hg
  | succ k ih =>
    intro i hi
    simp only [bod]
    by_cases h : i = 3 + k
    · rw [h, va_up_self]; omega
    · rw [va_up_ne _ _ h]; exact ih i hi
theorem upN {N : Nat} {g : Nat → Nat} (hg : ∀ i, i < N → g i < 256) {k v : Nat} (hv : v < 256) : ∀ i, i < N → va_up g k v i < 256 := by
  intro i hi
  by_cases h : i = k
  · rw [h, va_up_self]; exact hv
  · rw [va_up_ne _ _ h]; exact hg i hi
def mg1 (A : md_S) (ed nu ln : Nat) : Nat → Nat := va_up (va_up (va_up (A 24) 0 (A 7 ed + 128 * A 5 ed)) 1 (nu + 128 * A 4 ed)) 2 (min ln 63)
def mgu (A : md_S) (ed nu ln se : Nat) : Nat → Nat := va_up (va_up (bod (mg1 A ed nu ln) se ln) (3 + ln) ((65535 - cdu (bod (mg1 A ed nu ln) se ln) (3 + ln)) % 256)) (4 + ln) ((65535 - cdu (bod (mg1 A ed nu ln) se ln) (3 + ln)) / 256)
def mopen (A : md_S) (ed : Nat) : md_S := md_u (md_u A 2 (40 * ed + A 1 ed) 0) 1 ed (A 1 ed + 1)
def mfr0 (A : md_S) (ed nu ln se : Nat) : md_S := mopen (va_up A 24 (mgu A ed nu ln se)) ed
theorem mfr0_1 (A : md_S) (ed nu ln se : Nat) : mfr0 A ed nu ln se 1 ed = A 1 ed + 1 := by
  unfold mfr0 mopen
  rw [md_u_s, va_up_ne _ _ (by decide)]
theorem mfr0_2 (A : md_S) (ed nu ln se : Nat) : mfr0 A ed nu ln se 2 (40 * ed + A 1 ed) = 0 := by
  unfold mfr0 mopen
  rw [md_u_k (by decide), va_up_ne (k := 24) (j := 1) _ _ (by decide), md_u_s]
theorem mfr0_24 (A : md_S) (ed nu ln se : Nat) : mfr0 A ed nu ln se 24 = mgu A ed nu ln se := by
  unfold mfr0 mopen md_u
  rw [va_up_ne _ _ (by decide), va_up_ne _ _ (by decide), va_up_self]
/-- a frame of a unit: the reference's state behind it -/
def mfrm (A : md_S) (ed nu ln se : Nat) : md_S := mfl (mws (mgu A ed nu ln se) (mfl (mfr0 A ed nu ln se) ed 8) ed (8 * (5 + ln))).1 ed 8
end
section
/-! ===== longs shifted with their sign; bits and takes of the reference ===== -/
theorem wb_sar {n s j : Nat} (h : s + j ≤ 64) (hs : s < 64) : (lN n >>> ((nI s).toInt64 &&& 63)) &&& lN (2 ^ j - 1) = lN (n % 2 ^ 64 / 2 ^ s % 2 ^ j) := by
  rw [wb_c s hs]
  apply wb_inj
  rw [Int64.toBitVec_and, Int64.toBitVec_shiftRight, wb_tb, wb_tb, wb_tb, wb_tb, wb_sm s hs]
  apply BitVec.eq_of_getLsbD_eq
  intro i hi
  rw [BitVec.getLsbD_and, BitVec.sshiftRight_eq', BitVec.getLsbD_sshiftRight, BitVec.toNat_ofNat, Nat.mod_eq_of_lt (show s < 2 ^ 64 by omega), BitVec.getLsbD_ofNat, BitVec.getLsbD_ofNat, BitVec.getLsbD_ofNat, Nat.testBit_two_pow_sub_one, Nat.testBit_mod_two_pow, Nat.testBit_div_two_pow, Nat.testBit_mod_two_pow]
  by_cases hij : i < j
  · have h2 : s + i < 64 := by omega
    have h3 : i + s < 64 := by omega
    have h4 : ¬ 64 ≤ i := by omega
    simp [hi, hij, h2, h3, h4, Nat.add_comm]
  · simp [hij]
theorem wby_valS (v : Int64) {k : Nat} (hk : k < 8) : ((v >>> ((nI (8 * k)).toInt64 &&& 63)) &&& 255).toInt32 = nI (wby v k) := by
  unfold wby
  obtain ⟨n, hn, e⟩ := wb_of v
  rw [e, show (255 : Int64) = lN (2 ^ 8 - 1) from rfl, wb_sar (by omega) (by omega), lN_i, wb_tn hn, Nat.mod_eq_of_lt hn]
theorem wbt_valS (v : Int64) {k : Nat} (hk : k < 64) : ((v >>> ((nI k).toInt64 &&& 63)) &&& 1).toInt32 = nI (wbt v k) := by
  unfold wbt
  obtain ⟨n, hn, e⟩ := wb_of v
  rw [e, show (1 : Int64) = lN (2 ^ 1 - 1) from rfl, wb_sar (by omega) (by omega), lN_i, Nat.mod_eq_of_lt hn, wb_tb, BitVec.getLsbD_ofNat]
  simp only [hk, decide_true, Bool.true_and]
  rw [pu_tb]
theorem sub50 {t kk : Nat} (ht : t < 100000) (hk : kk < 2 ^ 31) : nI t - nI 50 ≤ nI kk ↔ t ≤ kk + 50 := by
  rw [Int32.le_iff_toInt_le, pk_sub_toInt (by omega) (by omega), nI_toInt hk]
  omega
def mbts (A : md_S) (ed : Nat) (v : Int64) : Nat → md_S
  | 0 => A
  | k + 1 => mbit (mbts A ed v k) ed (wbt v k)
theorem mbts_o (A : md_S) (ed : Nat) (v : Int64) (k : Nat) {j : Nat} (h2 : j ≠ 2) (h3 : j ≠ 3) : mbts A ed v k j = A j := by
  induction k with
  | zero => rfl
  | succ k ih => rw [mbts, mbit_o _ _ _ h2 h3, ih]
theorem mbts_2 (A : md_S) (ed : Nat) (v : Int64) (k : Nat) : mbts A ed v k 2 (40 * ed + A 1 ed - 1) = A 2 (40 * ed + A 1 ed - 1) + k := by
  induction k with
  | zero => rfl
  | succ k ih =>
    have h := mbit_2 (mbts A ed v k) ed (wbt v k)
    rw [mbts_o A ed v k (j := 1) (by decide) (by decide), ih] at h
    exact h
/-- the waits behind the first, one place down -/
def shf (g : Nat → Nat) (b k : Nat) : Nat → Nat := fun j => if b ≤ j ∧ j < b + k then g (j + 1) else g j
theorem shf_0 (g : Nat → Nat) (b : Nat) : shf g b 0 = g := by
  funext j
  unfold shf
  rw [if_neg (by omega)]
theorem shf_s (g : Nat → Nat) (b k : Nat) : va_up (shf g b k) (b + k) (g (b + k + 1)) = shf g b (k + 1) := by
  funext j
  by_cases h : j = b + k
  · rw [h, va_up_self]; unfold shf; rw [if_pos (by omega)]
  · rw [va_up_ne _ _ h]
    unfold shf
    by_cases h2 : b ≤ j ∧ j < b + k
    · rw [if_pos h2, if_pos (by omega)]
    · rw [if_neg h2, if_neg (by omega)]
theorem shf_r (g : Nat → Nat) (b k : Nat) : shf g b k (b + k + 1) = g (b + k + 1) := by
  unfold shf
  rw [if_neg (by omega)]
end
section
/-! ===== send, bits, forwards of the reference: the state behind them ===== -/
theorem va_upi {X : md_S} {k : Nat} {g : Nat → Nat} (h : X k = g) : X = va_up X k g := by
  funext j
  by_cases hj : j = k
  · rw [hj, va_up_self, h]
  · rw [va_up_ne _ _ hj]
theorem va_upc {X : md_S} {k k2 : Nat} {f f' g : Nat → Nat} (h : k ≠ k2) : va_up (va_up (va_up X k f) k2 g) k f' = va_up (va_up X k f') k2 g := by
  funext j
  by_cases h1 : j = k
  · rw [h1, va_up_self, va_up_ne _ _ h, va_up_self]
  · rw [va_up_ne _ _ h1]
    by_cases h2 : j = k2
    · rw [h2, va_up_self, va_up_self]
    · rw [va_up_ne _ _ h2, va_up_ne _ _ h1, va_up_ne _ _ h2, va_up_ne _ _ h1]
theorem md_uw2 {X : md_S} {k k2 i v : Nat} {f g : Nat → Nat} (h : k ≠ k2) : md_u (va_up (va_up X k f) k2 g) k i v = va_up (va_up X k (va_up f i v)) k2 g := by
  unfold md_u
  rw [va_up_ne _ _ h, va_up_self, va_upc h]
theorem ms_w0 {X : md_S} {g g' : Nat → Nat} {k k2 b : Nat} (h : k ≠ k2) (hk : X k = g) (hk2 : X k2 = g') : X = va_up (va_up X k (shf g b 0)) k2 (shf g' b 0) := by
  rw [shf_0, shf_0, ← va_upi hk, ← va_upi hk2]
theorem ms_ws {X : md_S} {g g' : Nat → Nat} {k k2 b i : Nat} (h : k ≠ k2) : md_u (md_u (va_up (va_up X k (shf g b i)) k2 (shf g' b i)) k (b + i) (shf g b i (b + i + 1))) k2 (b + i) (shf g' b i (b + i + 1)) = va_up (va_up X k (shf g b (i + 1))) k2 (shf g' b (i + 1)) := by
  rw [md_uw2 h, md_uw, shf_r, shf_r, shf_s, shf_s]
theorem shf_at (g : Nat → Nat) (b i : Nat) : shf g b (i + 1) (b + i) = g (b + i + 1) := by
  unfold shf
  rw [if_pos (by omega)]
/-- a message goes out for the first time: the state ahead of its frame -/
def ms1 (A : md_S) (ed : Nat) : md_S := md_u (md_u (md_u (va_up (va_up (md_u (md_u (md_u (md_u A 6 ed ((A 6 ed + 1) % 128)) 13 (127 * ed + A 12 ed) ((A 6 ed + 1) % 128)) 14 (127 * ed + A 12 ed) (A 10 (60 * ed))) 15 (127 * ed + A 12 ed) (A 11 (60 * ed))) 10 (shf (A 10) (60 * ed) (A 9 ed - 1))) 11 (shf (A 11) (60 * ed) (A 9 ed - 1))) 9 ed (A 9 ed - 1)) 12 ed (A 12 ed + 1)) 16 ed (A 12 ed + 1)
theorem ms1_1 (A : md_S) (ed : Nat) : ms1 A ed 1 = A 1 := rfl
theorem ms1_4 (A : md_S) (ed : Nat) : ms1 A ed 4 = A 4 := rfl
theorem ms1_5 (A : md_S) (ed : Nat) : ms1 A ed 5 = A 5 := rfl
theorem ms1_7 (A : md_S) (ed : Nat) : ms1 A ed 7 = A 7 := rfl
theorem ms1_24 (A : md_S) (ed : Nat) : ms1 A ed 24 = A 24 := rfl
theorem mopen_1 (A : md_S) (ed : Nat) : mopen A ed 1 ed = A 1 ed + 1 := by
  unfold mopen
  rw [md_u_s]
theorem mopen_2 (A : md_S) (ed : Nat) : mopen A ed 2 (40 * ed + A 1 ed) = 0 := by
  unfold mopen
  rw [md_u_k (by decide), md_u_s]
/-- the bytes of a message come to place b -/
def mke (g h : Nat → Nat) (b : Nat) : Nat → (Nat → Nat)
  | 0 => g
  | k + 1 => va_up (mke g h b k) (b + k) (h (3 + k))
/-- the bits of frame f + 1 come to frame f, n of them -/
def mcp (g : Nat → Nat) (f n : Nat) : Nat → Nat := fun j => if 3000 * f ≤ j ∧ j < 3000 * f + n then g (j + 3000) else g j
theorem mcp_0 (g : Nat → Nat) (f : Nat) : mcp g f 0 = g := by
  funext j
  unfold mcp
  rw [if_neg (by omega)]
theorem mcp_s (g : Nat → Nat) (f k : Nat) (hk : k ≤ 3000) : va_up (mcp g f k) (3000 * f + k) (mcp g f k (3000 * f + 3000 + k)) = mcp g f (k + 1) := by
  funext j
  by_cases h : j = 3000 * f + k
  · rw [h, va_up_self]; unfold mcp; rw [if_neg (by omega), if_pos (by omega)]; congr 1; omega
  · rw [va_up_ne _ _ h]
    unfold mcp
    by_cases h2 : 3000 * f ≤ j ∧ j < 3000 * f + k
    · rw [if_pos h2, if_pos (by omega)]
    · rw [if_neg h2, if_neg (by omega)]
/-- the bits, i frames from b on moved one place down; L their lengths at first -/
def mgo (L g : Nat → Nat) (b : Nat) : Nat → (Nat → Nat)
  | 0 => g
  | i + 1 => mcp (mgo L g b i) (b + i) (L (b + i + 1))
theorem mg_in {X : md_S} {L : Nat → Nat} {B : Nat → Nat} {b i : Nat} : md_u (va_up (va_up X 2 (shf L b i)) 3 B) 2 (b + i) (shf L b i (b + i + 1)) = va_up (va_up X 2 (shf L b (i + 1))) 3 (mcp B (b + i) 0) := by
  rw [md_uw2 (by decide), shf_r, shf_s, mcp_0]
theorem mg_w0 {X : md_S} {b : Nat} : X = va_up (va_up X 2 (shf (X 2) b 0)) 3 (mgo (X 2) (X 3) b 0) := by
  rw [shf_0, ← va_upi rfl, mgo, ← va_upi rfl]
end
section
/-! ===== reading a frame: the reference's side ===== -/
def lvl (o : Nat) : Nat := if o = 5 then 1 else 0
def fs2 (v o : Nat) (S : Nat × Nat × (Nat → Nat)) : Nat × Nat × (Nat → Nat) := if S.2.1 = 0 then (S.1 + 1, lvl o, va_up S.2.2 S.1 v) else (S.1, lvl o, S.2.2)
/-- a bit v read: ones, all, leaves, plain; six ones: it stops -/
def fs1 (v : Nat) (S : Nat × Nat × Nat × (Nat → Nat)) : Nat × Nat × Nat × (Nat → Nat) := if S.1 = 6 then S else if v = 1 then (if S.1 + 1 = 6 then (6, S.2) else (S.1 + 1, fs2 v (S.1 + 1) S.2)) else (0, fs2 v 0 S.2)
def mT (A : md_S) (fr : Nat) : Nat → Nat × Nat × Nat × (Nat → Nat)
  | 0 => (0, 0, 0, A 26)
  | k + 1 => fs1 (A 3 (3000 * fr + (8 + k))) (mT A fr k)
theorem fs2_le (v o : Nat) (S : Nat × Nat × (Nat → Nat)) : (fs2 v o S).1 ≤ S.1 + 1 ∧ (fs2 v o S).2.1 ≤ 1 := by
  unfold fs2 lvl
  split <;> split <;> simp
theorem mT_le (A : md_S) (fr k : Nat) : (mT A fr k).1 ≤ 6 ∧ (mT A fr k).2.1 ≤ k ∧ (mT A fr k).2.2.1 ≤ 1 := by
  induction k with
  | zero => simp [mT]
  | succ k ih =>
    obtain ⟨h1, h2, h3⟩ := ih
    simp only [mT, fs1]
    split
    · exact ⟨h1, by omega, h3⟩
    · split
      · split
        · exact ⟨Nat.le_refl 6, Nat.le_succ_of_le h2, h3⟩
        · have h := fs2_le (A 3 (3000 * fr + (8 + k))) ((mT A fr k).1 + 1) (mT A fr k).2
          exact ⟨by show (mT A fr k).1 + 1 ≤ 6; omega, by show (fs2 _ _ _).1 ≤ k + 1; omega, h.2⟩
      · have h := fs2_le (A 3 (3000 * fr + (8 + k))) 0 (mT A fr k).2
        exact ⟨Nat.zero_le 6, by show (fs2 _ _ _).1 ≤ k + 1; omega, h.2⟩
theorem mT_stay {A : md_S} {fr k : Nat} (h : (mT A fr k).1 = 6) (n : Nat) : mT A fr (k + n) = mT A fr k := by
  induction n with
  | zero => rfl
  | succ n ih => rw [← Nat.add_assoc, mT, ih, fs1, if_pos h]
theorem mT_hit {A : md_S} {fr k m : Nat} (h6 : ¬ (mT A fr k).1 = 6) (hv : A 3 (3000 * fr + (8 + k)) = 1) (ho : (mT A fr k).1 + 1 = 6) (hk : k < m) : mT A fr m = (6, (mT A fr k).2) := by
  have h1 : mT A fr (k + 1) = (6, (mT A fr k).2) := by
    rw [mT, fs1, if_neg h6, if_pos hv, if_pos ho]
  have h2 := mT_stay (A := A) (fr := fr) (k := k + 1) (by rw [h1]) (m - (k + 1))
  rw [show k + 1 + (m - (k + 1)) = m by omega, h1] at h2
  exact h2
theorem fs2_b {v o : Nat} {S : Nat × Nat × (Nat → Nat)} (hv : v ≤ 1) (h : ∀ i, i < S.1 → S.2.2 i ≤ 1) : ∀ i, i < (fs2 v o S).1 → (fs2 v o S).2.2 i ≤ 1 := by
  unfold fs2
  split
  · intro i hi
    show va_up S.2.2 S.1 v i ≤ 1
    by_cases e : i = S.1
    · rw [e, va_up_self]; exact hv
    · rw [va_up_ne _ _ e]; exact h i (by have hi : i < S.1 + 1 := hi; omega)
  · exact h
theorem mT_b {A : md_S} {fr n : Nat} (hb : ∀ i, i < n → A 3 (3000 * fr + i) ≤ 1) (k : Nat) (hk : 8 + k ≤ n) : ∀ i, i < (mT A fr k).2.1 → (mT A fr k).2.2.2 i ≤ 1 := by
  induction k with
  | zero => intro i hi; exact absurd hi (Nat.not_lt_zero _)
  | succ k ih =>
    have ih := ih (by omega)
    have hv := hb (8 + k) (by omega)
    simp only [mT, fs1]
    split
    · exact ih
    · split
      · split
        · exact ih
        · exact fs2_b hv ih
      · exact fs2_b hv ih
/-- byte j of the plain bits, z of its bits -/
def byt (p : Nat → Nat) (j : Nat) : Nat → Nat
  | 0 => 0
  | z + 1 => byt p j z + p (8 * j + z) * 2 ^ z
def mun (g p : Nat → Nat) : Nat → (Nat → Nat)
  | 0 => g
  | j + 1 => va_up (mun g p j) j (byt p j 8)
theorem byt_lt {p : Nat → Nat} {j : Nat} (h : ∀ i, i < 8 → p (8 * j + i) ≤ 1) (z : Nat) (hz : z ≤ 8) : byt p j z < 2 ^ z := by
  induction z with
  | zero => exact (by decide : 0 < 1)
  | succ z ih =>
    have h1 := ih (by omega)
    have h2 := h z (by omega)
    have h3 : p (8 * j + z) * 2 ^ z ≤ 1 * 2 ^ z := Nat.mul_le_mul_right _ h2
    simp only [byt, Nat.pow_succ]
    omega
theorem mun_lt {g p : Nat → Nat} {n N : Nat} (hg : ∀ i, i < N → g i < 256) (hp : ∀ i, i < 8 * n → p i ≤ 1) (j : Nat) (hj : j ≤ n) : ∀ i, i < N → mun g p j i < 256 := by
  induction j with
  | zero => exact hg
  | succ j ih => exact upN (ih (by omega)) (byt_lt (fun i hi => hp _ (by omega)) 8 (Nat.le_refl 8))
theorem sh_l8 : ∀ z, z < 8 → ((nI z &&& 31).toBitVec.smod 32).toNat = z := by decide +kernel
theorem shl_b {x z : Nat} (hz : z < 8) (hx : x ≤ 1) : nI x <<< (nI z &&& 31) = nI (x * 2 ^ z) := by
  refine pk_shlN _ z (sh_l8 z hz) ?_
  have h1 : 2 ^ z < 2 ^ 8 := Nat.pow_lt_pow_right (by decide) hz
  have h2 : x * 2 ^ z ≤ 1 * 2 ^ z := Nat.mul_le_mul_right _ hx
  omega
/-- the last two faults of a unit U of n bytes -/
def mrt (U : Nat → Nat) (n : Nat) : Nat := if 65535 - cdu U (n - 2) = U (n - 2) + 256 * U (n - 1) then (if U 2 = min (n - 5) 63 then 0 else 5) else 4
def mfT (A : md_S) (fr : Nat) : Nat × Nat × Nat × (Nat → Nat) := mT A fr (A 2 fr - 16)
def mfU (A : md_S) (fr : Nat) : Nat → Nat := mun (A 24) (mfT A fr).2.2.2 ((mfT A fr).2.1 / 8)
abbrev mf1 (A : md_S) (fr : Nat) : Prop := 16 ≤ A 2 fr ∧ ifl A (3000 * fr) 8 = 126 ∧ ifl A (3000 * fr + A 2 fr - 8) 8 = 126
abbrev mf3 (A : md_S) (fr : Nat) : Prop := (mfT A fr).2.1 % 8 = 0 ∧ 40 ≤ (mfT A fr).2.1 ∧ (mfT A fr).2.1 ≤ 2216
/-- the reference's fault, the unit's length and the state behind it -/
def mft (A : md_S) (fr : Nat) : Nat := if mf1 A fr then (if (mfT A fr).1 = 6 then 2 else if mf3 A fr then mrt (mfU A fr) ((mfT A fr).2.1 / 8) else 3) else 1
def mfu (A : md_S) (fr u : Nat) : Nat := if mf1 A fr then (if (mfT A fr).1 = 6 then u else if mf3 A fr then (mfT A fr).2.1 / 8 else u) else u
def mfA (A : md_S) (fr : Nat) : md_S := if mf1 A fr then (if (mfT A fr).1 = 6 then va_up A 26 (mfT A fr).2.2.2 else if mf3 A fr then va_up (va_up A 26 (mfT A fr).2.2.2) 24 (mfU A fr) else va_up A 26 (mfT A fr).2.2.2) else A
theorem mfA_o (A : md_S) (fr : Nat) {j : Nat} (h1 : j ≠ 24) (h2 : j ≠ 26) : mfA A fr j = A j := by
  unfold mfA
  split
  · split
    · rw [va_up_ne _ _ h2]
    · split
      · rw [va_up_ne _ _ h1, va_up_ne _ _ h2]
      · rw [va_up_ne _ _ h2]
  · rfl
end
section
/-! ===== take: the reference's side ===== -/
theorem md_uu {X : md_S} {k i v w : Nat} : md_u (md_u X k i v) k i w = md_u X k i w := by
  unfold md_u
  rw [va_up_self, bx_uu, bx_uu]
theorem md_ui {X : md_S} {k i v : Nat} (h : X k i = v) : X = md_u X k i v := by
  unfold md_u
  refine va_upi ?_
  funext j
  by_cases e : j = i
  · rw [e, va_up_self, h]
  · rw [va_up_ne _ _ e]
theorem md_ua {X : md_S} {k i v j : Nat} (h : j ≠ k) : md_u X k i v j = X j := by
  unfold md_u
  rw [va_up_ne _ _ h]
theorem mfA_24 {A : md_S} {fr : Nat} (hu : ∀ i, i < 280 → A 24 i < 256) (hb : ∀ i, i < A 2 fr → A 3 (3000 * fr + i) ≤ 1) : ∀ i, i < 280 → mfA A fr 24 i < 256 := by
  unfold mfA
  split
  · split
    · rw [va_up_ne _ _ (by decide)]; exact hu
    · split
      · rename_i h1 h6 h3
        rw [va_up_self]
        obtain ⟨h16, _, _⟩ := h1
        exact mun_lt hu (fun i hi => mT_b hb (A 2 fr - 16) (by omega) i (by show i < (mfT A fr).2.1; omega)) _ (Nat.le_refl _)
      · rw [va_up_ne _ _ (by decide)]; exact hu
  · exact hu
theorem mfu_le {A : md_S} {fr u : Nat} (h : u ≤ 277) : mfu A fr u ≤ 277 := by
  unfold mfu
  split
  · split
    · exact h
    · split
      · rename_i h3; obtain ⟨_, _, h2⟩ := h3; omega
      · exact h
  · exact h
/-- the state behind fault and goes -/
def mtk (A : md_S) (ed : Nat) : md_S := md_u (va_up (va_up (mfA A (40 * (1 - ed))) 2 (shf (A 2) (40 * (1 - ed)) (A 1 (1 - ed) - 1))) 3 (mgo (A 2) (A 3) (40 * (1 - ed)) (A 1 (1 - ed) - 1))) 1 (1 - ed) (A 1 (1 - ed) - 1)
theorem mtk_o (A : md_S) (ed : Nat) {j : Nat} (h : j ∉ [1, 2, 3, 24, 26]) : mtk A ed j = A j := by
  simp only [List.mem_cons, List.not_mem_nil, or_false, not_or] at h
  obtain ⟨h1, h2, h3, h4, h5⟩ := h
  unfold mtk
  rw [md_ua h1, va_up_ne _ _ h3, va_up_ne _ _ h2, mfA_o _ _ h4 h5]
theorem mtk_24 (A : md_S) (ed : Nat) : mtk A ed 24 = mfA A (40 * (1 - ed)) 24 := by
  unfold mtk
  rw [md_ua (by decide), va_up_ne _ _ (by decide), va_up_ne _ _ (by decide)]
/-- the number told, one more than it (0: none) -/
def tl (A : md_S) (ed b : Nat) : Nat → Nat
  | 0 => if b = A 8 ed then 1 else 0
  | k + 1 => if A 13 (127 * ed + k) = b then k + 2 else tl A ed b k
theorem tl_le (A : md_S) (ed b k : Nat) : tl A ed b k ≤ k + 1 := by
  induction k with
  | zero => simp only [tl]; split <;> omega
  | succ k ih => simp only [tl]; split <;> omega
def tlv (x : Nat) : Int32 := nI x - nI 1
theorem tlv_n {x : Nat} (h : 1 ≤ x) : tlv x = nI (x - 1) := pk_sub h
theorem tlv_m {x : Nat} (hx : x < 1000) : tlv x = -1 ↔ x = 0 := by
  constructor
  · intro h
    by_cases h0 : x = 0
    · exact h0
    · rw [tlv_n (by omega)] at h
      have h2 := congrArg Int32.toInt h
      rw [nI_toInt (by omega)] at h2
      have h3 : (-1 : Int32).toInt = -1 := by decide
      rw [h3] at h2
      omega
  · intro h
    rw [h]
    decide
theorem ab_shl : ∀ x, x < 8 → nI x <<< (nI 1 &&& 31) = nI (x * 2) := by decide +kernel
theorem ab_or1 : ∀ x, x < 8 → nI (x * 2 % 8) ||| nI 1 = nI (x * 2 % 8 + 1) := by decide +kernel
theorem ab_or0 : ∀ x, x < 8 → nI (x * 2 % 8) ||| nI 0 = nI (x * 2 % 8) := by decide +kernel
/-- k places from b on, t places down -/
def sht (g : Nat → Nat) (b t k : Nat) : Nat → Nat := fun j => if b ≤ j ∧ j < b + k then g (j + t) else g j
theorem sht_0 (g : Nat → Nat) (b t : Nat) : sht g b t 0 = g := by
  funext j
  unfold sht
  rw [if_neg (by omega)]
theorem sht_s (g : Nat → Nat) (b t k : Nat) : va_up (sht g b t k) (b + k) (sht g b t k (b + k + t)) = sht g b t (k + 1) := by
  funext j
  by_cases h : j = b + k
  · rw [h, va_up_self]; unfold sht; rw [if_neg (by omega), if_pos (by omega)]
  · rw [va_up_ne _ _ h]
    unfold sht
    by_cases h2 : b ≤ j ∧ j < b + k
    · rw [if_pos h2, if_pos (by omega)]
    · rw [if_neg h2, if_neg (by omega)]
theorem m3_0 {X : md_S} {f g h : Nat → Nat} {b t : Nat} (h1 : X 13 = f) (h2 : X 14 = g) (h3 : X 15 = h) : X = va_up (va_up (va_up X 13 (sht f b t 0)) 14 (sht g b t 0)) 15 (sht h b t 0) := by
  rw [sht_0, sht_0, sht_0, ← va_upi h1, ← va_upi h2, ← va_upi h3]
theorem m3_s {X : md_S} {f g h : Nat → Nat} {b t k : Nat} : md_u (md_u (md_u (va_up (va_up (va_up X 13 (sht f b t k)) 14 (sht g b t k)) 15 (sht h b t k)) 13 (b + k) (sht f b t k (b + k + t))) 14 (b + k) (sht g b t k (b + k + t))) 15 (b + k) (sht h b t k (b + k + t)) = va_up (va_up (va_up X 13 (sht f b t (k + 1))) 14 (sht g b t (k + 1))) 15 (sht h b t (k + 1)) := by
  have e1 : ∀ (Y : md_S) (p q r p' : Nat → Nat), va_up (va_up (va_up (va_up Y 13 p) 14 q) 15 r) 13 p' = va_up (va_up (va_up Y 13 p') 14 q) 15 r := by
    intro Y p q r p'
    funext j
    by_cases j1 : j = 13
    · subst j1; rfl
    · by_cases j2 : j = 14
      · subst j2; rfl
      · by_cases j3 : j = 15
        · subst j3; rfl
        · simp only [va_up_ne _ _ j1, va_up_ne _ _ j2, va_up_ne _ _ j3]
  have e2 : ∀ (Y : md_S) (p q r q' : Nat → Nat), va_up (va_up (va_up (va_up Y 13 p) 14 q) 15 r) 14 q' = va_up (va_up (va_up Y 13 p) 14 q') 15 r := fun Y p q r q' => va_upc (by decide)
  rw [← sht_s f, ← sht_s g, ← sht_s h]
  unfold md_u
  rw [e1, e2, bx_uu]
  rfl
def fwr (A : md_S) (ed u : Nat) : Nat := if A 24 1 / 128 ≠ A 5 ed ∨ A 24 1 % 128 = A 7 ed then 0 else if 5 < u ∧ A 24 1 % 128 = (A 7 ed + 1) % 128 then 1 else 2
def fwA (A : md_S) (ed u : Nat) : md_S := if A 24 1 / 128 ≠ A 5 ed ∨ A 24 1 % 128 = A 7 ed then A else if 5 < u ∧ A 24 1 % 128 = (A 7 ed + 1) % 128 then md_u (va_up (md_u (md_u A 7 ed (A 24 1 % 128)) 22 (50 * ed + A 21 ed % 50) (u - 5)) 23 (mke (A 23) (A 24) (272 * (50 * ed + A 21 ed % 50)) (u - 5))) 21 ed (A 21 ed + 1) else md_u A 5 ed (1 - A 5 ed)
/-- the state ahead of forwards, a unit taken; t the messages told -/
def mt2 (A : md_S) (ed t : Nat) : md_S := md_u (md_u (md_u (va_up (va_up (va_up (md_u (md_u (md_u (mtk A ed) 18 ed (A 18 ed + 1)) 17 ed (lk (A 17 ed) (A 18 ed))) 19 ed (A 19 ed * 2 % 8)) 13 (sht (A 13) (127 * ed) t (A 12 ed - t))) 14 (sht (A 14) (127 * ed) t (A 12 ed - t))) 15 (sht (A 15) (127 * ed) t (A 12 ed - t))) 12 ed (A 12 ed - t)) 16 ed (A 16 ed - t)) 8 ed (mtk A ed 24 0 % 128)
def mto (A : md_S) (ed t : Nat) : md_S := if mtk A ed 24 0 / 128 = A 4 ed then mt2 A ed t else md_u (md_u (mt2 A ed t) 4 ed (1 - A 4 ed)) 16 ed 0
theorem mt2_24 (A : md_S) (ed t : Nat) : mt2 A ed t 24 = mtk A ed 24 := rfl
theorem mt2_7 (A : md_S) (ed t : Nat) : mt2 A ed t 7 = mtk A ed 7 := rfl
theorem mt2_5 (A : md_S) (ed t : Nat) : mt2 A ed t 5 = mtk A ed 5 := rfl
theorem mt2_21 (A : md_S) (ed t : Nat) : mt2 A ed t 21 = mtk A ed 21 := rfl
theorem mto_o (A : md_S) (ed t : Nat) {j : Nat} (h : j ≠ 4) (h2 : j ≠ 16) : mto A ed t j = mt2 A ed t j := by
  unfold mto
  split
  · rfl
  · rw [md_ua h2, md_ua h]
end
section
/-! ===== constructors: what is new is said with 'there are' ===== -/
def mw_Qn (G : mw_G) (M : mw_M) (sz : Nat) (R : mw_M → Prop) : Array Value → State → Outcome → State → Prop := va_Qv (fun (M' : mw_M) => R M') (fun M' t => mw_end G M M' sz t) (mw_A M sz)
section MWN
variable {p : Program} {l : Launch} {e : Env} {R : Room} {s : State} {m : MethodId} {args : Array Value} {below : List Frame} {meth : Method} {c : Code} {H : Heap} {locs : List Loc} {cells slots : Nat} {Q : State → Prop}
variable {cc : ByteArray} {pc : Nat} {ls : Array Slot} {rest : List Value} {G : mw_G} {A : Nat → Prop} {M : mw_M}
theorem mw_cn {mc ms : Nat} {st0 : List Value} {a9 : Array Value} {P : mw_M → Prop} (hC : mw_C G A s) (hw : mw_St G A s M H locs) (hr : va_Run p l e R s m args below meth c H locs cells slots mc ms (F0 m pc ls st0) rest (mw_Qn G M H.size P a9) (mw_A M H.size))
    (kk : ∀ (M1 : mw_M) (H1 : Heap) (locs1 : List Loc), H.size ≤ H1.size → P M1 → mw_St G A s M1 H1 locs1 → W p l e R s m args below meth c H1 locs1 (cells + mc) (slots + ms) Q (F0 m (pc + 3) ls rest)) : W p l e R s m args below meth c H locs cells slots Q (F0 m pc ls st0) := by
  refine va_callv hr hw.2.2 (fun q _ h => mw_sub hC hw q h) (mw_sub hC hw) (fun M1 t H1 locs1 ht hvm hp hB hz hk hS => ?_)
  exact kk M1 H1 locs1 hz hp ⟨by rw [← ht]; exact hB.1, fun q x hx => mw_sub hC hw q (hB.2 q x hx), hS⟩
theorem mw_nret {M0 : mw_M} {P : mw_M → Prop} (hexec : p.tables.exec = Jvm.exec) (hb : c.code = cc) (hr : meth.sig.returnType = none) (hlocks : meth.locks = false) (hw : mw_St G (mw_A M0 s.heap.size) s M H locs) (hP : P M) (hdg : decode cc pc = .ok (.return_, 1)) :
    W p l e R s m args below meth c H locs cells slots (MQ below (mw_Qn G M0 s.heap.size P) args s cells slots (mw_A M0 s.heap.size)) (F0 m pc ls []) :=
  W.vret hexec hb hr (fun t ht hW => ⟨⟨M, rfl, hP, by rw [ht]; exact hw.1, hw.2.1⟩, hw.2.2.F ht⟩) hw.2.2.2.2 hdg hlocks
end MWN
theorem mw_ha_i (cA : ClassId) (n : Nat) : vp_cell cA (n, .inl (fun _ => 0)) = arrV cA n (fun _ => defaultValue .int) := rfl
theorem mw_ha_b (cA : ClassId) (n : Nat) : vp_cell cA (n, .inl (fun _ => 0)) = arrV cA n (fun _ => defaultValue .byte) := rfl
theorem mw_ha_z (cA : ClassId) (n : Nat) : vp_cell cA (n, .inl (fun _ => 0)) = arrV cA n (fun _ => defaultValue .boolean) := rfl
theorem mw_ha_l (cA : ClassId) (n : Nat) : vp_cell cA (n, .inr (.inl (fun _ => 0))) = arrV cA n (fun _ => defaultValue .long) := rfl
end
section
/-! THE CLAIM OUT OF ONE WALK OF THE LAW'S BODY. Your part is whole_start (and what it stands on); all else here is the same for every law, but numbers. -/
def R_law : String := "LinkPairLaw"
def lw_P (b : Addr) (xs : List Int32) (args : Array Value) (s : State) : Prop := args = #[.ref b] ∧ s.IntsAt b xs ∧ xs.length ≤ 3072 ∧ (Jvm.Cond.and given_1 narrow_1).before args s = true
def lw_Q (_ : Array Value) (s : State) (o : Outcome) (t : State) : Prop := o = .returned (some (.int 1)) ∧ Framed s o t [] 601024 7293034
def lw_Z (below : List Frame) (a : Array Value) (s : State) : State → Prop := fun t => ∃ o, t.status = .running ∧ Ended t below o ∧ lw_Q a s o t
/-- the law's own end, with 1 on the stack, nothing written that was there before, its room as the claim has it -/
theorem lw_ret {p : Program} {l : Launch} {e : Env} {s : State} {m : MethodId} {below : List Frame} {meth : Method} {c : Code} {b : Nat} (hx : p.tables.exec = Jvm.exec) (hb : c.code = code) (hr : meth.sig.returnType = ret) (hlocks : meth.locks = false) {pc : Nat} {H : Heap} {ls : Array Slot} (hdg : decode code pc = .ok (.ireturn, 1)) : W p l e room_1 s m #[Value.ref b] below meth c H [] 601024 7293034 (lw_Z below #[Value.ref b] s) (F0 m pc ls [.int 1]) := by
  intro T hT X
  obtain ⟨fs, hret, hrun, hended, hW, hframe⟩ := X.leave (v := some (.int 1)) (hlocks := hlocks) (fun h => by rw [hr] at h; cases h)
  have hmeth' : T.vm.method? m = some meth := X.method'
  refine ⟨T.setFrames fs, ?_, .returned (some (.int 1)), hrun, hended, rfl, ⟨_, rfl⟩, hW, hframe⟩
  jvm_step X.here [X.here.top, hx, hb, hdg, hmeth', hr, ret, narrow_b1]
  (try refine ⟨rfl, ?_⟩); (try refine ⟨rfl, ?_⟩)
  first | (intro acts; rw [hret _ acts rfl rfl rfl]) | rw [hret _ _ rfl rfl rfl]
  exact Steps.refl _
/-- what holds at the law's entry: the machine, the code, the tables' words (any of lw_tbl by 'hts w (by decide +kernel)'), the script of L ints xs at the cell b, what the Statement gives of the start (any of its parts by flat_of_before) -/
def lw_At (p : Program) (s : State) (m : MethodId) (meth : Method) (c : Code) (b L : Nat) (xs : Nat → Int32) : Prop :=
  p.tables.exec = Jvm.exec ∧ c.code = code ∧ meth.sig.returnType = ret ∧ c.maxLocals = 7 ∧ s.vm.findClass R_law = some m.cls ∧ (∀ w ∈ lw_tbl, w.before #[Value.ref b] s = true) ∧ va_X b L xs s s.heap ∧ b < s.heap.size ∧ meth.locks = false ∧ (Jvm.Cond.and given_1 narrow_1).before #[Value.ref b] s = true
end
section
/-! ===== the words of what the law calls lie in the tables ===== -/
theorem gi_cons {big : List Cond} {w : Cond} {ws : List Cond} (h1 : GoodIn big [w]) (h2 : GoodIn big ws) : GoodIn big (w :: ws) := fun v hv => by
  rcases List.mem_cons.mp hv with h | h
  · exact h1 v (by rw [h]; exact List.mem_cons_self)
  · exact h2 v h
theorem gi_ix {big ws : List Cond} (ps : List Nat) (h : ws = ps.filterMap (fun i => big[i]?)) (hg : ws.all goodWord = true) : GoodIn big ws := fun w hw => ⟨by rw [h] at hw; obtain ⟨i, -, hi⟩ := List.mem_filterMap.mp hw; exact List.mem_of_getElem? hi, good_of_word (List.all_eq_true.mp hg w hw)⟩
theorem gt_wsX6_init_r1 : GoodIn lw_tbl (wsX6_init_r1) := sorry
theorem gt_wsX6_init_r2 : GoodIn lw_tbl (wsX6_init_r2) := sorry
theorem gt_wsX6_init_r3 : GoodIn lw_tbl (wsX6_init_r3) := sorry
theorem gt_wsX00 : GoodIn lw_tbl (wsX00) := sorry
theorem gt_wsX60 : GoodIn lw_tbl (wsX60) := sorry
theorem gt_wsX50 : GoodIn lw_tbl (wsX50) := sorry
theorem gt_wsX20 : GoodIn lw_tbl (wsX20) := sorry
theorem gt_wsX30 : GoodIn lw_tbl (wsX30) := sorry
theorem gt_wsX40 : GoodIn lw_tbl (wsX40) := sorry
theorem gt_wsX10 : GoodIn lw_tbl (wsX10) := sorry
theorem gt_wsX6_init : GoodIn lw_tbl wsX6_init := sorry
theorem gt_wsX7_init_r1 : GoodIn lw_tbl (wsX7_init_r1) := sorry
theorem gt_wsX7_init_r2 : GoodIn lw_tbl (wsX7_init_r2) := sorry
theorem gt_wsX70 : GoodIn lw_tbl (wsX70) := sorry
theorem gt_wsX7_init : GoodIn lw_tbl wsX7_init := sorry
theorem gt_wsL_put_r1 : GoodIn lw_tbl (wsL_put_r1) := sorry
theorem gt_wsL_put_r2 : GoodIn lw_tbl (wsL_put_r2) := sorry
theorem gt_16 : GoodIn lw_tbl ((vx_at0 RX6 29 "java/lang/IllegalArgumentException" ["java/lang/RuntimeException", "java/lang/Exception"]).filter goodWord) := sorry
theorem gt_17 : GoodIn lw_tbl ((vx_at0 RX6 46 "java/lang/IllegalStateException" ["java/lang/RuntimeException", "java/lang/Exception"]).filter goodWord) := sorry
theorem gt_wsL_put : GoodIn lw_tbl wsL_put := sorry
theorem gw_L_put : GoodIn lw_tbl (va_wsS RL 56 yL_put wsL_put) := goodIn_app (goodIn_of _ (by decide +kernel)) gt_wsL_put
theorem gt_18 : GoodIn lw_tbl ([.fieldLink RX7 35 "LinkPairModel" "waits" "[I", .fieldLink RX7 68 "LinkPairModel" "failed" "[Z", .fieldLink RX7 38 "LinkPairModel" "waitLength" "[I", .fieldLink RX7 41 "LinkPairModel" "waitSeed" "[I", .methodLink RX7 107 yX7_isEnd, .static yX7_isEnd, .initialized RX7, .code yX7_isEnd cX7_isEnd 1 (some .boolean), .methodLink RX7 101 yX7_refuses, .instanceMethod yX7_refuses, .selects RX7 yX7_refuses yX7_refuses, .code yX7_refuses cX7_refuses 2 (some .boolean), .fieldLink RX7 91 "LinkPairModel" "code" "I"]) := sorry
theorem gt_wsX7_put : GoodIn lw_tbl wsX7_put := sorry
theorem gw_X7_put : GoodIn lw_tbl (wsV RL 61 RX7 yX7_put wsX7_put) := goodIn_app (goodIn_of _ (by decide +kernel)) gt_wsX7_put
theorem gt_wsL_send_r1 : GoodIn lw_tbl (wsL_send_r1) := sorry
theorem gt_wsL_send_r2 : GoodIn lw_tbl (wsL_send_r2) := sorry
theorem gt_wsL_send_r3 : GoodIn lw_tbl (wsL_send_r3) := sorry
theorem gt_wsL_send_r4 : GoodIn lw_tbl (wsL_send_r4) := sorry
theorem gt_wsL_send_r5 : GoodIn lw_tbl (wsL_send_r5) := sorry
theorem gt_wsL_send_r6 : GoodIn lw_tbl (wsL_send_r6) := sorry
theorem gt_wsL_send : GoodIn lw_tbl wsL_send := sorry
theorem gw_L_send : GoodIn lw_tbl (va_wsS RL 62 yL_send wsL_send) := goodIn_app (goodIn_of _ (by decide +kernel)) gt_wsL_send
theorem gt_wsX7_send_r1 : GoodIn lw_tbl (wsX7_send_r1) := sorry
theorem gt_wsX7_send_r2 : GoodIn lw_tbl (wsX7_send_r2) := sorry
theorem gt_wsX7_send : GoodIn lw_tbl wsX7_send := sorry
theorem gw_X7_send : GoodIn lw_tbl (wsV RL 65 RX7 yX7_send wsX7_send) := goodIn_app (goodIn_of _ (by decide +kernel)) gt_wsX7_send
theorem gt_wsL_take_r1 : GoodIn lw_tbl (wsL_take_r1) := sorry
theorem gt_wsL_take_r2 : GoodIn lw_tbl (wsL_take_r2) := sorry
theorem gt_wsL_take_r3 : GoodIn lw_tbl (wsL_take_r3) := sorry
theorem gt_wsL_take_r4 : GoodIn lw_tbl (wsL_take_r4) := sorry
end
section
/-! ===== words ===== -/
theorem gt_wsL_take_r5 : GoodIn lw_tbl (wsL_take_r5) := sorry
theorem gt_wsL_take_r6 : GoodIn lw_tbl (wsL_take_r6) := sorry
theorem gt_wsL_take_r7 : GoodIn lw_tbl (wsL_take_r7) := sorry
theorem gt_wsL_take : GoodIn lw_tbl wsL_take := sorry
theorem gw_L_take : GoodIn lw_tbl (va_wsS RL 66 yL_take wsL_take) := goodIn_app (goodIn_of _ (by decide +kernel)) gt_wsL_take
theorem gt_wsX7_take_r1 : GoodIn lw_tbl (wsX7_take_r1) := sorry
theorem gt_wsX7_take_r2 : GoodIn lw_tbl (wsX7_take_r2) := sorry
theorem gt_wsX7_take_r3 : GoodIn lw_tbl (wsX7_take_r3) := sorry
theorem gt_wsX7_take : GoodIn lw_tbl wsX7_take := sorry
theorem gw_X7_take : GoodIn lw_tbl (wsV RL 68 RX7 yX7_take wsX7_take) := goodIn_app (goodIn_of _ (by decide +kernel)) gt_wsX7_take
theorem gt_wsL_flip_r1 : GoodIn lw_tbl (wsL_flip_r1) := sorry
theorem gt_wsL_flip_r2 : GoodIn lw_tbl (wsL_flip_r2) := sorry
theorem gt_wsL_flip : GoodIn lw_tbl wsL_flip := sorry
theorem gw_L_flip : GoodIn lw_tbl (va_wsS RL 69 yL_flip wsL_flip) := goodIn_app (goodIn_of _ (by decide +kernel)) gt_wsL_flip
theorem gt_39 : GoodIn lw_tbl ([.fieldLink RX7 13 "LinkPairModel" "lengths" "[I", .fieldLink RX7 17 "LinkPairModel" "bits" "[I", .methodLink RX7 140 yX7_isFrame, .instanceMethod yX7_isFrame, .selects RX7 yX7_isFrame yX7_isFrame, .initialized RX7, .code yX7_isFrame cX7_isFrame 3 (some .boolean), .fieldLink RX7 7 "LinkPairModel" "frames" "[I", .methodLink RX7 107 yX7_isEnd, .static yX7_isEnd, .code yX7_isEnd cX7_isEnd 1 (some .boolean), .methodLink RX7 101 yX7_refuses, .instanceMethod yX7_refuses, .selects RX7 yX7_refuses yX7_refuses, .code yX7_refuses cX7_refuses 2 (some .boolean), .fieldLink RX7 91 "LinkPairModel" "code" "I"]) := sorry
theorem gt_wsX7_flip : GoodIn lw_tbl wsX7_flip := sorry
theorem gw_X7_flip : GoodIn lw_tbl (wsV RL 71 RX7 yX7_flip wsX7_flip) := goodIn_app (goodIn_of _ (by decide +kernel)) gt_wsX7_flip
theorem gt_40 : GoodIn lw_tbl ([.classLink RL 13 "java/lang/IllegalArgumentException", .methodLink RL 27 yX6_drop, .instanceMethod yX6_drop, .selects RX6 yX6_drop yX6_drop, .initialized RX6, .code yX6_drop cX6_drop 4 (some .int), .fieldLink RX6 12 "LinkPair" "ends" "[LLinkPair$End;", .methodLink RX6 92 yX6_frameOf, .instanceMethod yX6_frameOf, .selects RX6 yX6_frameOf yX6_frameOf, .code yX6_frameOf cX6_frameOf 4 (some (.object "LinkPair$Frame")), .classLink RX6 27 "java/lang/IllegalArgumentException", .initialized "java/lang/IllegalArgumentException", .methodLink RX6 23 yX6_endOf, .instanceMethod yX6_endOf, .selects RX6 yX6_endOf yX6_endOf, .code yX6_endOf cX6_endOf 2 (some (.object "LinkPair$End")), .methodLink RX6 84 yX2_lose, .instanceMethod yX2_lose, .selects RX2 yX2_lose yX2_lose, .initialized RX2, .code yX2_lose cX2_lose 4 none, .fieldLink RX2 11 "LinkPair$Line" "frames" "[LLinkPair$Frame;", .fieldLink RX2 18 "LinkPair$Line" "count" "I"]) := sorry
theorem gt_wsL_drop : GoodIn lw_tbl wsL_drop := sorry
theorem gw_L_drop : GoodIn lw_tbl (va_wsS RL 72 yL_drop wsL_drop) := goodIn_app (goodIn_of _ (by decide +kernel)) gt_wsL_drop
theorem gt_41 : GoodIn lw_tbl ([.fieldLink RX7 13 "LinkPairModel" "lengths" "[I", .methodLink RX7 140 yX7_isFrame, .instanceMethod yX7_isFrame, .selects RX7 yX7_isFrame yX7_isFrame, .initialized RX7, .code yX7_isFrame cX7_isFrame 3 (some .boolean), .fieldLink RX7 7 "LinkPairModel" "frames" "[I", .methodLink RX7 107 yX7_isEnd, .static yX7_isEnd, .code yX7_isEnd cX7_isEnd 1 (some .boolean), .methodLink RX7 101 yX7_refuses, .instanceMethod yX7_refuses, .selects RX7 yX7_refuses yX7_refuses, .code yX7_refuses cX7_refuses 2 (some .boolean), .fieldLink RX7 91 "LinkPairModel" "code" "I", .methodLink RX7 134 yX7_goes, .instanceMethod yX7_goes, .selects RX7 yX7_goes yX7_goes, .code yX7_goes cX7_goes 5 none, .fieldLink RX7 17 "LinkPairModel" "bits" "[I"]) := sorry
theorem gt_wsX7_drop : GoodIn lw_tbl wsX7_drop := sorry
theorem gw_X7_drop : GoodIn lw_tbl (wsV RL 75 RX7 yX7_drop wsX7_drop) := goodIn_app (goodIn_of _ (by decide +kernel)) gt_wsX7_drop
theorem gt_wsL_bits_r1 : GoodIn lw_tbl (wsL_bits_r1) := sorry
theorem gt_wsL_bits_r2 : GoodIn lw_tbl (wsL_bits_r2) := sorry
theorem gt_wsL_bits : GoodIn lw_tbl wsL_bits := sorry
theorem gw_L_bits : GoodIn lw_tbl (va_wsS RL 78 yL_bits wsL_bits) := goodIn_app (goodIn_of _ (by decide +kernel)) gt_wsL_bits
theorem gt_44 : GoodIn lw_tbl ([.fieldLink RX7 7 "LinkPairModel" "frames" "[I", .fieldLink RX7 13 "LinkPairModel" "lengths" "[I", .methodLink RX7 107 yX7_isEnd, .static yX7_isEnd, .initialized RX7, .code yX7_isEnd cX7_isEnd 1 (some .boolean), .methodLink RX7 101 yX7_refuses, .instanceMethod yX7_refuses, .selects RX7 yX7_refuses yX7_refuses, .code yX7_refuses cX7_refuses 2 (some .boolean), .fieldLink RX7 91 "LinkPairModel" "code" "I", .methodLink RX7 110 yX7_bit, .instanceMethod yX7_bit, .selects RX7 yX7_bit yX7_bit, .code yX7_bit cX7_bit 4 none, .fieldLink RX7 17 "LinkPairModel" "bits" "[I"]) := sorry
theorem gt_wsX7_bits : GoodIn lw_tbl wsX7_bits := sorry
theorem gw_X7_bits : GoodIn lw_tbl (wsV RL 81 RX7 yX7_bits wsX7_bits) := goodIn_app (goodIn_of _ (by decide +kernel)) gt_wsX7_bits
theorem gt_45 : GoodIn lw_tbl ([.classLink RL 13 "java/lang/IllegalArgumentException", .methodLink RL 35 yX6_bit, .instanceMethod yX6_bit, .selects RX6 yX6_bit yX6_bit, .initialized RX6, .code yX6_bit cX6_bit 5 (some .int), .classLink RX6 27 "java/lang/IllegalArgumentException", .initialized "java/lang/IllegalArgumentException", .methodLink RX6 92 yX6_frameOf, .instanceMethod yX6_frameOf, .selects RX6 yX6_frameOf yX6_frameOf, .code yX6_frameOf cX6_frameOf 4 (some (.object "LinkPair$Frame")), .methodLink RX6 23 yX6_endOf, .instanceMethod yX6_endOf, .selects RX6 yX6_endOf yX6_endOf, .code yX6_endOf cX6_endOf 2 (some (.object "LinkPair$End")), .fieldLink RX6 12 "LinkPair" "ends" "[LLinkPair$End;", .methodLink RX6 104 yX1_valueAt, .instanceMethod yX1_valueAt, .selects RX1 yX1_valueAt yX1_valueAt, .initialized RX1, .code yX1_valueAt cX1_valueAt 2 (some .int), .fieldLink RX1 9 "LinkPair$Frame" "words" "[J"]) := sorry
theorem gt_wsL_bit : GoodIn lw_tbl wsL_bit := sorry
theorem gw_L_bit : GoodIn lw_tbl (va_wsS RL 82 yL_bit wsL_bit) := goodIn_app (goodIn_of _ (by decide +kernel)) gt_wsL_bit
theorem gt_wsX7_bit_ : GoodIn lw_tbl wsX7_bit_ := sorry
theorem gw_X7_bit_ : GoodIn lw_tbl (wsV RL 84 RX7 yX7_bit_ wsX7_bit_) := goodIn_app (goodIn_of _ (by decide +kernel)) gt_wsX7_bit_
theorem gt_wsL_taken_r1 : GoodIn lw_tbl (wsL_taken_r1) := sorry
theorem gt_wsL_taken_r2 : GoodIn lw_tbl (wsL_taken_r2) := sorry
theorem gt_wsL_taken : GoodIn lw_tbl wsL_taken := sorry
theorem gw_L_taken : GoodIn lw_tbl (va_wsS RL 85 yL_taken wsL_taken) := goodIn_app (goodIn_of _ (by decide +kernel)) gt_wsL_taken
theorem gt_48 : GoodIn lw_tbl ([.fieldLink RX7 72 "LinkPairModel" "takenCount" "[I", .fieldLink RX7 75 "LinkPairModel" "takenLength" "[I", .fieldLink RX7 78 "LinkPairModel" "takenBytes" "[I", .methodLink RX7 107 yX7_isEnd, .static yX7_isEnd, .initialized RX7, .code yX7_isEnd cX7_isEnd 1 (some .boolean), .methodLink RX7 101 yX7_refuses, .instanceMethod yX7_refuses, .selects RX7 yX7_refuses yX7_refuses, .code yX7_refuses cX7_refuses 2 (some .boolean), .fieldLink RX7 91 "LinkPairModel" "code" "I"]) := sorry
end
section
/-! ===== words ===== -/
theorem gt_wsX7_taken : GoodIn lw_tbl wsX7_taken := sorry
theorem gw_X7_taken : GoodIn lw_tbl (wsV RL 87 RX7 yX7_taken wsX7_taken) := goodIn_app (goodIn_of _ (by decide +kernel)) gt_wsX7_taken
theorem gt_49 : GoodIn lw_tbl ([.classLink RL 13 "java/lang/IllegalArgumentException", .methodLink RL 41 yX6_check, .instanceMethod yX6_check, .selects RX6 yX6_check yX6_check, .initialized RX6, .code yX6_check cX6_check 6 (some .int), .classLink RX6 27 "java/lang/IllegalArgumentException", .initialized "java/lang/IllegalArgumentException", .constant RX6 128 (65535), .methodLink RX6 129 yX6_restBehind, .static yX6_restBehind, .code yX6_restBehind cX6_restBehind 5 (some .int), .constant RX6 138 (33800)]) := sorry
theorem gt_wsL_check : GoodIn lw_tbl wsL_check := sorry
theorem gw_L_check : GoodIn lw_tbl (va_wsS RL 88 yL_check wsL_check) := goodIn_app (goodIn_of _ (by decide +kernel)) gt_wsL_check
theorem gt_50 : GoodIn lw_tbl ([.constant RX7 96 (65535), .constantLong RX7 105 (255), .methodLink RX7 101 yX7_refuses, .instanceMethod yX7_refuses, .selects RX7 yX7_refuses yX7_refuses, .initialized RX7, .code yX7_refuses cX7_refuses 2 (some .boolean), .fieldLink RX7 91 "LinkPairModel" "code" "I", .methodLink RX7 97 yX7_checked, .static yX7_checked, .code yX7_checked cX7_checked 4 (some .int), .constant RX7 95 (33800)]) := sorry
theorem gt_wsX7_check : GoodIn lw_tbl wsX7_check := sorry
theorem gw_X7_check : GoodIn lw_tbl (wsV RL 91 RX7 yX7_check wsX7_check) := goodIn_app (goodIn_of _ (by decide +kernel)) gt_wsX7_check
theorem gt_51 : GoodIn lw_tbl ([.fieldLink RX7 91 "LinkPairModel" "code" "I"]) := sorry
theorem gt_wsX7_thrown : GoodIn lw_tbl wsX7_thrown := sorry
theorem gw_X7_thrown : GoodIn lw_tbl (wsV RL 92 RX7 yX7_thrown wsX7_thrown) := goodIn_app (goodIn_of _ (by decide +kernel)) gt_wsX7_thrown
theorem gt_wsL_about_r1 : GoodIn lw_tbl (wsL_about_r1) := sorry
theorem gt_wsL_about_r2 : GoodIn lw_tbl (wsL_about_r2) := sorry
theorem gt_wsL_about : GoodIn lw_tbl wsL_about := sorry
theorem gw_L_about : GoodIn lw_tbl (va_wsS RL 96 yL_about wsL_about) := goodIn_app (goodIn_of _ (by decide +kernel)) gt_wsL_about
theorem gt_54 : GoodIn lw_tbl ([.fieldLink RX7 20 "LinkPairModel" "fib" "[I", .fieldLink RX7 23 "LinkPairModel" "bib" "[I", .fieldLink RX7 26 "LinkPairModel" "sentLatest" "[I", .fieldLink RX7 29 "LinkPairModel" "takenLatest" "[I", .fieldLink RX7 35 "LinkPairModel" "waits" "[I", .fieldLink RX7 44 "LinkPairModel" "open" "[I", .fieldLink RX7 56 "LinkPairModel" "again" "[I", .fieldLink RX7 72 "LinkPairModel" "takenCount" "[I", .fieldLink RX7 7 "LinkPairModel" "frames" "[I", .fieldLink RX7 59 "LinkPairModel" "errors" "[I", .fieldLink RX7 62 "LinkPairModel" "units" "[I", .fieldLink RX7 68 "LinkPairModel" "failed" "[Z", .methodLink RX7 107 yX7_isEnd, .static yX7_isEnd, .initialized RX7, .code yX7_isEnd cX7_isEnd 1 (some .boolean), .methodLink RX7 101 yX7_refuses, .instanceMethod yX7_refuses, .selects RX7 yX7_refuses yX7_refuses, .code yX7_refuses cX7_refuses 2 (some .boolean), .fieldLink RX7 91 "LinkPairModel" "code" "I"]) := sorry
theorem gt_wsX7_about : GoodIn lw_tbl wsX7_about := sorry
theorem gw_X7_about : GoodIn lw_tbl (wsV RL 98 RX7 yX7_about wsX7_about) := goodIn_app (goodIn_of _ (by decide +kernel)) gt_wsX7_about
theorem gt_wsL_restart_r1 : GoodIn lw_tbl (wsL_restart_r1) := sorry
theorem gt_wsL_restart_r2 : GoodIn lw_tbl (wsL_restart_r2) := sorry
theorem gt_wsL_restart : GoodIn lw_tbl wsL_restart := sorry
theorem gw_L_restart : GoodIn lw_tbl (va_wsS RL 99 yL_restart wsL_restart) := goodIn_app (goodIn_of _ (by decide +kernel)) gt_wsL_restart
theorem gt_wsX7_restart_r1 : GoodIn lw_tbl (wsX7_restart_r1) := sorry
theorem gt_wsX7_restart_r2 : GoodIn lw_tbl (wsX7_restart_r2) := sorry
theorem gt_wsX7_restart : GoodIn lw_tbl wsX7_restart := sorry
theorem gw_X7_restart : GoodIn lw_tbl (wsV RL 102 RX7 yX7_restart wsX7_restart) := goodIn_app (goodIn_of _ (by decide +kernel)) gt_wsX7_restart
end
section
/-! ===== the law's pieces ===== -/
def lw_A (s : State) : Nat → Prop := fun q => s.heap.size ≤ q
def lw_w (xs : Nat → Int32) (j : Nat) : Int64 := ((xs j).toInt64 <<< ((nI 32).toInt64 &&& 63)) ||| ((xs (j + 1)).toInt64 &&& 4294967295)
theorem mw_sld {p : Program} {l : Launch} {e : Env} {R : Room} {s : State} {m : MethodId} {args : Array Value} {below : List Frame} {meth : Method} {c : Code} {H : Heap} {locs : List Loc} {cells slots : Nat} {Q : State → Prop} {cc : ByteArray} {pc : Nat} {ls : Array Slot} {rest : List Value} {G : mw_G} {A : Nat → Prop} {M : mw_M} (hexec : p.tables.exec = Jvm.exec) (hb : c.code = cc) {b L : Nat} {xs : Nat → Int32} (hX : va_X b L xs s s.heap) (hbl : b < s.heap.size) (hbA : ¬ A b) (hw : mw_St G A s M H locs) {i : Nat} (hi : i < L) (hL : L < 2 ^ 31) (hdg : decode cc pc = .ok (.iaload, 1))
    (kk : W p l e R s m args below meth c H locs cells slots Q (F0 m (pc + 1) ls (.int (xs i) :: rest))) : W p l e R s m args below meth c H locs cells slots Q (F0 m pc ls (.int (nI i) :: .ref b :: rest)) := by
  refine va_sld hexec hb hX hbl hbA hw.2.2 (vp_in_nI hi hL) hdg ?_
  rw [nI_clamp (by omega)]
  exact kk
set_option maxHeartbeats 4000000 in
set_option maxRecDepth 100000 in
theorem lp_put {p : Program} {e : Env} {s : State} {m : MethodId} {below : List Frame} {meth : Method} {c : Code} (l : Launch) {b L : Nat} {xs : Nat → Int32} {G : mw_G} {Q : State → Prop} (C0 : lw_At p s m meth c b L xs) (hL : L ≤ 4096) (hC : mw_C G (lw_A s) s) {i : Nat} (hi : i + 6 ≤ L) {cl sl : Nat} (hcl : cl + 1 ≤ 601024) (hsl : sl + 6 ≤ 7293034) {x mh o : Nat} {M M1 : mw_M} {H : Heap} {locs : List Loc} {ls : Array Slot} (hw : mw_St G (lw_A s) s M H locs) (hl : lv_has ls 7 [(0, .ref (b)), (1, .ref (x)), (2, .ref (mh)), (3, .ref (o)), (4, .int (nI (i)))])
    {rmh : Room} {mc ms k : Nat} (hrc : rmh.cells = mc) (hrs : rmh.slots = ms) (hF : rmh.frames ≤ 10) (hLo : rmh.locals ≤ 245) (hmc : mc ≤ 1) (hms : ms ≤ 6) (hk : k ≤ 2) (hc : ∀ sz, Met l yL_put wsL_put rmh (mw_pre G M sz [.ref (x), .int (xs (i + 1)), .int (xs (i + 2)), .int (xs (i + 3)), .ref (o)]) (mw_Qi G M sz (nI (k)) M1) mc ms (mw_A M sz))
    {a : Nat → Nat} {c1 u1 u2 : Nat} {A1 A2 : md_S} (hmd : md_at G M1 mh a c1 u1 A1) {r : Int32} {k2 : Nat} {rm2 : Room} (hrc2 : rm2.cells = 0) (hrs2 : rm2.slots = 0) (hF2 : rm2.frames ≤ 10) (hLo2 : rm2.locals ≤ 245) (hm : ∀ sz, Met l yX7_put wsX7_put rm2 (mw_pre G M1 sz [.ref (mh), .int (xs (i + 1)), .int (xs (i + 2)), .int (xs (i + 3))]) (md_Qi G M1 sz mh a r k2 u2 A2) 0 0 (mw_A M1 sz))
    (kk : ∀ (M2 : mw_M) (H : Heap) (locs : List Loc) (ls : Array Slot), md_at G M2 mh a k2 u2 A2 → md_fr mh a M1 M2 → mw_St G (lw_A s) s M2 H locs → lv_has ls 7 [(0, .ref (b)), (1, .ref (x)), (2, .ref (mh)), (3, .ref (o)), (4, .int (nI (i)))] → W p l e room_1 s m #[Value.ref b] below meth c H locs (cl + 1) (sl + 6) Q (F0 m 681 ls [])) : W p l e room_1 s m #[Value.ref b] below meth c H locs cl sl Q (F0 m 100 ls []) := by
  obtain ⟨hx, hb, hr, hml, hown, hts, hX, hbl, hlocks, hgv⟩ := C0
  have hbA : ¬ lw_A s b := Nat.not_le.mpr hbl
  refine lv_aload_n hx hb dL_law_100 rfl (lv_at hl 1 rfl) ?_
  refine lv_aload_n hx hb dL_law_101 rfl (lv_at hl 0 rfl) ?_
  refine lv_iload hx hb dL_law_102 (lv_at hl 4 rfl) ?_
  refine lv_iconst (v := nI 1) hx hb dL_law_104 (by decide) ?_
  refine lv_iadd hx hb dL_law_105 ?_
  refine mw_ti (v' := nI (i + 1)) (nI_add _ _) ?_
  refine mw_sld hx hb hX hbl hbA hw (i := i + 1) (by omega) (by omega) dL_law_106 ?_
  refine lv_aload_n hx hb dL_law_107 rfl (lv_at hl 0 rfl) ?_
  refine lv_iload hx hb dL_law_108 (lv_at hl 4 rfl) ?_
  refine lv_iconst (v := nI 2) hx hb dL_law_110 (by decide) ?_
  refine lv_iadd hx hb dL_law_111 ?_
  refine mw_ti (v' := nI (i + 2)) (nI_add _ _) ?_
  refine mw_sld hx hb hX hbl hbA hw (i := i + 2) (by omega) (by omega) dL_law_112 ?_
  refine lv_aload_n hx hb dL_law_113 rfl (lv_at hl 0 rfl) ?_
  refine lv_iload hx hb dL_law_114 (lv_at hl 4 rfl) ?_
  refine lv_iconst (v := nI 3) hx hb dL_law_116 (by decide) ?_
  refine lv_iadd hx hb dL_law_117 ?_
  refine mw_ti (v' := nI (i + 3)) (nI_add _ _) ?_
  refine mw_sld hx hb hX hbl hbA hw (i := i + 3) (by omega) (by omega) dL_law_118 ?_
  refine lv_aload_n hx hb dL_law_119 rfl (lv_at hl 3 rfl) ?_
  refine mw_ci hC hw (vx_runSW (As := [.ref (x), .int (xs (i + 1)), .int (xs (i + 2)), .int (xs (i + 3)), .ref (o)]) (rest := []) ⟨hx, hb, hml, hown, hts⟩ (hc H.size) (vx_cwSW 5 hts gw_L_put rfl hrc hrs (by decide +kernel) ⟨show rmh.frames + 1 ≤ 12 by omega, show 8 + (6 + 11) + rmh.locals ≤ 428 by omega⟩) (mw_preS hC hw) rfl rfl hl.1 rfl (lv_room (Nat.le_of_ble_eq_true rfl)) dL_law_120 ⟨show cl + mc ≤ 601024 by omega, show sl + ms ≤ 7293034 by omega⟩) (fun H locs hz9 hw => ?_)
  refine lv_istore (lv' := [(5, .int (nI (k))), (0, .ref (b)), (1, .ref (x)), (2, .ref (mh)), (3, .ref (o)), (4, .int (nI (i)))]) hx hb dL_law_123 hl (by decide) rfl (fun ls hl => ?_)
  refine lv_aload_n hx hb dL_law_125 rfl (lv_at hl 3 rfl) ?_
  refine lv_aload_n hx hb dL_law_126 rfl (lv_at hl 1 rfl) ?_
  refine lv_iload hx hb dL_law_127 (lv_at hl 5 rfl) ?_
  refine lv_iconst (v := nI 1) hx hb dL_law_129 (by decide) ?_
  refine lv_iadd hx hb dL_law_130 ?_
  refine mw_ti (v' := nI (i + 1)) (nI_add _ _) ?_
  refine mw_sld hx hb hX hbl hbA hw (i := i + 1) (by omega) (by omega) dL_law_131 ?_
  refine lv_aload_n hx hb dL_law_132 rfl (lv_at hl 1 rfl) ?_
  refine lv_iload hx hb dL_law_133 (lv_at hl 5 rfl) ?_
  refine lv_iconst (v := nI 2) hx hb dL_law_135 (by decide) ?_
  refine lv_iadd hx hb dL_law_136 ?_
  refine mw_ti (v' := nI (i + 2)) (nI_add _ _) ?_
  refine mw_sld hx hb hX hbl hbA hw (i := i + 2) (by omega) (by omega) dL_law_137 ?_
  refine lv_aload_n hx hb dL_law_138 rfl (lv_at hl 1 rfl) ?_
  refine lv_iload hx hb dL_law_139 (lv_at hl 5 rfl) ?_
  refine lv_iconst (v := nI 3) hx hb dL_law_141 (by decide) ?_
  refine lv_iadd hx hb dL_law_142 ?_
  refine mw_ti (v' := nI (i + 3)) (nI_add _ _) ?_
  refine mw_sld hx hb hX hbl hbA hw (i := i + 3) (by omega) (by omega) dL_law_143 ?_
  refine md_ci hC hw (va_runV (As := [.int (xs (i + 1)), .int (xs (i + 2)), .int (xs (i + 3))]) (rest := []) ⟨hx, hb, hml, hown, hts⟩ (hm H.size) (cwV 3 hts gw_X7_put rfl hrc2 hrs2 (by decide +kernel) ⟨show rm2.frames + 1 ≤ 12 by omega, show 8 + (5 + 11) + rm2.locals ≤ 428 by omega⟩) (mw_preV (ci := 7) hC hw rfl hmd.1) rfl rfl hl.1 rfl (lv_room (Nat.le_of_ble_eq_true rfl)) dL_law_144 ⟨show cl + mc + 0 ≤ 601024 by omega, show sl + ms + 0 ≤ 7293034 by omega⟩) (fun M2 H locs hm2 hf2 hw => ?_)
  refine lv_istore (lv' := [(6, .int (r)), (5, .int (nI (k))), (0, .ref (b)), (1, .ref (x)), (2, .ref (mh)), (3, .ref (o)), (4, .int (nI (i)))]) hx hb dL_law_147 hl (by decide) rfl (fun ls hl => ?_)
  refine lv_goto (tgt := 681) hx hb dL_law_149 (by decide) ?_
  refine W.widen (k := cl + 1) (n := sl + 6) (show cl + mc + 0 ≤ cl + 1 by omega) (show sl + ms + 0 ≤ sl + 6 by omega) ?_
  exact kk M2 H locs ls hm2 hf2 hw (lv_sub hl [2, 3, 4, 5, 6] rfl)
set_option maxHeartbeats 4000000 in
set_option maxRecDepth 100000 in
theorem lp_send {p : Program} {e : Env} {s : State} {m : MethodId} {below : List Frame} {meth : Method} {c : Code} (l : Launch) {b L : Nat} {xs : Nat → Int32} {G : mw_G} {Q : State → Prop} (C0 : lw_At p s m meth c b L xs) (hL : L ≤ 4096) (hC : mw_C G (lw_A s) s) {i : Nat} (hi : i + 6 ≤ L) {cl sl : Nat} (hcl : cl + 1 ≤ 601024) (hsl : sl + 6 ≤ 7293034) {x mh o : Nat} {M M1 : mw_M} {H : Heap} {locs : List Loc} {ls : Array Slot} (hw : mw_St G (lw_A s) s M H locs) (hl : lv_has ls 7 [(0, .ref (b)), (1, .ref (x)), (2, .ref (mh)), (3, .ref (o)), (4, .int (nI (i)))])
    {rmh : Room} {mc ms k : Nat} (hrc : rmh.cells = mc) (hrs : rmh.slots = ms) (hF : rmh.frames ≤ 10) (hLo : rmh.locals ≤ 245) (hmc : mc ≤ 1) (hms : ms ≤ 6) (hk : k ≤ 2) (hc : ∀ sz, Met l yL_send wsL_send rmh (mw_pre G M sz [.ref (x), .int (xs (i + 1)), .ref (o)]) (mw_Qi G M sz (nI (k)) M1) mc ms (mw_A M sz))
    {a : Nat → Nat} {c1 u1 u2 : Nat} {A1 A2 : md_S} (hmd : md_at G M1 mh a c1 u1 A1) {r : Int32} {k2 : Nat} {rm2 : Room} (hrc2 : rm2.cells = 0) (hrs2 : rm2.slots = 0) (hF2 : rm2.frames ≤ 10) (hLo2 : rm2.locals ≤ 245) (hm : ∀ sz, Met l yX7_send wsX7_send rm2 (mw_pre G M1 sz [.ref (mh), .int (xs (i + 1))]) (md_Qi G M1 sz mh a r k2 u2 A2) 0 0 (mw_A M1 sz))
    (kk : ∀ (M2 : mw_M) (H : Heap) (locs : List Loc) (ls : Array Slot), md_at G M2 mh a k2 u2 A2 → md_fr mh a M1 M2 → mw_St G (lw_A s) s M2 H locs → lv_has ls 7 [(0, .ref (b)), (1, .ref (x)), (2, .ref (mh)), (3, .ref (o)), (4, .int (nI (i)))] → W p l e room_1 s m #[Value.ref b] below meth c H locs (cl + 1) (sl + 6) Q (F0 m 681 ls [])) : W p l e room_1 s m #[Value.ref b] below meth c H locs cl sl Q (F0 m 152 ls []) := by
  obtain ⟨hx, hb, hr, hml, hown, hts, hX, hbl, hlocks, hgv⟩ := C0
  have hbA : ¬ lw_A s b := Nat.not_le.mpr hbl
  refine lv_aload_n hx hb dL_law_152 rfl (lv_at hl 1 rfl) ?_
  refine lv_aload_n hx hb dL_law_153 rfl (lv_at hl 0 rfl) ?_
  refine lv_iload hx hb dL_law_154 (lv_at hl 4 rfl) ?_
  refine lv_iconst (v := nI 1) hx hb dL_law_156 (by decide) ?_
  refine lv_iadd hx hb dL_law_157 ?_
  refine mw_ti (v' := nI (i + 1)) (nI_add _ _) ?_
  refine mw_sld hx hb hX hbl hbA hw (i := i + 1) (by omega) (by omega) dL_law_158 ?_
  refine lv_aload_n hx hb dL_law_159 rfl (lv_at hl 3 rfl) ?_
  refine mw_ci hC hw (vx_runSW (As := [.ref (x), .int (xs (i + 1)), .ref (o)]) (rest := []) ⟨hx, hb, hml, hown, hts⟩ (hc H.size) (vx_cwSW 3 hts gw_L_send rfl hrc hrs (by decide +kernel) ⟨show rmh.frames + 1 ≤ 12 by omega, show 8 + (4 + 11) + rmh.locals ≤ 428 by omega⟩) (mw_preS hC hw) rfl rfl hl.1 rfl (lv_room (Nat.le_of_ble_eq_true rfl)) dL_law_160 ⟨show cl + mc ≤ 601024 by omega, show sl + ms ≤ 7293034 by omega⟩) (fun H locs hz9 hw => ?_)
  refine lv_istore (lv' := [(5, .int (nI (k))), (0, .ref (b)), (1, .ref (x)), (2, .ref (mh)), (3, .ref (o)), (4, .int (nI (i)))]) hx hb dL_law_163 hl (by decide) rfl (fun ls hl => ?_)
  refine lv_aload_n hx hb dL_law_165 rfl (lv_at hl 3 rfl) ?_
  refine lv_aload_n hx hb dL_law_166 rfl (lv_at hl 1 rfl) ?_
  refine lv_iload hx hb dL_law_167 (lv_at hl 5 rfl) ?_
  refine lv_iconst (v := nI 1) hx hb dL_law_169 (by decide) ?_
  refine lv_iadd hx hb dL_law_170 ?_
  refine mw_ti (v' := nI (i + 1)) (nI_add _ _) ?_
  refine mw_sld hx hb hX hbl hbA hw (i := i + 1) (by omega) (by omega) dL_law_171 ?_
  refine md_ci hC hw (va_runV (As := [.int (xs (i + 1))]) (rest := []) ⟨hx, hb, hml, hown, hts⟩ (hm H.size) (cwV 1 hts gw_X7_send rfl hrc2 hrs2 (by decide +kernel) ⟨show rm2.frames + 1 ≤ 12 by omega, show 8 + (5 + 11) + rm2.locals ≤ 428 by omega⟩) (mw_preV (ci := 7) hC hw rfl hmd.1) rfl rfl hl.1 rfl (lv_room (Nat.le_of_ble_eq_true rfl)) dL_law_172 ⟨show cl + mc + 0 ≤ 601024 by omega, show sl + ms + 0 ≤ 7293034 by omega⟩) (fun M2 H locs hm2 hf2 hw => ?_)
  refine lv_istore (lv' := [(6, .int (r)), (5, .int (nI (k))), (0, .ref (b)), (1, .ref (x)), (2, .ref (mh)), (3, .ref (o)), (4, .int (nI (i)))]) hx hb dL_law_175 hl (by decide) rfl (fun ls hl => ?_)
  refine lv_goto (tgt := 681) hx hb dL_law_177 (by decide) ?_
  refine W.widen (k := cl + 1) (n := sl + 6) (show cl + mc + 0 ≤ cl + 1 by omega) (show sl + ms + 0 ≤ sl + 6 by omega) ?_
  exact kk M2 H locs ls hm2 hf2 hw (lv_sub hl [2, 3, 4, 5, 6] rfl)
set_option maxHeartbeats 4000000 in
set_option maxRecDepth 100000 in
theorem lp_take {p : Program} {e : Env} {s : State} {m : MethodId} {below : List Frame} {meth : Method} {c : Code} (l : Launch) {b L : Nat} {xs : Nat → Int32} {G : mw_G} {Q : State → Prop} (C0 : lw_At p s m meth c b L xs) (hL : L ≤ 4096) (hC : mw_C G (lw_A s) s) {i : Nat} (hi : i + 6 ≤ L) {cl sl : Nat} (hcl : cl + 1 ≤ 601024) (hsl : sl + 6 ≤ 7293034) {x mh o : Nat} {M M1 : mw_M} {H : Heap} {locs : List Loc} {ls : Array Slot} (hw : mw_St G (lw_A s) s M H locs) (hl : lv_has ls 7 [(0, .ref (b)), (1, .ref (x)), (2, .ref (mh)), (3, .ref (o)), (4, .int (nI (i)))])
    {rmh : Room} {mc ms k : Nat} (hrc : rmh.cells = mc) (hrs : rmh.slots = ms) (hF : rmh.frames ≤ 10) (hLo : rmh.locals ≤ 245) (hmc : mc ≤ 1) (hms : ms ≤ 6) (hk : k ≤ 2) (hc : ∀ sz, Met l yL_take wsL_take rmh (mw_pre G M sz [.ref (x), .int (xs (i + 1)), .ref (o)]) (mw_Qi G M sz (nI (k)) M1) mc ms (mw_A M sz))
    {a : Nat → Nat} {c1 u1 u2 : Nat} {A1 A2 : md_S} (hmd : md_at G M1 mh a c1 u1 A1) {r : Int32} {k2 : Nat} {rm2 : Room} (hrc2 : rm2.cells = 0) (hrs2 : rm2.slots = 0) (hF2 : rm2.frames ≤ 10) (hLo2 : rm2.locals ≤ 245) (hm : ∀ sz, Met l yX7_take wsX7_take rm2 (mw_pre G M1 sz [.ref (mh), .int (xs (i + 1))]) (md_Qi G M1 sz mh a r k2 u2 A2) 0 0 (mw_A M1 sz))
    (kk : ∀ (M2 : mw_M) (H : Heap) (locs : List Loc) (ls : Array Slot), md_at G M2 mh a k2 u2 A2 → md_fr mh a M1 M2 → mw_St G (lw_A s) s M2 H locs → lv_has ls 7 [(0, .ref (b)), (1, .ref (x)), (2, .ref (mh)), (3, .ref (o)), (4, .int (nI (i)))] → W p l e room_1 s m #[Value.ref b] below meth c H locs (cl + 1) (sl + 6) Q (F0 m 681 ls [])) : W p l e room_1 s m #[Value.ref b] below meth c H locs cl sl Q (F0 m 180 ls []) := by
  obtain ⟨hx, hb, hr, hml, hown, hts, hX, hbl, hlocks, hgv⟩ := C0
  have hbA : ¬ lw_A s b := Nat.not_le.mpr hbl
  refine lv_aload_n hx hb dL_law_180 rfl (lv_at hl 1 rfl) ?_
  refine lv_aload_n hx hb dL_law_181 rfl (lv_at hl 0 rfl) ?_
  refine lv_iload hx hb dL_law_182 (lv_at hl 4 rfl) ?_
  refine lv_iconst (v := nI 1) hx hb dL_law_184 (by decide) ?_
  refine lv_iadd hx hb dL_law_185 ?_
  refine mw_ti (v' := nI (i + 1)) (nI_add _ _) ?_
  refine mw_sld hx hb hX hbl hbA hw (i := i + 1) (by omega) (by omega) dL_law_186 ?_
  refine lv_aload_n hx hb dL_law_187 rfl (lv_at hl 3 rfl) ?_
  refine mw_ci hC hw (vx_runSW (As := [.ref (x), .int (xs (i + 1)), .ref (o)]) (rest := []) ⟨hx, hb, hml, hown, hts⟩ (hc H.size) (vx_cwSW 3 hts gw_L_take rfl hrc hrs (by decide +kernel) ⟨show rmh.frames + 1 ≤ 12 by omega, show 8 + (4 + 11) + rmh.locals ≤ 428 by omega⟩) (mw_preS hC hw) rfl rfl hl.1 rfl (lv_room (Nat.le_of_ble_eq_true rfl)) dL_law_188 ⟨show cl + mc ≤ 601024 by omega, show sl + ms ≤ 7293034 by omega⟩) (fun H locs hz9 hw => ?_)
  refine lv_istore (lv' := [(5, .int (nI (k))), (0, .ref (b)), (1, .ref (x)), (2, .ref (mh)), (3, .ref (o)), (4, .int (nI (i)))]) hx hb dL_law_191 hl (by decide) rfl (fun ls hl => ?_)
  refine lv_aload_n hx hb dL_law_193 rfl (lv_at hl 3 rfl) ?_
  refine lv_aload_n hx hb dL_law_194 rfl (lv_at hl 1 rfl) ?_
  refine lv_iload hx hb dL_law_195 (lv_at hl 5 rfl) ?_
  refine lv_iconst (v := nI 1) hx hb dL_law_197 (by decide) ?_
  refine lv_iadd hx hb dL_law_198 ?_
  refine mw_ti (v' := nI (i + 1)) (nI_add _ _) ?_
  refine mw_sld hx hb hX hbl hbA hw (i := i + 1) (by omega) (by omega) dL_law_199 ?_
  refine md_ci hC hw (va_runV (As := [.int (xs (i + 1))]) (rest := []) ⟨hx, hb, hml, hown, hts⟩ (hm H.size) (cwV 1 hts gw_X7_take rfl hrc2 hrs2 (by decide +kernel) ⟨show rm2.frames + 1 ≤ 12 by omega, show 8 + (6 + 11) + rm2.locals ≤ 428 by omega⟩) (mw_preV (ci := 7) hC hw rfl hmd.1) rfl rfl hl.1 rfl (lv_room (Nat.le_of_ble_eq_true rfl)) dL_law_200 ⟨show cl + mc + 0 ≤ 601024 by omega, show sl + ms + 0 ≤ 7293034 by omega⟩) (fun M2 H locs hm2 hf2 hw => ?_)
  refine lv_istore (lv' := [(6, .int (r)), (5, .int (nI (k))), (0, .ref (b)), (1, .ref (x)), (2, .ref (mh)), (3, .ref (o)), (4, .int (nI (i)))]) hx hb dL_law_203 hl (by decide) rfl (fun ls hl => ?_)
  refine lv_goto (tgt := 681) hx hb dL_law_205 (by decide) ?_
  refine W.widen (k := cl + 1) (n := sl + 6) (show cl + mc + 0 ≤ cl + 1 by omega) (show sl + ms + 0 ≤ sl + 6 by omega) ?_
  exact kk M2 H locs ls hm2 hf2 hw (lv_sub hl [2, 3, 4, 5, 6] rfl)
set_option maxHeartbeats 4000000 in
set_option maxRecDepth 100000 in
theorem lp_flip {p : Program} {e : Env} {s : State} {m : MethodId} {below : List Frame} {meth : Method} {c : Code} (l : Launch) {b L : Nat} {xs : Nat → Int32} {G : mw_G} {Q : State → Prop} (C0 : lw_At p s m meth c b L xs) (hL : L ≤ 4096) (hC : mw_C G (lw_A s) s) {i : Nat} (hi : i + 6 ≤ L) {cl sl : Nat} (hcl : cl + 1 ≤ 601024) (hsl : sl + 6 ≤ 7293034) {x mh o : Nat} {M M1 : mw_M} {H : Heap} {locs : List Loc} {ls : Array Slot} (hw : mw_St G (lw_A s) s M H locs) (hl : lv_has ls 7 [(0, .ref (b)), (1, .ref (x)), (2, .ref (mh)), (3, .ref (o)), (4, .int (nI (i)))])
    {rmh : Room} {mc ms k : Nat} (hrc : rmh.cells = mc) (hrs : rmh.slots = ms) (hF : rmh.frames ≤ 10) (hLo : rmh.locals ≤ 245) (hmc : mc ≤ 1) (hms : ms ≤ 6) (hk : k ≤ 2) (hc : ∀ sz, Met l yL_flip wsL_flip rmh (mw_pre G M sz [.ref (x), .int (xs (i + 1)), .int (xs (i + 2)), .int (xs (i + 3)), .ref (o)]) (mw_Qi G M sz (nI (k)) M1) mc ms (mw_A M sz))
    {a : Nat → Nat} {c1 u1 u2 : Nat} {A1 A2 : md_S} (hmd : md_at G M1 mh a c1 u1 A1) {r : Int32} {k2 : Nat} {rm2 : Room} (hrc2 : rm2.cells = 0) (hrs2 : rm2.slots = 0) (hF2 : rm2.frames ≤ 10) (hLo2 : rm2.locals ≤ 245) (hm : ∀ sz, Met l yX7_flip wsX7_flip rm2 (mw_pre G M1 sz [.ref (mh), .int (xs (i + 1)), .int (xs (i + 2)), .int (xs (i + 3))]) (md_Qi G M1 sz mh a r k2 u2 A2) 0 0 (mw_A M1 sz))
    (kk : ∀ (M2 : mw_M) (H : Heap) (locs : List Loc) (ls : Array Slot), md_at G M2 mh a k2 u2 A2 → md_fr mh a M1 M2 → mw_St G (lw_A s) s M2 H locs → lv_has ls 7 [(0, .ref (b)), (1, .ref (x)), (2, .ref (mh)), (3, .ref (o)), (4, .int (nI (i)))] → W p l e room_1 s m #[Value.ref b] below meth c H locs (cl + 1) (sl + 6) Q (F0 m 681 ls [])) : W p l e room_1 s m #[Value.ref b] below meth c H locs cl sl Q (F0 m 208 ls []) := by
  obtain ⟨hx, hb, hr, hml, hown, hts, hX, hbl, hlocks, hgv⟩ := C0
  have hbA : ¬ lw_A s b := Nat.not_le.mpr hbl
  refine lv_aload_n hx hb dL_law_208 rfl (lv_at hl 1 rfl) ?_
  refine lv_aload_n hx hb dL_law_209 rfl (lv_at hl 0 rfl) ?_
  refine lv_iload hx hb dL_law_210 (lv_at hl 4 rfl) ?_
  refine lv_iconst (v := nI 1) hx hb dL_law_212 (by decide) ?_
  refine lv_iadd hx hb dL_law_213 ?_
  refine mw_ti (v' := nI (i + 1)) (nI_add _ _) ?_
  refine mw_sld hx hb hX hbl hbA hw (i := i + 1) (by omega) (by omega) dL_law_214 ?_
  refine lv_aload_n hx hb dL_law_215 rfl (lv_at hl 0 rfl) ?_
  refine lv_iload hx hb dL_law_216 (lv_at hl 4 rfl) ?_
  refine lv_iconst (v := nI 2) hx hb dL_law_218 (by decide) ?_
  refine lv_iadd hx hb dL_law_219 ?_
  refine mw_ti (v' := nI (i + 2)) (nI_add _ _) ?_
  refine mw_sld hx hb hX hbl hbA hw (i := i + 2) (by omega) (by omega) dL_law_220 ?_
  refine lv_aload_n hx hb dL_law_221 rfl (lv_at hl 0 rfl) ?_
  refine lv_iload hx hb dL_law_222 (lv_at hl 4 rfl) ?_
  refine lv_iconst (v := nI 3) hx hb dL_law_224 (by decide) ?_
  refine lv_iadd hx hb dL_law_225 ?_
  refine mw_ti (v' := nI (i + 3)) (nI_add _ _) ?_
  refine mw_sld hx hb hX hbl hbA hw (i := i + 3) (by omega) (by omega) dL_law_226 ?_
  refine lv_aload_n hx hb dL_law_227 rfl (lv_at hl 3 rfl) ?_
  refine mw_ci hC hw (vx_runSW (As := [.ref (x), .int (xs (i + 1)), .int (xs (i + 2)), .int (xs (i + 3)), .ref (o)]) (rest := []) ⟨hx, hb, hml, hown, hts⟩ (hc H.size) (vx_cwSW 5 hts gw_L_flip rfl hrc hrs (by decide +kernel) ⟨show rmh.frames + 1 ≤ 12 by omega, show 8 + (6 + 11) + rmh.locals ≤ 428 by omega⟩) (mw_preS hC hw) rfl rfl hl.1 rfl (lv_room (Nat.le_of_ble_eq_true rfl)) dL_law_228 ⟨show cl + mc ≤ 601024 by omega, show sl + ms ≤ 7293034 by omega⟩) (fun H locs hz9 hw => ?_)
  refine lv_istore (lv' := [(5, .int (nI (k))), (0, .ref (b)), (1, .ref (x)), (2, .ref (mh)), (3, .ref (o)), (4, .int (nI (i)))]) hx hb dL_law_231 hl (by decide) rfl (fun ls hl => ?_)
  refine lv_aload_n hx hb dL_law_233 rfl (lv_at hl 3 rfl) ?_
  refine lv_aload_n hx hb dL_law_234 rfl (lv_at hl 1 rfl) ?_
  refine lv_iload hx hb dL_law_235 (lv_at hl 5 rfl) ?_
  refine lv_iconst (v := nI 1) hx hb dL_law_237 (by decide) ?_
  refine lv_iadd hx hb dL_law_238 ?_
  refine mw_ti (v' := nI (i + 1)) (nI_add _ _) ?_
  refine mw_sld hx hb hX hbl hbA hw (i := i + 1) (by omega) (by omega) dL_law_239 ?_
  refine lv_aload_n hx hb dL_law_240 rfl (lv_at hl 1 rfl) ?_
  refine lv_iload hx hb dL_law_241 (lv_at hl 5 rfl) ?_
  refine lv_iconst (v := nI 2) hx hb dL_law_243 (by decide) ?_
  refine lv_iadd hx hb dL_law_244 ?_
  refine mw_ti (v' := nI (i + 2)) (nI_add _ _) ?_
  refine mw_sld hx hb hX hbl hbA hw (i := i + 2) (by omega) (by omega) dL_law_245 ?_
  refine lv_aload_n hx hb dL_law_246 rfl (lv_at hl 1 rfl) ?_
  refine lv_iload hx hb dL_law_247 (lv_at hl 5 rfl) ?_
  refine lv_iconst (v := nI 3) hx hb dL_law_249 (by decide) ?_
  refine lv_iadd hx hb dL_law_250 ?_
  refine mw_ti (v' := nI (i + 3)) (nI_add _ _) ?_
  refine mw_sld hx hb hX hbl hbA hw (i := i + 3) (by omega) (by omega) dL_law_251 ?_
  refine md_ci hC hw (va_runV (As := [.int (xs (i + 1)), .int (xs (i + 2)), .int (xs (i + 3))]) (rest := []) ⟨hx, hb, hml, hown, hts⟩ (hm H.size) (cwV 3 hts gw_X7_flip rfl hrc2 hrs2 (by decide +kernel) ⟨show rm2.frames + 1 ≤ 12 by omega, show 8 + (5 + 11) + rm2.locals ≤ 428 by omega⟩) (mw_preV (ci := 7) hC hw rfl hmd.1) rfl rfl hl.1 rfl (lv_room (Nat.le_of_ble_eq_true rfl)) dL_law_252 ⟨show cl + mc + 0 ≤ 601024 by omega, show sl + ms + 0 ≤ 7293034 by omega⟩) (fun M2 H locs hm2 hf2 hw => ?_)
  refine lv_istore (lv' := [(6, .int (r)), (5, .int (nI (k))), (0, .ref (b)), (1, .ref (x)), (2, .ref (mh)), (3, .ref (o)), (4, .int (nI (i)))]) hx hb dL_law_255 hl (by decide) rfl (fun ls hl => ?_)
  refine lv_goto (tgt := 681) hx hb dL_law_257 (by decide) ?_
  refine W.widen (k := cl + 1) (n := sl + 6) (show cl + mc + 0 ≤ cl + 1 by omega) (show sl + ms + 0 ≤ sl + 6 by omega) ?_
  exact kk M2 H locs ls hm2 hf2 hw (lv_sub hl [2, 3, 4, 5, 6] rfl)
set_option maxHeartbeats 4000000 in
set_option maxRecDepth 100000 in
theorem lp_drop {p : Program} {e : Env} {s : State} {m : MethodId} {below : List Frame} {meth : Method} {c : Code} (l : Launch) {b L : Nat} {xs : Nat → Int32} {G : mw_G} {Q : State → Prop} (C0 : lw_At p s m meth c b L xs) (hL : L ≤ 4096) (hC : mw_C G (lw_A s) s) {i : Nat} (hi : i + 6 ≤ L) {cl sl : Nat} (hcl : cl + 1 ≤ 601024) (hsl : sl + 6 ≤ 7293034) {x mh o : Nat} {M M1 : mw_M} {H : Heap} {locs : List Loc} {ls : Array Slot} (hw : mw_St G (lw_A s) s M H locs) (hl : lv_has ls 7 [(0, .ref (b)), (1, .ref (x)), (2, .ref (mh)), (3, .ref (o)), (4, .int (nI (i)))])
    {rmh : Room} {mc ms k : Nat} (hrc : rmh.cells = mc) (hrs : rmh.slots = ms) (hF : rmh.frames ≤ 10) (hLo : rmh.locals ≤ 245) (hmc : mc ≤ 1) (hms : ms ≤ 6) (hk : k ≤ 2) (hc : ∀ sz, Met l yL_drop wsL_drop rmh (mw_pre G M sz [.ref (x), .int (xs (i + 1)), .int (xs (i + 2)), .ref (o)]) (mw_Qi G M sz (nI (k)) M1) mc ms (mw_A M sz))
    {a : Nat → Nat} {c1 u1 u2 : Nat} {A1 A2 : md_S} (hmd : md_at G M1 mh a c1 u1 A1) {r : Int32} {k2 : Nat} {rm2 : Room} (hrc2 : rm2.cells = 0) (hrs2 : rm2.slots = 0) (hF2 : rm2.frames ≤ 10) (hLo2 : rm2.locals ≤ 245) (hm : ∀ sz, Met l yX7_drop wsX7_drop rm2 (mw_pre G M1 sz [.ref (mh), .int (xs (i + 1)), .int (xs (i + 2))]) (md_Qi G M1 sz mh a r k2 u2 A2) 0 0 (mw_A M1 sz))
    (kk : ∀ (M2 : mw_M) (H : Heap) (locs : List Loc) (ls : Array Slot), md_at G M2 mh a k2 u2 A2 → md_fr mh a M1 M2 → mw_St G (lw_A s) s M2 H locs → lv_has ls 7 [(0, .ref (b)), (1, .ref (x)), (2, .ref (mh)), (3, .ref (o)), (4, .int (nI (i)))] → W p l e room_1 s m #[Value.ref b] below meth c H locs (cl + 1) (sl + 6) Q (F0 m 681 ls [])) : W p l e room_1 s m #[Value.ref b] below meth c H locs cl sl Q (F0 m 260 ls []) := by
  obtain ⟨hx, hb, hr, hml, hown, hts, hX, hbl, hlocks, hgv⟩ := C0
  have hbA : ¬ lw_A s b := Nat.not_le.mpr hbl
  refine lv_aload_n hx hb dL_law_260 rfl (lv_at hl 1 rfl) ?_
  refine lv_aload_n hx hb dL_law_261 rfl (lv_at hl 0 rfl) ?_
  refine lv_iload hx hb dL_law_262 (lv_at hl 4 rfl) ?_
  refine lv_iconst (v := nI 1) hx hb dL_law_264 (by decide) ?_
  refine lv_iadd hx hb dL_law_265 ?_
  refine mw_ti (v' := nI (i + 1)) (nI_add _ _) ?_
  refine mw_sld hx hb hX hbl hbA hw (i := i + 1) (by omega) (by omega) dL_law_266 ?_
  refine lv_aload_n hx hb dL_law_267 rfl (lv_at hl 0 rfl) ?_
  refine lv_iload hx hb dL_law_268 (lv_at hl 4 rfl) ?_
  refine lv_iconst (v := nI 2) hx hb dL_law_270 (by decide) ?_
  refine lv_iadd hx hb dL_law_271 ?_
  refine mw_ti (v' := nI (i + 2)) (nI_add _ _) ?_
  refine mw_sld hx hb hX hbl hbA hw (i := i + 2) (by omega) (by omega) dL_law_272 ?_
  refine lv_aload_n hx hb dL_law_273 rfl (lv_at hl 3 rfl) ?_
  refine mw_ci hC hw (vx_runSW (As := [.ref (x), .int (xs (i + 1)), .int (xs (i + 2)), .ref (o)]) (rest := []) ⟨hx, hb, hml, hown, hts⟩ (hc H.size) (vx_cwSW 4 hts gw_L_drop rfl hrc hrs (by decide +kernel) ⟨show rmh.frames + 1 ≤ 12 by omega, show 8 + (5 + 11) + rmh.locals ≤ 428 by omega⟩) (mw_preS hC hw) rfl rfl hl.1 rfl (lv_room (Nat.le_of_ble_eq_true rfl)) dL_law_274 ⟨show cl + mc ≤ 601024 by omega, show sl + ms ≤ 7293034 by omega⟩) (fun H locs hz9 hw => ?_)
  refine lv_istore (lv' := [(5, .int (nI (k))), (0, .ref (b)), (1, .ref (x)), (2, .ref (mh)), (3, .ref (o)), (4, .int (nI (i)))]) hx hb dL_law_277 hl (by decide) rfl (fun ls hl => ?_)
  refine lv_aload_n hx hb dL_law_279 rfl (lv_at hl 3 rfl) ?_
  refine lv_aload_n hx hb dL_law_280 rfl (lv_at hl 1 rfl) ?_
  refine lv_iload hx hb dL_law_281 (lv_at hl 5 rfl) ?_
  refine lv_iconst (v := nI 1) hx hb dL_law_283 (by decide) ?_
  refine lv_iadd hx hb dL_law_284 ?_
  refine mw_ti (v' := nI (i + 1)) (nI_add _ _) ?_
  refine mw_sld hx hb hX hbl hbA hw (i := i + 1) (by omega) (by omega) dL_law_285 ?_
  refine lv_aload_n hx hb dL_law_286 rfl (lv_at hl 1 rfl) ?_
  refine lv_iload hx hb dL_law_287 (lv_at hl 5 rfl) ?_
  refine lv_iconst (v := nI 2) hx hb dL_law_289 (by decide) ?_
  refine lv_iadd hx hb dL_law_290 ?_
  refine mw_ti (v' := nI (i + 2)) (nI_add _ _) ?_
  refine mw_sld hx hb hX hbl hbA hw (i := i + 2) (by omega) (by omega) dL_law_291 ?_
  refine md_ci hC hw (va_runV (As := [.int (xs (i + 1)), .int (xs (i + 2))]) (rest := []) ⟨hx, hb, hml, hown, hts⟩ (hm H.size) (cwV 2 hts gw_X7_drop rfl hrc2 hrs2 (by decide +kernel) ⟨show rm2.frames + 1 ≤ 12 by omega, show 8 + (4 + 11) + rm2.locals ≤ 428 by omega⟩) (mw_preV (ci := 7) hC hw rfl hmd.1) rfl rfl hl.1 rfl (lv_room (Nat.le_of_ble_eq_true rfl)) dL_law_292 ⟨show cl + mc + 0 ≤ 601024 by omega, show sl + ms + 0 ≤ 7293034 by omega⟩) (fun M2 H locs hm2 hf2 hw => ?_)
  refine lv_istore (lv' := [(6, .int (r)), (5, .int (nI (k))), (0, .ref (b)), (1, .ref (x)), (2, .ref (mh)), (3, .ref (o)), (4, .int (nI (i)))]) hx hb dL_law_295 hl (by decide) rfl (fun ls hl => ?_)
  refine lv_goto (tgt := 681) hx hb dL_law_297 (by decide) ?_
  refine W.widen (k := cl + 1) (n := sl + 6) (show cl + mc + 0 ≤ cl + 1 by omega) (show sl + ms + 0 ≤ sl + 6 by omega) ?_
  exact kk M2 H locs ls hm2 hf2 hw (lv_sub hl [2, 3, 4, 5, 6] rfl)
set_option maxHeartbeats 4000000 in
set_option maxRecDepth 100000 in
theorem lp_bits_0 {p : Program} {e : Env} {s : State} {m : MethodId} {below : List Frame} {meth : Method} {c : Code} (l : Launch) {b L : Nat} {xs : Nat → Int32} {G : mw_G} {Q : State → Prop} (C0 : lw_At p s m meth c b L xs) (hL : L ≤ 4096) (hC : mw_C G (lw_A s) s) {i : Nat} (hi : i + 6 ≤ L) (hz : xs (i + 5) = 0) {cl sl : Nat} (hcl : cl + 1 ≤ 601024) (hsl : sl + 6 ≤ 7293034) {x mh o : Nat} {M M1 : mw_M} {H : Heap} {locs : List Loc} {ls : Array Slot} (hw : mw_St G (lw_A s) s M H locs) (hl : lv_has ls 7 [(0, .ref (b)), (1, .ref (x)), (2, .ref (mh)), (3, .ref (o)), (4, .int (nI (i)))])
    {rmh : Room} {mc ms k : Nat} (hrc : rmh.cells = mc) (hrs : rmh.slots = ms) (hF : rmh.frames ≤ 10) (hLo : rmh.locals ≤ 245) (hmc : mc ≤ 1) (hms : ms ≤ 6) (hk : k ≤ 2) (hc : ∀ sz, Met l yL_bits wsL_bits rmh (mw_pre G M sz [.ref (x), .int (xs (i + 1)), .long (lw_w xs (i + 2)), .int (xs (i + 4)), .int (nI (0)), .ref (o)]) (mw_Qi G M sz (nI (k)) M1) mc ms (mw_A M sz))
    {a : Nat → Nat} {c1 u1 u2 : Nat} {A1 A2 : md_S} (hmd : md_at G M1 mh a c1 u1 A1) {r : Int32} {k2 : Nat} {rm2 : Room} (hrc2 : rm2.cells = 0) (hrs2 : rm2.slots = 0) (hF2 : rm2.frames ≤ 10) (hLo2 : rm2.locals ≤ 245) (hm : ∀ sz, Met l yX7_bits wsX7_bits rm2 (mw_pre G M1 sz [.ref (mh), .int (xs (i + 1)), .long (lw_w xs (i + 2)), .int (xs (i + 4)), .int (nI (0))]) (md_Qi G M1 sz mh a r k2 u2 A2) 0 0 (mw_A M1 sz))
    (kk : ∀ (M2 : mw_M) (H : Heap) (locs : List Loc) (ls : Array Slot), md_at G M2 mh a k2 u2 A2 → md_fr mh a M1 M2 → mw_St G (lw_A s) s M2 H locs → lv_has ls 7 [(0, .ref (b)), (1, .ref (x)), (2, .ref (mh)), (3, .ref (o)), (4, .int (nI (i)))] → W p l e room_1 s m #[Value.ref b] below meth c H locs (cl + 1) (sl + 6) Q (F0 m 681 ls [])) : W p l e room_1 s m #[Value.ref b] below meth c H locs cl sl Q (F0 m 300 ls []) := by
  obtain ⟨hx, hb, hr, hml, hown, hts, hX, hbl, hlocks, hgv⟩ := C0
  have hbA : ¬ lw_A s b := Nat.not_le.mpr hbl
  have k_0 := hts (.constantLong RL 76 (4294967295)) (by decide +kernel)
  refine lv_aload_n hx hb dL_law_300 rfl (lv_at hl 1 rfl) ?_
  refine lv_aload_n hx hb dL_law_301 rfl (lv_at hl 0 rfl) ?_
  refine lv_iload hx hb dL_law_302 (lv_at hl 4 rfl) ?_
  refine lv_iconst (v := nI 1) hx hb dL_law_304 (by decide) ?_
  refine lv_iadd hx hb dL_law_305 ?_
  refine mw_ti (v' := nI (i + 1)) (nI_add _ _) ?_
  refine mw_sld hx hb hX hbl hbA hw (i := i + 1) (by omega) (by omega) dL_law_306 ?_
  refine lv_aload_n hx hb dL_law_307 rfl (lv_at hl 0 rfl) ?_
  refine lv_iload hx hb dL_law_308 (lv_at hl 4 rfl) ?_
  refine lv_iconst (v := nI 2) hx hb dL_law_310 (by decide) ?_
  refine lv_iadd hx hb dL_law_311 ?_
  refine mw_ti (v' := nI (i + 2)) (nI_add _ _) ?_
  refine mw_sld hx hb hX hbl hbA hw (i := i + 2) (by omega) (by omega) dL_law_312 ?_
  refine lv_i2l hx hb dL_law_313 rfl ?_
  refine lv_bipush (v := nI 32) hx hb dL_law_314 (by decide) ?_
  refine lv_lshl hx hb dL_law_316 rfl ?_
  refine lv_aload_n hx hb dL_law_317 rfl (lv_at hl 0 rfl) ?_
  refine lv_iload hx hb dL_law_318 (lv_at hl 4 rfl) ?_
  refine lv_iconst (v := nI 3) hx hb dL_law_320 (by decide) ?_
  refine lv_iadd hx hb dL_law_321 ?_
  refine mw_ti (v' := nI (i + 3)) (nI_add _ _) ?_
  refine mw_sld hx hb hX hbl hbA hw (i := i + 3) (by omega) (by omega) dL_law_322 ?_
  refine lv_i2l hx hb dL_law_323 rfl ?_
  refine lv_ldc2 hx hb hown k_0 dL_law_324 ?_
  refine lv_land hx hb dL_law_327 ?_
  refine lv_lor hx hb dL_law_328 ?_
  refine mw_tl (v' := lw_w xs (i + 2)) rfl ?_
  refine lv_aload_n hx hb dL_law_329 rfl (lv_at hl 0 rfl) ?_
  refine lv_iload hx hb dL_law_330 (lv_at hl 4 rfl) ?_
  refine lv_iconst (v := nI 4) hx hb dL_law_332 (by decide) ?_
  refine lv_iadd hx hb dL_law_333 ?_
  refine mw_ti (v' := nI (i + 4)) (nI_add _ _) ?_
  refine mw_sld hx hb hX hbl hbA hw (i := i + 4) (by omega) (by omega) dL_law_334 ?_
  refine lv_aload_n hx hb dL_law_335 rfl (lv_at hl 0 rfl) ?_
  refine lv_iload hx hb dL_law_336 (lv_at hl 4 rfl) ?_
  refine lv_iconst (v := nI 5) hx hb dL_law_338 (by decide) ?_
  refine lv_iadd hx hb dL_law_339 ?_
  refine mw_ti (v' := nI (i + 5)) (nI_add _ _) ?_
  refine mw_sld hx hb hX hbl hbA hw (i := i + 5) (by omega) (by omega) dL_law_340 ?_
  refine lv_if_eq (tgt := 348) hx hb dL_law_341 (by decide) (fun _ => ?_) (fun h9 => absurd hz h9)
  refine lv_iconst (v := nI 0) hx hb dL_law_348 (by decide) ?_
  refine lv_aload_n hx hb dL_law_349 rfl (lv_at hl 3 rfl) ?_
  refine mw_ci hC hw (vx_runSW (As := [.ref (x), .int (xs (i + 1)), .long (lw_w xs (i + 2)), .int (xs (i + 4)), .int (nI (0)), .ref (o)]) (rest := []) ⟨hx, hb, hml, hown, hts⟩ (hc H.size) (vx_cwSW 6 hts gw_L_bits rfl hrc hrs (by decide +kernel) ⟨show rmh.frames + 1 ≤ 12 by omega, show 8 + (8 + 11) + rmh.locals ≤ 428 by omega⟩) (mw_preS hC hw) rfl rfl hl.1 rfl (lv_room (Nat.le_of_ble_eq_true rfl)) dL_law_350 ⟨show cl + mc ≤ 601024 by omega, show sl + ms ≤ 7293034 by omega⟩) (fun H locs hz9 hw => ?_)
  refine lv_istore (lv' := [(5, .int (nI (k))), (0, .ref (b)), (1, .ref (x)), (2, .ref (mh)), (3, .ref (o)), (4, .int (nI (i)))]) hx hb dL_law_353 hl (by decide) rfl (fun ls hl => ?_)
  refine lv_aload_n hx hb dL_law_355 rfl (lv_at hl 3 rfl) ?_
  refine lv_aload_n hx hb dL_law_356 rfl (lv_at hl 1 rfl) ?_
  refine lv_iload hx hb dL_law_357 (lv_at hl 5 rfl) ?_
  refine lv_iconst (v := nI 1) hx hb dL_law_359 (by decide) ?_
  refine lv_iadd hx hb dL_law_360 ?_
  refine mw_ti (v' := nI (i + 1)) (nI_add _ _) ?_
  refine mw_sld hx hb hX hbl hbA hw (i := i + 1) (by omega) (by omega) dL_law_361 ?_
  refine lv_aload_n hx hb dL_law_362 rfl (lv_at hl 1 rfl) ?_
  refine lv_iload hx hb dL_law_363 (lv_at hl 5 rfl) ?_
  refine lv_iconst (v := nI 2) hx hb dL_law_365 (by decide) ?_
  refine lv_iadd hx hb dL_law_366 ?_
  refine mw_ti (v' := nI (i + 2)) (nI_add _ _) ?_
  refine mw_sld hx hb hX hbl hbA hw (i := i + 2) (by omega) (by omega) dL_law_367 ?_
  refine lv_i2l hx hb dL_law_368 rfl ?_
  refine lv_bipush (v := nI 32) hx hb dL_law_369 (by decide) ?_
  refine lv_lshl hx hb dL_law_371 rfl ?_
  refine lv_aload_n hx hb dL_law_372 rfl (lv_at hl 1 rfl) ?_
  refine lv_iload hx hb dL_law_373 (lv_at hl 5 rfl) ?_
  refine lv_iconst (v := nI 3) hx hb dL_law_375 (by decide) ?_
  refine lv_iadd hx hb dL_law_376 ?_
  refine mw_ti (v' := nI (i + 3)) (nI_add _ _) ?_
  refine mw_sld hx hb hX hbl hbA hw (i := i + 3) (by omega) (by omega) dL_law_377 ?_
  refine lv_i2l hx hb dL_law_378 rfl ?_
  refine lv_ldc2 hx hb hown k_0 dL_law_379 ?_
  refine lv_land hx hb dL_law_382 ?_
  refine lv_lor hx hb dL_law_383 ?_
  refine mw_tl (v' := lw_w xs (i + 2)) rfl ?_
  refine lv_aload_n hx hb dL_law_384 rfl (lv_at hl 1 rfl) ?_
  refine lv_iload hx hb dL_law_385 (lv_at hl 5 rfl) ?_
  refine lv_iconst (v := nI 4) hx hb dL_law_387 (by decide) ?_
  refine lv_iadd hx hb dL_law_388 ?_
  refine mw_ti (v' := nI (i + 4)) (nI_add _ _) ?_
  refine mw_sld hx hb hX hbl hbA hw (i := i + 4) (by omega) (by omega) dL_law_389 ?_
  refine lv_aload_n hx hb dL_law_390 rfl (lv_at hl 1 rfl) ?_
  refine lv_iload hx hb dL_law_391 (lv_at hl 5 rfl) ?_
  refine lv_iconst (v := nI 5) hx hb dL_law_393 (by decide) ?_
  refine lv_iadd hx hb dL_law_394 ?_
  refine mw_ti (v' := nI (i + 5)) (nI_add _ _) ?_
  refine mw_sld hx hb hX hbl hbA hw (i := i + 5) (by omega) (by omega) dL_law_395 ?_
  refine lv_if_eq (tgt := 403) hx hb dL_law_396 (by decide) (fun _ => ?_) (fun h9 => absurd hz h9)
  refine lv_iconst (v := nI 0) hx hb dL_law_403 (by decide) ?_
  refine md_ci hC hw (va_runV (As := [.int (xs (i + 1)), .long (lw_w xs (i + 2)), .int (xs (i + 4)), .int (nI (0))]) (rest := []) ⟨hx, hb, hml, hown, hts⟩ (hm H.size) (cwV 4 hts gw_X7_bits rfl hrc2 hrs2 (by decide +kernel) ⟨show rm2.frames + 1 ≤ 12 by omega, show 8 + (9 + 11) + rm2.locals ≤ 428 by omega⟩) (mw_preV (ci := 7) hC hw rfl hmd.1) rfl rfl hl.1 rfl (lv_room (Nat.le_of_ble_eq_true rfl)) dL_law_404 ⟨show cl + mc + 0 ≤ 601024 by omega, show sl + ms + 0 ≤ 7293034 by omega⟩) (fun M2 H locs hm2 hf2 hw => ?_)
  refine lv_istore (lv' := [(6, .int (r)), (5, .int (nI (k))), (0, .ref (b)), (1, .ref (x)), (2, .ref (mh)), (3, .ref (o)), (4, .int (nI (i)))]) hx hb dL_law_407 hl (by decide) rfl (fun ls hl => ?_)
  refine lv_goto (tgt := 681) hx hb dL_law_409 (by decide) ?_
  refine W.widen (k := cl + 1) (n := sl + 6) (show cl + mc + 0 ≤ cl + 1 by omega) (show sl + ms + 0 ≤ sl + 6 by omega) ?_
  exact kk M2 H locs ls hm2 hf2 hw (lv_sub hl [2, 3, 4, 5, 6] rfl)
set_option maxHeartbeats 4000000 in
set_option maxRecDepth 100000 in
theorem lp_bits_1 {p : Program} {e : Env} {s : State} {m : MethodId} {below : List Frame} {meth : Method} {c : Code} (l : Launch) {b L : Nat} {xs : Nat → Int32} {G : mw_G} {Q : State → Prop} (C0 : lw_At p s m meth c b L xs) (hL : L ≤ 4096) (hC : mw_C G (lw_A s) s) {i : Nat} (hi : i + 6 ≤ L) (hz : ¬ xs (i + 5) = 0) {cl sl : Nat} (hcl : cl + 1 ≤ 601024) (hsl : sl + 6 ≤ 7293034) {x mh o : Nat} {M M1 : mw_M} {H : Heap} {locs : List Loc} {ls : Array Slot} (hw : mw_St G (lw_A s) s M H locs) (hl : lv_has ls 7 [(0, .ref (b)), (1, .ref (x)), (2, .ref (mh)), (3, .ref (o)), (4, .int (nI (i)))])
    {rmh : Room} {mc ms k : Nat} (hrc : rmh.cells = mc) (hrs : rmh.slots = ms) (hF : rmh.frames ≤ 10) (hLo : rmh.locals ≤ 245) (hmc : mc ≤ 1) (hms : ms ≤ 6) (hk : k ≤ 2) (hc : ∀ sz, Met l yL_bits wsL_bits rmh (mw_pre G M sz [.ref (x), .int (xs (i + 1)), .long (lw_w xs (i + 2)), .int (xs (i + 4)), .int (nI (1)), .ref (o)]) (mw_Qi G M sz (nI (k)) M1) mc ms (mw_A M sz))
    {a : Nat → Nat} {c1 u1 u2 : Nat} {A1 A2 : md_S} (hmd : md_at G M1 mh a c1 u1 A1) {r : Int32} {k2 : Nat} {rm2 : Room} (hrc2 : rm2.cells = 0) (hrs2 : rm2.slots = 0) (hF2 : rm2.frames ≤ 10) (hLo2 : rm2.locals ≤ 245) (hm : ∀ sz, Met l yX7_bits wsX7_bits rm2 (mw_pre G M1 sz [.ref (mh), .int (xs (i + 1)), .long (lw_w xs (i + 2)), .int (xs (i + 4)), .int (nI (1))]) (md_Qi G M1 sz mh a r k2 u2 A2) 0 0 (mw_A M1 sz))
    (kk : ∀ (M2 : mw_M) (H : Heap) (locs : List Loc) (ls : Array Slot), md_at G M2 mh a k2 u2 A2 → md_fr mh a M1 M2 → mw_St G (lw_A s) s M2 H locs → lv_has ls 7 [(0, .ref (b)), (1, .ref (x)), (2, .ref (mh)), (3, .ref (o)), (4, .int (nI (i)))] → W p l e room_1 s m #[Value.ref b] below meth c H locs (cl + 1) (sl + 6) Q (F0 m 681 ls [])) : W p l e room_1 s m #[Value.ref b] below meth c H locs cl sl Q (F0 m 300 ls []) := by
  obtain ⟨hx, hb, hr, hml, hown, hts, hX, hbl, hlocks, hgv⟩ := C0
  have hbA : ¬ lw_A s b := Nat.not_le.mpr hbl
  have k_0 := hts (.constantLong RL 76 (4294967295)) (by decide +kernel)
  refine lv_aload_n hx hb dL_law_300 rfl (lv_at hl 1 rfl) ?_
  refine lv_aload_n hx hb dL_law_301 rfl (lv_at hl 0 rfl) ?_
  refine lv_iload hx hb dL_law_302 (lv_at hl 4 rfl) ?_
  refine lv_iconst (v := nI 1) hx hb dL_law_304 (by decide) ?_
  refine lv_iadd hx hb dL_law_305 ?_
  refine mw_ti (v' := nI (i + 1)) (nI_add _ _) ?_
  refine mw_sld hx hb hX hbl hbA hw (i := i + 1) (by omega) (by omega) dL_law_306 ?_
  refine lv_aload_n hx hb dL_law_307 rfl (lv_at hl 0 rfl) ?_
  refine lv_iload hx hb dL_law_308 (lv_at hl 4 rfl) ?_
  refine lv_iconst (v := nI 2) hx hb dL_law_310 (by decide) ?_
  refine lv_iadd hx hb dL_law_311 ?_
  refine mw_ti (v' := nI (i + 2)) (nI_add _ _) ?_
  refine mw_sld hx hb hX hbl hbA hw (i := i + 2) (by omega) (by omega) dL_law_312 ?_
  refine lv_i2l hx hb dL_law_313 rfl ?_
  refine lv_bipush (v := nI 32) hx hb dL_law_314 (by decide) ?_
  refine lv_lshl hx hb dL_law_316 rfl ?_
  refine lv_aload_n hx hb dL_law_317 rfl (lv_at hl 0 rfl) ?_
  refine lv_iload hx hb dL_law_318 (lv_at hl 4 rfl) ?_
  refine lv_iconst (v := nI 3) hx hb dL_law_320 (by decide) ?_
  refine lv_iadd hx hb dL_law_321 ?_
  refine mw_ti (v' := nI (i + 3)) (nI_add _ _) ?_
  refine mw_sld hx hb hX hbl hbA hw (i := i + 3) (by omega) (by omega) dL_law_322 ?_
  refine lv_i2l hx hb dL_law_323 rfl ?_
  refine lv_ldc2 hx hb hown k_0 dL_law_324 ?_
  refine lv_land hx hb dL_law_327 ?_
  refine lv_lor hx hb dL_law_328 ?_
  refine mw_tl (v' := lw_w xs (i + 2)) rfl ?_
  refine lv_aload_n hx hb dL_law_329 rfl (lv_at hl 0 rfl) ?_
  refine lv_iload hx hb dL_law_330 (lv_at hl 4 rfl) ?_
  refine lv_iconst (v := nI 4) hx hb dL_law_332 (by decide) ?_
  refine lv_iadd hx hb dL_law_333 ?_
  refine mw_ti (v' := nI (i + 4)) (nI_add _ _) ?_
  refine mw_sld hx hb hX hbl hbA hw (i := i + 4) (by omega) (by omega) dL_law_334 ?_
  refine lv_aload_n hx hb dL_law_335 rfl (lv_at hl 0 rfl) ?_
  refine lv_iload hx hb dL_law_336 (lv_at hl 4 rfl) ?_
  refine lv_iconst (v := nI 5) hx hb dL_law_338 (by decide) ?_
  refine lv_iadd hx hb dL_law_339 ?_
  refine mw_ti (v' := nI (i + 5)) (nI_add _ _) ?_
  refine mw_sld hx hb hX hbl hbA hw (i := i + 5) (by omega) (by omega) dL_law_340 ?_
  refine lv_if_eq (tgt := 348) hx hb dL_law_341 (by decide) (fun h9 => absurd h9 hz) (fun _ => ?_)
  refine lv_iconst (v := nI 1) hx hb dL_law_344 (by decide) ?_
  refine lv_goto (tgt := 349) hx hb dL_law_345 (by decide) ?_
  refine lv_aload_n hx hb dL_law_349 rfl (lv_at hl 3 rfl) ?_
  refine mw_ci hC hw (vx_runSW (As := [.ref (x), .int (xs (i + 1)), .long (lw_w xs (i + 2)), .int (xs (i + 4)), .int (nI (1)), .ref (o)]) (rest := []) ⟨hx, hb, hml, hown, hts⟩ (hc H.size) (vx_cwSW 6 hts gw_L_bits rfl hrc hrs (by decide +kernel) ⟨show rmh.frames + 1 ≤ 12 by omega, show 8 + (8 + 11) + rmh.locals ≤ 428 by omega⟩) (mw_preS hC hw) rfl rfl hl.1 rfl (lv_room (Nat.le_of_ble_eq_true rfl)) dL_law_350 ⟨show cl + mc ≤ 601024 by omega, show sl + ms ≤ 7293034 by omega⟩) (fun H locs hz9 hw => ?_)
  refine lv_istore (lv' := [(5, .int (nI (k))), (0, .ref (b)), (1, .ref (x)), (2, .ref (mh)), (3, .ref (o)), (4, .int (nI (i)))]) hx hb dL_law_353 hl (by decide) rfl (fun ls hl => ?_)
  refine lv_aload_n hx hb dL_law_355 rfl (lv_at hl 3 rfl) ?_
  refine lv_aload_n hx hb dL_law_356 rfl (lv_at hl 1 rfl) ?_
  refine lv_iload hx hb dL_law_357 (lv_at hl 5 rfl) ?_
  refine lv_iconst (v := nI 1) hx hb dL_law_359 (by decide) ?_
  refine lv_iadd hx hb dL_law_360 ?_
  refine mw_ti (v' := nI (i + 1)) (nI_add _ _) ?_
  refine mw_sld hx hb hX hbl hbA hw (i := i + 1) (by omega) (by omega) dL_law_361 ?_
  refine lv_aload_n hx hb dL_law_362 rfl (lv_at hl 1 rfl) ?_
  refine lv_iload hx hb dL_law_363 (lv_at hl 5 rfl) ?_
  refine lv_iconst (v := nI 2) hx hb dL_law_365 (by decide) ?_
  refine lv_iadd hx hb dL_law_366 ?_
  refine mw_ti (v' := nI (i + 2)) (nI_add _ _) ?_
  refine mw_sld hx hb hX hbl hbA hw (i := i + 2) (by omega) (by omega) dL_law_367 ?_
  refine lv_i2l hx hb dL_law_368 rfl ?_
  refine lv_bipush (v := nI 32) hx hb dL_law_369 (by decide) ?_
  refine lv_lshl hx hb dL_law_371 rfl ?_
  refine lv_aload_n hx hb dL_law_372 rfl (lv_at hl 1 rfl) ?_
  refine lv_iload hx hb dL_law_373 (lv_at hl 5 rfl) ?_
  refine lv_iconst (v := nI 3) hx hb dL_law_375 (by decide) ?_
  refine lv_iadd hx hb dL_law_376 ?_
  refine mw_ti (v' := nI (i + 3)) (nI_add _ _) ?_
  refine mw_sld hx hb hX hbl hbA hw (i := i + 3) (by omega) (by omega) dL_law_377 ?_
  refine lv_i2l hx hb dL_law_378 rfl ?_
  refine lv_ldc2 hx hb hown k_0 dL_law_379 ?_
  refine lv_land hx hb dL_law_382 ?_
  refine lv_lor hx hb dL_law_383 ?_
  refine mw_tl (v' := lw_w xs (i + 2)) rfl ?_
  refine lv_aload_n hx hb dL_law_384 rfl (lv_at hl 1 rfl) ?_
  refine lv_iload hx hb dL_law_385 (lv_at hl 5 rfl) ?_
  refine lv_iconst (v := nI 4) hx hb dL_law_387 (by decide) ?_
  refine lv_iadd hx hb dL_law_388 ?_
  refine mw_ti (v' := nI (i + 4)) (nI_add _ _) ?_
  refine mw_sld hx hb hX hbl hbA hw (i := i + 4) (by omega) (by omega) dL_law_389 ?_
  refine lv_aload_n hx hb dL_law_390 rfl (lv_at hl 1 rfl) ?_
  refine lv_iload hx hb dL_law_391 (lv_at hl 5 rfl) ?_
  refine lv_iconst (v := nI 5) hx hb dL_law_393 (by decide) ?_
  refine lv_iadd hx hb dL_law_394 ?_
  refine mw_ti (v' := nI (i + 5)) (nI_add _ _) ?_
  refine mw_sld hx hb hX hbl hbA hw (i := i + 5) (by omega) (by omega) dL_law_395 ?_
  refine lv_if_eq (tgt := 403) hx hb dL_law_396 (by decide) (fun h9 => absurd h9 hz) (fun _ => ?_)
  refine lv_iconst (v := nI 1) hx hb dL_law_399 (by decide) ?_
  refine lv_goto (tgt := 404) hx hb dL_law_400 (by decide) ?_
  refine md_ci hC hw (va_runV (As := [.int (xs (i + 1)), .long (lw_w xs (i + 2)), .int (xs (i + 4)), .int (nI (1))]) (rest := []) ⟨hx, hb, hml, hown, hts⟩ (hm H.size) (cwV 4 hts gw_X7_bits rfl hrc2 hrs2 (by decide +kernel) ⟨show rm2.frames + 1 ≤ 12 by omega, show 8 + (9 + 11) + rm2.locals ≤ 428 by omega⟩) (mw_preV (ci := 7) hC hw rfl hmd.1) rfl rfl hl.1 rfl (lv_room (Nat.le_of_ble_eq_true rfl)) dL_law_404 ⟨show cl + mc + 0 ≤ 601024 by omega, show sl + ms + 0 ≤ 7293034 by omega⟩) (fun M2 H locs hm2 hf2 hw => ?_)
  refine lv_istore (lv' := [(6, .int (r)), (5, .int (nI (k))), (0, .ref (b)), (1, .ref (x)), (2, .ref (mh)), (3, .ref (o)), (4, .int (nI (i)))]) hx hb dL_law_407 hl (by decide) rfl (fun ls hl => ?_)
  refine lv_goto (tgt := 681) hx hb dL_law_409 (by decide) ?_
  refine W.widen (k := cl + 1) (n := sl + 6) (show cl + mc + 0 ≤ cl + 1 by omega) (show sl + ms + 0 ≤ sl + 6 by omega) ?_
  exact kk M2 H locs ls hm2 hf2 hw (lv_sub hl [2, 3, 4, 5, 6] rfl)
set_option maxHeartbeats 4000000 in
set_option maxRecDepth 100000 in
theorem lp_bit {p : Program} {e : Env} {s : State} {m : MethodId} {below : List Frame} {meth : Method} {c : Code} (l : Launch) {b L : Nat} {xs : Nat → Int32} {G : mw_G} {Q : State → Prop} (C0 : lw_At p s m meth c b L xs) (hL : L ≤ 4096) (hC : mw_C G (lw_A s) s) {i : Nat} (hi : i + 6 ≤ L) {cl sl : Nat} (hcl : cl + 1 ≤ 601024) (hsl : sl + 6 ≤ 7293034) {x mh o : Nat} {M M1 : mw_M} {H : Heap} {locs : List Loc} {ls : Array Slot} (hw : mw_St G (lw_A s) s M H locs) (hl : lv_has ls 7 [(0, .ref (b)), (1, .ref (x)), (2, .ref (mh)), (3, .ref (o)), (4, .int (nI (i)))])
    {rmh : Room} {mc ms k : Nat} (hrc : rmh.cells = mc) (hrs : rmh.slots = ms) (hF : rmh.frames ≤ 10) (hLo : rmh.locals ≤ 245) (hmc : mc ≤ 1) (hms : ms ≤ 6) (hk : k ≤ 2) (hc : ∀ sz, Met l yL_bit wsL_bit rmh (mw_pre G M sz [.ref (x), .int (xs (i + 1)), .int (xs (i + 2)), .int (xs (i + 3)), .ref (o)]) (mw_Qi G M sz (nI (k)) M1) mc ms (mw_A M sz))
    {a : Nat → Nat} {c1 u1 u2 : Nat} {A1 A2 : md_S} (hmd : md_at G M1 mh a c1 u1 A1) {r : Int32} {k2 : Nat} {rm2 : Room} (hrc2 : rm2.cells = 0) (hrs2 : rm2.slots = 0) (hF2 : rm2.frames ≤ 10) (hLo2 : rm2.locals ≤ 245) (hm : ∀ sz, Met l yX7_bit_ wsX7_bit_ rm2 (mw_pre G M1 sz [.ref (mh), .int (xs (i + 1)), .int (xs (i + 2)), .int (xs (i + 3))]) (md_Qi G M1 sz mh a r k2 u2 A2) 0 0 (mw_A M1 sz))
    (kk : ∀ (M2 : mw_M) (H : Heap) (locs : List Loc) (ls : Array Slot), md_at G M2 mh a k2 u2 A2 → md_fr mh a M1 M2 → mw_St G (lw_A s) s M2 H locs → lv_has ls 7 [(0, .ref (b)), (1, .ref (x)), (2, .ref (mh)), (3, .ref (o)), (4, .int (nI (i)))] → W p l e room_1 s m #[Value.ref b] below meth c H locs (cl + 1) (sl + 6) Q (F0 m 681 ls [])) : W p l e room_1 s m #[Value.ref b] below meth c H locs cl sl Q (F0 m 412 ls []) := by
  obtain ⟨hx, hb, hr, hml, hown, hts, hX, hbl, hlocks, hgv⟩ := C0
  have hbA : ¬ lw_A s b := Nat.not_le.mpr hbl
  refine lv_aload_n hx hb dL_law_412 rfl (lv_at hl 1 rfl) ?_
  refine lv_aload_n hx hb dL_law_413 rfl (lv_at hl 0 rfl) ?_
  refine lv_iload hx hb dL_law_414 (lv_at hl 4 rfl) ?_
  refine lv_iconst (v := nI 1) hx hb dL_law_416 (by decide) ?_
  refine lv_iadd hx hb dL_law_417 ?_
  refine mw_ti (v' := nI (i + 1)) (nI_add _ _) ?_
  refine mw_sld hx hb hX hbl hbA hw (i := i + 1) (by omega) (by omega) dL_law_418 ?_
  refine lv_aload_n hx hb dL_law_419 rfl (lv_at hl 0 rfl) ?_
  refine lv_iload hx hb dL_law_420 (lv_at hl 4 rfl) ?_
  refine lv_iconst (v := nI 2) hx hb dL_law_422 (by decide) ?_
  refine lv_iadd hx hb dL_law_423 ?_
  refine mw_ti (v' := nI (i + 2)) (nI_add _ _) ?_
  refine mw_sld hx hb hX hbl hbA hw (i := i + 2) (by omega) (by omega) dL_law_424 ?_
  refine lv_aload_n hx hb dL_law_425 rfl (lv_at hl 0 rfl) ?_
  refine lv_iload hx hb dL_law_426 (lv_at hl 4 rfl) ?_
  refine lv_iconst (v := nI 3) hx hb dL_law_428 (by decide) ?_
  refine lv_iadd hx hb dL_law_429 ?_
  refine mw_ti (v' := nI (i + 3)) (nI_add _ _) ?_
  refine mw_sld hx hb hX hbl hbA hw (i := i + 3) (by omega) (by omega) dL_law_430 ?_
  refine lv_aload_n hx hb dL_law_431 rfl (lv_at hl 3 rfl) ?_
  refine mw_ci hC hw (vx_runSW (As := [.ref (x), .int (xs (i + 1)), .int (xs (i + 2)), .int (xs (i + 3)), .ref (o)]) (rest := []) ⟨hx, hb, hml, hown, hts⟩ (hc H.size) (vx_cwSW 5 hts gw_L_bit rfl hrc hrs (by decide +kernel) ⟨show rmh.frames + 1 ≤ 12 by omega, show 8 + (6 + 11) + rmh.locals ≤ 428 by omega⟩) (mw_preS hC hw) rfl rfl hl.1 rfl (lv_room (Nat.le_of_ble_eq_true rfl)) dL_law_432 ⟨show cl + mc ≤ 601024 by omega, show sl + ms ≤ 7293034 by omega⟩) (fun H locs hz9 hw => ?_)
  refine lv_istore (lv' := [(5, .int (nI (k))), (0, .ref (b)), (1, .ref (x)), (2, .ref (mh)), (3, .ref (o)), (4, .int (nI (i)))]) hx hb dL_law_435 hl (by decide) rfl (fun ls hl => ?_)
  refine lv_aload_n hx hb dL_law_437 rfl (lv_at hl 3 rfl) ?_
  refine lv_aload_n hx hb dL_law_438 rfl (lv_at hl 1 rfl) ?_
  refine lv_iload hx hb dL_law_439 (lv_at hl 5 rfl) ?_
  refine lv_iconst (v := nI 1) hx hb dL_law_441 (by decide) ?_
  refine lv_iadd hx hb dL_law_442 ?_
  refine mw_ti (v' := nI (i + 1)) (nI_add _ _) ?_
  refine mw_sld hx hb hX hbl hbA hw (i := i + 1) (by omega) (by omega) dL_law_443 ?_
  refine lv_aload_n hx hb dL_law_444 rfl (lv_at hl 1 rfl) ?_
  refine lv_iload hx hb dL_law_445 (lv_at hl 5 rfl) ?_
  refine lv_iconst (v := nI 2) hx hb dL_law_447 (by decide) ?_
  refine lv_iadd hx hb dL_law_448 ?_
  refine mw_ti (v' := nI (i + 2)) (nI_add _ _) ?_
  refine mw_sld hx hb hX hbl hbA hw (i := i + 2) (by omega) (by omega) dL_law_449 ?_
  refine lv_aload_n hx hb dL_law_450 rfl (lv_at hl 1 rfl) ?_
  refine lv_iload hx hb dL_law_451 (lv_at hl 5 rfl) ?_
  refine lv_iconst (v := nI 3) hx hb dL_law_453 (by decide) ?_
  refine lv_iadd hx hb dL_law_454 ?_
  refine mw_ti (v' := nI (i + 3)) (nI_add _ _) ?_
  refine mw_sld hx hb hX hbl hbA hw (i := i + 3) (by omega) (by omega) dL_law_455 ?_
  refine md_ci hC hw (va_runV (As := [.int (xs (i + 1)), .int (xs (i + 2)), .int (xs (i + 3))]) (rest := []) ⟨hx, hb, hml, hown, hts⟩ (hm H.size) (cwV 3 hts gw_X7_bit_ rfl hrc2 hrs2 (by decide +kernel) ⟨show rm2.frames + 1 ≤ 12 by omega, show 8 + (5 + 11) + rm2.locals ≤ 428 by omega⟩) (mw_preV (ci := 7) hC hw rfl hmd.1) rfl rfl hl.1 rfl (lv_room (Nat.le_of_ble_eq_true rfl)) dL_law_456 ⟨show cl + mc + 0 ≤ 601024 by omega, show sl + ms + 0 ≤ 7293034 by omega⟩) (fun M2 H locs hm2 hf2 hw => ?_)
  refine lv_istore (lv' := [(6, .int (r)), (5, .int (nI (k))), (0, .ref (b)), (1, .ref (x)), (2, .ref (mh)), (3, .ref (o)), (4, .int (nI (i)))]) hx hb dL_law_459 hl (by decide) rfl (fun ls hl => ?_)
  refine lv_goto (tgt := 681) hx hb dL_law_461 (by decide) ?_
  refine W.widen (k := cl + 1) (n := sl + 6) (show cl + mc + 0 ≤ cl + 1 by omega) (show sl + ms + 0 ≤ sl + 6 by omega) ?_
  exact kk M2 H locs ls hm2 hf2 hw (lv_sub hl [2, 3, 4, 5, 6] rfl)
set_option maxHeartbeats 4000000 in
set_option maxRecDepth 100000 in
theorem lp_taken {p : Program} {e : Env} {s : State} {m : MethodId} {below : List Frame} {meth : Method} {c : Code} (l : Launch) {b L : Nat} {xs : Nat → Int32} {G : mw_G} {Q : State → Prop} (C0 : lw_At p s m meth c b L xs) (hL : L ≤ 4096) (hC : mw_C G (lw_A s) s) {i : Nat} (hi : i + 6 ≤ L) {cl sl : Nat} (hcl : cl + 1 ≤ 601024) (hsl : sl + 6 ≤ 7293034) {x mh o : Nat} {M M1 : mw_M} {H : Heap} {locs : List Loc} {ls : Array Slot} (hw : mw_St G (lw_A s) s M H locs) (hl : lv_has ls 7 [(0, .ref (b)), (1, .ref (x)), (2, .ref (mh)), (3, .ref (o)), (4, .int (nI (i)))])
    {rmh : Room} {mc ms k : Nat} (hrc : rmh.cells = mc) (hrs : rmh.slots = ms) (hF : rmh.frames ≤ 10) (hLo : rmh.locals ≤ 245) (hmc : mc ≤ 1) (hms : ms ≤ 6) (hk : k ≤ 2) (hc : ∀ sz, Met l yL_taken wsL_taken rmh (mw_pre G M sz [.ref (x), .int (xs (i + 1)), .int (xs (i + 2)), .int (xs (i + 3)), .ref (o)]) (mw_Qi G M sz (nI (k)) M1) mc ms (mw_A M sz))
    {a : Nat → Nat} {c1 u1 u2 : Nat} {A1 A2 : md_S} (hmd : md_at G M1 mh a c1 u1 A1) {r : Int32} {k2 : Nat} {rm2 : Room} (hrc2 : rm2.cells = 0) (hrs2 : rm2.slots = 0) (hF2 : rm2.frames ≤ 10) (hLo2 : rm2.locals ≤ 245) (hm : ∀ sz, Met l yX7_taken wsX7_taken rm2 (mw_pre G M1 sz [.ref (mh), .int (xs (i + 1)), .int (xs (i + 2)), .int (xs (i + 3))]) (md_Qi G M1 sz mh a r k2 u2 A2) 0 0 (mw_A M1 sz))
    (kk : ∀ (M2 : mw_M) (H : Heap) (locs : List Loc) (ls : Array Slot), md_at G M2 mh a k2 u2 A2 → md_fr mh a M1 M2 → mw_St G (lw_A s) s M2 H locs → lv_has ls 7 [(0, .ref (b)), (1, .ref (x)), (2, .ref (mh)), (3, .ref (o)), (4, .int (nI (i)))] → W p l e room_1 s m #[Value.ref b] below meth c H locs (cl + 1) (sl + 6) Q (F0 m 681 ls [])) : W p l e room_1 s m #[Value.ref b] below meth c H locs cl sl Q (F0 m 464 ls []) := by
  obtain ⟨hx, hb, hr, hml, hown, hts, hX, hbl, hlocks, hgv⟩ := C0
  have hbA : ¬ lw_A s b := Nat.not_le.mpr hbl
  refine lv_aload_n hx hb dL_law_464 rfl (lv_at hl 1 rfl) ?_
  refine lv_aload_n hx hb dL_law_465 rfl (lv_at hl 0 rfl) ?_
  refine lv_iload hx hb dL_law_466 (lv_at hl 4 rfl) ?_
  refine lv_iconst (v := nI 1) hx hb dL_law_468 (by decide) ?_
  refine lv_iadd hx hb dL_law_469 ?_
  refine mw_ti (v' := nI (i + 1)) (nI_add _ _) ?_
  refine mw_sld hx hb hX hbl hbA hw (i := i + 1) (by omega) (by omega) dL_law_470 ?_
  refine lv_aload_n hx hb dL_law_471 rfl (lv_at hl 0 rfl) ?_
  refine lv_iload hx hb dL_law_472 (lv_at hl 4 rfl) ?_
  refine lv_iconst (v := nI 2) hx hb dL_law_474 (by decide) ?_
  refine lv_iadd hx hb dL_law_475 ?_
  refine mw_ti (v' := nI (i + 2)) (nI_add _ _) ?_
  refine mw_sld hx hb hX hbl hbA hw (i := i + 2) (by omega) (by omega) dL_law_476 ?_
  refine lv_aload_n hx hb dL_law_477 rfl (lv_at hl 0 rfl) ?_
  refine lv_iload hx hb dL_law_478 (lv_at hl 4 rfl) ?_
  refine lv_iconst (v := nI 3) hx hb dL_law_480 (by decide) ?_
  refine lv_iadd hx hb dL_law_481 ?_
  refine mw_ti (v' := nI (i + 3)) (nI_add _ _) ?_
  refine mw_sld hx hb hX hbl hbA hw (i := i + 3) (by omega) (by omega) dL_law_482 ?_
  refine lv_aload_n hx hb dL_law_483 rfl (lv_at hl 3 rfl) ?_
  refine mw_ci hC hw (vx_runSW (As := [.ref (x), .int (xs (i + 1)), .int (xs (i + 2)), .int (xs (i + 3)), .ref (o)]) (rest := []) ⟨hx, hb, hml, hown, hts⟩ (hc H.size) (vx_cwSW 5 hts gw_L_taken rfl hrc hrs (by decide +kernel) ⟨show rmh.frames + 1 ≤ 12 by omega, show 8 + (6 + 11) + rmh.locals ≤ 428 by omega⟩) (mw_preS hC hw) rfl rfl hl.1 rfl (lv_room (Nat.le_of_ble_eq_true rfl)) dL_law_484 ⟨show cl + mc ≤ 601024 by omega, show sl + ms ≤ 7293034 by omega⟩) (fun H locs hz9 hw => ?_)
  refine lv_istore (lv' := [(5, .int (nI (k))), (0, .ref (b)), (1, .ref (x)), (2, .ref (mh)), (3, .ref (o)), (4, .int (nI (i)))]) hx hb dL_law_487 hl (by decide) rfl (fun ls hl => ?_)
  refine lv_aload_n hx hb dL_law_489 rfl (lv_at hl 3 rfl) ?_
  refine lv_aload_n hx hb dL_law_490 rfl (lv_at hl 1 rfl) ?_
  refine lv_iload hx hb dL_law_491 (lv_at hl 5 rfl) ?_
  refine lv_iconst (v := nI 1) hx hb dL_law_493 (by decide) ?_
  refine lv_iadd hx hb dL_law_494 ?_
  refine mw_ti (v' := nI (i + 1)) (nI_add _ _) ?_
  refine mw_sld hx hb hX hbl hbA hw (i := i + 1) (by omega) (by omega) dL_law_495 ?_
  refine lv_aload_n hx hb dL_law_496 rfl (lv_at hl 1 rfl) ?_
  refine lv_iload hx hb dL_law_497 (lv_at hl 5 rfl) ?_
  refine lv_iconst (v := nI 2) hx hb dL_law_499 (by decide) ?_
  refine lv_iadd hx hb dL_law_500 ?_
  refine mw_ti (v' := nI (i + 2)) (nI_add _ _) ?_
  refine mw_sld hx hb hX hbl hbA hw (i := i + 2) (by omega) (by omega) dL_law_501 ?_
  refine lv_aload_n hx hb dL_law_502 rfl (lv_at hl 1 rfl) ?_
  refine lv_iload hx hb dL_law_503 (lv_at hl 5 rfl) ?_
  refine lv_iconst (v := nI 3) hx hb dL_law_505 (by decide) ?_
  refine lv_iadd hx hb dL_law_506 ?_
  refine mw_ti (v' := nI (i + 3)) (nI_add _ _) ?_
  refine mw_sld hx hb hX hbl hbA hw (i := i + 3) (by omega) (by omega) dL_law_507 ?_
  refine md_ci hC hw (va_runV (As := [.int (xs (i + 1)), .int (xs (i + 2)), .int (xs (i + 3))]) (rest := []) ⟨hx, hb, hml, hown, hts⟩ (hm H.size) (cwV 3 hts gw_X7_taken rfl hrc2 hrs2 (by decide +kernel) ⟨show rm2.frames + 1 ≤ 12 by omega, show 8 + (5 + 11) + rm2.locals ≤ 428 by omega⟩) (mw_preV (ci := 7) hC hw rfl hmd.1) rfl rfl hl.1 rfl (lv_room (Nat.le_of_ble_eq_true rfl)) dL_law_508 ⟨show cl + mc + 0 ≤ 601024 by omega, show sl + ms + 0 ≤ 7293034 by omega⟩) (fun M2 H locs hm2 hf2 hw => ?_)
  refine lv_istore (lv' := [(6, .int (r)), (5, .int (nI (k))), (0, .ref (b)), (1, .ref (x)), (2, .ref (mh)), (3, .ref (o)), (4, .int (nI (i)))]) hx hb dL_law_511 hl (by decide) rfl (fun ls hl => ?_)
  refine lv_goto (tgt := 681) hx hb dL_law_513 (by decide) ?_
  refine W.widen (k := cl + 1) (n := sl + 6) (show cl + mc + 0 ≤ cl + 1 by omega) (show sl + ms + 0 ≤ sl + 6 by omega) ?_
  exact kk M2 H locs ls hm2 hf2 hw (lv_sub hl [2, 3, 4, 5, 6] rfl)
set_option maxHeartbeats 4000000 in
set_option maxRecDepth 100000 in
theorem lp_check {p : Program} {e : Env} {s : State} {m : MethodId} {below : List Frame} {meth : Method} {c : Code} (l : Launch) {b L : Nat} {xs : Nat → Int32} {G : mw_G} {Q : State → Prop} (C0 : lw_At p s m meth c b L xs) (hL : L ≤ 4096) (hC : mw_C G (lw_A s) s) {i : Nat} (hi : i + 6 ≤ L) {cl sl : Nat} (hcl : cl + 1 ≤ 601024) (hsl : sl + 6 ≤ 7293034) {x mh o : Nat} {M M1 : mw_M} {H : Heap} {locs : List Loc} {ls : Array Slot} (hw : mw_St G (lw_A s) s M H locs) (hl : lv_has ls 7 [(0, .ref (b)), (1, .ref (x)), (2, .ref (mh)), (3, .ref (o)), (4, .int (nI (i)))])
    {rmh : Room} {mc ms k : Nat} (hrc : rmh.cells = mc) (hrs : rmh.slots = ms) (hF : rmh.frames ≤ 10) (hLo : rmh.locals ≤ 245) (hmc : mc ≤ 1) (hms : ms ≤ 6) (hk : k ≤ 2) (hc : ∀ sz, Met l yL_check wsL_check rmh (mw_pre G M sz [.ref (x), .long (lw_w xs (i + 1)), .int (xs (i + 3)), .ref (o)]) (mw_Qi G M sz (nI (k)) M1) mc ms (mw_A M sz))
    {a : Nat → Nat} {c1 u1 u2 : Nat} {A1 A2 : md_S} (hmd : md_at G M1 mh a c1 u1 A1) {r : Int32} {ov : Nat → Int64} (eo : M1 o = some (.inl (G.2 2, 1, .inr (.inl (ov))))) (heq : k = 0 → ov 0 = r.toInt64) {rm2 : Room} (hrc2 : rm2.cells = 0) (hrs2 : rm2.slots = 0) (hF2 : rm2.frames ≤ 10) (hLo2 : rm2.locals ≤ 245) (hm : ∀ sz, Met l yX7_check wsX7_check rm2 (mw_pre G M1 sz [.ref (mh), .long (lw_w xs (i + 1)), .int (xs (i + 3))]) (md_Qi G M1 sz mh a r k u2 A2) 0 0 (mw_A M1 sz))
    (kk : ∀ (M2 : mw_M) (H : Heap) (locs : List Loc) (ls : Array Slot), md_at G M2 mh a k u2 A2 → md_fr mh a M1 M2 → mw_St G (lw_A s) s M2 H locs → lv_has ls 7 [(0, .ref (b)), (1, .ref (x)), (2, .ref (mh)), (3, .ref (o)), (4, .int (nI (i)))] → W p l e room_1 s m #[Value.ref b] below meth c H locs (cl + 1) (sl + 6) Q (F0 m 681 ls [])) : W p l e room_1 s m #[Value.ref b] below meth c H locs cl sl Q (F0 m 516 ls []) := by
  obtain ⟨hx, hb, hr, hml, hown, hts, hX, hbl, hlocks, hgv⟩ := C0
  have hbA : ¬ lw_A s b := Nat.not_le.mpr hbl
  have k_0 := hts (.constantLong RL 76 (4294967295)) (by decide +kernel)
  refine lv_aload_n hx hb dL_law_516 rfl (lv_at hl 1 rfl) ?_
  refine lv_aload_n hx hb dL_law_517 rfl (lv_at hl 0 rfl) ?_
  refine lv_iload hx hb dL_law_518 (lv_at hl 4 rfl) ?_
  refine lv_iconst (v := nI 1) hx hb dL_law_520 (by decide) ?_
  refine lv_iadd hx hb dL_law_521 ?_
  refine mw_ti (v' := nI (i + 1)) (nI_add _ _) ?_
  refine mw_sld hx hb hX hbl hbA hw (i := i + 1) (by omega) (by omega) dL_law_522 ?_
  refine lv_i2l hx hb dL_law_523 rfl ?_
  refine lv_bipush (v := nI 32) hx hb dL_law_524 (by decide) ?_
  refine lv_lshl hx hb dL_law_526 rfl ?_
  refine lv_aload_n hx hb dL_law_527 rfl (lv_at hl 0 rfl) ?_
  refine lv_iload hx hb dL_law_528 (lv_at hl 4 rfl) ?_
  refine lv_iconst (v := nI 2) hx hb dL_law_530 (by decide) ?_
  refine lv_iadd hx hb dL_law_531 ?_
  refine mw_ti (v' := nI (i + 2)) (nI_add _ _) ?_
  refine mw_sld hx hb hX hbl hbA hw (i := i + 2) (by omega) (by omega) dL_law_532 ?_
  refine lv_i2l hx hb dL_law_533 rfl ?_
  refine lv_ldc2 hx hb hown k_0 dL_law_534 ?_
  refine lv_land hx hb dL_law_537 ?_
  refine lv_lor hx hb dL_law_538 ?_
  refine mw_tl (v' := lw_w xs (i + 1)) rfl ?_
  refine lv_aload_n hx hb dL_law_539 rfl (lv_at hl 0 rfl) ?_
  refine lv_iload hx hb dL_law_540 (lv_at hl 4 rfl) ?_
  refine lv_iconst (v := nI 3) hx hb dL_law_542 (by decide) ?_
  refine lv_iadd hx hb dL_law_543 ?_
  refine mw_ti (v' := nI (i + 3)) (nI_add _ _) ?_
  refine mw_sld hx hb hX hbl hbA hw (i := i + 3) (by omega) (by omega) dL_law_544 ?_
  refine lv_aload_n hx hb dL_law_545 rfl (lv_at hl 3 rfl) ?_
  refine mw_ci hC hw (vx_runSW (As := [.ref (x), .long (lw_w xs (i + 1)), .int (xs (i + 3)), .ref (o)]) (rest := []) ⟨hx, hb, hml, hown, hts⟩ (hc H.size) (vx_cwSW 4 hts gw_L_check rfl hrc hrs (by decide +kernel) ⟨show rmh.frames + 1 ≤ 12 by omega, show 8 + (6 + 11) + rmh.locals ≤ 428 by omega⟩) (mw_preS hC hw) rfl rfl hl.1 rfl (lv_room (Nat.le_of_ble_eq_true rfl)) dL_law_546 ⟨show cl + mc ≤ 601024 by omega, show sl + ms ≤ 7293034 by omega⟩) (fun H locs hz9 hw => ?_)
  refine lv_istore (lv' := [(5, .int (nI (k))), (0, .ref (b)), (1, .ref (x)), (2, .ref (mh)), (3, .ref (o)), (4, .int (nI (i)))]) hx hb dL_law_549 hl (by decide) rfl (fun ls hl => ?_)
  refine lv_aload_n hx hb dL_law_551 rfl (lv_at hl 3 rfl) ?_
  refine lv_aload_n hx hb dL_law_552 rfl (lv_at hl 1 rfl) ?_
  refine lv_iload hx hb dL_law_553 (lv_at hl 5 rfl) ?_
  refine lv_iconst (v := nI 1) hx hb dL_law_555 (by decide) ?_
  refine lv_iadd hx hb dL_law_556 ?_
  refine mw_ti (v' := nI (i + 1)) (nI_add _ _) ?_
  refine mw_sld hx hb hX hbl hbA hw (i := i + 1) (by omega) (by omega) dL_law_557 ?_
  refine lv_i2l hx hb dL_law_558 rfl ?_
  refine lv_bipush (v := nI 32) hx hb dL_law_559 (by decide) ?_
  refine lv_lshl hx hb dL_law_561 rfl ?_
  refine lv_aload_n hx hb dL_law_562 rfl (lv_at hl 1 rfl) ?_
  refine lv_iload hx hb dL_law_563 (lv_at hl 5 rfl) ?_
  refine lv_iconst (v := nI 2) hx hb dL_law_565 (by decide) ?_
  refine lv_iadd hx hb dL_law_566 ?_
  refine mw_ti (v' := nI (i + 2)) (nI_add _ _) ?_
  refine mw_sld hx hb hX hbl hbA hw (i := i + 2) (by omega) (by omega) dL_law_567 ?_
  refine lv_i2l hx hb dL_law_568 rfl ?_
  refine lv_ldc2 hx hb hown k_0 dL_law_569 ?_
  refine lv_land hx hb dL_law_572 ?_
  refine lv_lor hx hb dL_law_573 ?_
  refine mw_tl (v' := lw_w xs (i + 1)) rfl ?_
  refine lv_aload_n hx hb dL_law_574 rfl (lv_at hl 1 rfl) ?_
  refine lv_iload hx hb dL_law_575 (lv_at hl 5 rfl) ?_
  refine lv_iconst (v := nI 3) hx hb dL_law_577 (by decide) ?_
  refine lv_iadd hx hb dL_law_578 ?_
  refine mw_ti (v' := nI (i + 3)) (nI_add _ _) ?_
  refine mw_sld hx hb hX hbl hbA hw (i := i + 3) (by omega) (by omega) dL_law_579 ?_
  refine md_ci hC hw (va_runV (As := [.long (lw_w xs (i + 1)), .int (xs (i + 3))]) (rest := []) ⟨hx, hb, hml, hown, hts⟩ (hm H.size) (cwV 2 hts gw_X7_check rfl hrc2 hrs2 (by decide +kernel) ⟨show rm2.frames + 1 ≤ 12 by omega, show 8 + (6 + 11) + rm2.locals ≤ 428 by omega⟩) (mw_preV (ci := 7) hC hw rfl hmd.1) rfl rfl hl.1 rfl (lv_room (Nat.le_of_ble_eq_true rfl)) dL_law_580 ⟨show cl + mc + 0 ≤ 601024 by omega, show sl + ms + 0 ≤ 7293034 by omega⟩) (fun M2 H locs hm2 hf2 hw => ?_)
  refine lv_istore (lv' := [(6, .int (r)), (5, .int (nI (k))), (0, .ref (b)), (1, .ref (x)), (2, .ref (mh)), (3, .ref (o)), (4, .int (nI (i)))]) hx hb dL_law_583 hl (by decide) rfl (fun ls hl => ?_)
  refine lv_aload_n hx hb dL_law_585 rfl (lv_at hl 4 rfl) ?_
  refine md_ci hC hw (va_runV (As := []) (rest := []) ⟨hx, hb, hml, hown, hts⟩ (c_X7_thrown l G _ H.size mh a k u2 A2 hm2) (cwV 0 hts gw_X7_thrown rfl rfl rfl (by decide +kernel) ⟨Nat.le_of_ble_eq_true rfl, Nat.le_of_ble_eq_true rfl⟩) (mw_preV (ci := 7) hC hw rfl hm2.1) rfl rfl hl.1 rfl (lv_room (Nat.le_of_ble_eq_true rfl)) dL_law_586 ⟨show cl + mc + 0 + 0 ≤ 601024 by omega, show sl + ms + 0 + 0 ≤ 7293034 by omega⟩) (fun M2 H locs hm2 hf3 hw => ?_)
  have hf2 := hf2.tr hf3
  have eo2 := (hf2 o (mw_ne eo hmd.1 (by intro h9; cases h9)) (fun j hj => mw_ne eo (hmd.2.1 j hj) (by simp [md_arr]))).trans eo
  refine lv_iload hx hb dL_law_589 (lv_at hl 1 rfl) ?_
  refine lv_icmp_eq (tgt := 596) hx hb dL_law_591 (by decide) (fun _ => ?_) (fun h9 => absurd rfl h9)
  refine lv_iload hx hb dL_law_596 (lv_at hl 1 rfl) ?_
  refine lv_if_ne (tgt := 613) hx hb dL_law_598 (by decide) (fun hk0 => ?_) (fun hk0 => ?_)
  · skip
    refine lv_goto (tgt := 681) hx hb dL_law_613 (by decide) ?_
    refine W.widen (k := cl + 1) (n := sl + 6) (show cl + mc + 0 + 0 ≤ cl + 1 by omega) (show sl + ms + 0 + 0 ≤ sl + 6 by omega) ?_
    exact kk M2 H locs ls hm2 hf2 hw (lv_sub hl [2, 3, 4, 5, 6] rfl)
  · skip
    have hk0 : k = 0 := (nI_eq (a := k) (b := 0) (by omega) (by omega)).mp (show nI k = nI 0 from hk0)
    refine lv_aload_n hx hb dL_law_601 rfl (lv_at hl 5 rfl) ?_
    refine lv_iconst (v := nI 0) hx hb dL_law_602 (by decide) ?_
    refine mw_laldN (n := 1) (f := ov) (i := 0) hx hb hC hw eo2 (by omega) (by decide) dL_law_603 ?_
    refine lv_iload hx hb dL_law_604 (lv_at hl 0 rfl) ?_
    refine lv_i2l hx hb dL_law_606 rfl ?_
    refine W.lcmp hx hb dL_law_607 ?_
    refine lv_if_eq (tgt := 613) hx hb dL_law_608 (by decide) (fun c_1 => ?_) (fun c_1 => ?_)
    · skip
      refine lv_goto (tgt := 681) hx hb dL_law_613 (by decide) ?_
      refine W.widen (k := cl + 1) (n := sl + 6) (show cl + mc + 0 + 0 ≤ cl + 1 by omega) (show sl + ms + 0 + 0 ≤ sl + 6 by omega) ?_
      exact kk M2 H locs ls hm2 hf2 hw (lv_sub hl [2, 3, 4, 5, 6] rfl)
    · exact absurd ((lg_cmp_eq _ _).mpr (heq hk0)) c_1
set_option maxHeartbeats 4000000 in
set_option maxRecDepth 100000 in
theorem lp_about {p : Program} {e : Env} {s : State} {m : MethodId} {below : List Frame} {meth : Method} {c : Code} (l : Launch) {b L : Nat} {xs : Nat → Int32} {G : mw_G} {Q : State → Prop} (C0 : lw_At p s m meth c b L xs) (hL : L ≤ 4096) (hC : mw_C G (lw_A s) s) {i : Nat} (hi : i + 6 ≤ L) {cl sl : Nat} (hcl : cl + 1 ≤ 601024) (hsl : sl + 6 ≤ 7293034) {x mh o : Nat} {M M1 : mw_M} {H : Heap} {locs : List Loc} {ls : Array Slot} (hw : mw_St G (lw_A s) s M H locs) (hl : lv_has ls 7 [(0, .ref (b)), (1, .ref (x)), (2, .ref (mh)), (3, .ref (o)), (4, .int (nI (i)))])
    {rmh : Room} {mc ms k : Nat} (hrc : rmh.cells = mc) (hrs : rmh.slots = ms) (hF : rmh.frames ≤ 10) (hLo : rmh.locals ≤ 245) (hmc : mc ≤ 1) (hms : ms ≤ 6) (hk : k ≤ 2) (hc : ∀ sz, Met l yL_about wsL_about rmh (mw_pre G M sz [.ref (x), .int (xs (i + 1)), .int (xs (i + 2)), .ref (o)]) (mw_Qi G M sz (nI (k)) M1) mc ms (mw_A M sz))
    {a : Nat → Nat} {c1 u1 u2 : Nat} {A1 A2 : md_S} (hmd : md_at G M1 mh a c1 u1 A1) {r : Int32} {k2 : Nat} {rm2 : Room} (hrc2 : rm2.cells = 0) (hrs2 : rm2.slots = 0) (hF2 : rm2.frames ≤ 10) (hLo2 : rm2.locals ≤ 245) (hm : ∀ sz, Met l yX7_about wsX7_about rm2 (mw_pre G M1 sz [.ref (mh), .int (xs (i + 1)), .int (xs (i + 2))]) (md_Qi G M1 sz mh a r k2 u2 A2) 0 0 (mw_A M1 sz))
    (kk : ∀ (M2 : mw_M) (H : Heap) (locs : List Loc) (ls : Array Slot), md_at G M2 mh a k2 u2 A2 → md_fr mh a M1 M2 → mw_St G (lw_A s) s M2 H locs → lv_has ls 7 [(0, .ref (b)), (1, .ref (x)), (2, .ref (mh)), (3, .ref (o)), (4, .int (nI (i)))] → W p l e room_1 s m #[Value.ref b] below meth c H locs (cl + 1) (sl + 6) Q (F0 m 681 ls [])) : W p l e room_1 s m #[Value.ref b] below meth c H locs cl sl Q (F0 m 616 ls []) := by
  obtain ⟨hx, hb, hr, hml, hown, hts, hX, hbl, hlocks, hgv⟩ := C0
  have hbA : ¬ lw_A s b := Nat.not_le.mpr hbl
  refine lv_aload_n hx hb dL_law_616 rfl (lv_at hl 1 rfl) ?_
  refine lv_aload_n hx hb dL_law_617 rfl (lv_at hl 0 rfl) ?_
  refine lv_iload hx hb dL_law_618 (lv_at hl 4 rfl) ?_
  refine lv_iconst (v := nI 1) hx hb dL_law_620 (by decide) ?_
  refine lv_iadd hx hb dL_law_621 ?_
  refine mw_ti (v' := nI (i + 1)) (nI_add _ _) ?_
  refine mw_sld hx hb hX hbl hbA hw (i := i + 1) (by omega) (by omega) dL_law_622 ?_
  refine lv_aload_n hx hb dL_law_623 rfl (lv_at hl 0 rfl) ?_
  refine lv_iload hx hb dL_law_624 (lv_at hl 4 rfl) ?_
  refine lv_iconst (v := nI 2) hx hb dL_law_626 (by decide) ?_
  refine lv_iadd hx hb dL_law_627 ?_
  refine mw_ti (v' := nI (i + 2)) (nI_add _ _) ?_
  refine mw_sld hx hb hX hbl hbA hw (i := i + 2) (by omega) (by omega) dL_law_628 ?_
  refine lv_aload_n hx hb dL_law_629 rfl (lv_at hl 3 rfl) ?_
  refine mw_ci hC hw (vx_runSW (As := [.ref (x), .int (xs (i + 1)), .int (xs (i + 2)), .ref (o)]) (rest := []) ⟨hx, hb, hml, hown, hts⟩ (hc H.size) (vx_cwSW 4 hts gw_L_about rfl hrc hrs (by decide +kernel) ⟨show rmh.frames + 1 ≤ 12 by omega, show 8 + (5 + 11) + rmh.locals ≤ 428 by omega⟩) (mw_preS hC hw) rfl rfl hl.1 rfl (lv_room (Nat.le_of_ble_eq_true rfl)) dL_law_630 ⟨show cl + mc ≤ 601024 by omega, show sl + ms ≤ 7293034 by omega⟩) (fun H locs hz9 hw => ?_)
  refine lv_istore (lv' := [(5, .int (nI (k))), (0, .ref (b)), (1, .ref (x)), (2, .ref (mh)), (3, .ref (o)), (4, .int (nI (i)))]) hx hb dL_law_633 hl (by decide) rfl (fun ls hl => ?_)
  refine lv_aload_n hx hb dL_law_635 rfl (lv_at hl 3 rfl) ?_
  refine lv_aload_n hx hb dL_law_636 rfl (lv_at hl 1 rfl) ?_
  refine lv_iload hx hb dL_law_637 (lv_at hl 5 rfl) ?_
  refine lv_iconst (v := nI 1) hx hb dL_law_639 (by decide) ?_
  refine lv_iadd hx hb dL_law_640 ?_
  refine mw_ti (v' := nI (i + 1)) (nI_add _ _) ?_
  refine mw_sld hx hb hX hbl hbA hw (i := i + 1) (by omega) (by omega) dL_law_641 ?_
  refine lv_aload_n hx hb dL_law_642 rfl (lv_at hl 1 rfl) ?_
  refine lv_iload hx hb dL_law_643 (lv_at hl 5 rfl) ?_
  refine lv_iconst (v := nI 2) hx hb dL_law_645 (by decide) ?_
  refine lv_iadd hx hb dL_law_646 ?_
  refine mw_ti (v' := nI (i + 2)) (nI_add _ _) ?_
  refine mw_sld hx hb hX hbl hbA hw (i := i + 2) (by omega) (by omega) dL_law_647 ?_
  refine md_ci hC hw (va_runV (As := [.int (xs (i + 1)), .int (xs (i + 2))]) (rest := []) ⟨hx, hb, hml, hown, hts⟩ (hm H.size) (cwV 2 hts gw_X7_about rfl hrc2 hrs2 (by decide +kernel) ⟨show rm2.frames + 1 ≤ 12 by omega, show 8 + (3 + 11) + rm2.locals ≤ 428 by omega⟩) (mw_preV (ci := 7) hC hw rfl hmd.1) rfl rfl hl.1 rfl (lv_room (Nat.le_of_ble_eq_true rfl)) dL_law_648 ⟨show cl + mc + 0 ≤ 601024 by omega, show sl + ms + 0 ≤ 7293034 by omega⟩) (fun M2 H locs hm2 hf2 hw => ?_)
  refine lv_istore (lv' := [(6, .int (r)), (5, .int (nI (k))), (0, .ref (b)), (1, .ref (x)), (2, .ref (mh)), (3, .ref (o)), (4, .int (nI (i)))]) hx hb dL_law_651 hl (by decide) rfl (fun ls hl => ?_)
  refine lv_goto (tgt := 681) hx hb dL_law_653 (by decide) ?_
  refine W.widen (k := cl + 1) (n := sl + 6) (show cl + mc + 0 ≤ cl + 1 by omega) (show sl + ms + 0 ≤ sl + 6 by omega) ?_
  exact kk M2 H locs ls hm2 hf2 hw (lv_sub hl [2, 3, 4, 5, 6] rfl)
set_option maxHeartbeats 4000000 in
set_option maxRecDepth 100000 in
theorem lp_restart {p : Program} {e : Env} {s : State} {m : MethodId} {below : List Frame} {meth : Method} {c : Code} (l : Launch) {b L : Nat} {xs : Nat → Int32} {G : mw_G} {Q : State → Prop} (C0 : lw_At p s m meth c b L xs) (hL : L ≤ 4096) (hC : mw_C G (lw_A s) s) {i : Nat} (hi : i + 6 ≤ L) {cl sl : Nat} (hcl : cl + 1 ≤ 601024) (hsl : sl + 6 ≤ 7293034) {x mh o : Nat} {M M1 : mw_M} {H : Heap} {locs : List Loc} {ls : Array Slot} (hw : mw_St G (lw_A s) s M H locs) (hl : lv_has ls 7 [(0, .ref (b)), (1, .ref (x)), (2, .ref (mh)), (3, .ref (o)), (4, .int (nI (i)))])
    {rmh : Room} {mc ms k : Nat} (hrc : rmh.cells = mc) (hrs : rmh.slots = ms) (hF : rmh.frames ≤ 10) (hLo : rmh.locals ≤ 245) (hmc : mc ≤ 1) (hms : ms ≤ 6) (hk : k ≤ 2) (hc : ∀ sz, Met l yL_restart wsL_restart rmh (mw_pre G M sz [.ref (x), .int (xs (i + 1))]) (mw_Qi G M sz (nI (k)) M1) mc ms (mw_A M sz))
    {a : Nat → Nat} {c1 u1 u2 : Nat} {A1 A2 : md_S} (hmd : md_at G M1 mh a c1 u1 A1) {k2 : Nat} {rm2 : Room} (hrc2 : rm2.cells = 0) (hrs2 : rm2.slots = 0) (hF2 : rm2.frames ≤ 10) (hLo2 : rm2.locals ≤ 245) (hm : ∀ sz, Met l yX7_restart wsX7_restart rm2 (mw_pre G M1 sz [.ref (mh), .int (xs (i + 1))]) (md_Qv G M1 sz mh a k2 u2 A2) 0 0 (mw_A M1 sz))
    (kk : ∀ (M2 : mw_M) (H : Heap) (locs : List Loc) (ls : Array Slot), md_at G M2 mh a k2 u2 A2 → md_fr mh a M1 M2 → mw_St G (lw_A s) s M2 H locs → lv_has ls 7 [(0, .ref (b)), (1, .ref (x)), (2, .ref (mh)), (3, .ref (o)), (4, .int (nI (i)))] → W p l e room_1 s m #[Value.ref b] below meth c H locs (cl + 1) (sl + 6) Q (F0 m 681 ls [])) : W p l e room_1 s m #[Value.ref b] below meth c H locs cl sl Q (F0 m 656 ls []) := by
  obtain ⟨hx, hb, hr, hml, hown, hts, hX, hbl, hlocks, hgv⟩ := C0
  have hbA : ¬ lw_A s b := Nat.not_le.mpr hbl
  refine lv_aload_n hx hb dL_law_656 rfl (lv_at hl 1 rfl) ?_
  refine lv_aload_n hx hb dL_law_657 rfl (lv_at hl 0 rfl) ?_
  refine lv_iload hx hb dL_law_658 (lv_at hl 4 rfl) ?_
  refine lv_iconst (v := nI 1) hx hb dL_law_660 (by decide) ?_
  refine lv_iadd hx hb dL_law_661 ?_
  refine mw_ti (v' := nI (i + 1)) (nI_add _ _) ?_
  refine mw_sld hx hb hX hbl hbA hw (i := i + 1) (by omega) (by omega) dL_law_662 ?_
  refine mw_ci hC hw (vx_runSW (As := [.ref (x), .int (xs (i + 1))]) (rest := []) ⟨hx, hb, hml, hown, hts⟩ (hc H.size) (vx_cwSW 2 hts gw_L_restart rfl hrc hrs (by decide +kernel) ⟨show rmh.frames + 1 ≤ 12 by omega, show 8 + (3 + 11) + rmh.locals ≤ 428 by omega⟩) (mw_preS hC hw) rfl rfl hl.1 rfl (lv_room (Nat.le_of_ble_eq_true rfl)) dL_law_663 ⟨show cl + mc ≤ 601024 by omega, show sl + ms ≤ 7293034 by omega⟩) (fun H locs hz9 hw => ?_)
  refine lv_istore (lv' := [(5, .int (nI (k))), (0, .ref (b)), (1, .ref (x)), (2, .ref (mh)), (3, .ref (o)), (4, .int (nI (i)))]) hx hb dL_law_666 hl (by decide) rfl (fun ls hl => ?_)
  refine lv_aload_n hx hb dL_law_668 rfl (lv_at hl 3 rfl) ?_
  refine lv_aload_n hx hb dL_law_669 rfl (lv_at hl 1 rfl) ?_
  refine lv_iload hx hb dL_law_670 (lv_at hl 5 rfl) ?_
  refine lv_iconst (v := nI 1) hx hb dL_law_672 (by decide) ?_
  refine lv_iadd hx hb dL_law_673 ?_
  refine mw_ti (v' := nI (i + 1)) (nI_add _ _) ?_
  refine mw_sld hx hb hX hbl hbA hw (i := i + 1) (by omega) (by omega) dL_law_674 ?_
  refine md_cv hC hw (va_runV (As := [.int (xs (i + 1))]) (rest := []) ⟨hx, hb, hml, hown, hts⟩ (hm H.size) (cwV 1 hts gw_X7_restart rfl hrc2 hrs2 (by decide +kernel) ⟨show rm2.frames + 1 ≤ 12 by omega, show 8 + (2 + 11) + rm2.locals ≤ 428 by omega⟩) (mw_preV (ci := 7) hC hw rfl hmd.1) rfl rfl hl.1 rfl (lv_room (Nat.le_of_ble_eq_true rfl)) dL_law_675 ⟨show cl + mc + 0 ≤ 601024 by omega, show sl + ms + 0 ≤ 7293034 by omega⟩) (fun M2 H locs hm2 hf2 hw => ?_)
  refine lv_goto (tgt := 681) hx hb dL_law_678 (by decide) ?_
  refine W.widen (k := cl + 1) (n := sl + 6) (show cl + mc + 0 ≤ cl + 1 by omega) (show sl + ms + 0 ≤ sl + 6 by omega) ?_
  exact kk M2 H locs ls hm2 hf2 hw (lv_sub hl [1, 2, 3, 4, 5] rfl)
end
