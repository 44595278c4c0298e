/-! ===== the words of nest mates ===== -/
def mw_nestF : List Cond := [.fieldLinkNest "LinkPair$Line" 26 "LinkPair$Frame" "length" "I" "LinkPair", .fieldLinkNest "LinkPair" 96 "LinkPair$Frame" "length" "I" "LinkPair", .fieldLinkNest "LinkPair$Unit" 56 "LinkPair$Frame" "length" "I" "LinkPair", .fieldLinkNest "LinkPair" 76 "LinkPair$Line" "frames" "[LLinkPair$Frame;" "LinkPair", .fieldLinkNest "LinkPair$End" 45 "LinkPair$Line" "count" "I" "LinkPair", .fieldLinkNest "LinkPair" 73 "LinkPair$Line" "count" "I" "LinkPair", .fieldLinkNest "LinkPair$End" 95 "LinkPair$Messages" "lengths" "[I" "LinkPair", .fieldLinkNest "LinkPair$End" 99 "LinkPair$Messages" "seeds" "[I" "LinkPair", .fieldLinkNest "LinkPair$End" 89 "LinkPair$Messages" "untold" "I" "LinkPair", .fieldLinkNest "LinkPair$End" 67 "LinkPair$Messages" "again" "I" "LinkPair", .fieldLinkNest "LinkPair" 38 "LinkPair$Messages" "waiting" "I" "LinkPair", .fieldLinkNest "LinkPair$End" 150 "LinkPair$Messages" "waiting" "I" "LinkPair", .fieldLinkNest "LinkPair$End" 153 "LinkPair$Store" "total" "I" "LinkPair", .fieldLinkNest "LinkPair" 51 "LinkPair$End" "line" "LLinkPair$Line;" "LinkPair", .fieldLinkNest "LinkPair" 34 "LinkPair$End" "messages" "LLinkPair$Messages;" "LinkPair", .fieldLinkNest "LinkPair" 114 "LinkPair$End" "store" "LLinkPair$Store;" "LinkPair", .fieldLinkNest "LinkPair" 30 "LinkPair$End" "failed" "Z" "LinkPair"]
def mw_nestM : List Cond := [.methodLinkNest "LinkPair" 11 ⟨"LinkPair$End", "<init>", "()V"⟩ "LinkPair", .methodLinkNest "LinkPair$Line" 17 ⟨"LinkPair$Frame", "<init>", "()V"⟩ "LinkPair", .methodLinkNest "LinkPair$End" 20 ⟨"LinkPair$Messages", "<init>", "()V"⟩ "LinkPair", .methodLinkNest "LinkPair$End" 27 ⟨"LinkPair$Store", "<init>", "()V"⟩ "LinkPair", .methodLinkNest "LinkPair" 18 ⟨"LinkPair$Unit", "<init>", "()V"⟩ "LinkPair", .methodLinkNest "LinkPair$Unit" 33 ⟨"LinkPair", "restBehind", "(II)I"⟩ "LinkPair", .methodLinkNest "LinkPair$End" 81 ⟨"LinkPair", "nextNumber", "(I)I"⟩ "LinkPair"]
def mw_isF (w : Cond) : Bool := match w with
  | .fieldLinkNest _ _ _ _ _ _ => true
  | _ => false
def mw_isM (w : Cond) : Bool := match w with
  | .methodLinkNest _ _ _ _ => true
  | _ => false
theorem mw_nestF_all : mw_nestF.all mw_isF = true := by decide +kernel
theorem mw_nestM_all : mw_nestM.all mw_isM = true := by decide +kernel
theorem mw_isF_form (w : Cond) (h : mw_isF w = true) : ∃ a i b n d g, w = .fieldLinkNest a i b n d g := by
  cases w <;> first | exact ⟨_, _, _, _, _, _, rfl⟩ | (simp [mw_isF] at h)
theorem mw_isM_form (w : Cond) (h : mw_isM w = true) : ∃ a i x g, w = .methodLinkNest a i x g := by
  cases w <;> first | exact ⟨_, _, _, _, rfl⟩ | (simp [mw_isM] at h)
theorem mw_nestF_form : ∀ w ∈ mw_nestF, ∃ a i b n d g, w = .fieldLinkNest a i b n d g := fun w hw => mw_isF_form w (List.all_eq_true.mp mw_nestF_all w hw)
theorem mw_nestM_form : ∀ w ∈ mw_nestM, ∃ a i x g, w = .methodLinkNest a i x g := fun w hw => mw_isM_form w (List.all_eq_true.mp mw_nestM_all w hw)
theorem mw_nestF_in : ∀ w ∈ mw_nestF, w ∈ lw_tbl := by decide +kernel
theorem mw_nestM_in : ∀ w ∈ mw_nestM, w ∈ lw_tbl := by decide +kernel
/-- words of a throw that are no good words -/
def mw_xw : List Cond := [.declares ⟨"java/lang/RuntimeException", "<init>", "()V"⟩, .declares ⟨"java/lang/Exception", "<init>", "()V"⟩, .declares ⟨"java/lang/Throwable", "<init>", "()V"⟩, .castable "java/lang/IllegalArgumentException" "java/lang/IllegalArgumentException", .castable "java/lang/IllegalStateException" "java/lang/IllegalStateException"]
theorem mw_xw_form : ∀ w ∈ mw_xw, (∃ x, w = .declares x) ∨ ∃ a b, w = .castable a b := by
  intro w hw
  simp only [mw_xw, List.mem_cons, List.not_mem_nil, or_false] at hw
  rcases hw with rfl | rfl | rfl | rfl | rfl
  · exact Or.inl ⟨_, rfl⟩
  · exact Or.inl ⟨_, rfl⟩
  · exact Or.inl ⟨_, rfl⟩
  · exact Or.inr ⟨_, _, rfl⟩
  · exact Or.inr ⟨_, _, rfl⟩
theorem mw_xw_in : ∀ w ∈ mw_xw, w ∈ lw_tbl := by decide +kernel
theorem mw_xw_ot : ∀ w ∈ mw_xw, w.onTables = true := by decide +kernel
