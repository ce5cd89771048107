/-! The throw of a new exception with a text, no traces kept. -/
abbrev wx_nm : List String := ["java/lang/RuntimeException", "java/lang/Exception"]
def wx_ex : List String := ["java/lang/IllegalArgumentException", "java/lang/IllegalStateException", "java/lang/UnsupportedOperationException", "java/lang/IndexOutOfBoundsException"]
def wx_good (w : Cond) : Bool := w.onTables && w.keeps
theorem wx_bad (own cls : String) (ic : Nat) : (Bundle.ownAtoms own ic cls wx_nm).filter (fun w => !wx_good w) = [.laysStatic Bundle.tN "UNASSIGNED_STACK" Bundle.steD, .laysStatic Bundle.tN "SUPPRESSED_SENTINEL" Bundle.listD, .declares (Bundle.initS "java/lang/RuntimeException"), .declares (Bundle.initS "java/lang/Exception"), .declares (Bundle.initS Bundle.tN), .castable cls cls, .isRef (.static Bundle.tN "UNASSIGNED_STACK" Bundle.steD), .isRef (.static Bundle.tN "SUPPRESSED_SENTINEL" Bundle.listD)] := rfl
def wx_E (A : Nat → Prop) (U : State) (H : Heap) : Prop := wx_Z Bundle.tN "UNASSIGNED_STACK" Bundle.steD A U H ∧ wx_Z Bundle.tN "SUPPRESSED_SENTINEL" Bundle.listD A U H ∧ va_Nw (.declares (Bundle.initS "java/lang/RuntimeException")) U ∧ va_Nw (.declares (Bundle.initS "java/lang/Exception")) U ∧ va_Nw (.declares (Bundle.initS Bundle.tN)) U ∧ ∀ E ∈ wx_ex, ∀ F ∈ wx_ex, wx_as (decide (E = F)) E F U
theorem wx_E.moved {A : Nat → Prop} {s U : State} {H : Heap} (hW : s.WarmedH U.vm) (h : wx_E A s H) : wx_E A U H :=
  ⟨h.1.moved hW.alike, h.2.1.moved hW.alike, va_Nw.warmD hW h.2.2.1, va_Nw.warmD hW h.2.2.2.1, va_Nw.warmD hW h.2.2.2.2.1, fun E hE F hF => (h.2.2.2.2.2 E hE F hF).moved hW.alike⟩
theorem wx_E.kept {A : Nat → Prop} {U : State} {H H1 : Heap} (h : wx_E A U H) (hq : ∀ a : Nat, a < H.size → ¬ A a → H1[a]? = H[a]?) : wx_E A U H1 := ⟨h.1.kept hq, h.2.1.kept hq, h.2.2⟩
theorem wx_E.narrow {A B : Nat → Prop} {U : State} {H : Heap} (h : wx_E A U H) (hAB : ∀ q, B q → A q) : wx_E B U H := ⟨h.1.narrow hAB, h.2.1.narrow hAB, h.2.2⟩
theorem wx_own {A : Nat → Prop} {U : State} {args : Array Value} {own cls : String} {ic : Nat} (hc : cls ∈ wx_ex) (hE : wx_E A U U.heap) (hw : ∀ w ∈ (Bundle.ownAtoms own ic cls wx_nm).filter wx_good, w.before args U = true) : ∀ w ∈ Bundle.ownAtoms own ic cls wx_nm, w.before args U = true := by
  intro w hm
  cases q : wx_good w with
  | true => exact hw w (List.mem_filter.mpr ⟨hm, q⟩)
  | false =>
    have h := (List.mem_filter (p := fun w => !wx_good w)).mpr ⟨hm, by rw [q]; rfl⟩
    rw [wx_bad] at h
    simp only [List.mem_cons, List.not_mem_nil, or_false] at h
    rcases h with e | e | e | e | e | e | e | e
    · rw [e]; exact hE.1.lays
    · rw [e]; exact hE.2.1.lays
    · rw [e]; exact va_Nw.use rfl hE.2.2.1
    · rw [e]; exact va_Nw.use rfl hE.2.2.2.1
    · rw [e]; exact va_Nw.use rfl hE.2.2.2.2.1
    · rw [e]
      have := hE.2.2.2.2.2 cls hc cls hc
      rw [decide_eq_true rfl] at this
      exact this.word
    · rw [e]; exact hE.1.ref
    · rw [e]; exact hE.2.1.ref
/-- what a throw leaves: warmer tables, nothing moved but the slots L and new cells -/
def wx_FE (s t : State) (L : List Loc) (k n : Nat) : Prop := s.WarmedH t.vm ∧ s.sameButNew ({ t with vm := s.vm } : State) L k n
def wx_Q (below : List Frame) (XC : Array Value → State → Addr → State → Prop) (a : Array Value) (s : State) (mc ms : Nat) (free : Addr → Prop) : State → Prop := fun t =>
  ∃ x, t.status = .running ∧ Ended t below (.threw x) ∧ XC a s x t ∧ ∃ L, wx_FE s t L mc ms ∧ ∀ q ∈ L, free q.base
section WXR
variable {p : Program} {l : Launch} {e : Env} {R : Room} {s : State} {m : MethodId} {args : Array Value} {below : List Frame} {meth : Method} {c : Code} {H : Heap} {locs : List Loc} {cells slots : Nat}
variable {cc : ByteArray} {pc : Nat} {ls : Array Slot} {rest : List Value}
def wx_end (below : List Frame) (args : Array Value) (s : State) (cls : String) (a : Addr) (cells slots : Nat) : State → Prop := fun t =>
  t.status = .running ∧ Ended t below (.threw a) ∧ s.WarmedH t.vm ∧ s.sameButNew ({ t with vm := s.vm } : State) [] cells slots ∧ ∃ ce : Cell, t.heap[a]? = some ce ∧ s.vm.findClass cls = some ce.cls ∧ ce.vm = .none
theorem wx_last {own cls : String} {ic : Nat} (hexec : p.tables.exec = Jvm.exec) (hb : c.code = cc) (hl : l.stackTraces = false) (hown : s.vm.findClass own = some m.cls) (hcls : Bundle.fit cls = true) (h : ∀ w ∈ Bundle.ownAtoms own ic cls wx_nm, w.before args s = true) {cX : ClassId} {kX : Class} (hf : s.vm.findClass cls = some cX) (hk : s.vm.classes[cX]? = some kX) {a sa : Addr} (hcell : H[a]? = some (blank cX kX)) (hnew : s.heap.size ≤ a) (hsz : ls.size = c.maxLocals) (hlocks : meth.locks = false) (hout : c.exceptionTable.isEmpty = true) (hfr : 5 < R.frames) (hlo : (rest.map fun v => v.category).sum + 90 ≤ R.locals)
    (d6 : decode cc pc = .ok (.invokespecial ic, 3)) (d9 : decode cc (pc + 3) = .ok (.athrow, 1)) : W p l e R s m args below meth c H [] cells slots (wx_end below args s cls a cells slots) (F0 m pc ls (.ref sa :: .ref a :: .ref a :: rest)) := by
  intro T hT X
  subst hb
  have htr : e.platform.stackTraces = false := by rw [X.admits.platform]; exact hl
  have hout' : ∀ x ∈ c.exceptionTable.toList, covers x (pc + 3) = false := by
    intro x hx
    have : c.exceptionTable = #[] := Array.isEmpty_iff.mp hout
    rw [this] at hx
    cases hx
  obtain ⟨U, h1, h2, h3, h4, h5, ce, h6, h7⟩ := X.ctorThrowS hexec htr (own := own) (cls := cls) (names := wx_nm) (ic := ic) hown hcls (by decide +kernel) h (fun x hx => nomatch hx) hf hk (a := a) (by rw [hT]; exact hcell) hnew (msg := .ref sa) rfl (g := F0 m pc ls (.ref sa :: .ref a :: .ref a :: rest)) rfl hsz rfl rfl (rest := rest) rfl d6 d9 hout' hfr (by rw [List.map_cons, List.sum_cons]; show 2 * 0 + (1 + (rest.map fun v => v.category).sum) + (13 * (2 + 1) + 42) ≤ R.locals; omega) hlocks
  exact ⟨U, h1, h2, h3, h4, h5, ce, h6, h7.cls, h7.vm⟩
end WXR
