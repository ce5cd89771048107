/-! A method that throws, its call, and the catch of what it throws. -/
def wx_Met (l : Launch) (y : MethodName) (ws : List Cond) (rm : Room) (Pc : Array Value → State → Prop) (XC : Array Value → State → Addr → State → Prop) (mc ms : Nat) (free : Addr → Prop) : Prop :=
  MetFree l y (headSpec ws rm) Pc (fun _ _ _ _ _ => True) (fun a st o t => ∃ x, o = .threw x ∧ XC a st x t ∧ ∃ L, wx_FE st t L mc ms ∧ ∀ q ∈ L, free q.base)
def wx_X {S : Type} (cls : String) (post : S → Prop) (B : S → State → Prop) (A : Nat → Prop) : Array Value → State → Addr → State → Prop := fun _ st x t => (∃ u : S, post u ∧ B u t) ∧ va_F A st t ∧ ∃ ce : Cell, t.heap[x]? = some ce ∧ t.vm.findClass cls = some ce.cls ∧ ce.vm = .none
theorem wx_ofW {l : Launch} {y : MethodName} {ws ws' : List Cond} {rm : Room} {Pc : Array Value → State → Prop} {XC : Array Value → State → Addr → State → Prop} {mc ms : Nat} {free : Addr → Prop} {cc : ByteArray} {maxL : Nat} {ret : Option FieldType}
    (hy : plainName y.cls = true) (hw : ws = Cond.code y cc maxL ret :: ws')
    (body : ∀ p e s m args below meth c s₁, BodyLoose p l y (headSpec ws rm) cc maxL ret e s m args below meth c s₁ → c.maxLocals = maxL → c.exceptionTable.isEmpty = true → Pc args s →
      W p l e (headSpec ws rm).room s m args below meth c s.heap [] 0 0 (wx_Q below XC args s mc ms free) (entryFrame m args maxL)) : wx_Met l y ws rm Pc XC mc ms free := by
  refine MetFree.of_bodyS (code := cc) (maxLocals := maxL) (ret := ret) hy ?_ ?_
  · intro args s m h hn
    obtain ⟨meth, c, h1, h2, h3, h4, h5, h6, -, -⟩ := Cond.code_spec hn (atoms_spec (ws := ws) h _ (by rw [hw]; exact List.mem_cons_self))
    exact ⟨meth, c, h1, h2, h3, h4, h5, h6⟩
  · intro p e s m args below meth c s₁ B hml hP _
    have X := Stand.of_body B
    have hemp : c.exceptionTable.isEmpty = true := by
      obtain ⟨meth', c', h1, h2, -, -, -, -, h7, -⟩ := Cond.code_spec B.named (atoms_spec (ws := ws) B.pre _ (by rw [hw]; exact List.mem_cons_self))
      cases h1.symm.trans X.method
      cases h2.symm.trans X.code
      exact h7
    have hh0 : s₁.heap = s.heap := by rw [B.state]; rfl
    obtain ⟨t, a1, x, b1, b2, b3, b4⟩ := body p e s m args below meth c s₁ B hml hemp hP s₁ hh0 X
    exact ⟨t, .threw x, a1, b1, b2, x, rfl, b3, b4⟩
section WXC
variable {p : Program} {l : Launch} {e : Env} {R : Room} {s : State} {m : MethodId} {args : Array Value} {below : List Frame} {meth : Method} {c : Code} {T : State} {H : Heap} {locs : List Loc} {cells slots : Nat} {Q : State → Prop}
variable {y : MethodName} {bytes : ByteArray} {maxL mc ms : Nat} {ret : Option FieldType} {ws : List Cond} {rm : Room} {Pc : Array Value → State → Prop} {XC : Array Value → State → Addr → State → Prop} {free : Addr → Prop}
/-- the frame of a callee that throws: behind it the caller's own frame stands under a throw, all else as the callee's contract says -/
theorem wx_thrown {Wd : Nat} (hM : wx_Met l y ws rm Pc XC mc ms free) (hblind : FrameBlind Pc) (hrc : rm.cells = mc) (hrs : rm.slots = ms) (hframes : rm.frames + 1 ≤ R.frames) (hlocals : Wd + (maxL + 11) + rm.locals ≤ R.locals)
    (hws : ∀ w ∈ ws, ∀ a' U, s.WarmedH U.vm → w.before a' U = true) (hcode : Cond.code y bytes maxL ret ∈ ws) (hinit : ∀ a' U, s.WarmedH U.vm → (Cond.initialized y.cls).before a' U = true)
    (X : Stand p l e R s m args below meth c T locs cells slots) {g : JFrame} (hg : g.method = m) (hsize : g.locals.size = c.maxLocals) {ig : Instr} {len : Nat} (hdg : decode c.code g.pc = .ok (ig, len)) (hW : 2 * g.monitorRoom + (g.stack.map fun v => v.category).sum ≤ Wd)
    {mk : MethodId} {a : Array Value} (hn : T.methodNamed? y = some mk) (hf : cells + mc ≤ R.cells ∧ slots + ms ≤ R.slots) (hP : Pc a T) :
    ∃ (x : Addr) (t U' : State) (L : List Loc), U'.heap = t.heap ∧ U'.vm = t.vm ∧ XC a (T.calling g mk a) x t ∧ (∀ q ∈ L, free q.base) ∧ Stand p l e R s m args below meth c U' (locs ++ L) (cells + mc) (slots + ms) ∧
      Steps p.tables e below (doInvoke e (T.setTop g) [] mk a).1 ((U'.setTop g).pushFrame (.throwing x)) := by
  subst hg
  obtain ⟨methY, cY, hmY, hcY, -, hlY, -⟩ := Cond.code_spec hn (hws _ hcode a T X.warmed)
  obtain ⟨kY, hkY, -⟩ := className_of_methodNamed hn
  have hi : kY.init = .initialized := Cond.initialized_spec (findClass_of_methodNamed hn) hkY (hinit a T X.warmed)
  have hat := X.here
  have hroom := X.room_calling (g := g) (args' := a) (R' := (headSpec ws rm).room) hsize hmY hcY hframes (by rw [hlY]; show _ + rm.locals ≤ _; omega) (by show cells + rm.cells ≤ _; rw [hrc]; exact hf.1) (by show slots + rm.slots ≤ _; rw [hrs]; exact hf.2)
  have happ := Spec.appliesLoose_calling (S := headSpec ws rm) (g := g) hat hdg hn hkY hi hroom (atoms_intro fun w hw => hws w hw _ _ X.warmed)
  obtain ⟨mid, hmid⟩ := hat.above
  have hfr : (T.setTop g).frames = (.java g :: mid) ++ below := by rw [State.frames_setTop' g hat.top, hmid]; rfl
  obtain ⟨o, t, hst, -, hend, x, hox, hx, L, ⟨hWt, hsame⟩, hL⟩ := Free.Steps.callFree hM p X.admits X.cas X.clock (acts := []) hfr happ (hblind _ _ _ _ hP) trivial
  subst hox
  rw [State.frames_setTop' g hat.top] at hend
  obtain ⟨g₀, hg0⟩ := Option.isSome_iff_exists.mp hat.top
  obtain ⟨r, hr⟩ := State.topJava?_eq_some.mp hg0
  have hft : t.frames = .throwing x :: .java g :: r := by
    have h9 : t.frames = .throwing x :: .java g :: T.frames.tail := hend
    rw [hr] at h9
    exact h9
  have hWT : T.WarmedH t.vm := hWt
  have hrU : (({ T with heap := t.heap, slotsUsed := t.slotsUsed } : State).setVm t.vm).frames = .java g₀ :: r := hr
  have hback : t = ((({ T with heap := t.heap, slotsUsed := t.slotsUsed } : State).setVm t.vm).setTop g).pushFrame (.throwing x) := by
    have h1 := congrArg (fun z : State => z.setVm t.vm) hsame.1
    have h2 : t = (({ (T.calling g mk a).setFrames t.frames with heap := t.heap, slotsUsed := t.slotsUsed } : State)).setVm t.vm := h1
    rw [State.pushFrame, State.frames_setTop _ hrU, State.setTop_of_frames _ hrU, State.setFrames_setFrames, ← hft]
    rw [State.calling_eq hat.top, State.setFrames_setFrames] at h2
    exact h2
  have hkeep : T.sameButNew ({ T with heap := t.heap, slotsUsed := t.slotsUsed } : State) L mc ms := by
    obtain ⟨th, hth, -⟩ := State.frames_cons hr
    refine ⟨?_, hsame.2⟩
    show ({ T with heap := t.heap, slotsUsed := t.slotsUsed } : State) = { T.setFrames T.frames with heap := t.heap, slotsUsed := t.slotsUsed }
    rw [State.setFrames_self hth]
  refine ⟨x, t, ({ T with heap := t.heap, slotsUsed := t.slotsUsed } : State).setVm t.vm, L, rfl, rfl, hx, hL, ⟨X.admits, X.cas, X.clock, X.frames, X.room, X.hears, X.method, X.code, (X.here.setHeapUsed t.heap t.slotsUsed).setVm hWT.alike, X.tail, State.WarmedH.trans X.warmed hWT, X.limits, X.bytes, X.same.trans (hkeep.setVm s.vm)⟩, ?_⟩
  rw [← hback]
  exact hst
theorem wx_callV {own C : String} {index n : Nat} (X : Stand p l e R s m args below meth c T locs cells slots) (hexec : p.tables.exec = Jvm.exec) (hown : s.vm.findClass own = some m.cls) (hM : wx_Met l y ws rm Pc XC mc ms free) (hblind : FrameBlind Pc) (cw : CallW R s args own C index y bytes maxL ret ws rm mc ms n)
    {b : Addr} {cellB : Cell} (hcell : T.heap[b]? = some cellB) (hobj : cellB.vm.isStatics = false) (hcls : s.vm.findClass C = some cellB.cls)
    {g : JFrame} (hg : g.method = m) (hsize : g.locals.size = c.maxLocals) {argsL rest : List Value} (hn : argsL.length = n)
    (hstack : g.stack = argsL.reverse ++ .ref b :: rest) (hW : 2 * g.monitorRoom + (rest.map fun v => v.category).sum ≤ 8) (hdg : decode c.code g.pc = .ok (.invokevirtual index, 3)) (hf : cells + mc ≤ R.cells ∧ slots + ms ≤ R.slots)
    (hpre : ∀ vm₁, s.WarmedH vm₁ → Pc (Value.ref b :: argsL).toArray (T.setVm vm₁)) :
    ∃ (x : Addr) (st t U' : State) (L : List Loc), st.heap = T.heap ∧ U'.heap = t.heap ∧ U'.vm = t.vm ∧ XC (Value.ref b :: argsL).toArray st x t ∧ (∀ q ∈ L, free q.base) ∧ Stand p l e R s m args below meth c U' (locs ++ L) (cells + mc) (slots + ms) ∧
      Steps p.tables e below (T.setTop g) ((U'.setTop { g with stack := rest }).pushFrame (.throwing x)) := by
  obtain ⟨⟨hrc, hrs, hfr, hlo, hws, hcw, hcode, hini, hy, hlen, hlink⟩, hinst, hsel⟩ := cw
  obtain ⟨mk, methM, hnamed, hmethM, hstM, habM⟩ := Cond.instanceMethod_spec hinst
  obtain ⟨methM', cM, hmethM', -, -, -, -, -, -, hsigM⟩ := Cond.code_spec hnamed hcode
  cases hmethM.symm.trans hmethM'
  obtain ⟨c2, r2, m2, q1, q2, q3, q4, kP, hkP, hkPi⟩ := Cond.selects_spec hsel
  cases hcls.symm.trans q1
  cases (State.methodFound?_of_named hnamed hy).symm.trans q2
  cases hnamed.symm.trans q3
  have hselP : selectMethod e.platform s.vm cellB.cls mk = .method mk := by rw [Launch.admits_selectMethod X.admits]; exact q4
  obtain ⟨vm₁, X₁, hstep₁⟩ := X.invokevirtual hexec hown hlink hnamed hmethM hstM hkP hkPi hy (a := b) (cell := cellB) hcell
    (fun z h => by rw [h] at hobj; cases hobj) hselP hmethM habM hkP hkPi (g := g) hg (argsL := argsL) (rest := rest) (hn.trans (hlen _ hsigM)) hstack hdg
  obtain ⟨x, t, U', L, h1, h2, h3, h4, X', hsteps⟩ := wx_thrown (bytes := bytes) (maxL := maxL) (ret := ret) hM hblind hrc hrs hfr hlo hws hcw (fun a' U hW => word_at hW (Or.inl rfl) hini) X₁ (g := { g with stack := rest }) hg hsize hdg hW (X₁.named hnamed) hf (hpre vm₁ X₁.warmed)
  exact ⟨x, (T.setVm vm₁).calling { g with stack := rest } mk (Value.ref b :: argsL).toArray, t, U', L, rfl, h1, h2, h3, h4, X', hstep₁ _ fun acts => by rw [doInvoke_state]; exact hsteps⟩
end WXC
