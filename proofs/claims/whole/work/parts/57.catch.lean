/-! The call of a method that throws, inside the range of a handler that takes it. -/
/-- a row of a table whose class is linked: whether it takes what is thrown -/
def wx_ln (pl : Platform) (u : State) (d thrown : ClassId) (b : Bool) (x : ExceptionTableEntry) : Prop := x.catchType ≠ 0 ∧ ∃ c, u.vm.ClassLinks pl d x.catchType c ∧ u.vm.assignable thrown c = b
theorem wx_lnof {pl : Platform} (hpl : pl.magicAccessors = ({} : Platform).magicAccessors) {u : State} {args : Array Value} {d thrown : ClassId} {b : Bool} {x : ExceptionTableEntry} {own name tn : String} (hown : u.vm.findClass own = some d) (h0 : x.catchType ≠ 0) (hlk : (Cond.classLink own x.catchType name).before args u = true) (ht : u.vm.findClass tn = some thrown) (has : wx_as b tn name u) : wx_ln pl u d thrown b x := by
  obtain ⟨c1, hc1, hcl⟩ := Cond.classLink_spec hown hlk pl hpl
  obtain ⟨c2, c3, a1, a2, a3⟩ := has
  rw [ht] at a1
  rw [hc1] at a2
  rw [← Option.some.inj a1, ← Option.some.inj a2] at a3
  exact ⟨h0, c1, hcl, a3⟩
section WXN
variable {e : Env} {u : State} {f : JFrame} {a : Addr} {cell : Cell}
/-- one row of the search, its class perhaps not yet resolved -/
theorem wx_row {b : Bool} {z : ExceptionTableEntry} (hobj : ∀ k, cell.vm ≠ .statics k) (hk : ∃ k, u.vm.classes[cell.cls]? = some k) {S : State} (hW : u.WarmedH S.vm) (hcell : S.heap[a]? = some cell) (hcov : covers z f.pc = true) (hz : wx_ln e.platform u f.method.cls cell.cls b z) :
    ∃ v1, u.WarmedH v1 ∧ ∀ (Q : Handler → Pre) (E : CtlPost) (d : Bool) (acts : List Action) (t : List ExceptionTableEntry), wp (findHandler.go f a (z :: t)) Q E e d acts S ↔ (if b = true then Q (.found z.handlerPc) d acts (S.setVm v1) else wp (findHandler.go f a t) Q E e d acts (S.setVm v1)) := by
  obtain ⟨h0, c, hl, hb⟩ := hz
  obtain ⟨dk, -, -, kt, hd, -, -, -, -, hkt, -, hopen⟩ := hl.here
  have hw1 : u.WarmedH (S.vm.noted f.method.cls z.catchType (.cls c)) := hW.noted hd hopen (State.rightAt_cls hl)
  refine ⟨_, hw1, fun Q E d acts t => ?_⟩
  obtain ⟨h1, h2⟩ := (resolveClass_links e.toSetting (hW.classLinks hl)).op (op := VmOp.resolveClass f.method.cls z.catchType) rfl
  obtain ⟨k0, hk0⟩ := hk
  obtain ⟨k1, hk1, -⟩ := hw1.alike.2.2 _ _ hk0
  obtain ⟨k2, hk2, -⟩ := hw1.alike.2.2 _ _ hkt
  have hb1 : (S.vm.noted f.method.cls z.catchType (.cls c)).assignable cell.cls c = b := by rw [hw1.alike.assignable]; exact hb
  simp only [covers] at hcov
  cases b <;> simp [findHandler.go, hcov, h0, h1, h2, hcell, hobj, hk1, hk2, hb1, VmOp.dirties, VmOp.acts]
/-- the search: rows that don't take it, then one that does -/
theorem wx_search (hobj : ∀ k, cell.vm ≠ .statics k) (hk : ∃ k, u.vm.classes[cell.cls]? = some k) {x : ExceptionTableEntry} {suf : List ExceptionTableEntry} (hx : covers x f.pc = true) (hend : wx_ln e.platform u f.method.cls cell.cls true x) :
    ∀ (pre : List ExceptionTableEntry), (∀ z ∈ pre, wx_ln e.platform u f.method.cls cell.cls false z) → ∀ S : State, u.WarmedH S.vm → S.heap[a]? = some cell →
      ∃ v1, u.WarmedH v1 ∧ ∀ (Q : Handler → Pre) (E : CtlPost) (d : Bool) (acts : List Action), wp (findHandler.go f a (pre ++ x :: suf)) Q E e d acts S ↔ Q (.found x.handlerPc) d acts (S.setVm v1)
  | [], _, S, hW, hcell => by
    obtain ⟨v1, hw1, h⟩ := wx_row hobj hk hW hcell hx hend
    exact ⟨v1, hw1, fun Q E d acts => (h Q E d acts suf).trans (by rw [if_pos rfl])⟩
  | z :: pre, hp, S, hW, hcell => by
    have hr : ∀ y ∈ pre, wx_ln e.platform u f.method.cls cell.cls false y := fun y hy => hp y (List.mem_cons_of_mem _ hy)
    cases hcov : covers z f.pc with
    | false =>
      obtain ⟨v2, hw2, h2⟩ := wx_search hobj hk hx hend pre hr S hW hcell
      exact ⟨v2, hw2, fun Q E d acts => (W.findHandler_go_skip hcov).trans (h2 Q E d acts)⟩
    | true =>
      obtain ⟨v1, hw1, h1⟩ := wx_row hobj hk hW hcell hcov (hp z List.mem_cons_self)
      obtain ⟨v2, hw2, h2⟩ := wx_search hobj hk hx hend pre hr (S.setVm v1) hw1 hcell
      exact ⟨v2, hw2, fun Q E d acts => ((h1 Q E d acts (pre ++ x :: suf)).trans (by rw [if_neg (by decide)])).trans (h2 Q E d acts)⟩
end WXN
/-- a throw over a frame goes on at the handler that the search finds, with the tables that it leaves -/
theorem wx_goes {tb : Tables} {e : Env} {T target : State} {g : JFrame} {c : Code} {below : List Frame} {a : Addr} (h : At T g.method c below) {pc : Nat} {v1 : Vm}
    (hf : ∀ (Q : Handler → Pre) (E : CtlPost) (d : Bool) (acts : List Action), wp (findHandler g a) Q E e d acts ((T.setTop g).pushFrame (.throwing a)) ↔ Q (.found pc) d acts (((T.setTop g).pushFrame (.throwing a)).setVm v1))
    (hrest : Steps tb e below ((T.setVm v1).setTop { g with pc := pc, stack := [.ref a] }) target) : Steps tb e below ((T.setTop g).pushFrame (.throwing a)) target := by
  obtain ⟨g₀, hg⟩ := Option.isSome_iff_exists.mp h.top
  obtain ⟨r, hr⟩ := State.topJava?_eq_some.mp hg
  have hr1 : (T.setVm v1).frames = .java g₀ :: r := hr
  have step : ∀ F : List Frame, (stepThrowing e ((T.setTop g).pushFrame (.throwing a)) a (.java g :: F)).Is ((((T.setTop g).pushFrame (.throwing a)).setVm v1).setFrames (.java { g with pc := pc, stack := [.ref a] } :: F)) [] := by
    intro F
    simp only [stepThrowing, searchFrame, vmDo]
    generalize hq : Sem.go _ e false [] ((T.setTop g).pushFrame (.throwing a)) = res
    obtain ⟨as, rfl, ha⟩ := Sem.eq_ok_of hq (a := Handler.found pc) (s' := ((T.setTop g).pushFrame (.throwing a)).setVm v1) (acts' := []) (by simp [hf])
    exact ⟨rfl, ha⟩
  have same : ((((T.setTop g).pushFrame (.throwing a)).setVm v1).setFrames (.java { g with pc := pc, stack := [.ref a] } :: r)) = (T.setVm v1).setTop { g with pc := pc, stack := [.ref a] } := by
    rw [State.setTop_of_frames _ hr1, State.pushFrame, State.setTop_of_frames _ hr, State.setFrames_setFrames]
    exact State.setFrames_setFrames (T.setVm v1) _ _
  obtain ⟨hgo, hw⟩ := h.throwing a
  refine Steps.head hgo hw ?_
  rw [stepThread_throwing (frames_entered h.top _), (step _).1, hr, List.tail_cons, same]
  exact hrest
section WXD
variable {p : Program} {l : Launch} {e : Env} {R : Room} {s : State} {m : MethodId} {args : Array Value} {below : List Frame} {meth : Method} {c : Code} {H : Heap} {locs : List Loc} {cells slots : Nat} {Q : State → Prop}
theorem wx_caught {S : Type} {cls : String} {post : S → Prop} {B : S → State → Prop} {A0 A1 : Nat → Prop} {H0 : Heap} {cc : ByteArray} {nL pc n index maxL mc ms : Nat} {ls : Array Slot} {Ts ws : List Cond} {own C : String} {y : MethodName} {bytes : ByteArray} {ret : Option FieldType} {rm : Room} {Pc : Array Value → State → Prop} {free : Addr → Prop} {b : Addr} {As rest : List Value}
    (K : CallFix p m c cc nL s args Ts own) (hM : wx_Met l y ws rm Pc (wx_X cls post B A1) mc ms free) (cw : CallW R s args own C index y bytes maxL ret ws rm mc ms n) (hp : PreV s H C b Pc As) (hn : As.length = n) (hsize : ls.size = nL) (hW : (rest.map fun v => v.category).sum ≤ 8) (hdg : decode cc pc = .ok (.invokevirtual index, 3)) (hf : cells + mc ≤ R.cells ∧ slots + ms ≤ R.slots)
    (pre : List ExceptionTableEntry) (x : ExceptionTableEntry) (suf : List ExceptionTableEntry) (hsplit : c.exceptionTable.toList = pre ++ x :: suf) (hcov : covers x pc = true)
    (hpass : ∀ z ∈ pre, z.catchType ≠ 0 ∧ ∃ name, (Cond.classLink own z.catchType name).before args s = true ∧ wx_as false cls name s) (hx0 : x.catchType ≠ 0) (hlk : (Cond.classLink own x.catchType cls).before args s = true) (has : wx_as true cls cls s)
    (hS : va_S A0 H0 H locs) (hA : ∀ q, q < H.size → A1 q → A0 q) (hfree : ∀ q, free q → A0 q)
    (kk : ∀ (q : Nat) (u : S) (t : State) (H1 : Heap) (locs1 : List Loc), t.heap = H1 → s.vm.Alike t.vm → post u → B u t → H.size ≤ H1.size → (∀ q : Nat, q < H.size → ¬ A1 q → H1[q]? = H[q]?) → va_S A0 H0 H1 locs1 → W p l e R s m args below meth c H1 locs1 (cells + mc) (slots + ms) Q (F0 m x.handlerPc ls [.ref q])) : W p l e R s m args below meth c H locs cells slots Q (F0 m pc ls (As.reverse ++ .ref b :: rest)) := by
  obtain ⟨hexec, hb, hml, ho, -⟩ := K
  obtain ⟨hblind, ⟨cellB, hcB, hoB, hclB⟩, hPc⟩ := hp
  intro T hT X
  obtain ⟨v, st0, t, U', L, h0, e1, e2, ⟨⟨u, hu, hBu⟩, ⟨hz, hk⟩, ce, hce, hcc, hvm⟩, hL, X', st⟩ := wx_callV X hexec ho hM hblind cw (by rw [hT]; exact hcB) hoB hclB (g := F0 m pc ls (As.reverse ++ .ref b :: rest)) rfl (hsize.trans hml.symm) (argsL := As) (rest := rest) hn rfl (by show 2 * 0 + _ ≤ 8; omega) (by rw [hb]; exact hdg) hf
    (fun vm₁ hW₁ => hPc (T.setVm vm₁) hT hW₁)
  have hal : s.vm.Alike t.vm := by rw [← e2]; exact X'.warmed.alike
  have hcs : s.vm.findClass cls = some ce.cls := by rw [← hal.findClass]; exact hcc
  have hpl : e.platform.magicAccessors = ({} : Platform).magicAccessors := by rw [X.admits.platform]
  have hkc : ∃ k, s.vm.classes[ce.cls]? = some k := Vm.classAt_of_findClass hcs
  obtain ⟨v1, hw1, hfind⟩ := wx_search (e := e) (u := s) (f := { F0 m pc ls (As.reverse ++ .ref b :: rest) with stack := rest }) (a := v) (cell := ce) (suf := suf) (VmData.ne_statics_of (by rw [hvm]; rfl)) hkc hcov (wx_lnof hpl ho hx0 hlk hcs has) pre (fun z hz' => by
    obtain ⟨z0, name, zl, zc⟩ := hpass z hz'
    exact wx_lnof hpl ho z0 zl hcs zc) ((U'.setTop { F0 m pc ls (As.reverse ++ .ref b :: rest) with stack := rest }).pushFrame (.throwing v)) X'.warmed (by show U'.heap[v]? = some ce; rw [e1]; exact hce)
  have XV : Stand p l e R s m args below meth c (U'.setVm v1) (locs ++ L) (cells + mc) (slots + ms) := X'.noted hw1
  rw [h0, hT] at hz hk
  obtain ⟨t9, a9, b9⟩ := kk v u t t.heap (locs ++ L) rfl hal hu hBu hz hk
    ⟨Nat.le_trans hS.1 hz, fun q h1 h2 => by rw [hk q (Nat.lt_of_lt_of_le h1 hS.1) (fun z => h2 (hA q (Nat.lt_of_lt_of_le h1 hS.1) z))]; exact hS.2.1 q h1 h2, fun q hq => by
      rcases List.mem_append.mp hq with h | h
      · exact hS.2.2 q h
      · exact hfree _ (hL q h)⟩ (U'.setVm v1) e1 XV
  exact ⟨t9, st.trans (wx_goes (g := { F0 m pc ls (As.reverse ++ .ref b :: rest) with stack := rest }) X'.here (fun Q E d acts => by rw [W.findHandler_eq X'.method' X'.code, hsplit]; exact hfind Q E d acts) a9), b9⟩
end WXD
