/-! Static methods with a table of handlers: their call; what they know of their table. -/
section WXH
variable {p : Program} {l : Launch} {e : Env} {R : Room} {s : State} {m : MethodId} {args : Array Value} {below : List Frame} {meth : Method} {c : Code} {H : Heap} {locs : List Loc} {cells slots : Nat}
theorem wx_runSW {y : MethodName} {bytes cc : ByteArray} {maxL nL mc ms n index : Nat} {ret : Option FieldType} {hh : List (Nat × Nat × Nat × Nat)} {ws ws' : List Cond} {rm : Room} {Pc : Array Value → State → Prop} {Qc : Array Value → State → Outcome → State → Prop} {free : Addr → Prop} {Ts : List Cond} {own : String} {As rest : List Value} {g : JFrame}
    (S : CallFix p m c cc nL s args Ts own) (hM : Met l y ws rm Pc Qc mc ms free) (ht : ∀ w ∈ Ts, w.before args s = true) (hG : GoodIn Ts ws) (hw : ws = Cond.codeWith y bytes maxL ret hh :: ws') (hl : (Cond.methodLink own index y).before args s = true) (hst : (Cond.static y).before args s = true) (hini : (Cond.initialized y.cls).before args s = true)
    (hd : y.cls ≠ "java/lang/invoke/MethodHandle" ∧ y.cls ≠ "java/lang/invoke/VarHandle" ∧ (parseMethodDescriptor y.desc).map (fun d => d.parameters.length) = some n) (hrc : rm.cells = mc) (hrs : rm.slots = ms) (hR : rm.frames + 1 ≤ R.frames ∧ 8 + (maxL + 11) + rm.locals ≤ R.locals) (hp : PreS s H Pc As)
    (hg : g.method = m) (hn : As.length = n) (hsize : g.locals.size = nL) (hstack : g.stack = As.reverse ++ rest) (hW : 2 * g.monitorRoom + (rest.map fun v => v.category).sum ≤ 8) (hdg : decode cc g.pc = .ok (.invokestatic index, 3)) (hf : cells + mc ≤ R.cells ∧ slots + ms ≤ R.slots) :
    va_Run p l e R s m args below meth c H locs cells slots mc ms g rest (Qc As.toArray) free := by
  have hc : Cond.codeWith y bytes maxL ret hh ∈ ws := by rw [hw]; exact List.mem_cons_self
  have hK : Back l R p e below s args y 3 8 (PreOf R mc ms Pc) (PostOf Qc mc ms free) := va_backW (hh := hh) (bytes := bytes) (maxL := maxL) (ret := ret) hM hp.1 hrc hrs hR.1 hR.2 (pay_in ht hG) hc (fun a' U hW => word_at hW (Or.inl rfl) hini)
  obtain ⟨hexec, hb, hml, ho, -⟩ := S
  have hPc := hp.2
  intro T hT X
  obtain ⟨mk, methM, cM, hnamed, hmethM, -, -, -, -, -, -, hsigM⟩ := Cond.codeWith_spec (ht _ (hG _ hc).1)
  have hstatic : methM.isStatic = true := Cond.static_spec hnamed hmethM hst
  obtain ⟨kP, hkP, -⟩ := className_of_methodNamed hnamed
  have hinitP : kP.init = .initialized := Cond.initialized_spec (findClass_of_methodNamed hnamed) hkP hini
  have hlen : As.length = methM.sig.parameters.length := by
    have h2 := hd.2.2
    rw [hsigM] at h2
    rw [hn]
    exact (Option.some.inj h2).symm
  obtain ⟨vm₁, X₁, hstep₁⟩ := X.invokestatic hexec ho hl hnamed hmethM hstatic hkP hinitP ⟨hd.1, hd.2.1⟩ (g := g) hg (argsL := As) (rest := rest) hlen hstack (by rw [hb]; exact hdg)
  obtain ⟨v, ⟨U', l2, c2, s2⟩, X', ⟨g', mk', t, L, e1, e2, hq, h1, hL, h2, h3⟩, hsteps⟩ := hK m meth c ⟨T.setVm vm₁, locs, cells, slots⟩ { g with stack := rest } (.invokestatic index) mk As.toArray X₁ hg (hsize.trans hml.symm) (by rw [hb]; exact hdg) hW (X₁.named hnamed) ⟨hf.1, hf.2, hPc (T.setVm vm₁) hT X₁.warmed⟩
  dsimp only [Free.Pt.U, Free.Pt.locs, Free.Pt.cells, Free.Pt.slots] at X' e1 e2 h1 h2 h3 hsteps
  subst h1; subst h2; subst h3
  exact ⟨v, (T.setVm vm₁).calling g' mk' As.toArray, t, U', L, hT, X', hL, e1, e2, hq, fun target h => hstep₁ _ fun acts => by rw [doInvoke_state]; exact hsteps.trans h⟩
end WXH
/-- a table of handlers is what its word says -/
theorem wx_tab {es : List ExceptionTableEntry} {hh : List (Nat × Nat × Nat × Nat)} (h : es.map (fun h => (h.startPc, h.endPc, h.handlerPc, h.catchType)) = hh) : es = hh.map (fun q => ⟨q.1, q.2.1, q.2.2.1, q.2.2.2⟩) := by
  subst h
  rw [List.map_map]
  exact (List.map_id es).symm
theorem wx_tabOf {p : Program} {l : Launch} {y : MethodName} {ws : List Cond} {rm : Room} {cc : ByteArray} {maxL : Nat} {ret : Option FieldType} {e : Env} {s : State} {m : MethodId} {args : Array Value} {below : List Frame} {meth : Method} {c : Code} {s₁ : State} {hh : List (Nat × Nat × Nat × Nat)} (B : BodyLoose p l y (headSpec ws rm) cc maxL ret e s m args below meth c s₁) (h : (Cond.codeWith y cc maxL ret hh).before args s = true) : c.exceptionTable.toList = hh.map (fun q => ⟨q.1, q.2.1, q.2.2.1, q.2.2.2⟩) := by
  have X := Stand.of_body B
  obtain ⟨m9, meth9, c9, g1, g2, g3, -, -, g6, -⟩ := Cond.codeWith_spec h
  cases g1.symm.trans B.named
  cases g2.symm.trans X.method
  cases g3.symm.trans X.code
  exact wx_tab g6
theorem wx_asF {A : Nat → Prop} {U : State} {H : Heap} {E F : String} (hE : wx_E A U H) (h1 : E ∈ wx_ex) (h2 : F ∈ wx_ex) (h : E ≠ F) : wx_as false E F U := by
  have q := hE.2.2.2.2.2 E h1 F h2
  rwa [decide_eq_false h] at q
theorem wx_asT {A : Nat → Prop} {U : State} {H : Heap} {E : String} (hE : wx_E A U H) (h1 : E ∈ wx_ex) : wx_as true E E U := by
  have q := hE.2.2.2.2.2 E h1 E h1
  rwa [decide_eq_true rfl] at q
theorem wx_gA {c0 w : Cond} (h : w ∈ wz_all ++ wx_all) : w ∈ c0 :: (wz_all ++ wx_all) ∧ ((w.onTables && w.keeps) = true ∨ ∃ ty, w = .arrayClass ty) := by
  refine ⟨List.mem_cons_of_mem _ h, ?_⟩
  rcases List.mem_append.mp h with q | q
  · exact wz_good q
  · exact Or.inl (wx_allgood q)
theorem wx_gV {c0 : Cond} {own C : String} {idx : Nat} {y : MethodName} {c : ByteArray} {n : Nat} {r : Option FieldType} (h1 : Cond.methodLink own idx y ∈ wz_all) (h2 : Cond.instanceMethod y ∈ wz_all) (h3 : Cond.selects C y y ∈ wz_all) (h4 : Cond.initialized C ∈ wz_all) (h5 : Cond.code y c n r ∈ wz_all) : GoodIn (c0 :: (wz_all ++ wx_all)) (wsV own idx C y (Cond.code y c n r :: (wz_all ++ wx_all))) := fun w hw => by
  unfold wsV at hw
  rcases List.mem_append.mp hw with q | q
  · have : w ∈ wz_all := by
      simp only [List.mem_cons, List.not_mem_nil, or_false] at q
      rcases q with e | e | e | e <;> (subst e; assumption)
    exact wx_gA (List.mem_append_left _ this)
  · rcases List.mem_cons.mp q with e | e
    · subst e; exact wx_gA (List.mem_append_left _ h5)
    · exact wx_gA e
section WXP
variable {p : Program} {l : Launch} {e : Env} {R : Room} {s : State} {m : MethodId} {args : Array Value} {below : List Frame} {meth : Method} {c : Code} {H : Heap} {locs : List Loc} {cells slots : Nat} {Q : State → Prop}
variable {A : Nat → Prop} {D : va_G} {cl : List vw_C} {tys : List (ClassId × FieldType)} {ws : va_W} {a : Addr} {tv : Nat}
theorem wx_preB {As : List Value} {wc : va_W} (hE : wx_E A s s.heap) (hTx : wx_T s) (hZ : wz_Z tv A s s.heap) (hS : va_S A s.heap H locs) (hA : ∀ q, s.heap.size ≤ q → A q) (hN : wz_N s) (hK : va_K D cl tys s) (hP : va_P D cl ws H) (hD : va_D A ws) (isC : List Nat) (hn : va_nd isC = true) (hC1 : isC.filterMap (fun i => ws[i]?) = wc) (hC : isC.map (fun i => ws[i]?) = wc.map some) : ∀ U : State, U.heap = H → s.WarmedH U.vm → wz_PcX D cl tys tv As H.size wc As.toArray U := fun U hU hW => ⟨rfl, by rw [hU], by rw [hU]; exact hP.sub isC hC1, va_K.moved hW.alike hK, (hD.sub isC hn hC).weaken (fun _ _ _ _ => trivial), hN.moved hW, by
    have h1 := ((hZ.kept (H1 := H) (fun a h1 h2 => hS.2.1 a h1 h2)).narrow (va_free (wc := wc) hD hS hA isC hC)).moved hW.alike
    rw [← hU] at h1 ⊢
    exact h1, by
    have h1 := wx_E.moved hW ((hE.kept (H1 := H) (fun a h1 h2 => hS.2.1 a h1 h2)).narrow (va_free (wc := wc) hD hS hA isC hC))
    rw [← hU] at h1 ⊢
    exact h1, wx_T.moved hW hTx⟩
theorem wx_preX {As : List Value} {wc : va_W} {ci : Nat} {q : vw_C} {fs : List Value} (hE : wx_E A s s.heap) (hTx : wx_T s) (hZ : wz_Z tv A s s.heap) (hS : va_S A s.heap H locs) (hA : ∀ q, s.heap.size ≤ q → A q) (hN : wz_N s) (hK : va_K D cl tys s) (hP : va_P D cl ws H) (hD : va_D A ws) (isC : List Nat) (hn : va_nd isC = true) (hC1 : isC.filterMap (fun i => ws[i]?) = wc) (hC : isC.map (fun i => ws[i]?) = wc.map some) (q0 : Nat) (hc : cl[ci]? = some q) (he : ws[q0]? = some (a, .inr (ci, fs))) : PreV s H q.1 a (wz_PcX D cl tys tv (.ref a :: As) H.size wc) As :=
  ⟨wz_blindX, va_recv hK hP hc he, wx_preB hE hTx hZ hS hA hN hK hP hD isC hn hC1 hC⟩
theorem wx_preS {As : List Value} {wc : va_W} (hE : wx_E A s s.heap) (hTx : wx_T s) (hZ : wz_Z tv A s s.heap) (hS : va_S A s.heap H locs) (hA : ∀ q, s.heap.size ≤ q → A q) (hN : wz_N s) (hK : va_K D cl tys s) (hP : va_P D cl ws H) (hD : va_D A ws) (isC : List Nat) (hn : va_nd isC = true) (hC1 : isC.filterMap (fun i => ws[i]?) = wc) (hC : isC.map (fun i => ws[i]?) = wc.map some) : PreS s H (wz_PcX D cl tys tv As H.size wc) As :=
  ⟨wz_blindX, wx_preB hE hTx hZ hS hA hN hK hP hD isC hn hC1 hC⟩
theorem wx_take {S : Type} {Pp : S → Prop} {cls : String} {tys1 : List (ClassId × FieldType)} {H0 : Heap} {wc wr : va_W} {w1 ws' : S → va_W} {cc : ByteArray} {nL pc n index maxL mc ms : Nat} {ls : Array Slot} {Ts ws9 : List Cond} {own C : String} {y : MethodName} {bytes : ByteArray} {ret : Option FieldType} {rm : Room} {Pc : Array Value → State → Prop} {b : Addr} {As rest : List Value}
    (hP : va_P D cl ws H) (hD : va_D A ws) (hS : va_S A H0 H locs) (hA : ∀ q, H0.size ≤ q → A q) (isC isR is : List Nat) (hC : isC.map (fun i => ws[i]?) = wc.map some) (hR : isR.map (fun i => ws[i]?) = wr.map some) (hn : va_nd isR = true) (hdis : ∀ i ∈ isR, i ∉ isC) (hns : va_nd is = true) (his : ∀ u, is.filterMap (fun i => (wr ++ w1 u)[i]?) = ws' u) (his2 : ∀ u, is.map (fun i => (wr ++ w1 u)[i]?) = (ws' u).map some)
    (K : CallFix p m c cc nL s args Ts own) (hM : wx_Met l y ws9 rm Pc (wx_X cls (fun (u : S) => Pp u) (fun u t => va_P D cl (w1 u) t.heap ∧ va_K D cl tys1 t ∧ va_D (va_A wc H.size) (w1 u)) (va_A wc H.size)) mc ms (va_A wc H.size)) (cw : CallW R s args own C index y bytes maxL ret ws9 rm mc ms n) (hp : PreV s H C b Pc As) (hn9 : As.length = n) (hsize : ls.size = nL) (hW : (rest.map fun v => v.category).sum ≤ 8) (hdg : decode cc pc = .ok (.invokevirtual index, 3)) (hf : cells + mc ≤ R.cells ∧ slots + ms ≤ R.slots)
    (pre : List ExceptionTableEntry) (x : ExceptionTableEntry) (suf : List ExceptionTableEntry) (hsplit : c.exceptionTable.toList = pre ++ x :: suf) (hcov : covers x pc = true)
    (hpass : ∀ z ∈ pre, z.catchType ≠ 0 ∧ ∃ name, (Cond.classLink own z.catchType name).before args s = true ∧ wx_as false cls name s) (hx0 : x.catchType ≠ 0) (hlk : (Cond.classLink own x.catchType cls).before args s = true) (has : wx_as true cls cls s)
    (kk : ∀ (u : S), Pp u → ∀ (q : Nat) (H1 : Heap) (locs1 : List Loc), va_P D cl (ws' u) H1 → va_D A (ws' u) → va_S A H0 H1 locs1 → W p l e R s m args below meth c H1 locs1 (cells + mc) (slots + ms) Q (F0 m x.handlerPc ls [.ref q])) : W p l e R s m args below meth c H locs cells slots Q (F0 m pc ls (As.reverse ++ .ref b :: rest)) := by
  have hF := va_free (wc := wc) hD hS hA isC hC
  refine wx_caught K hM cw hp hn9 hsize hW hdg hf pre x suf hsplit hcov hpass hx0 hlk has hS (fun q _ h => hF q h) hF (fun q u t H1 locs1 ht hvm hu hB hz1 hk1 hS1 => ?_)
  obtain ⟨hP1, hK1, hD1⟩ := hB
  rw [ht] at hP1
  obtain ⟨hPj, hDj⟩ := va_join (wr := wr) (w1 := w1 u) hP hD isC isR hC hR hn hdis hk1 hF hP1 hD1
  exact kk u hu q H1 locs1 (hPj.sub is (his u)) (hDj.sub is hns (his2 u)) hS1
end WXP
