/-! The call of a method that throws, inside the range of a handler that takes it. -/
section WXD
variable {p : Program} {l : Launch} {e : Env} {R : Room} {s : State} {m : MethodId} {args : Array Value} {below : List Frame} {meth : Method} {c : Code} {H : Heap} {locs : List Loc} {cells slots : Nat} {Q : State → Prop}
theorem wx_caught {S : Type} {cls : String} {post : S → Prop} {B : S → State → Prop} {A0 A1 : Nat → Prop} {H0 : Heap} {cc : ByteArray} {nL pc n index maxL mc ms : Nat} {ls : Array Slot} {Ts ws : List Cond} {own C : String} {y : MethodName} {bytes : ByteArray} {ret : Option FieldType} {rm : Room} {Pc : Array Value → State → Prop} {free : Addr → Prop} {b : Addr} {As rest : List Value}
    (K : CallFix p m c cc nL s args Ts own) (hM : wx_Met l y ws rm Pc (wx_X cls post B A1) mc ms free) (cw : CallW R s args own C index y bytes maxL ret ws rm mc ms n) (hp : PreV s H C b Pc As) (hn : As.length = n) (hsize : ls.size = nL) (hW : (rest.map fun v => v.category).sum ≤ 8) (hdg : decode cc pc = .ok (.invokevirtual index, 3)) (hf : cells + mc ≤ R.cells ∧ slots + ms ≤ R.slots)
    (pre : List ExceptionTableEntry) (x : ExceptionTableEntry) (suf : List ExceptionTableEntry) (hsplit : c.exceptionTable.toList = pre ++ x :: suf) (hcov : covers x pc = true)
    (hpass : ∀ z ∈ pre, z.catchType ≠ 0 ∧ ∃ name, (Cond.classLink own z.catchType name).before args s = true ∧ wx_as false cls name s) (hx0 : x.catchType ≠ 0) (hlk : (Cond.classLink own x.catchType cls).before args s = true) (has : wx_as true cls cls s)
    (hS : va_S A0 H0 H locs) (hA : ∀ q, q < H.size → A1 q → A0 q) (hfree : ∀ q, free q → A0 q)
    (kk : ∀ (q : Nat) (u : S) (t : State) (H1 : Heap) (locs1 : List Loc), t.heap = H1 → s.vm.Alike t.vm → post u → B u t → H.size ≤ H1.size → (∀ q : Nat, q < H.size → ¬ A1 q → H1[q]? = H[q]?) → va_S A0 H0 H1 locs1 → W p l e R s m args below meth c H1 locs1 (cells + mc) (slots + ms) Q (F0 m x.handlerPc ls [.ref q])) : W p l e R s m args below meth c H locs cells slots Q (F0 m pc ls (As.reverse ++ .ref b :: rest)) := by
  obtain ⟨⟨hrc, hrs, hfr, hlo, hws, hcw, hcode, hini, hy, hlen, hl⟩, hin, hse⟩ := cw
  have hK : Free.BackT l R p e below s args y 3 8 (PreOf R mc ms Pc) (wx_PostOf (wx_X cls post B A1) mc ms free) := wx_back (bytes := bytes) (maxL := maxL) (ret := ret) hM hp.1 hrc hrs hfr hlo hws hcw (fun a' U hW => word_at hW (Or.inl rfl) hini)
  obtain ⟨hexec, hb, hml, ho, -⟩ := K
  obtain ⟨-, ⟨cellB, hcB, hoB, hclB⟩, hPc⟩ := hp
  intro T hT X
  obtain ⟨v, vm₁, ⟨U', l2, c2, s2⟩, hW₁, X', ⟨g', mk, t, L, e1, e2, ⟨⟨u, hu, hBu⟩, ⟨hz, hk⟩, ce, hce, hcc, hvm⟩, h1, hL, h2, h3⟩, st⟩ := wx_callV X hexec (C := C) (bytes := bytes) (maxL := maxL) (ret := ret) ho hl hin hse hcode hy hK (by rw [hT]; exact hcB) hoB hclB (g := F0 m pc ls (As.reverse ++ .ref b :: rest)) rfl (hsize.trans hml.symm) (argsL := As) (rest := rest) (fun sig h => hn.trans (hlen sig h)) rfl (by show 2 * 0 + _ ≤ 8; omega) (by rw [hb]; exact hdg)
    (fun vm₁ hW₁ => ⟨hf.1, hf.2, hPc (T.setVm vm₁) hT hW₁⟩)
  dsimp only at X' e1 e2 h1 h2 h3 st
  subst h1; subst h2; subst h3
  have hal : s.vm.Alike t.vm := by rw [← e2]; exact X'.warmed.alike
  have hcs : s.vm.findClass cls = some ce.cls := by rw [← hal.findClass]; exact hcc
  obtain ⟨cT, dT, f1, f2, f3⟩ := has
  cases f1.symm.trans f2
  cases hcs.symm.trans f1
  have hpl : e.platform.magicAccessors = ({} : Platform).magicAccessors := by rw [X.admits.platform]
  obtain ⟨hend, hkc⟩ := X'.catches_of_link ho hx0 hlk hcs f3
  obtain ⟨vm', XV, st2⟩ := X'.thenCaughtThrough v (g := { F0 m pc ls (As.reverse ++ .ref b :: rest) with stack := rest }) rfl st (cell := ce) (by rw [e1]; exact hce) (by rw [hvm]; rfl) hkc pre x suf hsplit (fun z hz' => by
    obtain ⟨z0, name, zl, zc⟩ := hpass z hz'
    exact RowPassed.of_words hpl ho z0 zl hcs zc.noword (args := args)) hcov hend
  have hh : (T.setVm vm₁).heap = H := hT
  have hz : (T.setVm vm₁).heap.size ≤ t.heap.size := hz
  have hk : ∀ q : Nat, q < (T.setVm vm₁).heap.size → ¬ A1 q → t.heap[q]? = (T.setVm vm₁).heap[q]? := hk
  rw [hh] at hz hk
  obtain ⟨t9, a9, b9⟩ := kk v u t t.heap (locs ++ L) rfl hal hu hBu hz hk
    ⟨Nat.le_trans hS.1 hz, fun q h1 h2 => by rw [hk q (Nat.lt_of_lt_of_le h1 hS.1) (fun z => h2 (hA q (Nat.lt_of_lt_of_le h1 hS.1) z))]; exact hS.2.1 q h1 h2, fun q hq => by
      rcases List.mem_append.mp hq with h | h
      · exact hS.2.2 q h
      · exact hfree _ (hL q h)⟩ (U'.setVm vm') e1 XV
  exact ⟨t9, st2.trans a9, b9⟩
end WXD
