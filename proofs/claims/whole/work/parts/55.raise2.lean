/-! new, dup, ldc, the constructor, athrow: as one row. -/
theorem wx_swap {T t : State} {F : List Frame} {k n : Nat} (h : (T.setFrames F).sameButNew ({ t with vm := (T.setFrames F).vm } : State) [] k n) : T.sameButNew ({ t with vm := T.vm } : State) [] k n := by
  obtain ⟨h1, h2⟩ := h
  refine ⟨?_, h2⟩
  rw [State.setFrames_setFrames] at h1
  exact h1
theorem wx_heap {T t : State} {k n : Nat} (h : T.sameButNew ({ t with vm := T.vm } : State) [] k n) : ∀ q : Nat, q < T.heap.size → t.heap[q]? = T.heap[q]? := by
  intro q hq
  obtain ⟨c', h1, h2, h3, h4⟩ := h.2.2.2.2.2 q _ (Array.getElem?_eq_getElem hq)
  have h1 : t.heap[q]? = some c' := h1
  rw [h1, Array.getElem?_eq_getElem hq]
  have e : c'.slots = T.heap[q].slots := Array.ext_getElem? (fun i => h4 i (fun z => nomatch z))
  rw [h2, e]
section WXS
variable {p : Program} {l : Launch} {e : Env} {R : Room} {s : State} {m : MethodId} {args : Array Value} {below : List Frame} {meth : Method} {c : Code} {H : Heap} {locs : List Loc} {cells slots : Nat}
variable {cc : ByteArray} {pc : Nat} {ls : Array Slot} {rest : List Value} {A : Nat → Prop} {XC : Array Value → State → Addr → State → Prop}
theorem wx_raise {own cls tx : String} {ik is ic : Nat} (hexec : p.tables.exec = Jvm.exec) (hb : c.code = cc) (hl : l.stackTraces = false) (hown : s.vm.findClass own = some m.cls) (hcls : Bundle.fit cls = true) (hc : cls ∈ wx_ex) (hwd : ∀ w ∈ (Bundle.ownAtoms own ic cls wx_nm).filter wx_good, w.before args s = true) (hlk : (Cond.classLink own ik cls).before args s = true) (hini : (Cond.initialized cls).before args s = true) (hE : wx_E A s s.heap) (hstr : ∃ a, vk_R own is tx a s) (hS : va_S A s.heap H locs) (hsz : ls.size = c.maxLocals) (hlocks : meth.locks = false) (hout : c.exceptionTable.isEmpty = true) (hfr : 5 < R.frames) (hlo : (rest.map fun v => v.category).sum + 90 ≤ R.locals) (hcl : cells + 1 ≤ R.cells) (hsl : slots + 6 ≤ R.slots)
    (d0 : decode cc pc = .ok (.new ik, 3)) (d3 : decode cc (pc + 3) = .ok (.dup, 1)) (d4 : decode cc (pc + 4) = .ok (.ldc is, 2)) (d6 : decode cc (pc + 6) = .ok (.invokespecial ic, 3)) (d9 : decode cc (pc + 9) = .ok (.athrow, 1))
    (hX : ∀ (t : State) (ce : Cell), (∀ q : Nat, q < H.size → t.heap[q]? = H[q]?) → t.heap[H.size]? = some ce → s.vm.findClass cls = some ce.cls → ce.vm = .none → s.WarmedH t.vm → XC args s H.size t) : W p l e R s m args below meth c H locs cells slots (wx_Q below XC args s (cells + 1) (slots + 6) A) (F0 m pc ls rest) := by
  intro T hT X
  have X' := wx_rebase X (R' := { R with cells := 1, slots := 6 }) (Nat.le_refl _) (Nat.le_refl _) hcl hsl
  have hW : s.WarmedH (T.setFrames (.invoking m args :: below)).vm := X.warmed
  obtain ⟨sa, hsa⟩ := hstr
  obtain ⟨cX, d, hcX, -, -⟩ := (hE.moved hW).2.2.2.2.2 cls hc cls hc
  have hE' : wx_E A (T.setFrames (.invoking m args :: below)) (T.setFrames (.invoking m args :: below)).heap := by
    have := (hE.moved hW).kept (H1 := H) hS.2.1
    rw [← hT] at this
    exact this
  have hwd' : ∀ w ∈ (Bundle.ownAtoms own ic cls wx_nm).filter wx_good, w.before args (T.setFrames (.invoking m args :: below)) = true := fun w hw => word_at hW (Or.inl (List.mem_filter.mp hw).2) (hwd w hw)
  have hown' : (T.setFrames (.invoking m args :: below)).vm.findClass own = some m.cls := by rw [hW.alike.findClass]; exact hown
  have hins : (Cond.instantiable cls 6).before args (T.setFrames (.invoking m args :: below)) = true := wx_own hc hE' hwd' _ (by simp [Bundle.ownAtoms])
  have w : W p l e { R with cells := 1, slots := 6 } (T.setFrames (.invoking m args :: below)) m args below meth c H [] 0 0 (wx_end below args (T.setFrames (.invoking m args :: below)) cls H.size (0 + 1) (0 + 6)) (F0 m pc ls rest) := by
    refine W.newcK hexec hb hown' (word_at hW (Or.inl rfl) hlk) hins (word_at hW (Or.inl rfl) hini) rfl d0 (Nat.le_refl _) (Nat.le_refl _) hcX rfl (fun H' kC hk hcell hsz' hkeep => ?_)
    refine lv_dup hexec hb d3 rfl ?_
    refine va_ldcS hexec hb hown' (hsa.warm hW) d4 ?_
    exact wx_last hexec hb hl hown' hcls (wx_own hc hE' hwd') hcX hk hcell (by rw [← hT]; exact Nat.le_refl _) hsz hlocks hout hfr hlo d6 d9
  obtain ⟨t, st, h1, h2, h3, h4, ce, h5, h6, h7⟩ := w T hT X'
  have h8 := wx_swap h4
  have h9 := wx_heap h8
  refine ⟨t, st, H.size, h1, h2, hX t ce (fun q hq => by rw [h9 q (by rw [hT]; exact hq), hT]) h5 (by rw [← hW.alike.findClass]; exact h6) h7 (State.WarmedH.trans X.warmed h3), locs, ⟨State.WarmedH.trans X.warmed h3, ?_⟩, hS.2.2⟩
  have := X.same.trans (h8.setVm s.vm)
  rw [List.append_nil] at this
  exact this
end WXS
