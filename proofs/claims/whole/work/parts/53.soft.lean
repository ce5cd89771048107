/-! What a throw needs besides the words of the tables: two statics of Throwable, who can be assigned to whom, what is declared, the texts. -/
def wx_Z (C n d : String) (A : Nat → Prop) (U : State) (H : Heap) : Prop := ∃ (c : ClassId) (k : Class) (i : Nat) (f : Field) (a : Nat) (cell : Cell) (v : Value), U.vm.findClass C = some c ∧ U.fieldFound? C n d = some (c, k, i, f) ∧ f.isStatic = true ∧ k.statics = some a ∧ H[a]? = some cell ∧ cell.vm.isStatics = true ∧ cell.cls = c ∧ f.slot < cell.slots.size ∧ k.staticTypes[f.slot]? = some f.type ∧ cell.slots[f.slot]? = some v ∧ v.isRef = true ∧ ¬ A a
theorem wx_Z.moved {C n d : String} {A : Nat → Prop} {u U : State} {H : Heap} (hvm : u.vm.Alike U.vm) (h : wx_Z C n d A u H) : wx_Z C n d A U H := by
  obtain ⟨c, k, i, f, a, cell, v, h0, h1, h2, h3, h4, h5, h6, h7, h8, h9⟩ := h
  obtain ⟨k', hi', he⟩ := State.fieldFound?_setVm hvm h1
  exact ⟨c, k', i, f, a, cell, v, by rw [hvm.findClass]; exact h0, hi', h2, by rw [he]; exact h3, h4, h5, h6, h7, by rw [he]; exact h8, h9⟩
theorem wx_Z.kept {C n d : String} {A : Nat → Prop} {U : State} {H H1 : Heap} (h : wx_Z C n d A U H) (hq : ∀ a : Nat, a < H.size → ¬ A a → H1[a]? = H[a]?) : wx_Z C n d A U H1 := by
  obtain ⟨c, k, i, f, a, cell, v, h0, h1, h2, h3, h4, h5, h6, h7, h8, h9, h10, h11⟩ := h
  exact ⟨c, k, i, f, a, cell, v, h0, h1, h2, h3, by rw [hq a (Array.getElem?_eq_some_iff.mp h4).1 h11]; exact h4, h5, h6, h7, h8, h9, h10, h11⟩
theorem wx_Z.narrow {C n d : String} {A B : Nat → Prop} {U : State} {H : Heap} (h : wx_Z C n d A U H) (hAB : ∀ q, B q → A q) : wx_Z C n d B U H := by
  obtain ⟨c, k, i, f, a, cell, v, h0, h1, h2, h3, h4, h5, h6, h7, h8, h9, h10, h11⟩ := h
  exact ⟨c, k, i, f, a, cell, v, h0, h1, h2, h3, h4, h5, h6, h7, h8, h9, h10, fun q => h11 (hAB _ q)⟩
theorem wx_Z.lays {C n d : String} {A : Nat → Prop} {U : State} {args : Array Value} (h : wx_Z C n d A U U.heap) : (Cond.laysStatic C n d).before args U = true := by
  obtain ⟨c, k, i, f, a, cell, v, h0, h1, h2, h3, h4, h5, h6, h7, h8, h9, h10, h11⟩ := h
  simp [Cond.before, Cond.holds, Cond.value, h0, h1, h2, h3, h4, h5, h6, h7, h8]
theorem wx_Z.ref {C n d : String} {A : Nat → Prop} {U : State} {args : Array Value} (h : wx_Z C n d A U U.heap) : (Cond.isRef (.static C n d)).before args U = true := by
  obtain ⟨c, k, i, f, a, cell, v, h0, h1, h2, h3, h4, h5, h6, h7, h8, h9, h10, h11⟩ := h
  have e : (Term.static C n d).eval args U none [] U = some v := by
    simp [Term.eval, State.fieldNamed?, h1, h2, h3, h4, h5, h9]
  simp only [Cond.before, Cond.holds, Cond.value, e]
  cases v <;> first | rfl | cases h10
theorem wx_Zof {C n d : String} {A : Nat → Prop} {U : State} {args : Array Value} (hl : (Cond.laysStatic C n d).before args U = true) (hr : (Cond.isRef (.static C n d)).before args U = true) (hA : ∀ a : Nat, a < U.heap.size → ¬ A a) : wx_Z C n d A U U.heap := by
  obtain ⟨c, k, i, f, a, cell, h0, h1, h2, h3, h4, h5, h6, h7, h8⟩ := Cond.laysStatic_spec hl
  have e : (Term.static C n d).eval args U none [] U = cell.slots[f.slot]? := by
    simp [Term.eval, State.fieldNamed?, h1, h2, h3, h4, h5]
  have hv : ∃ v, cell.slots[f.slot]? = some v := ⟨_, Array.getElem?_eq_getElem h7⟩
  obtain ⟨v, hv⟩ := hv
  rw [hv] at e
  have h10 : v.isRef = true := by
    simp [Cond.before, Cond.holds, Cond.value, e] at hr
    exact hr
  exact ⟨c, k, i, f, a, cell, v, h0, h1, h2, h3, h4, h5, h6, h7, h8, hv, h10, hA a (Array.getElem?_eq_some_iff.mp h4).1⟩
def wx_as (b : Bool) (E F : String) (U : State) : Prop := ∃ c d, U.vm.findClass E = some c ∧ U.vm.findClass F = some d ∧ U.vm.assignable c d = b
theorem wx_as.moved {b : Bool} {E F : String} {u U : State} (hvm : u.vm.Alike U.vm) (h : wx_as b E F u) : wx_as b E F U := by
  obtain ⟨c, d, h1, h2, h3⟩ := h
  exact ⟨c, d, by rw [hvm.findClass]; exact h1, by rw [hvm.findClass]; exact h2, by rw [hvm.assignable]; exact h3⟩
theorem wx_as.word {E F : String} {U : State} {args : Array Value} (h : wx_as true E F U) : (Cond.castable E F).before args U = true := by
  obtain ⟨c, d, h1, h2, h3⟩ := h
  simp [Cond.before, Cond.holds, Cond.value, h1, h2, h3]
theorem wx_as.noword {E F : String} {U : State} {args : Array Value} (h : wx_as false E F U) : (Cond.not (.castable E F)).before args U = true := by
  obtain ⟨c, d, h1, h2, h3⟩ := h
  simp [Cond.before, Cond.holds, Cond.value, h1, h2, h3]
