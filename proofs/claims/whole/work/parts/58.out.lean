/-! The end of a method that throws, and what it is handed. -/
def wx_tx : List (Nat × String) := [(61, "a mask is not 0 .. 63"), (66, "a bit is both set and cleared"), (74, "there are 16 moves"), (87, "no such state"), (97, "no such kind, or a part is no formula"), (100, "there are 32 formulas"), (111, "no such formula, or it speaks of ways"), (114, "there are 3 formulas of the fairness"), (129, "no such formula"), (139, "no such formula or state"), (145, "there is no way to show"), (155, "the way has more than 250 states"), (164, "no such state of the shown way")]
def wx_at (ic : Nat) (cls : String) : List Cond := (Bundle.ownAtoms RWw ic cls wx_nm).filter wx_good
def wx_all : List Cond := wx_at 63 "java/lang/IllegalArgumentException" ++ (wx_at 76 "java/lang/IllegalStateException" ++ (wx_at 157 "java/lang/UnsupportedOperationException" ++ (wx_at 166 "java/lang/IndexOutOfBoundsException" ++ [.initialized "java/lang/IllegalArgumentException", .initialized "java/lang/IllegalStateException", .initialized "java/lang/UnsupportedOperationException", .initialized "java/lang/IndexOutOfBoundsException"])))
theorem wx_in63 {w : Cond} (h : w ∈ wx_at 63 "java/lang/IllegalArgumentException") : w ∈ wx_all := List.mem_append_left _ h
theorem wx_in76 {w : Cond} (h : w ∈ wx_at 76 "java/lang/IllegalStateException") : w ∈ wx_all := List.mem_append_right _ (List.mem_append_left _ h)
theorem wx_in157 {w : Cond} (h : w ∈ wx_at 157 "java/lang/UnsupportedOperationException") : w ∈ wx_all := List.mem_append_right _ (List.mem_append_right _ (List.mem_append_left _ h))
theorem wx_in166 {w : Cond} (h : w ∈ wx_at 166 "java/lang/IndexOutOfBoundsException") : w ∈ wx_all := List.mem_append_right _ (List.mem_append_right _ (List.mem_append_right _ (List.mem_append_left _ h)))
theorem wx_ini {cls : String} (h : cls ∈ wx_ex) : Cond.initialized cls ∈ wx_all := by
  refine List.mem_append_right _ (List.mem_append_right _ (List.mem_append_right _ (List.mem_append_right _ ?_)))
  unfold wx_ex at h
  simp only [List.mem_cons, List.not_mem_nil, or_false] at h
  rcases h with e | e | e | e <;> (subst e; simp)
theorem wx_allgood {w : Cond} (h : w ∈ wx_all) : (w.onTables && w.keeps) = true := by
  unfold wx_all at h
  simp only [List.mem_append] at h
  rcases h with h | h | h | h | h
  · exact (List.mem_filter.mp h).2
  · exact (List.mem_filter.mp h).2
  · exact (List.mem_filter.mp h).2
  · exact (List.mem_filter.mp h).2
  · simp only [List.mem_cons, List.not_mem_nil, or_false] at h
    rcases h with e | e | e | e <;> (subst e; rfl)
theorem wx_mem {c0 w : Cond} (h : w ∈ c0 :: wz_all) : w ∈ c0 :: (wz_all ++ wx_all) := by
  rcases List.mem_cons.mp h with e | h
  · exact e ▸ List.mem_cons_self
  · exact List.mem_cons_of_mem _ (List.mem_append_left _ h)
theorem wx_mem2 {c0 w : Cond} (h : w ∈ wx_all) : w ∈ c0 :: (wz_all ++ wx_all) := List.mem_cons_of_mem _ (List.mem_append_right _ h)
/-- the texts are there -/
def wx_T (U : State) : Prop := ∀ k ∈ wx_tx, ∃ a, vk_R RWw k.1 k.2 a U
theorem wx_T.moved {s U : State} (hW : s.WarmedH U.vm) (h : wx_T s) : wx_T U := fun k hk => by
  obtain ⟨a, ha⟩ := h k hk
  exact ⟨a, ha.warm hW⟩
abbrev wz_PcX (D : va_G) (cl : List vw_C) (tys : List (ClassId × FieldType)) (tv : Nat) (av : List Value) (sz : Nat) (wc : va_W) : Array Value → State → Prop := va_Pc av (fun U => U.heap.size = sz ∧ va_P D cl wc U.heap ∧ va_K D cl tys U ∧ va_D (fun _ => True) wc ∧ wz_N U ∧ wz_Z tv (va_A wc sz) U U.heap ∧ wx_E (va_A wc sz) U U.heap ∧ wx_T U)
theorem wz_blindX {D : va_G} {cl : List vw_C} {tys : List (ClassId × FieldType)} {tv : Nat} {av : List Value} {sz : Nat} {wc : va_W} : FrameBlind (wz_PcX D cl tys tv av sz wc) := fun a U g mk q => by
  obtain ⟨q0, q1, qP, qK, qD, qN, qZ, qE, qT⟩ := q
  have hW : U.WarmedH (U.calling g mk a).vm := State.WarmedH.refl U
  exact ⟨q0, q1, qP, va_K.moved (u := U) (U := U.calling g mk a) (Vm.Alike.refl U.vm) qK, qD, wz_N.same (u := U) (U := U.calling g mk a) rfl qN, wz_Z.moved (u := U) (U := U.calling g mk a) (Vm.Alike.refl U.vm) qZ, wx_E.moved (U := U.calling g mk a) hW qE, wx_T.moved (U := U.calling g mk a) hW qT⟩
section WXO
variable {p : Program} {l : Launch} {e : Env} {R : Room} {s : State} {m : MethodId} {args : Array Value} {below : List Frame} {meth : Method} {c : Code} {H : Heap} {locs : List Loc} {cells slots : Nat}
variable {cc : ByteArray} {pc : Nat} {ls : Array Slot} {rest : List Value} {A : Nat → Prop} {D : va_G} {cl : List vw_C} {tys : List (ClassId × FieldType)}
theorem wx_out {own cls tx : String} {ik is ic : Nat} {S : Type} {wf : S → va_W} {Pp : S → Prop} (u : S) (hpp : Pp u) (hexec : p.tables.exec = Jvm.exec) (hb : c.code = cc) (hl : l.stackTraces = false) (hown : s.vm.findClass own = some m.cls) (hcls : Bundle.fit cls = true) (hc : cls ∈ wx_ex) (hwd : ∀ w ∈ (Bundle.ownAtoms own ic cls wx_nm).filter wx_good, w.before args s = true) (hlk : (Cond.classLink own ik cls).before args s = true) (hini : (Cond.initialized cls).before args s = true) (hE : wx_E A s s.heap) (hstr : ∃ a, vk_R own is tx a s) (hsz : ls.size = c.maxLocals) (hlocks : meth.locks = false) (hout : c.exceptionTable.isEmpty = true) (hfr : 5 < R.frames) (hlo : (rest.map fun v => v.category).sum + 90 ≤ R.locals) (hcl : cells + 1 ≤ R.cells) (hsl : slots + 6 ≤ R.slots)
    (hP : va_P D cl (wf u) H) (hD : va_D A (wf u)) (hK : va_K D cl tys s) (hS : va_S A s.heap H locs) (d0 : decode cc pc = .ok (.new ik, 3)) (d3 : decode cc (pc + 3) = .ok (.dup, 1)) (d4 : decode cc (pc + 4) = .ok (.ldc is, 2)) (d6 : decode cc (pc + 6) = .ok (.invokespecial ic, 3)) (d9 : decode cc (pc + 9) = .ok (.athrow, 1)) : W p l e R s m args below meth c H locs cells slots (wx_Q below (wx_X cls (fun (u : S) => Pp u) (fun u t => va_P D cl (wf u) t.heap ∧ va_K D cl tys t ∧ va_D A (wf u)) A) args s (cells + 1) (slots + 6) A) (F0 m pc ls rest) :=
  wx_raise hexec hb hl hown hcls hc hwd hlk hini hE hstr hS hsz hlocks hout hfr hlo hcl hsl d0 d3 d4 d6 d9 (fun t ce hk hce hcf hcv hW => by
    have hlt : H.size < t.heap.size := (Array.getElem?_eq_some_iff.mp hce).1
    exact ⟨⟨u, hpp, hP.kept (fun k x hx => hk x.1 ((hP k x hx).lt)), va_K.moved hW.alike hK, hD⟩, ⟨Nat.le_trans hS.1 (Nat.le_of_lt hlt), fun q h1 h2 => by rw [hk q (Nat.lt_of_lt_of_le h1 hS.1)]; exact hS.2.1 q h1 h2⟩, ce, hce, by rw [hW.alike.findClass]; exact hcf, hcv⟩)
end WXO
