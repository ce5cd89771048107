/-! The law's words: all that the contracts ask stands in the tables. -/
set_option maxRecDepth 100000 in
theorem wl_pos : wz_all.map some = wz_pos.map (fun i => lw_tbl[i]?) := by decide +kernel
theorem wl_in {w : Cond} (h : w ∈ wz_all) : w ∈ lw_tbl := by
  have h1 : some w ∈ wz_all.map some := List.mem_map.mpr ⟨w, h, rfl⟩
  rw [wl_pos] at h1
  obtain ⟨i, -, e⟩ := List.mem_map.mp h1
  exact List.mem_of_getElem? e
set_option maxRecDepth 100000 in
theorem wl_inx : ∀ w ∈ wx_all, w ∈ lw_tbl := by decide +kernel
theorem wl_gW {c1 : Cond} (h : c1 ∈ lw_tbl ∧ (c1.onTables && c1.keeps) = true) : GoodIn lw_tbl (c1 :: (wz_all ++ wx_all)) := fun w hw => by
  rcases List.mem_cons.mp hw with e | q
  · subst e; exact ⟨h.1, Or.inl h.2⟩
  · rcases List.mem_append.mp q with q | q
    · exact ⟨wl_in q, wz_good q⟩
    · exact ⟨wl_inx w q, Or.inl (wx_allgood q)⟩
set_option maxRecDepth 100000 in
theorem wl_h_La_move : Cond.codeWith yLa_move cLa_move 8 (some .int) [(0, 16, 19, 13), (0, 16, 23, 15)] ∈ lw_tbl ∧ ((Cond.codeWith yLa_move cLa_move 8 (some .int) [(0, 16, 19, 13), (0, 16, 23, 15)]).onTables && (Cond.codeWith yLa_move cLa_move 8 (some .int) [(0, 16, 19, 13), (0, 16, 23, 15)]).keeps) = true := ⟨by decide +kernel, rfl⟩
set_option maxRecDepth 100000 in
theorem wl_h_La_followers : Cond.codeWith yLa_followers cLa_followers 4 (some .int) [(0, 8, 11, 13)] ∈ lw_tbl ∧ ((Cond.codeWith yLa_followers cLa_followers 4 (some .int) [(0, 8, 11, 13)]).onTables && (Cond.codeWith yLa_followers cLa_followers 4 (some .int) [(0, 8, 11, 13)]).keeps) = true := ⟨by decide +kernel, rfl⟩
set_option maxRecDepth 100000 in
theorem wl_h_La_formula : Cond.codeWith yLa_formula cLa_formula 6 (some .int) [(0, 12, 15, 13), (0, 12, 19, 15)] ∈ lw_tbl ∧ ((Cond.codeWith yLa_formula cLa_formula 6 (some .int) [(0, 12, 15, 13), (0, 12, 19, 15)]).onTables && (Cond.codeWith yLa_formula cLa_formula 6 (some .int) [(0, 12, 15, 13), (0, 12, 19, 15)]).keeps) = true := ⟨by decide +kernel, rfl⟩
set_option maxRecDepth 100000 in
theorem wl_h_La_fair : Cond.codeWith yLa_fair cLa_fair 4 (some .int) [(0, 9, 12, 13), (0, 9, 15, 15)] ∈ lw_tbl ∧ ((Cond.codeWith yLa_fair cLa_fair 4 (some .int) [(0, 9, 12, 13), (0, 9, 15, 15)]).onTables && (Cond.codeWith yLa_fair cLa_fair 4 (some .int) [(0, 9, 12, 13), (0, 9, 15, 15)]).keeps) = true := ⟨by decide +kernel, rfl⟩
set_option maxRecDepth 100000 in
theorem wl_h_La_states : Cond.codeWith yLa_states cLa_states 4 (some .int) [(0, 8, 11, 13)] ∈ lw_tbl ∧ ((Cond.codeWith yLa_states cLa_states 4 (some .int) [(0, 8, 11, 13)]).onTables && (Cond.codeWith yLa_states cLa_states 4 (some .int) [(0, 8, 11, 13)]).keeps) = true := ⟨by decide +kernel, rfl⟩
set_option maxRecDepth 100000 in
theorem wl_h_La_show : Cond.codeWith yLa_show cLa_show 5 (some .int) [(0, 10, 13, 13), (0, 10, 17, 15), (0, 10, 21, 36)] ∈ lw_tbl ∧ ((Cond.codeWith yLa_show cLa_show 5 (some .int) [(0, 10, 13, 13), (0, 10, 17, 15), (0, 10, 21, 36)]).onTables && (Cond.codeWith yLa_show cLa_show 5 (some .int) [(0, 10, 13, 13), (0, 10, 17, 15), (0, 10, 21, 36)]).keeps) = true := ⟨by decide +kernel, rfl⟩
set_option maxRecDepth 100000 in
theorem wl_h_La_shown : Cond.codeWith yLa_shown cLa_shown 4 (some .int) [(0, 9, 12, 41)] ∈ lw_tbl ∧ ((Cond.codeWith yLa_shown cLa_shown 4 (some .int) [(0, 9, 12, 41)]).onTables && (Cond.codeWith yLa_shown cLa_shown 4 (some .int) [(0, 9, 12, 41)]).keeps) = true := ⟨by decide +kernel, rfl⟩
/-- what holds all along the law -/
def wl_C (p : Program) (l : Launch) (s : State) (m : MethodId) (meth : Method) (c : Code) (b L : Nat) (xs : Nat → Int32) (A : Nat → Prop) (dC : Nat → ClassId) (dI : Nat → Nat → Nat) (cI cJ cZ : ClassId) (tv : Nat) : Prop :=
  p.tables.exec = Jvm.exec ∧ c.code = code ∧ c.maxLocals = 8 ∧ s.vm.findClass RLa = some m.cls ∧ (∀ w ∈ lw_tbl, w.before #[Value.ref b] s = true) ∧ va_X b L xs s s.heap ∧ b < s.heap.size ∧ ¬ A b ∧ (∀ q, s.heap.size ≤ q → A q) ∧ meth.locks = false ∧ va_K (dC, dI) vwCl (wz_T cI cJ cZ) s ∧ wz_N s ∧ wz_Z tv A s s.heap ∧ wx_E A s s.heap ∧ wx_T s ∧ L ≤ 3072 ∧ l.stackTraces = false
section WLL
variable {p : Program} {l : Launch} {e : Env} {R : Room} {s : State} {m : MethodId} {args : Array Value} {below : List Frame} {meth : Method} {c : Code} {H : Heap} {locs : List Loc} {cells slots : Nat} {Q : State → Prop}
variable {cc : ByteArray} {pc : Nat} {ls : Array Slot} {rest : List Value} {A : Nat → Prop}
theorem wl_sld (hexec : p.tables.exec = Jvm.exec) (hb : c.code = cc) {b L : Nat} {xs : Nat → Int32} (hX : va_X b L xs s s.heap) (hbl : b < s.heap.size) (hbA : ¬ A b) (hS : va_S A s.heap H locs) (hL : L ≤ 3072) {i : Nat} (hi : i < L) (hdg : decode cc pc = .ok (.iaload, 1))
    (kk : W p l e R s m args below meth c H locs cells slots Q (F0 m (pc + 1) ls (.int (xs i) :: rest))) : W p l e R s m args below meth c H locs cells slots Q (F0 m pc ls (.int (nI i) :: .ref b :: rest)) :=
  va_sld hexec hb hX hbl hbA hS (vp_in_nI hi (by omega)) hdg (by rw [nI_clamp (by omega)]; exact kk)
end WLL
