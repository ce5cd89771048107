/-! What the law's start gives: classes, links, the static row, what exceptions ask. -/
theorem wl_K0 {s : State} {args : Array Value} (hts : ∀ w ∈ lw_tbl, w.before args s = true) : ∃ (dC : Nat → ClassId) (dI : Nat → Nat → Nat) (cI cJ cZ : ClassId), va_K (dC, dI) vwCl (wz_T cI cJ cZ) s := by
  have hw : ∀ w ∈ wz_all, w.before args s = true := fun w h => hts w (wl_in h)
  obtain ⟨c0, i0, k0⟩ := u_known hw in_Ww (hw _ w_44)
  obtain ⟨c1, i1, k1⟩ := u_known hw in_Ma (hw _ w_52)
  obtain ⟨c2, i2, k2⟩ := u_known hw in_Fo (hw _ w_88)
  obtain ⟨c3, i3, k3⟩ := u_known hw in_Fa (hw _ w_111)
  obtain ⟨c4, i4, k4⟩ := u_known hw in_Ju (hw _ w_123)
  obtain ⟨c5, i5, k5⟩ := u_known hw in_Pa (hw _ w_151)
  obtain ⟨c6, i6, k6⟩ := u_known hw in_Wa (hw _ w_166)
  obtain ⟨c7, i7, k7⟩ := u_known hw in_Mo (hw _ w_495)
  obtain ⟨cI, kI, pI, aI, bI, dI⟩ := Cond.arrayClass_spec (hw _ w_108)
  obtain ⟨cJ, kJ, pJ, aJ, bJ, dJ⟩ := Cond.arrayClass_spec (hw _ w_86)
  obtain ⟨cZ, kZ, pZ, aZ, bZ, dZ⟩ := Cond.arrayClass_spec (hw _ w_109)
  refine ⟨fun k => match k with | 0 => c0 | 1 => c1 | 2 => c2 | 3 => c3 | 4 => c4 | 5 => c5 | 6 => c6 | _ => c7, fun k => match k with | 0 => i0 | 1 => i1 | 2 => i2 | 3 => i3 | 4 => i4 | 5 => i5 | 6 => i6 | _ => i7, cI, cJ, cZ, fun c q h => ?_, fun k q h => ?_⟩
  · rcases c with _ | _ | _ | _ | _ | _ | _ | _ | c
    · have e : some (RWw, TWw, 6) = some q := h
      cases e
      exact k0
    · have e : some (RMa, TMa, 3) = some q := h
      cases e
      exact k1
    · have e : some (RFo, TFo, 5) = some q := h
      cases e
      exact k2
    · have e : some (RFa, TFa, 2) = some q := h
      cases e
      exact k3
    · have e : some (RJu, TJu, 7) = some q := h
      cases e
      exact k4
    · have e : some (RPa, TPa, 3) = some q := h
      cases e
      exact k5
    · have e : some (RWa, TWa, 9) = some q := h
      cases e
      exact k6
    · have e : some (RMo, TMo, 19) = some q := h
      cases e
      exact k7
    · have e : (none : Option vw_C) = some q := h
      cases e
  · rcases k with _ | _ | _ | k
    · have e : some (cI, FieldType.int) = some q := h
      cases e
      exact ⟨fun N z => ⟨(fun k h => by cases h), kI, bI, pI, dI⟩, aI⟩
    · have e : some (cJ, FieldType.long) = some q := h
      cases e
      exact ⟨fun N z => ⟨(fun k h => by cases h), kJ, bJ, pJ, dJ⟩, aJ⟩
    · have e : some (cZ, FieldType.boolean) = some q := h
      cases e
      exact ⟨fun N z => ⟨(fun k h => by cases h), kZ, bZ, pZ, dZ⟩, aZ⟩
    · have e : (none : Option (ClassId × FieldType)) = some q := h
      cases e
theorem wl_N0 {s : State} {args : Array Value} (hts : ∀ w ∈ lw_tbl, w.before args s = true) : wz_N s := by
  intro w hw
  unfold wz_nest at hw
  simp only [List.mem_cons, List.not_mem_nil, or_false] at hw
  rcases hw with e | e | e | e | e | e <;> (subst e; exact va_Nw.of rfl (hts _ (by decide +kernel)))
set_option maxRecDepth 100000 in
theorem wl_tx : ∀ k ∈ wx_tx, Cond.stringRef RWw k.1 k.2 ∈ lw_tbl := by decide +kernel
theorem wl_T0 {s : State} {args : Array Value} (hts : ∀ w ∈ lw_tbl, w.before args s = true) : wx_T s := by
  have hw : ∀ w ∈ wz_all, w.before args s = true := fun w h => hts w (wl_in h)
  obtain ⟨c0, i0, k0⟩ := u_known hw in_Ww (hw _ w_44)
  intro k hk
  obtain ⟨k9, cf, i, a, -, -, -, -, -, h⟩ := Cond.stringRef_spec k0.2.1 (hts _ (wl_tx k hk))
  exact ⟨a, vk_R.of (hts _ (wl_tx k hk)) h⟩
abbrev wl_gv : Jvm.Cond := Jvm.Cond.and given_1 narrow_1
theorem wl_any {s : State} {args : Array Value} (hts : ∀ w ∈ lw_tbl, w.before args s = true) (hg : wl_gv.before args s = true) {w : Cond} (h : w ∈ lw_tbl ∨ w ∈ flatC wl_gv) : w.before args s = true := by
  rcases h with h | h
  · exact hts w h
  · exact flat_of_before _ hg w h
theorem wl_asF {s : State} {args : Array Value} {E F : String} (h1 : (Cond.castable E E).before args s = true) (h2 : (Cond.castable F F).before args s = true) (h : (Cond.not (.castable E F)).before args s = true) : wx_as false E F s := by
  obtain ⟨c, c9, a1, a2, a3⟩ := Cond.castable_spec h1
  obtain ⟨d, d9, b1, b2, b3⟩ := Cond.castable_spec h2
  refine ⟨c, d, a1, b1, ?_⟩
  simpa [Cond.before, Cond.holds, Cond.value, a1, b1] using h
theorem wl_asT {s : State} {args : Array Value} {E : String} (h1 : (Cond.castable E E).before args s = true) : wx_as true E E s := by
  obtain ⟨c, c9, a1, a2, a3⟩ := Cond.castable_spec h1
  exact ⟨c, c9, a1, a2, a3⟩
set_option maxRecDepth 100000 in
theorem wl_caT : ∀ E ∈ wx_ex, Cond.castable E E ∈ lw_tbl ∨ Cond.castable E E ∈ flatC wl_gv := by decide +kernel
set_option maxRecDepth 100000 in
theorem wl_caF : ∀ E ∈ wx_ex, ∀ F ∈ wx_ex, E ≠ F → Cond.not (.castable E F) ∈ lw_tbl ∨ Cond.not (.castable E F) ∈ flatC wl_gv := by decide +kernel
set_option maxRecDepth 100000 in
theorem wl_E0 {s : State} {args : Array Value} {A : Nat → Prop} (hts : ∀ w ∈ lw_tbl, w.before args s = true) (hg : wl_gv.before args s = true) (hA : ∀ a : Nat, a < s.heap.size → ¬ A a) : wx_E A s s.heap := by
  refine ⟨wx_Zof (args := args) (wl_any hts hg (by decide +kernel)) (wl_any hts hg (by decide +kernel)) hA, wx_Zof (args := args) (wl_any hts hg (by decide +kernel)) (wl_any hts hg (by decide +kernel)) hA, va_Nw.of rfl (wl_any hts hg (by decide +kernel)), va_Nw.of rfl (wl_any hts hg (by decide +kernel)), va_Nw.of rfl (wl_any hts hg (by decide +kernel)), fun E hE F hF => ?_⟩
  by_cases e : E = F
  · subst e
    rw [decide_eq_true rfl]
    exact wl_asT (wl_any hts hg (wl_caT E hE))
  · rw [decide_eq_false e]
    exact wl_asF (wl_any hts hg (wl_caT E hE)) (wl_any hts hg (wl_caT F hF)) (wl_any hts hg (wl_caF E hE F hF e))
abbrev wl_vs : Term := .static RJu "VARIABLE_STATES" "[J"
set_option maxRecDepth 100000 in
theorem wl_vt : ∀ j, j < 6 → Cond.eq (.elem wl_vs (.int (Int32.ofNat j))) (.long (ww_vc j)) ∈ lw_tbl ∨ Cond.eq (.elem wl_vs (.int (Int32.ofNat j))) (.long (ww_vc j)) ∈ flatC wl_gv := by decide +kernel
set_option maxRecDepth 100000 in
theorem wl_Z0 {s : State} {args : Array Value} {A : Nat → Prop} (hts : ∀ w ∈ lw_tbl, w.before args s = true) (hg : wl_gv.before args s = true) (hA : ∀ a : Nat, a < s.heap.size → ¬ A a) : ∃ tv, wz_Z tv A s s.heap := by
  obtain ⟨t, ht, hT⟩ := va_Tof (args := args) (tm := wl_vs) (ty := .long) (N := 6) (f := fun j => .long (ww_vc j)) (A := A) (by decide) (wl_any hts hg (by decide +kernel)) (va_eqt (z := Int32.ofNat 6) (wl_any hts hg (by decide +kernel))) (fun j hj => va_eqtl (wl_any hts hg (wl_vt j hj))) hA
  exact ⟨t, va_Zof (args := args) (wl_any hts hg (by decide +kernel)) (wl_any hts hg (by decide +kernel)) ht hA, hT⟩
