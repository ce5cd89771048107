/-! contracts, laid by a program of mine. -/
set_option maxHeartbeats 4000000 in
set_option maxRecDepth 100000 in
theorem kFa_isFull (l : Launch) (dC : Nat → ClassId) (dI : Nat → Nat → Nat) (cI cJ cZ : ClassId) (sz : Nat) (aU : Nat) (ago : Nat) (fc : Nat) (hfc : fc ≤ 3) : Met l yFa_isFull (.code yFa_isFull cFa_isFull 1 (some .boolean) :: wz_all) ({ frames := 0, cells := 0, slots := 0, locals := 0 }) (wz_Pc (dC, dI) vwCl (wz_T cI cJ cZ) [.ref aU] sz [(aU, .inr (3, [.ref ago, .int (nI fc)]))]) (va_Qi (fun (r : Int32) (_ : Unit) => r = wz_i (decide (3 ≤ fc))) (fun _ t => va_P (dC, dI) vwCl [(aU, .inr (3, [.ref ago, .int (nI fc)]))] t.heap ∧ va_K (dC, dI) vwCl (wz_T cI cJ cZ) t ∧ va_D (va_A [(aU, .inr (3, [.ref ago, .int (nI fc)]))] sz) [(aU, .inr (3, [.ref ago, .int (nI fc)]))]) (va_A [(aU, .inr (3, [.ref ago, .int (nI fc)]))] sz)) 0 0 (va_A [(aU, .inr (3, [.ref ago, .int (nI fc)]))] sz) := by
  refine Met.ofW (cc := cFa_isFull) (maxL := 1) (ret := (some .boolean)) (by decide) rfl ?_
  intro p e s m args below meth c s₁ B hml hv
  obtain ⟨rfl, hsz, hP, hK, hD0, hN⟩ := hv
  have hx := B.exec
  have hb := B.bytes
  have hr := B.returns
  have hts := atoms_spec (ws := (.code yFa_isFull cFa_isFull 1 (some .boolean) :: wz_all)) B.pre
  have hw : ∀ w9 ∈ wz_all, w9.before [.ref aU].toArray s = true := fun w9 h => hts w9 (List.mem_cons_of_mem _ h)
  have hown : s.vm.findClass RFa = some m.cls := findClass_of_methodNamed B.named
  have hlocks := B.notSynchronized
  subst hsz
  have hD := hD0.self (sz := s.heap.size)
  generalize hAe : va_A [(aU, .inr (3, [.ref ago, .int (nI fc)]))] s.heap.size = A at hD ⊢
  have hA : ∀ q : Nat, s.heap.size ≤ q → A q := fun q h => by rw [← hAe]; exact Or.inr h
  have hS : va_S A s.heap s.heap [] := va_S.rf
  have hP : va_P (dC, dI) vwCl [(aU, .inr (3, [.ref ago, .int (nI fc)]))] s.heap := hP
  have hl := lv_entry ([.ref aU]) (n := 1) (Nat.le_of_ble_eq_true rfl)
  rw [lg_entry_eq]
  generalize (lg_sl ([.ref aU]) ++ List.replicate (1 - (lg_sl ([.ref aU])).length) Slot.unset).toArray = ls at hl ⊢
  have hl : lv_has ls 1 [(0, .ref aU)] := hl
  refine lv_aload_n hx hb dFa_isFull_0 rfl (lv_at hl 0 rfl) ?_
  refine va_get (D := (dC, dI)) (ci := 3) (v := .int (nI fc)) (C := RFa) (T := TFa) (N := 2) hx hb hw in_Fa hown hK hP 0 rfl rfl 1 (by decide) (hw _ w_116) (fun _ h9 => h9) rfl dFa_isFull_1 ?_
  refine lv_iconst (v := nI 3) hx hb dFa_isFull_4 (by decide) ?_
  refine wz_icmp_lt (x := fc) (y := 3) (tgt := 12) hx hb (by omega) (by omega) dFa_isFull_5 (by decide) (fun h5_1 => ?_) (fun h5_1 => ?_)
  · skip
    refine lv_iconst (v := nI 0) hx hb dFa_isFull_12 (by decide) ?_
    exact wz_zret (b := false) hx hb hr hlocks (by first | rw [decide_eq_true (by omega)] | rw [decide_eq_false (by omega)]) hP hD hK hS dFa_isFull_13
  · skip
    refine lv_iconst (v := nI 1) hx hb dFa_isFull_8 (by decide) ?_
    refine lv_goto (tgt := 13) hx hb dFa_isFull_9 (by decide) ?_
    exact wz_zret (b := true) hx hb hr hlocks (by first | rw [decide_eq_true (by omega)] | rw [decide_eq_false (by omega)]) hP hD hK hS dFa_isFull_13
set_option maxHeartbeats 4000000 in
set_option maxRecDepth 100000 in
theorem kFa_add (l : Launch) (dC : Nat → ClassId) (dI : Nat → Nat → Nat) (cI cJ cZ : ClassId) (sz : Nat) (aU : Nat) (ago : Nat) (fc : Nat) (go : Nat → Int64) (x : Int64) (hfc : fc < 3) : Met l yFa_add (.code yFa_add cFa_add 3 (some .int) :: wz_all) ({ frames := 0, cells := 0, slots := 0, locals := 0 }) (wz_Pc (dC, dI) vwCl (wz_T cI cJ cZ) [.ref aU, .long x] sz [(aU, .inr (3, [.ref ago, .int (nI fc)])), (ago, .inl (cJ, 3, .inr (.inl go)))]) (va_Qi (fun (r : Int32) (_ : Unit) => r = nI (fc + 1)) (fun _ t => va_P (dC, dI) vwCl [(aU, .inr (3, [.ref ago, .int (nI (fc + 1))])), (ago, .inl (cJ, 3, .inr (.inl (vp_updL go fc x))))] t.heap ∧ va_K (dC, dI) vwCl (wz_T cI cJ cZ) t ∧ va_D (va_A [(aU, .inr (3, [.ref ago, .int (nI fc)])), (ago, .inl (cJ, 3, .inr (.inl go)))] sz) [(aU, .inr (3, [.ref ago, .int (nI (fc + 1))])), (ago, .inl (cJ, 3, .inr (.inl (vp_updL go fc x))))]) (va_A [(aU, .inr (3, [.ref ago, .int (nI fc)])), (ago, .inl (cJ, 3, .inr (.inl go)))] sz)) 0 0 (va_A [(aU, .inr (3, [.ref ago, .int (nI fc)])), (ago, .inl (cJ, 3, .inr (.inl go)))] sz) := by
  refine Met.ofW (cc := cFa_add) (maxL := 3) (ret := (some .int)) (by decide) rfl ?_
  intro p e s m args below meth c s₁ B hml hv
  obtain ⟨rfl, hsz, hP, hK, hD0, hN⟩ := hv
  have hx := B.exec
  have hb := B.bytes
  have hr := B.returns
  have hts := atoms_spec (ws := (.code yFa_add cFa_add 3 (some .int) :: wz_all)) B.pre
  have hw : ∀ w9 ∈ wz_all, w9.before [.ref aU, .long x].toArray s = true := fun w9 h => hts w9 (List.mem_cons_of_mem _ h)
  have hown : s.vm.findClass RFa = some m.cls := findClass_of_methodNamed B.named
  have hlocks := B.notSynchronized
  subst hsz
  have hD := hD0.self (sz := s.heap.size)
  generalize hAe : va_A [(aU, .inr (3, [.ref ago, .int (nI fc)])), (ago, .inl (cJ, 3, .inr (.inl go)))] s.heap.size = A at hD ⊢
  have hA : ∀ q : Nat, s.heap.size ≤ q → A q := fun q h => by rw [← hAe]; exact Or.inr h
  have hS : va_S A s.heap s.heap [] := va_S.rf
  have hP : va_P (dC, dI) vwCl [(aU, .inr (3, [.ref ago, .int (nI fc)])), (ago, .inl (cJ, 3, .inr (.inl go)))] s.heap := hP
  have hl := lv_entry ([.ref aU, .long x]) (n := 3) (Nat.le_of_ble_eq_true rfl)
  rw [lg_entry_eq]
  generalize (lg_sl ([.ref aU, .long x]) ++ List.replicate (3 - (lg_sl ([.ref aU, .long x])).length) Slot.unset).toArray = ls at hl ⊢
  have hl : lv_has ls 3 [(0, .ref aU), (1, .long x)] := hl
  refine lv_aload_n hx hb dFa_add_0 rfl (lv_at hl 0 rfl) ?_
  refine va_get (D := (dC, dI)) (ci := 3) (v := .ref ago) (C := RFa) (T := TFa) (N := 2) hx hb hw in_Fa hown hK hP 0 rfl rfl 0 (by decide) (hw _ w_115) (fun _ h9 => h9) rfl dFa_add_1 ?_
  refine lv_aload_n hx hb dFa_add_4 rfl (lv_at hl 0 rfl) ?_
  refine va_get (D := (dC, dI)) (ci := 3) (v := .int (nI fc)) (C := RFa) (T := TFa) (N := 2) hx hb hw in_Fa hown hK hP 0 rfl rfl 1 (by decide) (hw _ w_116) (fun _ h9 => h9) rfl dFa_add_5 ?_
  refine lv_lload_n hx hb dFa_add_8 rfl (lv_at hl 1 rfl) ?_
  refine wz_last (ws' := [(aU, .inr (3, [.ref ago, .int (nI fc)])), (ago, .inl (cJ, 3, .inr (.inl (vp_updL go fc x))))]) hx hb hK hP hD hS 1 1 rfl rfl (i := fc) (by omega) (by decide) dFa_add_9 rfl (fun H locs hP hD hS => ?_)
  refine lv_aload_n hx hb dFa_add_10 rfl (lv_at hl 0 rfl) ?_
  refine lv_dup hx hb dFa_add_11 rfl ?_
  refine va_get (D := (dC, dI)) (ci := 3) (v := .int (nI fc)) (C := RFa) (T := TFa) (N := 2) hx hb hw in_Fa hown hK hP 0 rfl rfl 1 (by decide) (hw _ w_116) (fun _ h9 => h9) rfl dFa_add_12 ?_
  refine lv_iconst (v := nI 1) hx hb dFa_add_15 (by decide) ?_
  refine wz_iadd hx hb dFa_add_16 ?_
  refine va_put (D := (dC, dI)) (ci := 3) (v := .int (nI (fc + 1))) (ty := .int) (C := RFa) (T := TFa) (N := 2) hx hb hw in_Fa tyFa tyFa_ok nmFa hown hK hP hD hS 0 rfl rfl 1 (by decide) (hw _ w_116) (fun _ h9 => h9) rfl (by decide +kernel) rfl rfl (Nat.le_of_ble_eq_true rfl) dFa_add_17 (fun H locs hP hD hS => ?_)
  have hP : va_P (dC, dI) vwCl [(aU, .inr (3, [.ref ago, .int (nI (fc + 1))])), (ago, .inl (cJ, 3, .inr (.inl (vp_updL go fc x))))] H := hP
  have hD : va_D A [(aU, .inr (3, [.ref ago, .int (nI (fc + 1))])), (ago, .inl (cJ, 3, .inr (.inl (vp_updL go fc x))))] := hD
  refine lv_aload_n hx hb dFa_add_20 rfl (lv_at hl 0 rfl) ?_
  refine va_get (D := (dC, dI)) (ci := 3) (v := .int (nI (fc + 1))) (C := RFa) (T := TFa) (N := 2) hx hb hw in_Fa hown hK hP 0 rfl rfl 1 (by decide) (hw _ w_116) (fun _ h9 => h9) rfl dFa_add_21 ?_
  exact wz_iret hx hb hr hlocks rfl hP hD hK hS dFa_add_24
set_option maxHeartbeats 4000000 in
set_option maxRecDepth 100000 in
theorem kFa_clear (l : Launch) (dC : Nat → ClassId) (dI : Nat → Nat → Nat) (cI cJ cZ : ClassId) (sz : Nat) (aU : Nat) (ago : Nat) (fc : Nat) : Met l yFa_clear (.code yFa_clear cFa_clear 1 none :: wz_all) ({ frames := 0, cells := 0, slots := 0, locals := 0 }) (wz_Pc (dC, dI) vwCl (wz_T cI cJ cZ) [.ref aU] sz [(aU, .inr (3, [.ref ago, .int (nI fc)]))]) (va_Qv (fun (_ : Unit) => True) (fun _ t => va_P (dC, dI) vwCl [(aU, .inr (3, [.ref ago, .int (nI 0)]))] t.heap ∧ va_K (dC, dI) vwCl (wz_T cI cJ cZ) t ∧ va_D (va_A [(aU, .inr (3, [.ref ago, .int (nI fc)]))] sz) [(aU, .inr (3, [.ref ago, .int (nI 0)]))]) (va_A [(aU, .inr (3, [.ref ago, .int (nI fc)]))] sz)) 0 0 (va_A [(aU, .inr (3, [.ref ago, .int (nI fc)]))] sz) := by
  refine Met.ofW (cc := cFa_clear) (maxL := 1) (ret := none) (by decide) rfl ?_
  intro p e s m args below meth c s₁ B hml hv
  obtain ⟨rfl, hsz, hP, hK, hD0, hN⟩ := hv
  have hx := B.exec
  have hb := B.bytes
  have hr := B.returns
  have hts := atoms_spec (ws := (.code yFa_clear cFa_clear 1 none :: wz_all)) B.pre
  have hw : ∀ w9 ∈ wz_all, w9.before [.ref aU].toArray s = true := fun w9 h => hts w9 (List.mem_cons_of_mem _ h)
  have hown : s.vm.findClass RFa = some m.cls := findClass_of_methodNamed B.named
  have hlocks := B.notSynchronized
  subst hsz
  have hD := hD0.self (sz := s.heap.size)
  generalize hAe : va_A [(aU, .inr (3, [.ref ago, .int (nI fc)]))] s.heap.size = A at hD ⊢
  have hA : ∀ q : Nat, s.heap.size ≤ q → A q := fun q h => by rw [← hAe]; exact Or.inr h
  have hS : va_S A s.heap s.heap [] := va_S.rf
  have hP : va_P (dC, dI) vwCl [(aU, .inr (3, [.ref ago, .int (nI fc)]))] s.heap := hP
  have hl := lv_entry ([.ref aU]) (n := 1) (Nat.le_of_ble_eq_true rfl)
  rw [lg_entry_eq]
  generalize (lg_sl ([.ref aU]) ++ List.replicate (1 - (lg_sl ([.ref aU])).length) Slot.unset).toArray = ls at hl ⊢
  have hl : lv_has ls 1 [(0, .ref aU)] := hl
  refine lv_aload_n hx hb dFa_clear_0 rfl (lv_at hl 0 rfl) ?_
  refine lv_iconst (v := nI 0) hx hb dFa_clear_1 (by decide) ?_
  refine va_put (D := (dC, dI)) (ci := 3) (v := .int (nI 0)) (ty := .int) (C := RFa) (T := TFa) (N := 2) hx hb hw in_Fa tyFa tyFa_ok nmFa hown hK hP hD hS 0 rfl rfl 1 (by decide) (hw _ w_116) (fun _ h9 => h9) rfl (by decide +kernel) rfl rfl (Nat.le_of_ble_eq_true rfl) dFa_clear_2 (fun H locs hP hD hS => ?_)
  have hP : va_P (dC, dI) vwCl [(aU, .inr (3, [.ref ago, .int (nI 0)]))] H := hP
  have hD : va_D A [(aU, .inr (3, [.ref ago, .int (nI 0)]))] := hD
  exact wz_vret hx hb hr hlocks hP hD hK hS dFa_clear_5
set_option maxHeartbeats 4000000 in
set_option maxRecDepth 100000 in
theorem kFa_count (l : Launch) (dC : Nat → ClassId) (dI : Nat → Nat → Nat) (cI cJ cZ : ClassId) (sz : Nat) (aU : Nat) (ago : Nat) (fc : Nat) : Met l yFa_count (.code yFa_count cFa_count 1 (some .int) :: wz_all) ({ frames := 0, cells := 0, slots := 0, locals := 0 }) (wz_Pc (dC, dI) vwCl (wz_T cI cJ cZ) [.ref aU] sz [(aU, .inr (3, [.ref ago, .int (nI fc)]))]) (va_Qi (fun (r : Int32) (_ : Unit) => r = nI fc) (fun _ t => va_P (dC, dI) vwCl [(aU, .inr (3, [.ref ago, .int (nI fc)]))] t.heap ∧ va_K (dC, dI) vwCl (wz_T cI cJ cZ) t ∧ va_D (va_A [(aU, .inr (3, [.ref ago, .int (nI fc)]))] sz) [(aU, .inr (3, [.ref ago, .int (nI fc)]))]) (va_A [(aU, .inr (3, [.ref ago, .int (nI fc)]))] sz)) 0 0 (va_A [(aU, .inr (3, [.ref ago, .int (nI fc)]))] sz) := by
  refine Met.ofW (cc := cFa_count) (maxL := 1) (ret := (some .int)) (by decide) rfl ?_
  intro p e s m args below meth c s₁ B hml hv
  obtain ⟨rfl, hsz, hP, hK, hD0, hN⟩ := hv
  have hx := B.exec
  have hb := B.bytes
  have hr := B.returns
  have hts := atoms_spec (ws := (.code yFa_count cFa_count 1 (some .int) :: wz_all)) B.pre
  have hw : ∀ w9 ∈ wz_all, w9.before [.ref aU].toArray s = true := fun w9 h => hts w9 (List.mem_cons_of_mem _ h)
  have hown : s.vm.findClass RFa = some m.cls := findClass_of_methodNamed B.named
  have hlocks := B.notSynchronized
  subst hsz
  have hD := hD0.self (sz := s.heap.size)
  generalize hAe : va_A [(aU, .inr (3, [.ref ago, .int (nI fc)]))] s.heap.size = A at hD ⊢
  have hA : ∀ q : Nat, s.heap.size ≤ q → A q := fun q h => by rw [← hAe]; exact Or.inr h
  have hS : va_S A s.heap s.heap [] := va_S.rf
  have hP : va_P (dC, dI) vwCl [(aU, .inr (3, [.ref ago, .int (nI fc)]))] s.heap := hP
  have hl := lv_entry ([.ref aU]) (n := 1) (Nat.le_of_ble_eq_true rfl)
  rw [lg_entry_eq]
  generalize (lg_sl ([.ref aU]) ++ List.replicate (1 - (lg_sl ([.ref aU])).length) Slot.unset).toArray = ls at hl ⊢
  have hl : lv_has ls 1 [(0, .ref aU)] := hl
  refine lv_aload_n hx hb dFa_count_0 rfl (lv_at hl 0 rfl) ?_
  refine va_get (D := (dC, dI)) (ci := 3) (v := .int (nI fc)) (C := RFa) (T := TFa) (N := 2) hx hb hw in_Fa hown hK hP 0 rfl rfl 1 (by decide) (hw _ w_116) (fun _ h9 => h9) rfl dFa_count_1 ?_
  exact wz_iret hx hb hr hlocks rfl hP hD hK hS dFa_count_4
set_option maxHeartbeats 4000000 in
set_option maxRecDepth 100000 in
theorem kFa_goal (l : Launch) (dC : Nat → ClassId) (dI : Nat → Nat → Nat) (cI cJ cZ : ClassId) (sz : Nat) (aU : Nat) (ago : Nat) (fc : Nat) (go : Nat → Int64) (i : Nat) (hi3 : i < 3) : Met l yFa_goal (.code yFa_goal cFa_goal 2 (some .long) :: wz_all) ({ frames := 0, cells := 0, slots := 0, locals := 0 }) (wz_Pc (dC, dI) vwCl (wz_T cI cJ cZ) [.ref aU, .int (nI i)] sz [(aU, .inr (3, [.ref ago, .int (nI fc)])), (ago, .inl (cJ, 3, .inr (.inl go)))]) (va_Ql (fun (r : Int64) (_ : Unit) => r = go i) (fun _ t => va_P (dC, dI) vwCl [(aU, .inr (3, [.ref ago, .int (nI fc)])), (ago, .inl (cJ, 3, .inr (.inl go)))] t.heap ∧ va_K (dC, dI) vwCl (wz_T cI cJ cZ) t ∧ va_D (va_A [(aU, .inr (3, [.ref ago, .int (nI fc)])), (ago, .inl (cJ, 3, .inr (.inl go)))] sz) [(aU, .inr (3, [.ref ago, .int (nI fc)])), (ago, .inl (cJ, 3, .inr (.inl go)))]) (va_A [(aU, .inr (3, [.ref ago, .int (nI fc)])), (ago, .inl (cJ, 3, .inr (.inl go)))] sz)) 0 0 (va_A [(aU, .inr (3, [.ref ago, .int (nI fc)])), (ago, .inl (cJ, 3, .inr (.inl go)))] sz) := by
  refine Met.ofW (cc := cFa_goal) (maxL := 2) (ret := (some .long)) (by decide) rfl ?_
  intro p e s m args below meth c s₁ B hml hv
  obtain ⟨rfl, hsz, hP, hK, hD0, hN⟩ := hv
  have hx := B.exec
  have hb := B.bytes
  have hr := B.returns
  have hts := atoms_spec (ws := (.code yFa_goal cFa_goal 2 (some .long) :: wz_all)) B.pre
  have hw : ∀ w9 ∈ wz_all, w9.before [.ref aU, .int (nI i)].toArray s = true := fun w9 h => hts w9 (List.mem_cons_of_mem _ h)
  have hown : s.vm.findClass RFa = some m.cls := findClass_of_methodNamed B.named
  have hlocks := B.notSynchronized
  subst hsz
  have hD := hD0.self (sz := s.heap.size)
  generalize hAe : va_A [(aU, .inr (3, [.ref ago, .int (nI fc)])), (ago, .inl (cJ, 3, .inr (.inl go)))] s.heap.size = A at hD ⊢
  have hA : ∀ q : Nat, s.heap.size ≤ q → A q := fun q h => by rw [← hAe]; exact Or.inr h
  have hS : va_S A s.heap s.heap [] := va_S.rf
  have hP : va_P (dC, dI) vwCl [(aU, .inr (3, [.ref ago, .int (nI fc)])), (ago, .inl (cJ, 3, .inr (.inl go)))] s.heap := hP
  have hl := lv_entry ([.ref aU, .int (nI i)]) (n := 2) (Nat.le_of_ble_eq_true rfl)
  rw [lg_entry_eq]
  generalize (lg_sl ([.ref aU, .int (nI i)]) ++ List.replicate (2 - (lg_sl ([.ref aU, .int (nI i)])).length) Slot.unset).toArray = ls at hl ⊢
  have hl : lv_has ls 2 [(0, .ref aU), (1, .int (nI i))] := hl
  refine lv_aload_n hx hb dFa_goal_0 rfl (lv_at hl 0 rfl) ?_
  refine va_get (D := (dC, dI)) (ci := 3) (v := .ref ago) (C := RFa) (T := TFa) (N := 2) hx hb hw in_Fa hown hK hP 0 rfl rfl 0 (by decide) (hw _ w_115) (fun _ h9 => h9) rfl dFa_goal_1 ?_
  refine lv_iload_n hx hb dFa_goal_4 rfl (lv_at hl 1 rfl) ?_
  refine wz_lald hx hb hK hP 1 1 rfl rfl (i := i) (by omega) (by decide) dFa_goal_5 ?_
  exact wz_lret hx hb hr hlocks rfl hP hD hK hS dFa_goal_6
set_option maxHeartbeats 4000000 in
set_option maxRecDepth 100000 in
theorem kPa_clear (l : Launch) (dC : Nat → ClassId) (dI : Nat → Nat → Nat) (cI cJ cZ : ClassId) (sz : Nat) (aP : Nat) (aro : Nat) (le : Nat) (lo : Int32) : Met l yPa_clear (.code yPa_clear cPa_clear 1 none :: wz_all) ({ frames := 0, cells := 0, slots := 0, locals := 0 }) (wz_Pc (dC, dI) vwCl (wz_T cI cJ cZ) [.ref aP] sz [(aP, .inr (5, [.ref aro, .int (nI le), .int lo]))]) (va_Qv (fun (_ : Unit) => True) (fun _ t => va_P (dC, dI) vwCl [(aP, .inr (5, [.ref aro, .int (nI 0), .int (-1)]))] t.heap ∧ va_K (dC, dI) vwCl (wz_T cI cJ cZ) t ∧ va_D (va_A [(aP, .inr (5, [.ref aro, .int (nI le), .int lo]))] sz) [(aP, .inr (5, [.ref aro, .int (nI 0), .int (-1)]))]) (va_A [(aP, .inr (5, [.ref aro, .int (nI le), .int lo]))] sz)) 0 0 (va_A [(aP, .inr (5, [.ref aro, .int (nI le), .int lo]))] sz) := by
  refine Met.ofW (cc := cPa_clear) (maxL := 1) (ret := none) (by decide) rfl ?_
  intro p e s m args below meth c s₁ B hml hv
  obtain ⟨rfl, hsz, hP, hK, hD0, hN⟩ := hv
  have hx := B.exec
  have hb := B.bytes
  have hr := B.returns
  have hts := atoms_spec (ws := (.code yPa_clear cPa_clear 1 none :: wz_all)) B.pre
  have hw : ∀ w9 ∈ wz_all, w9.before [.ref aP].toArray s = true := fun w9 h => hts w9 (List.mem_cons_of_mem _ h)
  have hown : s.vm.findClass RPa = some m.cls := findClass_of_methodNamed B.named
  have hlocks := B.notSynchronized
  subst hsz
  have hD := hD0.self (sz := s.heap.size)
  generalize hAe : va_A [(aP, .inr (5, [.ref aro, .int (nI le), .int lo]))] s.heap.size = A at hD ⊢
  have hA : ∀ q : Nat, s.heap.size ≤ q → A q := fun q h => by rw [← hAe]; exact Or.inr h
  have hS : va_S A s.heap s.heap [] := va_S.rf
  have hP : va_P (dC, dI) vwCl [(aP, .inr (5, [.ref aro, .int (nI le), .int lo]))] s.heap := hP
  have hl := lv_entry ([.ref aP]) (n := 1) (Nat.le_of_ble_eq_true rfl)
  rw [lg_entry_eq]
  generalize (lg_sl ([.ref aP]) ++ List.replicate (1 - (lg_sl ([.ref aP])).length) Slot.unset).toArray = ls at hl ⊢
  have hl : lv_has ls 1 [(0, .ref aP)] := hl
  refine lv_aload_n hx hb dPa_clear_0 rfl (lv_at hl 0 rfl) ?_
  refine lv_iconst (v := nI 0) hx hb dPa_clear_1 (by decide) ?_
  refine va_put (D := (dC, dI)) (ci := 5) (v := .int (nI 0)) (ty := .int) (C := RPa) (T := TPa) (N := 3) hx hb hw in_Pa tyPa tyPa_ok nmPa hown hK hP hD hS 0 rfl rfl 1 (by decide) (hw _ w_156) (fun _ h9 => h9) rfl (by decide +kernel) rfl rfl (Nat.le_of_ble_eq_true rfl) dPa_clear_2 (fun H locs hP hD hS => ?_)
  have hP : va_P (dC, dI) vwCl [(aP, .inr (5, [.ref aro, .int (nI 0), .int lo]))] H := hP
  have hD : va_D A [(aP, .inr (5, [.ref aro, .int (nI 0), .int lo]))] := hD
  refine lv_aload_n hx hb dPa_clear_5 rfl (lv_at hl 0 rfl) ?_
  refine lv_iconst (v := (-1)) hx hb dPa_clear_6 (by decide) ?_
  refine va_put (D := (dC, dI)) (ci := 5) (v := .int (-1)) (ty := .int) (C := RPa) (T := TPa) (N := 3) hx hb hw in_Pa tyPa tyPa_ok nmPa hown hK hP hD hS 0 rfl rfl 2 (by decide) (hw _ w_157) (fun _ h9 => h9) rfl (by decide +kernel) rfl rfl (Nat.le_of_ble_eq_true rfl) dPa_clear_7 (fun H locs hP hD hS => ?_)
  have hP : va_P (dC, dI) vwCl [(aP, .inr (5, [.ref aro, .int (nI 0), .int (-1)]))] H := hP
  have hD : va_D A [(aP, .inr (5, [.ref aro, .int (nI 0), .int (-1)]))] := hD
  exact wz_vret hx hb hr hlocks hP hD hK hS dPa_clear_10
set_option maxHeartbeats 4000000 in
set_option maxRecDepth 100000 in
theorem kPa_append (l : Launch) (dC : Nat → ClassId) (dI : Nat → Nat → Nat) (cI cJ cZ : ClassId) (sz : Nat) (aP : Nat) (aro : Nat) (le : Nat) (lo : Int32) (ro : Nat → Int32) (s1 : Nat) (hle : le < 2 ^ 30) : Met l yPa_append (.code yPa_append cPa_append 2 none :: wz_all) ({ frames := 0, cells := 0, slots := 0, locals := 0 }) (wz_Pc (dC, dI) vwCl (wz_T cI cJ cZ) [.ref aP, .int (nI s1)] sz [(aP, .inr (5, [.ref aro, .int (nI le), .int lo])), (aro, .inl (cI, 250, .inl ro))]) (va_Qv (fun (_ : Unit) => True) (fun _ t => va_P (dC, dI) vwCl [(aP, .inr (5, [.ref aro, .int (nI (le + 1)), .int lo])), (aro, .inl (cI, 250, .inl ((ww_ap (le, ro) s1).2)))] t.heap ∧ va_K (dC, dI) vwCl (wz_T cI cJ cZ) t ∧ va_D (va_A [(aP, .inr (5, [.ref aro, .int (nI le), .int lo])), (aro, .inl (cI, 250, .inl ro))] sz) [(aP, .inr (5, [.ref aro, .int (nI (le + 1)), .int lo])), (aro, .inl (cI, 250, .inl ((ww_ap (le, ro) s1).2)))]) (va_A [(aP, .inr (5, [.ref aro, .int (nI le), .int lo])), (aro, .inl (cI, 250, .inl ro))] sz)) 0 0 (va_A [(aP, .inr (5, [.ref aro, .int (nI le), .int lo])), (aro, .inl (cI, 250, .inl ro))] sz) := by
  refine Met.ofW (cc := cPa_append) (maxL := 2) (ret := none) (by decide) rfl ?_
  intro p e s m args below meth c s₁ B hml hv
  obtain ⟨rfl, hsz, hP, hK, hD0, hN⟩ := hv
  have hx := B.exec
  have hb := B.bytes
  have hr := B.returns
  have hts := atoms_spec (ws := (.code yPa_append cPa_append 2 none :: wz_all)) B.pre
  have hw : ∀ w9 ∈ wz_all, w9.before [.ref aP, .int (nI s1)].toArray s = true := fun w9 h => hts w9 (List.mem_cons_of_mem _ h)
  have hown : s.vm.findClass RPa = some m.cls := findClass_of_methodNamed B.named
  have hlocks := B.notSynchronized
  subst hsz
  have hD := hD0.self (sz := s.heap.size)
  generalize hAe : va_A [(aP, .inr (5, [.ref aro, .int (nI le), .int lo])), (aro, .inl (cI, 250, .inl ro))] s.heap.size = A at hD ⊢
  have hA : ∀ q : Nat, s.heap.size ≤ q → A q := fun q h => by rw [← hAe]; exact Or.inr h
  have hS : va_S A s.heap s.heap [] := va_S.rf
  have hP : va_P (dC, dI) vwCl [(aP, .inr (5, [.ref aro, .int (nI le), .int lo])), (aro, .inl (cI, 250, .inl ro))] s.heap := hP
  have hl := lv_entry ([.ref aP, .int (nI s1)]) (n := 2) (Nat.le_of_ble_eq_true rfl)
  rw [lg_entry_eq]
  generalize (lg_sl ([.ref aP, .int (nI s1)]) ++ List.replicate (2 - (lg_sl ([.ref aP, .int (nI s1)])).length) Slot.unset).toArray = ls at hl ⊢
  have hl : lv_has ls 2 [(0, .ref aP), (1, .int (nI s1))] := hl
  refine lv_aload_n hx hb dPa_append_0 rfl (lv_at hl 0 rfl) ?_
  refine va_get (D := (dC, dI)) (ci := 5) (v := .int (nI le)) (C := RPa) (T := TPa) (N := 3) hx hb hw in_Pa hown hK hP 0 rfl rfl 1 (by decide) (hw _ w_156) (fun _ h9 => h9) rfl dPa_append_1 ?_
  refine lv_sipush (v := nI 250) hx hb dPa_append_4 (by decide) ?_
  refine wz_icmp_ge (x := le) (y := 250) (tgt := 20) hx hb (by omega) (by omega) dPa_append_7 (by decide) (fun h7_1 => ?_) (fun h7_1 => ?_)
  · skip
    refine lv_aload_n hx hb dPa_append_20 rfl (lv_at hl 0 rfl) ?_
    refine lv_dup hx hb dPa_append_21 rfl ?_
    refine va_get (D := (dC, dI)) (ci := 5) (v := .int (nI le)) (C := RPa) (T := TPa) (N := 3) hx hb hw in_Pa hown hK hP 0 rfl rfl 1 (by decide) (hw _ w_156) (fun _ h9 => h9) rfl dPa_append_22 ?_
    refine lv_iconst (v := nI 1) hx hb dPa_append_25 (by decide) ?_
    refine wz_iadd hx hb dPa_append_26 ?_
    refine va_put (D := (dC, dI)) (ci := 5) (v := .int (nI (le + 1))) (ty := .int) (C := RPa) (T := TPa) (N := 3) hx hb hw in_Pa tyPa tyPa_ok nmPa hown hK hP hD hS 0 rfl rfl 1 (by decide) (hw _ w_156) (fun _ h9 => h9) rfl (by decide +kernel) rfl rfl (Nat.le_of_ble_eq_true rfl) dPa_append_27 (fun H locs hP hD hS => ?_)
    have hP : va_P (dC, dI) vwCl [(aP, .inr (5, [.ref aro, .int (nI (le + 1)), .int lo])), (aro, .inl (cI, 250, .inl ro))] H := hP
    have hD : va_D A [(aP, .inr (5, [.ref aro, .int (nI (le + 1)), .int lo])), (aro, .inl (cI, 250, .inl ro))] := hD
    have e_ro : ro = (ww_ap (le, ro) s1).2 := (by first | exact (if_pos h7_1).symm | exact (if_neg (Nat.not_lt.mpr h7_1)).symm)
    rw [e_ro] at hP hD
    exact wz_vret hx hb hr hlocks hP hD hK hS dPa_append_30
  · skip
    refine lv_aload_n hx hb dPa_append_10 rfl (lv_at hl 0 rfl) ?_
    refine va_get (D := (dC, dI)) (ci := 5) (v := .ref aro) (C := RPa) (T := TPa) (N := 3) hx hb hw in_Pa hown hK hP 0 rfl rfl 0 (by decide) (hw _ w_155) (fun _ h9 => h9) rfl dPa_append_11 ?_
    refine lv_aload_n hx hb dPa_append_14 rfl (lv_at hl 0 rfl) ?_
    refine va_get (D := (dC, dI)) (ci := 5) (v := .int (nI le)) (C := RPa) (T := TPa) (N := 3) hx hb hw in_Pa hown hK hP 0 rfl rfl 1 (by decide) (hw _ w_156) (fun _ h9 => h9) rfl dPa_append_15 ?_
    refine lv_iload_n hx hb dPa_append_18 rfl (lv_at hl 1 rfl) ?_
    refine wz_iast (ws' := [(aP, .inr (5, [.ref aro, .int (nI le), .int lo])), (aro, .inl (cI, 250, .inl (upd ro le (nI s1))))]) hx hb hK hP hD hS 1 0 rfl rfl (i := le) (by omega) (by decide) dPa_append_19 rfl (fun H locs hP hD hS => ?_)
    refine lv_aload_n hx hb dPa_append_20 rfl (lv_at hl 0 rfl) ?_
    refine lv_dup hx hb dPa_append_21 rfl ?_
    refine va_get (D := (dC, dI)) (ci := 5) (v := .int (nI le)) (C := RPa) (T := TPa) (N := 3) hx hb hw in_Pa hown hK hP 0 rfl rfl 1 (by decide) (hw _ w_156) (fun _ h9 => h9) rfl dPa_append_22 ?_
    refine lv_iconst (v := nI 1) hx hb dPa_append_25 (by decide) ?_
    refine wz_iadd hx hb dPa_append_26 ?_
    refine va_put (D := (dC, dI)) (ci := 5) (v := .int (nI (le + 1))) (ty := .int) (C := RPa) (T := TPa) (N := 3) hx hb hw in_Pa tyPa tyPa_ok nmPa hown hK hP hD hS 0 rfl rfl 1 (by decide) (hw _ w_156) (fun _ h9 => h9) rfl (by decide +kernel) rfl rfl (Nat.le_of_ble_eq_true rfl) dPa_append_27 (fun H locs hP hD hS => ?_)
    have hP : va_P (dC, dI) vwCl [(aP, .inr (5, [.ref aro, .int (nI (le + 1)), .int lo])), (aro, .inl (cI, 250, .inl (upd ro le (nI s1))))] H := hP
    have hD : va_D A [(aP, .inr (5, [.ref aro, .int (nI (le + 1)), .int lo])), (aro, .inl (cI, 250, .inl (upd ro le (nI s1))))] := hD
    have e_ro : upd ro le (nI s1) = (ww_ap (le, ro) s1).2 := (by first | exact (if_pos h7_1).symm | exact (if_neg (Nat.not_lt.mpr h7_1)).symm)
    rw [e_ro] at hP hD
    exact wz_vret hx hb hr hlocks hP hD hK hS dPa_append_30
set_option maxHeartbeats 4000000 in
set_option maxRecDepth 100000 in
theorem kPa_close (l : Launch) (dC : Nat → ClassId) (dI : Nat → Nat → Nat) (cI cJ cZ : ClassId) (sz : Nat) (aP : Nat) (aro : Nat) (le : Nat) (lo : Int32) (x : Int32) (hle : 1 ≤ le) : Met l yPa_close (.code yPa_close cPa_close 2 none :: wz_all) ({ frames := 0, cells := 0, slots := 0, locals := 0 }) (wz_Pc (dC, dI) vwCl (wz_T cI cJ cZ) [.ref aP, .int x] sz [(aP, .inr (5, [.ref aro, .int (nI le), .int lo]))]) (va_Qv (fun (_ : Unit) => True) (fun _ t => va_P (dC, dI) vwCl [(aP, .inr (5, [.ref aro, .int (nI (le - 1)), .int x]))] t.heap ∧ va_K (dC, dI) vwCl (wz_T cI cJ cZ) t ∧ va_D (va_A [(aP, .inr (5, [.ref aro, .int (nI le), .int lo]))] sz) [(aP, .inr (5, [.ref aro, .int (nI (le - 1)), .int x]))]) (va_A [(aP, .inr (5, [.ref aro, .int (nI le), .int lo]))] sz)) 0 0 (va_A [(aP, .inr (5, [.ref aro, .int (nI le), .int lo]))] sz) := by
  refine Met.ofW (cc := cPa_close) (maxL := 2) (ret := none) (by decide) rfl ?_
  intro p e s m args below meth c s₁ B hml hv
  obtain ⟨rfl, hsz, hP, hK, hD0, hN⟩ := hv
  have hx := B.exec
  have hb := B.bytes
  have hr := B.returns
  have hts := atoms_spec (ws := (.code yPa_close cPa_close 2 none :: wz_all)) B.pre
  have hw : ∀ w9 ∈ wz_all, w9.before [.ref aP, .int x].toArray s = true := fun w9 h => hts w9 (List.mem_cons_of_mem _ h)
  have hown : s.vm.findClass RPa = some m.cls := findClass_of_methodNamed B.named
  have hlocks := B.notSynchronized
  subst hsz
  have hD := hD0.self (sz := s.heap.size)
  generalize hAe : va_A [(aP, .inr (5, [.ref aro, .int (nI le), .int lo]))] s.heap.size = A at hD ⊢
  have hA : ∀ q : Nat, s.heap.size ≤ q → A q := fun q h => by rw [← hAe]; exact Or.inr h
  have hS : va_S A s.heap s.heap [] := va_S.rf
  have hP : va_P (dC, dI) vwCl [(aP, .inr (5, [.ref aro, .int (nI le), .int lo]))] s.heap := hP
  have hl := lv_entry ([.ref aP, .int x]) (n := 2) (Nat.le_of_ble_eq_true rfl)
  rw [lg_entry_eq]
  generalize (lg_sl ([.ref aP, .int x]) ++ List.replicate (2 - (lg_sl ([.ref aP, .int x])).length) Slot.unset).toArray = ls at hl ⊢
  have hl : lv_has ls 2 [(0, .ref aP), (1, .int x)] := hl
  refine lv_aload_n hx hb dPa_close_0 rfl (lv_at hl 0 rfl) ?_
  refine lv_dup hx hb dPa_close_1 rfl ?_
  refine va_get (D := (dC, dI)) (ci := 5) (v := .int (nI le)) (C := RPa) (T := TPa) (N := 3) hx hb hw in_Pa hown hK hP 0 rfl rfl 1 (by decide) (hw _ w_156) (fun _ h9 => h9) rfl dPa_close_2 ?_
  refine lv_iconst (v := nI 1) hx hb dPa_close_5 (by decide) ?_
  refine wz_isub hx hb (by omega) dPa_close_6 ?_
  refine va_put (D := (dC, dI)) (ci := 5) (v := .int (nI (le - 1))) (ty := .int) (C := RPa) (T := TPa) (N := 3) hx hb hw in_Pa tyPa tyPa_ok nmPa hown hK hP hD hS 0 rfl rfl 1 (by decide) (hw _ w_156) (fun _ h9 => h9) rfl (by decide +kernel) rfl rfl (Nat.le_of_ble_eq_true rfl) dPa_close_7 (fun H locs hP hD hS => ?_)
  have hP : va_P (dC, dI) vwCl [(aP, .inr (5, [.ref aro, .int (nI (le - 1)), .int lo]))] H := hP
  have hD : va_D A [(aP, .inr (5, [.ref aro, .int (nI (le - 1)), .int lo]))] := hD
  refine lv_aload_n hx hb dPa_close_10 rfl (lv_at hl 0 rfl) ?_
  refine lv_iload_n hx hb dPa_close_11 rfl (lv_at hl 1 rfl) ?_
  refine va_put (D := (dC, dI)) (ci := 5) (v := .int x) (ty := .int) (C := RPa) (T := TPa) (N := 3) hx hb hw in_Pa tyPa tyPa_ok nmPa hown hK hP hD hS 0 rfl rfl 2 (by decide) (hw _ w_157) (fun _ h9 => h9) rfl (by decide +kernel) rfl rfl (Nat.le_of_ble_eq_true rfl) dPa_close_12 (fun H locs hP hD hS => ?_)
  have hP : va_P (dC, dI) vwCl [(aP, .inr (5, [.ref aro, .int (nI (le - 1)), .int x]))] H := hP
  have hD : va_D A [(aP, .inr (5, [.ref aro, .int (nI (le - 1)), .int x]))] := hD
  exact wz_vret hx hb hr hlocks hP hD hK hS dPa_close_15
set_option maxHeartbeats 4000000 in
set_option maxRecDepth 100000 in
theorem kPa_isTooLong (l : Launch) (dC : Nat → ClassId) (dI : Nat → Nat → Nat) (cI cJ cZ : ClassId) (sz : Nat) (aP : Nat) (aro : Nat) (le : Nat) (lo : Int32) (hle : le < 2 ^ 30) : Met l yPa_isTooLong (.code yPa_isTooLong cPa_isTooLong 1 (some .boolean) :: wz_all) ({ frames := 0, cells := 0, slots := 0, locals := 0 }) (wz_Pc (dC, dI) vwCl (wz_T cI cJ cZ) [.ref aP] sz [(aP, .inr (5, [.ref aro, .int (nI le), .int lo]))]) (va_Qi (fun (r : Int32) (_ : Unit) => r = wz_i (decide (250 < le))) (fun _ t => va_P (dC, dI) vwCl [(aP, .inr (5, [.ref aro, .int (nI le), .int lo]))] t.heap ∧ va_K (dC, dI) vwCl (wz_T cI cJ cZ) t ∧ va_D (va_A [(aP, .inr (5, [.ref aro, .int (nI le), .int lo]))] sz) [(aP, .inr (5, [.ref aro, .int (nI le), .int lo]))]) (va_A [(aP, .inr (5, [.ref aro, .int (nI le), .int lo]))] sz)) 0 0 (va_A [(aP, .inr (5, [.ref aro, .int (nI le), .int lo]))] sz) := by
  refine Met.ofW (cc := cPa_isTooLong) (maxL := 1) (ret := (some .boolean)) (by decide) rfl ?_
  intro p e s m args below meth c s₁ B hml hv
  obtain ⟨rfl, hsz, hP, hK, hD0, hN⟩ := hv
  have hx := B.exec
  have hb := B.bytes
  have hr := B.returns
  have hts := atoms_spec (ws := (.code yPa_isTooLong cPa_isTooLong 1 (some .boolean) :: wz_all)) B.pre
  have hw : ∀ w9 ∈ wz_all, w9.before [.ref aP].toArray s = true := fun w9 h => hts w9 (List.mem_cons_of_mem _ h)
  have hown : s.vm.findClass RPa = some m.cls := findClass_of_methodNamed B.named
  have hlocks := B.notSynchronized
  subst hsz
  have hD := hD0.self (sz := s.heap.size)
  generalize hAe : va_A [(aP, .inr (5, [.ref aro, .int (nI le), .int lo]))] s.heap.size = A at hD ⊢
  have hA : ∀ q : Nat, s.heap.size ≤ q → A q := fun q h => by rw [← hAe]; exact Or.inr h
  have hS : va_S A s.heap s.heap [] := va_S.rf
  have hP : va_P (dC, dI) vwCl [(aP, .inr (5, [.ref aro, .int (nI le), .int lo]))] s.heap := hP
  have hl := lv_entry ([.ref aP]) (n := 1) (Nat.le_of_ble_eq_true rfl)
  rw [lg_entry_eq]
  generalize (lg_sl ([.ref aP]) ++ List.replicate (1 - (lg_sl ([.ref aP])).length) Slot.unset).toArray = ls at hl ⊢
  have hl : lv_has ls 1 [(0, .ref aP)] := hl
  refine lv_aload_n hx hb dPa_isTooLong_0 rfl (lv_at hl 0 rfl) ?_
  refine va_get (D := (dC, dI)) (ci := 5) (v := .int (nI le)) (C := RPa) (T := TPa) (N := 3) hx hb hw in_Pa hown hK hP 0 rfl rfl 1 (by decide) (hw _ w_156) (fun _ h9 => h9) rfl dPa_isTooLong_1 ?_
  refine lv_sipush (v := nI 250) hx hb dPa_isTooLong_4 (by decide) ?_
  refine wz_icmp_le (x := le) (y := 250) (tgt := 14) hx hb (by omega) (by omega) dPa_isTooLong_7 (by decide) (fun h7_1 => ?_) (fun h7_1 => ?_)
  · skip
    refine lv_iconst (v := nI 0) hx hb dPa_isTooLong_14 (by decide) ?_
    exact wz_zret (b := false) hx hb hr hlocks (by first | rw [decide_eq_true (by omega)] | rw [decide_eq_false (by omega)]) hP hD hK hS dPa_isTooLong_15
  · skip
    refine lv_iconst (v := nI 1) hx hb dPa_isTooLong_10 (by decide) ?_
    refine lv_goto (tgt := 15) hx hb dPa_isTooLong_11 (by decide) ?_
    exact wz_zret (b := true) hx hb hr hlocks (by first | rw [decide_eq_true (by omega)] | rw [decide_eq_false (by omega)]) hP hD hK hS dPa_isTooLong_15
set_option maxHeartbeats 4000000 in
set_option maxRecDepth 100000 in
theorem kPa_length (l : Launch) (dC : Nat → ClassId) (dI : Nat → Nat → Nat) (cI cJ cZ : ClassId) (sz : Nat) (aP : Nat) (aro : Nat) (le : Nat) (lo : Int32) : Met l yPa_length (.code yPa_length cPa_length 1 (some .int) :: wz_all) ({ frames := 0, cells := 0, slots := 0, locals := 0 }) (wz_Pc (dC, dI) vwCl (wz_T cI cJ cZ) [.ref aP] sz [(aP, .inr (5, [.ref aro, .int (nI le), .int lo]))]) (va_Qi (fun (r : Int32) (_ : Unit) => r = nI le) (fun _ t => va_P (dC, dI) vwCl [(aP, .inr (5, [.ref aro, .int (nI le), .int lo]))] t.heap ∧ va_K (dC, dI) vwCl (wz_T cI cJ cZ) t ∧ va_D (va_A [(aP, .inr (5, [.ref aro, .int (nI le), .int lo]))] sz) [(aP, .inr (5, [.ref aro, .int (nI le), .int lo]))]) (va_A [(aP, .inr (5, [.ref aro, .int (nI le), .int lo]))] sz)) 0 0 (va_A [(aP, .inr (5, [.ref aro, .int (nI le), .int lo]))] sz) := by
  refine Met.ofW (cc := cPa_length) (maxL := 1) (ret := (some .int)) (by decide) rfl ?_
  intro p e s m args below meth c s₁ B hml hv
  obtain ⟨rfl, hsz, hP, hK, hD0, hN⟩ := hv
  have hx := B.exec
  have hb := B.bytes
  have hr := B.returns
  have hts := atoms_spec (ws := (.code yPa_length cPa_length 1 (some .int) :: wz_all)) B.pre
  have hw : ∀ w9 ∈ wz_all, w9.before [.ref aP].toArray s = true := fun w9 h => hts w9 (List.mem_cons_of_mem _ h)
  have hown : s.vm.findClass RPa = some m.cls := findClass_of_methodNamed B.named
  have hlocks := B.notSynchronized
  subst hsz
  have hD := hD0.self (sz := s.heap.size)
  generalize hAe : va_A [(aP, .inr (5, [.ref aro, .int (nI le), .int lo]))] s.heap.size = A at hD ⊢
  have hA : ∀ q : Nat, s.heap.size ≤ q → A q := fun q h => by rw [← hAe]; exact Or.inr h
  have hS : va_S A s.heap s.heap [] := va_S.rf
  have hP : va_P (dC, dI) vwCl [(aP, .inr (5, [.ref aro, .int (nI le), .int lo]))] s.heap := hP
  have hl := lv_entry ([.ref aP]) (n := 1) (Nat.le_of_ble_eq_true rfl)
  rw [lg_entry_eq]
  generalize (lg_sl ([.ref aP]) ++ List.replicate (1 - (lg_sl ([.ref aP])).length) Slot.unset).toArray = ls at hl ⊢
  have hl : lv_has ls 1 [(0, .ref aP)] := hl
  refine lv_aload_n hx hb dPa_length_0 rfl (lv_at hl 0 rfl) ?_
  refine va_get (D := (dC, dI)) (ci := 5) (v := .int (nI le)) (C := RPa) (T := TPa) (N := 3) hx hb hw in_Pa hown hK hP 0 rfl rfl 1 (by decide) (hw _ w_156) (fun _ h9 => h9) rfl dPa_length_1 ?_
  exact wz_iret hx hb hr hlocks rfl hP hD hK hS dPa_length_4
set_option maxHeartbeats 4000000 in
set_option maxRecDepth 100000 in
theorem kPa_at (l : Launch) (dC : Nat → ClassId) (dI : Nat → Nat → Nat) (cI cJ cZ : ClassId) (sz : Nat) (aP : Nat) (aro : Nat) (le : Nat) (lo : Int32) (ro : Nat → Int32) (i : Nat) (hi250 : i < 250) : Met l yPa_at (.code yPa_at cPa_at 2 (some .int) :: wz_all) ({ frames := 0, cells := 0, slots := 0, locals := 0 }) (wz_Pc (dC, dI) vwCl (wz_T cI cJ cZ) [.ref aP, .int (nI i)] sz [(aP, .inr (5, [.ref aro, .int (nI le), .int lo])), (aro, .inl (cI, 250, .inl ro))]) (va_Qi (fun (r : Int32) (_ : Unit) => r = ro i) (fun _ t => va_P (dC, dI) vwCl [(aP, .inr (5, [.ref aro, .int (nI le), .int lo])), (aro, .inl (cI, 250, .inl ro))] t.heap ∧ va_K (dC, dI) vwCl (wz_T cI cJ cZ) t ∧ va_D (va_A [(aP, .inr (5, [.ref aro, .int (nI le), .int lo])), (aro, .inl (cI, 250, .inl ro))] sz) [(aP, .inr (5, [.ref aro, .int (nI le), .int lo])), (aro, .inl (cI, 250, .inl ro))]) (va_A [(aP, .inr (5, [.ref aro, .int (nI le), .int lo])), (aro, .inl (cI, 250, .inl ro))] sz)) 0 0 (va_A [(aP, .inr (5, [.ref aro, .int (nI le), .int lo])), (aro, .inl (cI, 250, .inl ro))] sz) := by
  refine Met.ofW (cc := cPa_at) (maxL := 2) (ret := (some .int)) (by decide) rfl ?_
  intro p e s m args below meth c s₁ B hml hv
  obtain ⟨rfl, hsz, hP, hK, hD0, hN⟩ := hv
  have hx := B.exec
  have hb := B.bytes
  have hr := B.returns
  have hts := atoms_spec (ws := (.code yPa_at cPa_at 2 (some .int) :: wz_all)) B.pre
  have hw : ∀ w9 ∈ wz_all, w9.before [.ref aP, .int (nI i)].toArray s = true := fun w9 h => hts w9 (List.mem_cons_of_mem _ h)
  have hown : s.vm.findClass RPa = some m.cls := findClass_of_methodNamed B.named
  have hlocks := B.notSynchronized
  subst hsz
  have hD := hD0.self (sz := s.heap.size)
  generalize hAe : va_A [(aP, .inr (5, [.ref aro, .int (nI le), .int lo])), (aro, .inl (cI, 250, .inl ro))] s.heap.size = A at hD ⊢
  have hA : ∀ q : Nat, s.heap.size ≤ q → A q := fun q h => by rw [← hAe]; exact Or.inr h
  have hS : va_S A s.heap s.heap [] := va_S.rf
  have hP : va_P (dC, dI) vwCl [(aP, .inr (5, [.ref aro, .int (nI le), .int lo])), (aro, .inl (cI, 250, .inl ro))] s.heap := hP
  have hl := lv_entry ([.ref aP, .int (nI i)]) (n := 2) (Nat.le_of_ble_eq_true rfl)
  rw [lg_entry_eq]
  generalize (lg_sl ([.ref aP, .int (nI i)]) ++ List.replicate (2 - (lg_sl ([.ref aP, .int (nI i)])).length) Slot.unset).toArray = ls at hl ⊢
  have hl : lv_has ls 2 [(0, .ref aP), (1, .int (nI i))] := hl
  refine lv_aload_n hx hb dPa_at_0 rfl (lv_at hl 0 rfl) ?_
  refine va_get (D := (dC, dI)) (ci := 5) (v := .ref aro) (C := RPa) (T := TPa) (N := 3) hx hb hw in_Pa hown hK hP 0 rfl rfl 0 (by decide) (hw _ w_155) (fun _ h9 => h9) rfl dPa_at_1 ?_
  refine lv_iload_n hx hb dPa_at_4 rfl (lv_at hl 1 rfl) ?_
  refine wz_iald hx hb hK hP 1 0 rfl rfl (i := i) (by omega) (by decide) dPa_at_5 ?_
  exact wz_iret hx hb hr hlocks rfl hP hD hK hS dPa_at_6
set_option maxHeartbeats 4000000 in
set_option maxRecDepth 100000 in
theorem kPa_loopStart (l : Launch) (dC : Nat → ClassId) (dI : Nat → Nat → Nat) (cI cJ cZ : ClassId) (sz : Nat) (aP : Nat) (aro : Nat) (le : Nat) (lo : Int32) : Met l yPa_loopStart (.code yPa_loopStart cPa_loopStart 1 (some .int) :: wz_all) ({ frames := 0, cells := 0, slots := 0, locals := 0 }) (wz_Pc (dC, dI) vwCl (wz_T cI cJ cZ) [.ref aP] sz [(aP, .inr (5, [.ref aro, .int (nI le), .int lo]))]) (va_Qi (fun (r : Int32) (_ : Unit) => r = lo) (fun _ t => va_P (dC, dI) vwCl [(aP, .inr (5, [.ref aro, .int (nI le), .int lo]))] t.heap ∧ va_K (dC, dI) vwCl (wz_T cI cJ cZ) t ∧ va_D (va_A [(aP, .inr (5, [.ref aro, .int (nI le), .int lo]))] sz) [(aP, .inr (5, [.ref aro, .int (nI le), .int lo]))]) (va_A [(aP, .inr (5, [.ref aro, .int (nI le), .int lo]))] sz)) 0 0 (va_A [(aP, .inr (5, [.ref aro, .int (nI le), .int lo]))] sz) := by
  refine Met.ofW (cc := cPa_loopStart) (maxL := 1) (ret := (some .int)) (by decide) rfl ?_
  intro p e s m args below meth c s₁ B hml hv
  obtain ⟨rfl, hsz, hP, hK, hD0, hN⟩ := hv
  have hx := B.exec
  have hb := B.bytes
  have hr := B.returns
  have hts := atoms_spec (ws := (.code yPa_loopStart cPa_loopStart 1 (some .int) :: wz_all)) B.pre
  have hw : ∀ w9 ∈ wz_all, w9.before [.ref aP].toArray s = true := fun w9 h => hts w9 (List.mem_cons_of_mem _ h)
  have hown : s.vm.findClass RPa = some m.cls := findClass_of_methodNamed B.named
  have hlocks := B.notSynchronized
  subst hsz
  have hD := hD0.self (sz := s.heap.size)
  generalize hAe : va_A [(aP, .inr (5, [.ref aro, .int (nI le), .int lo]))] s.heap.size = A at hD ⊢
  have hA : ∀ q : Nat, s.heap.size ≤ q → A q := fun q h => by rw [← hAe]; exact Or.inr h
  have hS : va_S A s.heap s.heap [] := va_S.rf
  have hP : va_P (dC, dI) vwCl [(aP, .inr (5, [.ref aro, .int (nI le), .int lo]))] s.heap := hP
  have hl := lv_entry ([.ref aP]) (n := 1) (Nat.le_of_ble_eq_true rfl)
  rw [lg_entry_eq]
  generalize (lg_sl ([.ref aP]) ++ List.replicate (1 - (lg_sl ([.ref aP])).length) Slot.unset).toArray = ls at hl ⊢
  have hl : lv_has ls 1 [(0, .ref aP)] := hl
  refine lv_aload_n hx hb dPa_loopStart_0 rfl (lv_at hl 0 rfl) ?_
  refine va_get (D := (dC, dI)) (ci := 5) (v := .int lo) (C := RPa) (T := TPa) (N := 3) hx hb hw in_Pa hown hK hP 0 rfl rfl 2 (by decide) (hw _ w_157) (fun _ h9 => h9) rfl dPa_loopStart_1 ?_
  exact wz_iret hx hb hr hlocks rfl hP hD hK hS dPa_loopStart_4
