/-! contracts, laid by a program of mine. -/
set_option maxHeartbeats 4000000 in
set_option maxRecDepth 100000 in
/-- least -/
theorem kWw_least (l : Launch) (dC : Nat → ClassId) (dI : Nat → Nat → Nat) (cI cJ cZ : ClassId) (sz : Nat) (x : Int64) : Met l yWw_least (.code yWw_least cWw_least 2 (some .int) :: wz_all) ({ frames := 2, cells := 0, slots := 0, locals := 43 }) (wz_Pc (dC, dI) vwCl (wz_T cI cJ cZ) [.long x] sz []) (va_Qi (fun (r : Int32) (_ : Unit) => r = nI (ww_ls x)) (fun _ t => va_P (dC, dI) vwCl [] t.heap ∧ va_K (dC, dI) vwCl (wz_T cI cJ cZ) t ∧ va_D (va_A [] sz) []) (va_A [] sz)) 0 0 (va_A [] sz) := by
  refine Met.ofW (cc := cWw_least) (maxL := 2) (ret := (some .int)) (by decide) rfl ?_
  intro p e s m args below meth c s₁ B hml hv
  obtain ⟨rfl, hsz, hP, hK, hD0, hN⟩ := hv
  have hx := B.exec
  have hb := B.bytes
  have hr := B.returns
  have hts := atoms_spec (ws := (.code yWw_least cWw_least 2 (some .int) :: wz_all)) B.pre
  have hw : ∀ w9 ∈ wz_all, w9.before [.long x].toArray s = true := fun w9 h => hts w9 (List.mem_cons_of_mem _ h)
  have hown : s.vm.findClass RWw = some m.cls := findClass_of_methodNamed B.named
  have hlocks := B.notSynchronized
  subst hsz
  have hD := hD0.self (sz := s.heap.size)
  generalize hAe : va_A [] s.heap.size = A at hD ⊢
  have hA : ∀ q : Nat, s.heap.size ≤ q → A q := fun q h => by rw [← hAe]; exact Or.inr h
  have hS : va_S A s.heap s.heap [] := va_S.rf
  have hP : va_P (dC, dI) vwCl [] s.heap := hP
  have hl := lv_entry ([.long x]) (n := 2) (Nat.le_of_ble_eq_true rfl)
  rw [lg_entry_eq]
  generalize (lg_sl ([.long x]) ++ List.replicate (2 - (lg_sl ([.long x])).length) Slot.unset).toArray = ls at hl ⊢
  have hl : lv_has ls 2 [(0, .long x)] := hl
  refine lv_lload_n hx hb dWw_least_0 rfl (lv_at hl 0 rfl) ?_
  refine wz_calli (wc := []) (wr := []) (w1 := []) (ws' := []) hP hD hS hA [] [] [] rfl rfl (by decide) (by decide) (by decide) rfl rfl (va_runS (As := [.long x]) (rest := []) ⟨hx, hb, hml, hown, hts⟩ (kLo_numberOfTrailingZeros l dC dI cI cJ cZ s.heap.size x) (va_cwS 1 hts (wz_gS w_69 w_70 w_34 w_71) rfl rfl rfl (by decide +kernel) ⟨Nat.le_of_ble_eq_true rfl, Nat.le_of_ble_eq_true rfl⟩) (wz_preS hN hK hP hD [] (by decide) rfl rfl) rfl rfl hl.1 rfl (lv_room (Nat.le_of_ble_eq_true rfl)) dWw_least_1 ⟨Nat.le_refl _, Nat.le_refl _⟩) (fun H locs hP hD hS => ?_)
  refine lv_bipush (v := nI 63) hx hb dWw_least_4 (by decide) ?_
  refine lv_iand hx hb dWw_least_6 ?_
  exact wz_iret hx hb hr hlocks (ww_least x) hP hD hK hS dWw_least_7
set_option maxHeartbeats 4000000 in
set_option maxRecDepth 100000 in
/-- contains -/
theorem kWw_contains (l : Launch) (dC : Nat → ClassId) (dI : Nat → Nat → Nat) (cI cJ cZ : ClassId) (sz : Nat) (x : Int64) (k : Nat) (hk : k < 64) : Met l yWw_contains (.code yWw_contains cWw_contains 3 (some .boolean) :: wz_all) ({ frames := 0, cells := 0, slots := 0, locals := 0 }) (wz_Pc (dC, dI) vwCl (wz_T cI cJ cZ) [.long x, .int (nI k)] sz []) (va_Qi (fun (r : Int32) (_ : Unit) => r = wz_i (ww_m x k)) (fun _ t => va_P (dC, dI) vwCl [] t.heap ∧ va_K (dC, dI) vwCl (wz_T cI cJ cZ) t ∧ va_D (va_A [] sz) []) (va_A [] sz)) 0 0 (va_A [] sz) := by
  refine Met.ofW (cc := cWw_contains) (maxL := 3) (ret := (some .boolean)) (by decide) rfl ?_
  intro p e s m args below meth c s₁ B hml hv
  obtain ⟨rfl, hsz, hP, hK, hD0, hN⟩ := hv
  have hx := B.exec
  have hb := B.bytes
  have hr := B.returns
  have hts := atoms_spec (ws := (.code yWw_contains cWw_contains 3 (some .boolean) :: wz_all)) B.pre
  have hw : ∀ w9 ∈ wz_all, w9.before [.long x, .int (nI k)].toArray s = true := fun w9 h => hts w9 (List.mem_cons_of_mem _ h)
  have hown : s.vm.findClass RWw = some m.cls := findClass_of_methodNamed B.named
  have hlocks := B.notSynchronized
  subst hsz
  have hD := hD0.self (sz := s.heap.size)
  generalize hAe : va_A [] s.heap.size = A at hD ⊢
  have hA : ∀ q : Nat, s.heap.size ≤ q → A q := fun q h => by rw [← hAe]; exact Or.inr h
  have hS : va_S A s.heap s.heap [] := va_S.rf
  have hP : va_P (dC, dI) vwCl [] s.heap := hP
  have hl := lv_entry ([.long x, .int (nI k)]) (n := 3) (Nat.le_of_ble_eq_true rfl)
  rw [lg_entry_eq]
  generalize (lg_sl ([.long x, .int (nI k)]) ++ List.replicate (3 - (lg_sl ([.long x, .int (nI k)])).length) Slot.unset).toArray = ls at hl ⊢
  have hl : lv_has ls 3 [(0, .long x), (2, .int (nI k))] := hl
  refine lv_lload_n hx hb dWw_contains_0 rfl (lv_at hl 0 rfl) ?_
  refine lv_iload_n hx hb dWw_contains_1 rfl (lv_at hl 1 rfl) ?_
  refine lv_lushr hx hb dWw_contains_2 rfl ?_
  refine lv_lconst (v := 1) hx hb dWw_contains_3 (by decide) ?_
  refine lv_land hx hb dWw_contains_4 ?_
  refine lv_lconst (v := 0) hx hb dWw_contains_5 (by decide) ?_
  refine wz_lcmp_eq (tgt := 14) hx hb dWw_contains_6 dWw_contains_7 (by decide) (fun h6_1 => ?_) (fun h6_1 => ?_)
  · skip
    refine lv_iconst (v := nI 0) hx hb dWw_contains_14 (by decide) ?_
    exact wz_zret (b := false) hx hb hr hlocks (by first | (have h9 := h6_1; rw [ww_ushr x hk, ww_bit_ne] at h9; rw [h9]) | (have h9 := h6_1; rw [ww_ushr x hk, ww_bit_ne] at h9; cases h8 : ww_m x k; exact absurd h8 h9; rfl)) hP hD hK hS dWw_contains_15
  · skip
    refine lv_iconst (v := nI 1) hx hb dWw_contains_10 (by decide) ?_
    refine lv_goto (tgt := 15) hx hb dWw_contains_11 (by decide) ?_
    exact wz_zret (b := true) hx hb hr hlocks (by first | (have h9 := h6_1; rw [ww_ushr x hk, ww_bit_ne] at h9; rw [h9]) | (have h9 := h6_1; rw [ww_ushr x hk, ww_bit_ne] at h9; cases h8 : ww_m x k; exact absurd h8 h9; rfl)) hP hD hK hS dWw_contains_15
set_option maxHeartbeats 4000000 in
set_option maxRecDepth 100000 in
/-- isState -/
theorem kWw_isState (l : Launch) (dC : Nat → ClassId) (dI : Nat → Nat → Nat) (cI cJ cZ : ClassId) (sz : Nat) (x : Int32) : Met l yWw_isState (.code yWw_isState cWw_isState 1 (some .boolean) :: wz_all) ({ frames := 0, cells := 0, slots := 0, locals := 0 }) (wz_Pc (dC, dI) vwCl (wz_T cI cJ cZ) [.int x] sz []) (va_Qi (fun (r : Int32) (_ : Unit) => r = wz_i (decide (¬ x < 0 ∧ ¬ nI 64 ≤ x))) (fun _ t => va_P (dC, dI) vwCl [] t.heap ∧ va_K (dC, dI) vwCl (wz_T cI cJ cZ) t ∧ va_D (va_A [] sz) []) (va_A [] sz)) 0 0 (va_A [] sz) := by
  refine Met.ofW (cc := cWw_isState) (maxL := 1) (ret := (some .boolean)) (by decide) rfl ?_
  intro p e s m args below meth c s₁ B hml hv
  obtain ⟨rfl, hsz, hP, hK, hD0, hN⟩ := hv
  have hx := B.exec
  have hb := B.bytes
  have hr := B.returns
  have hts := atoms_spec (ws := (.code yWw_isState cWw_isState 1 (some .boolean) :: wz_all)) B.pre
  have hw : ∀ w9 ∈ wz_all, w9.before [.int x].toArray s = true := fun w9 h => hts w9 (List.mem_cons_of_mem _ h)
  have hown : s.vm.findClass RWw = some m.cls := findClass_of_methodNamed B.named
  have hlocks := B.notSynchronized
  subst hsz
  have hD := hD0.self (sz := s.heap.size)
  generalize hAe : va_A [] s.heap.size = A at hD ⊢
  have hA : ∀ q : Nat, s.heap.size ≤ q → A q := fun q h => by rw [← hAe]; exact Or.inr h
  have hS : va_S A s.heap s.heap [] := va_S.rf
  have hP : va_P (dC, dI) vwCl [] s.heap := hP
  have hl := lv_entry ([.int x]) (n := 1) (Nat.le_of_ble_eq_true rfl)
  rw [lg_entry_eq]
  generalize (lg_sl ([.int x]) ++ List.replicate (1 - (lg_sl ([.int x])).length) Slot.unset).toArray = ls at hl ⊢
  have hl : lv_has ls 1 [(0, .int x)] := hl
  refine lv_iload_n hx hb dWw_isState_0 rfl (lv_at hl 0 rfl) ?_
  refine lv_if_lt (tgt := 14) hx hb dWw_isState_1 (by decide) (fun h1_1 => ?_) (fun h1_1 => ?_)
  · skip
    refine lv_iconst (v := nI 0) hx hb dWw_isState_14 (by decide) ?_
    exact wz_zret (b := false) hx hb hr hlocks (by simp [h1_1]) hP hD hK hS dWw_isState_15
  · skip
    refine lv_iload_n hx hb dWw_isState_4 rfl (lv_at hl 0 rfl) ?_
    refine lv_bipush (v := nI 64) hx hb dWw_isState_5 (by decide) ?_
    refine lv_icmp_ge (tgt := 14) hx hb dWw_isState_7 (by decide) (fun h7_2 => ?_) (fun h7_2 => ?_)
    · skip
      refine lv_iconst (v := nI 0) hx hb dWw_isState_14 (by decide) ?_
      exact wz_zret (b := false) hx hb hr hlocks (by simp [h1_1, h7_2]) hP hD hK hS dWw_isState_15
    · skip
      refine lv_iconst (v := nI 1) hx hb dWw_isState_10 (by decide) ?_
      refine lv_goto (tgt := 15) hx hb dWw_isState_11 (by decide) ?_
      exact wz_zret (b := true) hx hb hr hlocks (by simp [h1_1, h7_2]) hP hD hK hS dWw_isState_15
set_option maxHeartbeats 4000000 in
set_option maxRecDepth 100000 in
/-- isMask -/
theorem kWw_isMask (l : Launch) (dC : Nat → ClassId) (dI : Nat → Nat → Nat) (cI cJ cZ : ClassId) (sz : Nat) (x : Int32) : Met l yWw_isMask (.code yWw_isMask cWw_isMask 1 (some .boolean) :: wz_all) ({ frames := 0, cells := 0, slots := 0, locals := 0 }) (wz_Pc (dC, dI) vwCl (wz_T cI cJ cZ) [.int x] sz []) (va_Qi (fun (r : Int32) (_ : Unit) => r = wz_i (decide (¬ x < 0 ∧ ¬ nI 64 ≤ x))) (fun _ t => va_P (dC, dI) vwCl [] t.heap ∧ va_K (dC, dI) vwCl (wz_T cI cJ cZ) t ∧ va_D (va_A [] sz) []) (va_A [] sz)) 0 0 (va_A [] sz) := by
  refine Met.ofW (cc := cWw_isMask) (maxL := 1) (ret := (some .boolean)) (by decide) rfl ?_
  intro p e s m args below meth c s₁ B hml hv
  obtain ⟨rfl, hsz, hP, hK, hD0, hN⟩ := hv
  have hx := B.exec
  have hb := B.bytes
  have hr := B.returns
  have hts := atoms_spec (ws := (.code yWw_isMask cWw_isMask 1 (some .boolean) :: wz_all)) B.pre
  have hw : ∀ w9 ∈ wz_all, w9.before [.int x].toArray s = true := fun w9 h => hts w9 (List.mem_cons_of_mem _ h)
  have hown : s.vm.findClass RWw = some m.cls := findClass_of_methodNamed B.named
  have hlocks := B.notSynchronized
  subst hsz
  have hD := hD0.self (sz := s.heap.size)
  generalize hAe : va_A [] s.heap.size = A at hD ⊢
  have hA : ∀ q : Nat, s.heap.size ≤ q → A q := fun q h => by rw [← hAe]; exact Or.inr h
  have hS : va_S A s.heap s.heap [] := va_S.rf
  have hP : va_P (dC, dI) vwCl [] s.heap := hP
  have hl := lv_entry ([.int x]) (n := 1) (Nat.le_of_ble_eq_true rfl)
  rw [lg_entry_eq]
  generalize (lg_sl ([.int x]) ++ List.replicate (1 - (lg_sl ([.int x])).length) Slot.unset).toArray = ls at hl ⊢
  have hl : lv_has ls 1 [(0, .int x)] := hl
  refine lv_iload_n hx hb dWw_isMask_0 rfl (lv_at hl 0 rfl) ?_
  refine lv_if_lt (tgt := 14) hx hb dWw_isMask_1 (by decide) (fun h1_1 => ?_) (fun h1_1 => ?_)
  · skip
    refine lv_iconst (v := nI 0) hx hb dWw_isMask_14 (by decide) ?_
    exact wz_zret (b := false) hx hb hr hlocks (by simp [h1_1]) hP hD hK hS dWw_isMask_15
  · skip
    refine lv_iload_n hx hb dWw_isMask_4 rfl (lv_at hl 0 rfl) ?_
    refine lv_bipush (v := nI 64) hx hb dWw_isMask_5 (by decide) ?_
    refine lv_icmp_ge (tgt := 14) hx hb dWw_isMask_7 (by decide) (fun h7_2 => ?_) (fun h7_2 => ?_)
    · skip
      refine lv_iconst (v := nI 0) hx hb dWw_isMask_14 (by decide) ?_
      exact wz_zret (b := false) hx hb hr hlocks (by simp [h1_1, h7_2]) hP hD hK hS dWw_isMask_15
    · skip
      refine lv_iconst (v := nI 1) hx hb dWw_isMask_10 (by decide) ?_
      refine lv_goto (tgt := 15) hx hb dWw_isMask_11 (by decide) ?_
      exact wz_zret (b := true) hx hb hr hlocks (by simp [h1_1, h7_2]) hP hD hK hS dWw_isMask_15
