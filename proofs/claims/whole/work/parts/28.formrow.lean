/-! contracts, laid by a program of mine. -/
set_option maxHeartbeats 4000000 in
set_option maxRecDepth 100000 in
theorem kFo_isFull (l : Launch) (dC : Nat → ClassId) (dI : Nat → Nat → Nat) (cI cJ cZ : ClassId) (sz : Nat) (aO : Nat) (aki : Nat) (afi : Nat) (ase : Nat) (apl : Nat) (n : Nat) (hn : n ≤ 32) : Met l yFo_isFull (.code yFo_isFull cFo_isFull 1 (some .boolean) :: wz_all) ({ frames := 0, cells := 0, slots := 0, locals := 0 }) (wz_Pc (dC, dI) vwCl (wz_T cI cJ cZ) [.ref aO] sz [(aO, .inr (2, [.ref aki, .ref afi, .ref ase, .ref apl, .int (nI n)]))]) (va_Qi (fun (r : Int32) (_ : Unit) => r = wz_i (decide (32 ≤ n))) (fun _ t => va_P (dC, dI) vwCl [(aO, .inr (2, [.ref aki, .ref afi, .ref ase, .ref apl, .int (nI n)]))] t.heap ∧ va_K (dC, dI) vwCl (wz_T cI cJ cZ) t ∧ va_D (va_A [(aO, .inr (2, [.ref aki, .ref afi, .ref ase, .ref apl, .int (nI n)]))] sz) [(aO, .inr (2, [.ref aki, .ref afi, .ref ase, .ref apl, .int (nI n)]))]) (va_A [(aO, .inr (2, [.ref aki, .ref afi, .ref ase, .ref apl, .int (nI n)]))] sz)) 0 0 (va_A [(aO, .inr (2, [.ref aki, .ref afi, .ref ase, .ref apl, .int (nI n)]))] sz) := by
  refine Met.ofW (cc := cFo_isFull) (maxL := 1) (ret := (some .boolean)) (by decide) rfl ?_
  intro p e s m args below meth c s₁ B hml hv
  obtain ⟨rfl, hsz, hP, hK, hD0, hN⟩ := hv
  have hx := B.exec
  have hb := B.bytes
  have hr := B.returns
  have hts := atoms_spec (ws := (.code yFo_isFull cFo_isFull 1 (some .boolean) :: wz_all)) B.pre
  have hw : ∀ w9 ∈ wz_all, w9.before [.ref aO].toArray s = true := fun w9 h => hts w9 (List.mem_cons_of_mem _ h)
  have hown : s.vm.findClass RFo = some m.cls := findClass_of_methodNamed B.named
  have hlocks := B.notSynchronized
  subst hsz
  have hD := hD0.self (sz := s.heap.size)
  generalize hAe : va_A [(aO, .inr (2, [.ref aki, .ref afi, .ref ase, .ref apl, .int (nI n)]))] s.heap.size = A at hD ⊢
  have hA : ∀ q : Nat, s.heap.size ≤ q → A q := fun q h => by rw [← hAe]; exact Or.inr h
  have hS : va_S A s.heap s.heap [] := va_S.rf
  have hP : va_P (dC, dI) vwCl [(aO, .inr (2, [.ref aki, .ref afi, .ref ase, .ref apl, .int (nI n)]))] s.heap := hP
  have hl := lv_entry ([.ref aO]) (n := 1) (Nat.le_of_ble_eq_true rfl)
  rw [lg_entry_eq]
  generalize (lg_sl ([.ref aO]) ++ List.replicate (1 - (lg_sl ([.ref aO])).length) Slot.unset).toArray = ls at hl ⊢
  have hl : lv_has ls 1 [(0, .ref aO)] := hl
  refine lv_aload_n hx hb dFo_isFull_0 rfl (lv_at hl 0 rfl) ?_
  refine va_get (D := (dC, dI)) (ci := 2) (v := .int (nI n)) (C := RFo) (T := TFo) (N := 5) hx hb hw in_Fo hown hK hP 0 rfl rfl 4 (by decide) (hw _ w_96) (fun _ h9 => h9) rfl dFo_isFull_1 ?_
  refine lv_bipush (v := nI 32) hx hb dFo_isFull_4 (by decide) ?_
  refine wz_icmp_lt (x := n) (y := 32) (tgt := 13) hx hb (by omega) (by omega) dFo_isFull_6 (by decide) (fun h6_1 => ?_) (fun h6_1 => ?_)
  · skip
    refine lv_iconst (v := nI 0) hx hb dFo_isFull_13 (by decide) ?_
    exact wz_zret (b := false) hx hb hr hlocks (by first | rw [decide_eq_true (by omega)] | rw [decide_eq_false (by omega)]) hP hD hK hS dFo_isFull_14
  · skip
    refine lv_iconst (v := nI 1) hx hb dFo_isFull_9 (by decide) ?_
    refine lv_goto (tgt := 14) hx hb dFo_isFull_10 (by decide) ?_
    exact wz_zret (b := true) hx hb hr hlocks (by first | rw [decide_eq_true (by omega)] | rw [decide_eq_false (by omega)]) hP hD hK hS dFo_isFull_14
set_option maxHeartbeats 4000000 in
set_option maxRecDepth 100000 in
theorem kFo_has (l : Launch) (dC : Nat → ClassId) (dI : Nat → Nat → Nat) (cI cJ cZ : ClassId) (sz : Nat) (aO : Nat) (aki : Nat) (afi : Nat) (ase : Nat) (apl : Nat) (n : Nat) (x : Int32) : Met l yFo_has (.code yFo_has cFo_has 2 (some .boolean) :: wz_all) ({ frames := 0, cells := 0, slots := 0, locals := 0 }) (wz_Pc (dC, dI) vwCl (wz_T cI cJ cZ) [.ref aO, .int x] sz [(aO, .inr (2, [.ref aki, .ref afi, .ref ase, .ref apl, .int (nI n)]))]) (va_Qi (fun (r : Int32) (_ : Unit) => r = wz_i (ww_hs n x)) (fun _ t => va_P (dC, dI) vwCl [(aO, .inr (2, [.ref aki, .ref afi, .ref ase, .ref apl, .int (nI n)]))] t.heap ∧ va_K (dC, dI) vwCl (wz_T cI cJ cZ) t ∧ va_D (va_A [(aO, .inr (2, [.ref aki, .ref afi, .ref ase, .ref apl, .int (nI n)]))] sz) [(aO, .inr (2, [.ref aki, .ref afi, .ref ase, .ref apl, .int (nI n)]))]) (va_A [(aO, .inr (2, [.ref aki, .ref afi, .ref ase, .ref apl, .int (nI n)]))] sz)) 0 0 (va_A [(aO, .inr (2, [.ref aki, .ref afi, .ref ase, .ref apl, .int (nI n)]))] sz) := by
  refine Met.ofW (cc := cFo_has) (maxL := 2) (ret := (some .boolean)) (by decide) rfl ?_
  intro p e s m args below meth c s₁ B hml hv
  obtain ⟨rfl, hsz, hP, hK, hD0, hN⟩ := hv
  have hx := B.exec
  have hb := B.bytes
  have hr := B.returns
  have hts := atoms_spec (ws := (.code yFo_has cFo_has 2 (some .boolean) :: wz_all)) B.pre
  have hw : ∀ w9 ∈ wz_all, w9.before [.ref aO, .int x].toArray s = true := fun w9 h => hts w9 (List.mem_cons_of_mem _ h)
  have hown : s.vm.findClass RFo = some m.cls := findClass_of_methodNamed B.named
  have hlocks := B.notSynchronized
  subst hsz
  have hD := hD0.self (sz := s.heap.size)
  generalize hAe : va_A [(aO, .inr (2, [.ref aki, .ref afi, .ref ase, .ref apl, .int (nI n)]))] s.heap.size = A at hD ⊢
  have hA : ∀ q : Nat, s.heap.size ≤ q → A q := fun q h => by rw [← hAe]; exact Or.inr h
  have hS : va_S A s.heap s.heap [] := va_S.rf
  have hP : va_P (dC, dI) vwCl [(aO, .inr (2, [.ref aki, .ref afi, .ref ase, .ref apl, .int (nI n)]))] s.heap := hP
  have hl := lv_entry ([.ref aO, .int x]) (n := 2) (Nat.le_of_ble_eq_true rfl)
  rw [lg_entry_eq]
  generalize (lg_sl ([.ref aO, .int x]) ++ List.replicate (2 - (lg_sl ([.ref aO, .int x])).length) Slot.unset).toArray = ls at hl ⊢
  have hl : lv_has ls 2 [(0, .ref aO), (1, .int x)] := hl
  refine lv_iload_n hx hb dFo_has_0 rfl (lv_at hl 1 rfl) ?_
  refine lv_if_lt (tgt := 16) hx hb dFo_has_1 (by decide) (fun h1_1 => ?_) (fun h1_1 => ?_)
  · skip
    refine lv_iconst (v := nI 0) hx hb dFo_has_16 (by decide) ?_
    exact wz_zret (b := false) hx hb hr hlocks (by unfold ww_hs; simp [h1_1]) hP hD hK hS dFo_has_17
  · skip
    refine lv_iload_n hx hb dFo_has_4 rfl (lv_at hl 1 rfl) ?_
    refine lv_aload_n hx hb dFo_has_5 rfl (lv_at hl 0 rfl) ?_
    refine va_get (D := (dC, dI)) (ci := 2) (v := .int (nI n)) (C := RFo) (T := TFo) (N := 5) hx hb hw in_Fo hown hK hP 0 rfl rfl 4 (by decide) (hw _ w_96) (fun _ h9 => h9) rfl dFo_has_6 ?_
    refine lv_icmp_ge (tgt := 16) hx hb dFo_has_9 (by decide) (fun h9_2 => ?_) (fun h9_2 => ?_)
    · skip
      refine lv_iconst (v := nI 0) hx hb dFo_has_16 (by decide) ?_
      exact wz_zret (b := false) hx hb hr hlocks (by unfold ww_hs; simp [h1_1, h9_2]) hP hD hK hS dFo_has_17
    · skip
      refine lv_iconst (v := nI 1) hx hb dFo_has_12 (by decide) ?_
      refine lv_goto (tgt := 17) hx hb dFo_has_13 (by decide) ?_
      exact wz_zret (b := true) hx hb hr hlocks (by unfold ww_hs; simp [h1_1, h9_2]) hP hD hK hS dFo_has_17
set_option maxHeartbeats 4000000 in
set_option maxRecDepth 100000 in
theorem kFo_usesSecond (l : Launch) (dC : Nat → ClassId) (dI : Nat → Nat → Nat) (cI cJ cZ : ClassId) (sz : Nat) (k : Nat) (hk : k ≤ 12) : Met l yFo_usesSecond (.code yFo_usesSecond cFo_usesSecond 1 (some .boolean) :: wz_all) ({ frames := 0, cells := 0, slots := 0, locals := 0 }) (wz_Pc (dC, dI) vwCl (wz_T cI cJ cZ) [.int (nI k)] sz []) (va_Qi (fun (r : Int32) (_ : Unit) => r = wz_i (ww_h2 k)) (fun _ t => va_P (dC, dI) vwCl [] t.heap ∧ va_K (dC, dI) vwCl (wz_T cI cJ cZ) t ∧ va_D (va_A [] sz) []) (va_A [] sz)) 0 0 (va_A [] sz) := by
  refine Met.ofW (cc := cFo_usesSecond) (maxL := 1) (ret := (some .boolean)) (by decide) rfl ?_
  intro p e s m args below meth c s₁ B hml hv
  obtain ⟨rfl, hsz, hP, hK, hD0, hN⟩ := hv
  have hx := B.exec
  have hb := B.bytes
  have hr := B.returns
  have hts := atoms_spec (ws := (.code yFo_usesSecond cFo_usesSecond 1 (some .boolean) :: wz_all)) B.pre
  have hw : ∀ w9 ∈ wz_all, w9.before [.int (nI k)].toArray s = true := fun w9 h => hts w9 (List.mem_cons_of_mem _ h)
  have hown : s.vm.findClass RFo = some m.cls := findClass_of_methodNamed B.named
  have hlocks := B.notSynchronized
  subst hsz
  have hD := hD0.self (sz := s.heap.size)
  generalize hAe : va_A [] s.heap.size = A at hD ⊢
  have hA : ∀ q : Nat, s.heap.size ≤ q → A q := fun q h => by rw [← hAe]; exact Or.inr h
  have hS : va_S A s.heap s.heap [] := va_S.rf
  have hP : va_P (dC, dI) vwCl [] s.heap := hP
  have hl := lv_entry ([.int (nI k)]) (n := 1) (Nat.le_of_ble_eq_true rfl)
  rw [lg_entry_eq]
  generalize (lg_sl ([.int (nI k)]) ++ List.replicate (1 - (lg_sl ([.int (nI k)])).length) Slot.unset).toArray = ls at hl ⊢
  have hl : lv_has ls 1 [(0, .int (nI k))] := hl
  refine lv_iload_n hx hb dFo_usesSecond_0 rfl (lv_at hl 0 rfl) ?_
  refine lv_iconst (v := nI 3) hx hb dFo_usesSecond_1 (by decide) ?_
  refine wz_icmp_eq (x := k) (y := 3) (tgt := 22) hx hb (by omega) (by omega) dFo_usesSecond_2 (by decide) (fun h2_1 => ?_) (fun h2_1 => ?_)
  · skip
    refine lv_iconst (v := nI 1) hx hb dFo_usesSecond_22 (by decide) ?_
    refine lv_goto (tgt := 27) hx hb dFo_usesSecond_23 (by decide) ?_
    exact wz_zret (b := true) hx hb hr hlocks (by unfold ww_h2; simp [hk, h2_1]) hP hD hK hS dFo_usesSecond_27
  · skip
    refine lv_iload_n hx hb dFo_usesSecond_5 rfl (lv_at hl 0 rfl) ?_
    refine lv_iconst (v := nI 4) hx hb dFo_usesSecond_6 (by decide) ?_
    refine wz_icmp_eq (x := k) (y := 4) (tgt := 22) hx hb (by omega) (by omega) dFo_usesSecond_7 (by decide) (fun h7_2 => ?_) (fun h7_2 => ?_)
    · skip
      refine lv_iconst (v := nI 1) hx hb dFo_usesSecond_22 (by decide) ?_
      refine lv_goto (tgt := 27) hx hb dFo_usesSecond_23 (by decide) ?_
      exact wz_zret (b := true) hx hb hr hlocks (by unfold ww_h2; simp [hk, h2_1, h7_2]) hP hD hK hS dFo_usesSecond_27
    · skip
      refine lv_iload_n hx hb dFo_usesSecond_10 rfl (lv_at hl 0 rfl) ?_
      refine lv_bipush (v := nI 6) hx hb dFo_usesSecond_11 (by decide) ?_
      refine wz_icmp_eq (x := k) (y := 6) (tgt := 22) hx hb (by omega) (by omega) dFo_usesSecond_13 (by decide) (fun h13_3 => ?_) (fun h13_3 => ?_)
      · skip
        refine lv_iconst (v := nI 1) hx hb dFo_usesSecond_22 (by decide) ?_
        refine lv_goto (tgt := 27) hx hb dFo_usesSecond_23 (by decide) ?_
        exact wz_zret (b := true) hx hb hr hlocks (by unfold ww_h2; simp [hk, h2_1, h7_2, h13_3]) hP hD hK hS dFo_usesSecond_27
      · skip
        refine lv_iload_n hx hb dFo_usesSecond_16 rfl (lv_at hl 0 rfl) ?_
        refine lv_bipush (v := nI 10) hx hb dFo_usesSecond_17 (by decide) ?_
        refine wz_icmp_ne (x := k) (y := 10) (tgt := 26) hx hb (by omega) (by omega) dFo_usesSecond_19 (by decide) (fun h19_4 => ?_) (fun h19_4 => ?_)
        · skip
          refine lv_iconst (v := nI 0) hx hb dFo_usesSecond_26 (by decide) ?_
          exact wz_zret (b := false) hx hb hr hlocks (by unfold ww_h2; simp [hk, h2_1, h7_2, h13_3, h19_4]) hP hD hK hS dFo_usesSecond_27
        · skip
          refine lv_iconst (v := nI 1) hx hb dFo_usesSecond_22 (by decide) ?_
          refine lv_goto (tgt := 27) hx hb dFo_usesSecond_23 (by decide) ?_
          exact wz_zret (b := true) hx hb hr hlocks (by unfold ww_h2; simp [hk, h2_1, h7_2, h13_3, h19_4]) hP hD hK hS dFo_usesSecond_27
set_option maxHeartbeats 4000000 in
set_option maxRecDepth 100000 in
theorem kFo_canBeMade (l : Launch) (dC : Nat → ClassId) (dI : Nat → Nat → Nat) (cI cJ cZ : ClassId) (sz : Nat) (aO : Nat) (aki : Nat) (afi : Nat) (ase : Nat) (apl : Nat) (n : Nat) (x : Int32) (y : Int32) (z : Int32) : Met l yFo_canBeMade (.code yFo_canBeMade cFo_canBeMade 4 (some .boolean) :: wz_all) ({ frames := 1, cells := 0, slots := 0, locals := 21 }) (wz_Pc (dC, dI) vwCl (wz_T cI cJ cZ) [.ref aO, .int x, .int y, .int z] sz [(aO, .inr (2, [.ref aki, .ref afi, .ref ase, .ref apl, .int (nI n)]))]) (va_Qi (fun (r : Int32) (_ : Unit) => r = wz_i (ww_cb n x y z)) (fun _ t => va_P (dC, dI) vwCl [(aO, .inr (2, [.ref aki, .ref afi, .ref ase, .ref apl, .int (nI n)]))] t.heap ∧ va_K (dC, dI) vwCl (wz_T cI cJ cZ) t ∧ va_D (va_A [(aO, .inr (2, [.ref aki, .ref afi, .ref ase, .ref apl, .int (nI n)]))] sz) [(aO, .inr (2, [.ref aki, .ref afi, .ref ase, .ref apl, .int (nI n)]))]) (va_A [(aO, .inr (2, [.ref aki, .ref afi, .ref ase, .ref apl, .int (nI n)]))] sz)) 0 0 (va_A [(aO, .inr (2, [.ref aki, .ref afi, .ref ase, .ref apl, .int (nI n)]))] sz) := by
  refine Met.ofW (cc := cFo_canBeMade) (maxL := 4) (ret := (some .boolean)) (by decide) rfl ?_
  intro p e s m args below meth c s₁ B hml hv
  obtain ⟨rfl, hsz, hP, hK, hD0, hN⟩ := hv
  have hx := B.exec
  have hb := B.bytes
  have hr := B.returns
  have hts := atoms_spec (ws := (.code yFo_canBeMade cFo_canBeMade 4 (some .boolean) :: wz_all)) B.pre
  have hw : ∀ w9 ∈ wz_all, w9.before [.ref aO, .int x, .int y, .int z].toArray s = true := fun w9 h => hts w9 (List.mem_cons_of_mem _ h)
  have hown : s.vm.findClass RFo = some m.cls := findClass_of_methodNamed B.named
  have hlocks := B.notSynchronized
  subst hsz
  have hD := hD0.self (sz := s.heap.size)
  generalize hAe : va_A [(aO, .inr (2, [.ref aki, .ref afi, .ref ase, .ref apl, .int (nI n)]))] s.heap.size = A at hD ⊢
  have hA : ∀ q : Nat, s.heap.size ≤ q → A q := fun q h => by rw [← hAe]; exact Or.inr h
  have hS : va_S A s.heap s.heap [] := va_S.rf
  have hP : va_P (dC, dI) vwCl [(aO, .inr (2, [.ref aki, .ref afi, .ref ase, .ref apl, .int (nI n)]))] s.heap := hP
  have hl := lv_entry ([.ref aO, .int x, .int y, .int z]) (n := 4) (Nat.le_of_ble_eq_true rfl)
  rw [lg_entry_eq]
  generalize (lg_sl ([.ref aO, .int x, .int y, .int z]) ++ List.replicate (4 - (lg_sl ([.ref aO, .int x, .int y, .int z])).length) Slot.unset).toArray = ls at hl ⊢
  have hl : lv_has ls 4 [(0, .ref aO), (1, .int x), (2, .int y), (3, .int z)] := hl
  refine lv_iload_n hx hb dFo_canBeMade_0 rfl (lv_at hl 1 rfl) ?_
  refine lv_if_lt (tgt := 10) hx hb dFo_canBeMade_1 (by decide) (fun h1_1 => ?_) (fun h1_1 => ?_)
  · skip
    refine lv_iconst (v := nI 0) hx hb dFo_canBeMade_10 (by decide) ?_
    exact wz_zret (b := false) hx hb hr hlocks (by rw [ww_cb_no (by simp [h1_1])]) hP hD hK hS dFo_canBeMade_11
  · skip
    refine lv_iload_n hx hb dFo_canBeMade_4 rfl (lv_at hl 1 rfl) ?_
    refine lv_bipush (v := nI 12) hx hb dFo_canBeMade_5 (by decide) ?_
    refine lv_icmp_le (tgt := 12) hx hb dFo_canBeMade_7 (by decide) (fun h7_2 => ?_) (fun h7_2 => ?_)
    · skip
      obtain ⟨k, hk, rfl⟩ := nI_of2 (n := 12) (by decide) h1_1 h7_2
      refine lv_iload_n hx hb dFo_canBeMade_12 rfl (lv_at hl 1 rfl) ?_
      refine wz_ifN_ne (x := k) (tgt := 32) hx hb (by omega) dFo_canBeMade_13 (by decide) (fun h13_3 => ?_) (fun h13_3 => ?_)
      · skip
        refine lv_iload_n hx hb dFo_canBeMade_32 rfl (lv_at hl 1 rfl) ?_
        refine lv_iconst (v := nI 1) hx hb dFo_canBeMade_33 (by decide) ?_
        refine wz_icmp_eq (x := k) (y := 1) (tgt := 45) hx hb (by omega) (by omega) dFo_canBeMade_34 (by decide) (fun h34_4 => ?_) (fun h34_4 => ?_)
        · skip
          refine lv_iload_n hx hb dFo_canBeMade_45 rfl (lv_at hl 1 rfl) ?_
          refine wz_calli (wc := []) (wr := [(aO, .inr (2, [.ref aki, .ref afi, .ref ase, .ref apl, .int (nI n)]))]) (w1 := []) (ws' := [(aO, .inr (2, [.ref aki, .ref afi, .ref ase, .ref apl, .int (nI n)]))]) hP hD hS hA [] [0] [0] rfl rfl (by decide) (by decide) (by decide) rfl rfl (va_runS (As := [.int (nI k)]) (rest := []) ⟨hx, hb, hml, hown, hts⟩ (kFo_usesSecond l dC dI cI cJ cZ s.heap.size k (by omega)) (va_cwS 1 hts (wz_gS w_331 w_332 w_36 w_333) rfl rfl rfl (by decide +kernel) ⟨Nat.le_of_ble_eq_true rfl, Nat.le_of_ble_eq_true rfl⟩) (wz_preS hN hK hP hD [] (by decide) rfl rfl) rfl rfl hl.1 rfl (lv_room (Nat.le_of_ble_eq_true rfl)) dFo_canBeMade_46 ⟨Nat.le_refl _, Nat.le_refl _⟩) (fun H locs hP hD hS => ?_)
          refine wz_ifz (tgt := 60) hx hb dFo_canBeMade_49 (by decide) (fun h49_5 => ?_) (fun h49_5 => ?_)
          · skip
            refine lv_iconst (v := nI 1) hx hb dFo_canBeMade_60 (by decide) ?_
            refine lv_goto (tgt := 65) hx hb dFo_canBeMade_61 (by decide) ?_
            exact wz_zret (b := true) hx hb hr hlocks (by rw [ww_cb_N hk]; first | (simp [h1_1, h7_2, h13_3, h34_4, h49_5]; done) | (have q1 := h34_4; have q2 := h49_5; rw [q1] at q2 ⊢; simp [q2]; done) | (have q1 := h34_4; have q2 := h49_5; have q3 := h_none; rw [q1] at q2 ⊢; simp [q2, q3]; done)) hP hD hK hS dFo_canBeMade_65
          · skip
            refine lv_aload_n hx hb dFo_canBeMade_52 rfl (lv_at hl 0 rfl) ?_
            refine lv_iload_n hx hb dFo_canBeMade_53 rfl (lv_at hl 3 rfl) ?_
            refine wz_calli (wc := [(aO, .inr (2, [.ref aki, .ref afi, .ref ase, .ref apl, .int (nI n)]))]) (wr := []) (w1 := [(aO, .inr (2, [.ref aki, .ref afi, .ref ase, .ref apl, .int (nI n)]))]) (ws' := [(aO, .inr (2, [.ref aki, .ref afi, .ref ase, .ref apl, .int (nI n)]))]) hP hD hS hA [0] [] [0] rfl rfl (by decide) (by decide) (by decide) rfl rfl (va_runV (As := [.int z]) (rest := []) ⟨hx, hb, hml, hown, hts⟩ (kFo_has l dC dI cI cJ cZ H.size aO aki afi ase apl n z) (cwV 1 hts (wz_gV w_327 w_328 w_329 w_36 w_330) rfl rfl rfl (by decide +kernel) ⟨Nat.le_of_ble_eq_true rfl, Nat.le_of_ble_eq_true rfl⟩) (wz_preV (q := (RFo, TFo, 5)) (ci := 2) hN hK hP hD [0] (by decide) rfl rfl 0 rfl rfl) rfl rfl hl.1 rfl (lv_room (Nat.le_of_ble_eq_true rfl)) dFo_canBeMade_54 ⟨Nat.le_refl _, Nat.le_refl _⟩) (fun H locs hP hD hS => ?_)
            refine wz_ifz (tgt := 64) hx hb dFo_canBeMade_57 (by decide) (fun h57_6 => ?_) (fun h57_6 => ?_)
            · skip
              refine lv_iconst (v := nI 0) hx hb dFo_canBeMade_64 (by decide) ?_
              exact wz_zret (b := false) hx hb hr hlocks (by rw [ww_cb_N hk]; first | (simp [h1_1, h7_2, h13_3, h34_4, h49_5, h57_6]; done) | (have q1 := h34_4; have q2 := h49_5; rw [q1] at q2 ⊢; simp [q2]; done) | (have q1 := h34_4; have q2 := h49_5; have q3 := h57_6; rw [q1] at q2 ⊢; simp [q2, q3]; done)) hP hD hK hS dFo_canBeMade_65
            · skip
              refine lv_iconst (v := nI 1) hx hb dFo_canBeMade_60 (by decide) ?_
              refine lv_goto (tgt := 65) hx hb dFo_canBeMade_61 (by decide) ?_
              exact wz_zret (b := true) hx hb hr hlocks (by rw [ww_cb_N hk]; first | (simp [h1_1, h7_2, h13_3, h34_4, h49_5, h57_6]; done) | (have q1 := h34_4; have q2 := h49_5; rw [q1] at q2 ⊢; simp [q2]; done) | (have q1 := h34_4; have q2 := h49_5; have q3 := h57_6; rw [q1] at q2 ⊢; simp [q2, q3]; done)) hP hD hK hS dFo_canBeMade_65
        · skip
          refine lv_aload_n hx hb dFo_canBeMade_37 rfl (lv_at hl 0 rfl) ?_
          refine lv_iload_n hx hb dFo_canBeMade_38 rfl (lv_at hl 2 rfl) ?_
          refine wz_calli (wc := [(aO, .inr (2, [.ref aki, .ref afi, .ref ase, .ref apl, .int (nI n)]))]) (wr := []) (w1 := [(aO, .inr (2, [.ref aki, .ref afi, .ref ase, .ref apl, .int (nI n)]))]) (ws' := [(aO, .inr (2, [.ref aki, .ref afi, .ref ase, .ref apl, .int (nI n)]))]) hP hD hS hA [0] [] [0] rfl rfl (by decide) (by decide) (by decide) rfl rfl (va_runV (As := [.int y]) (rest := []) ⟨hx, hb, hml, hown, hts⟩ (kFo_has l dC dI cI cJ cZ s.heap.size aO aki afi ase apl n y) (cwV 1 hts (wz_gV w_327 w_328 w_329 w_36 w_330) rfl rfl rfl (by decide +kernel) ⟨Nat.le_of_ble_eq_true rfl, Nat.le_of_ble_eq_true rfl⟩) (wz_preV (q := (RFo, TFo, 5)) (ci := 2) hN hK hP hD [0] (by decide) rfl rfl 0 rfl rfl) rfl rfl hl.1 rfl (lv_room (Nat.le_of_ble_eq_true rfl)) dFo_canBeMade_39 ⟨Nat.le_refl _, Nat.le_refl _⟩) (fun H locs hP hD hS => ?_)
          refine wz_ifz (tgt := 64) hx hb dFo_canBeMade_42 (by decide) (fun h42_7 => ?_) (fun h42_7 => ?_)
          · skip
            refine lv_iconst (v := nI 0) hx hb dFo_canBeMade_64 (by decide) ?_
            exact wz_zret (b := false) hx hb hr hlocks (by rw [ww_cb_N hk]; first | (simp [h1_1, h7_2, h13_3, h34_4, h42_7]; done) | (have q1 := h34_4; have q2 := h_none; rw [q1] at q2 ⊢; simp [q2]; done) | (have q1 := h34_4; have q2 := h_none; have q3 := h_none; rw [q1] at q2 ⊢; simp [q2, q3]; done)) hP hD hK hS dFo_canBeMade_65
          · skip
            refine lv_iload_n hx hb dFo_canBeMade_45 rfl (lv_at hl 1 rfl) ?_
            refine wz_calli (wc := []) (wr := [(aO, .inr (2, [.ref aki, .ref afi, .ref ase, .ref apl, .int (nI n)]))]) (w1 := []) (ws' := [(aO, .inr (2, [.ref aki, .ref afi, .ref ase, .ref apl, .int (nI n)]))]) hP hD hS hA [] [0] [0] rfl rfl (by decide) (by decide) (by decide) rfl rfl (va_runS (As := [.int (nI k)]) (rest := []) ⟨hx, hb, hml, hown, hts⟩ (kFo_usesSecond l dC dI cI cJ cZ H.size k (by omega)) (va_cwS 1 hts (wz_gS w_331 w_332 w_36 w_333) rfl rfl rfl (by decide +kernel) ⟨Nat.le_of_ble_eq_true rfl, Nat.le_of_ble_eq_true rfl⟩) (wz_preS hN hK hP hD [] (by decide) rfl rfl) rfl rfl hl.1 rfl (lv_room (Nat.le_of_ble_eq_true rfl)) dFo_canBeMade_46 ⟨Nat.le_refl _, Nat.le_refl _⟩) (fun H locs hP hD hS => ?_)
            refine wz_ifz (tgt := 60) hx hb dFo_canBeMade_49 (by decide) (fun h49_8 => ?_) (fun h49_8 => ?_)
            · skip
              refine lv_iconst (v := nI 1) hx hb dFo_canBeMade_60 (by decide) ?_
              refine lv_goto (tgt := 65) hx hb dFo_canBeMade_61 (by decide) ?_
              exact wz_zret (b := true) hx hb hr hlocks (by rw [ww_cb_N hk]; first | (simp [h1_1, h7_2, h13_3, h34_4, h42_7, h49_8]; done) | (have q1 := h34_4; have q2 := h49_8; rw [q1] at q2 ⊢; simp [q2]; done) | (have q1 := h34_4; have q2 := h49_8; have q3 := h_none; rw [q1] at q2 ⊢; simp [q2, q3]; done)) hP hD hK hS dFo_canBeMade_65
            · skip
              refine lv_aload_n hx hb dFo_canBeMade_52 rfl (lv_at hl 0 rfl) ?_
              refine lv_iload_n hx hb dFo_canBeMade_53 rfl (lv_at hl 3 rfl) ?_
              refine wz_calli (wc := [(aO, .inr (2, [.ref aki, .ref afi, .ref ase, .ref apl, .int (nI n)]))]) (wr := []) (w1 := [(aO, .inr (2, [.ref aki, .ref afi, .ref ase, .ref apl, .int (nI n)]))]) (ws' := [(aO, .inr (2, [.ref aki, .ref afi, .ref ase, .ref apl, .int (nI n)]))]) hP hD hS hA [0] [] [0] rfl rfl (by decide) (by decide) (by decide) rfl rfl (va_runV (As := [.int z]) (rest := []) ⟨hx, hb, hml, hown, hts⟩ (kFo_has l dC dI cI cJ cZ H.size aO aki afi ase apl n z) (cwV 1 hts (wz_gV w_327 w_328 w_329 w_36 w_330) rfl rfl rfl (by decide +kernel) ⟨Nat.le_of_ble_eq_true rfl, Nat.le_of_ble_eq_true rfl⟩) (wz_preV (q := (RFo, TFo, 5)) (ci := 2) hN hK hP hD [0] (by decide) rfl rfl 0 rfl rfl) rfl rfl hl.1 rfl (lv_room (Nat.le_of_ble_eq_true rfl)) dFo_canBeMade_54 ⟨Nat.le_refl _, Nat.le_refl _⟩) (fun H locs hP hD hS => ?_)
              refine wz_ifz (tgt := 64) hx hb dFo_canBeMade_57 (by decide) (fun h57_9 => ?_) (fun h57_9 => ?_)
              · skip
                refine lv_iconst (v := nI 0) hx hb dFo_canBeMade_64 (by decide) ?_
                exact wz_zret (b := false) hx hb hr hlocks (by rw [ww_cb_N hk]; first | (simp [h1_1, h7_2, h13_3, h34_4, h42_7, h49_8, h57_9]; done) | (have q1 := h34_4; have q2 := h49_8; rw [q1] at q2 ⊢; simp [q2]; done) | (have q1 := h34_4; have q2 := h49_8; have q3 := h57_9; rw [q1] at q2 ⊢; simp [q2, q3]; done)) hP hD hK hS dFo_canBeMade_65
              · skip
                refine lv_iconst (v := nI 1) hx hb dFo_canBeMade_60 (by decide) ?_
                refine lv_goto (tgt := 65) hx hb dFo_canBeMade_61 (by decide) ?_
                exact wz_zret (b := true) hx hb hr hlocks (by rw [ww_cb_N hk]; first | (simp [h1_1, h7_2, h13_3, h34_4, h42_7, h49_8, h57_9]; done) | (have q1 := h34_4; have q2 := h49_8; rw [q1] at q2 ⊢; simp [q2]; done) | (have q1 := h34_4; have q2 := h49_8; have q3 := h57_9; rw [q1] at q2 ⊢; simp [q2, q3]; done)) hP hD hK hS dFo_canBeMade_65
      · skip
        refine lv_iload_n hx hb dFo_canBeMade_16 rfl (lv_at hl 2 rfl) ?_
        refine lv_if_lt (tgt := 30) hx hb dFo_canBeMade_17 (by decide) (fun h17_10 => ?_) (fun h17_10 => ?_)
        · skip
          refine lv_iconst (v := nI 0) hx hb dFo_canBeMade_30 (by decide) ?_
          exact wz_zret (b := false) hx hb hr hlocks (by rw [ww_cb_N hk]; first | (simp [h1_1, h7_2, h13_3, h17_10]; done) | (have q1 := h_none; have q2 := h_none; rw [q1] at q2 ⊢; simp [q2]; done) | (have q1 := h_none; have q2 := h_none; have q3 := h_none; rw [q1] at q2 ⊢; simp [q2, q3]; done)) hP hD hK hS dFo_canBeMade_31
        · skip
          refine lv_iload_n hx hb dFo_canBeMade_20 rfl (lv_at hl 2 rfl) ?_
          refine lv_bipush (v := nI 6) hx hb dFo_canBeMade_21 (by decide) ?_
          refine lv_icmp_ge (tgt := 30) hx hb dFo_canBeMade_23 (by decide) (fun h23_11 => ?_) (fun h23_11 => ?_)
          · skip
            refine lv_iconst (v := nI 0) hx hb dFo_canBeMade_30 (by decide) ?_
            exact wz_zret (b := false) hx hb hr hlocks (by rw [ww_cb_N hk]; first | (simp [h1_1, h7_2, h13_3, h17_10, h23_11]; done) | (have q1 := h_none; have q2 := h_none; rw [q1] at q2 ⊢; simp [q2]; done) | (have q1 := h_none; have q2 := h_none; have q3 := h_none; rw [q1] at q2 ⊢; simp [q2, q3]; done)) hP hD hK hS dFo_canBeMade_31
          · skip
            refine lv_iconst (v := nI 1) hx hb dFo_canBeMade_26 (by decide) ?_
            refine lv_goto (tgt := 31) hx hb dFo_canBeMade_27 (by decide) ?_
            exact wz_zret (b := true) hx hb hr hlocks (by rw [ww_cb_N hk]; first | (simp [h1_1, h7_2, h13_3, h17_10, h23_11]; done) | (have q1 := h_none; have q2 := h_none; rw [q1] at q2 ⊢; simp [q2]; done) | (have q1 := h_none; have q2 := h_none; have q3 := h_none; rw [q1] at q2 ⊢; simp [q2, q3]; done)) hP hD hK hS dFo_canBeMade_31
    · skip
      refine lv_iconst (v := nI 0) hx hb dFo_canBeMade_10 (by decide) ?_
      exact wz_zret (b := false) hx hb hr hlocks (by rw [ww_cb_no (by simp [h1_1, h7_2])]) hP hD hK hS dFo_canBeMade_11
set_option maxHeartbeats 4000000 in
set_option maxRecDepth 100000 in
theorem kFo_partsArePlain (l : Launch) (dC : Nat → ClassId) (dI : Nat → Nat → Nat) (cI cJ cZ : ClassId) (sz : Nat) (aO : Nat) (aki : Nat) (afi : Nat) (ase : Nat) (apl : Nat) (n : Nat) (pb : Nat → Bool) (k : Nat) (y : Int32) (z : Int32) (fj : Nat) (gj : Nat) (hk : k ≤ 12) (hy : 2 ≤ k → y = nI fj ∧ fj < 32) (hz : ww_h2 k = true → z = nI gj ∧ gj < 32) : Met l yFo_partsArePlain (.code yFo_partsArePlain cFo_partsArePlain 4 (some .boolean) :: wz_all) ({ frames := 0, cells := 0, slots := 0, locals := 0 }) (wz_Pc (dC, dI) vwCl (wz_T cI cJ cZ) [.ref aO, .int (nI k), .int y, .int z] sz [(aO, .inr (2, [.ref aki, .ref afi, .ref ase, .ref apl, .int (nI n)])), (apl, .inl (cZ, 32, .inl (wz_bb pb)))]) (va_Qi (fun (r : Int32) (_ : Unit) => r = wz_i (ww_pp pb k fj gj)) (fun _ t => va_P (dC, dI) vwCl [(aO, .inr (2, [.ref aki, .ref afi, .ref ase, .ref apl, .int (nI n)])), (apl, .inl (cZ, 32, .inl (wz_bb pb)))] t.heap ∧ va_K (dC, dI) vwCl (wz_T cI cJ cZ) t ∧ va_D (va_A [(aO, .inr (2, [.ref aki, .ref afi, .ref ase, .ref apl, .int (nI n)])), (apl, .inl (cZ, 32, .inl (wz_bb pb)))] sz) [(aO, .inr (2, [.ref aki, .ref afi, .ref ase, .ref apl, .int (nI n)])), (apl, .inl (cZ, 32, .inl (wz_bb pb)))]) (va_A [(aO, .inr (2, [.ref aki, .ref afi, .ref ase, .ref apl, .int (nI n)])), (apl, .inl (cZ, 32, .inl (wz_bb pb)))] sz)) 0 0 (va_A [(aO, .inr (2, [.ref aki, .ref afi, .ref ase, .ref apl, .int (nI n)])), (apl, .inl (cZ, 32, .inl (wz_bb pb)))] sz) := by
  refine Met.ofW (cc := cFo_partsArePlain) (maxL := 4) (ret := (some .boolean)) (by decide) rfl ?_
  intro p e s m args below meth c s₁ B hml hv
  obtain ⟨rfl, hsz, hP, hK, hD0, hN⟩ := hv
  have hx := B.exec
  have hb := B.bytes
  have hr := B.returns
  have hts := atoms_spec (ws := (.code yFo_partsArePlain cFo_partsArePlain 4 (some .boolean) :: wz_all)) B.pre
  have hw : ∀ w9 ∈ wz_all, w9.before [.ref aO, .int (nI k), .int y, .int z].toArray s = true := fun w9 h => hts w9 (List.mem_cons_of_mem _ h)
  have hown : s.vm.findClass RFo = some m.cls := findClass_of_methodNamed B.named
  have hlocks := B.notSynchronized
  subst hsz
  have hD := hD0.self (sz := s.heap.size)
  generalize hAe : va_A [(aO, .inr (2, [.ref aki, .ref afi, .ref ase, .ref apl, .int (nI n)])), (apl, .inl (cZ, 32, .inl (wz_bb pb)))] s.heap.size = A at hD ⊢
  have hA : ∀ q : Nat, s.heap.size ≤ q → A q := fun q h => by rw [← hAe]; exact Or.inr h
  have hS : va_S A s.heap s.heap [] := va_S.rf
  have hP : va_P (dC, dI) vwCl [(aO, .inr (2, [.ref aki, .ref afi, .ref ase, .ref apl, .int (nI n)])), (apl, .inl (cZ, 32, .inl (wz_bb pb)))] s.heap := hP
  have hl := lv_entry ([.ref aO, .int (nI k), .int y, .int z]) (n := 4) (Nat.le_of_ble_eq_true rfl)
  rw [lg_entry_eq]
  generalize (lg_sl ([.ref aO, .int (nI k), .int y, .int z]) ++ List.replicate (4 - (lg_sl ([.ref aO, .int (nI k), .int y, .int z])).length) Slot.unset).toArray = ls at hl ⊢
  have hl : lv_has ls 4 [(0, .ref aO), (1, .int (nI k)), (2, .int y), (3, .int z)] := hl
  refine lv_iload_n hx hb dFo_partsArePlain_0 rfl (lv_at hl 1 rfl) ?_
  rcases (ww_k13 hk) with h1_1 | h1_1 | h1_1 | h1_1 | h1_1 | h1_1 | h1_1 | h1_1 | h1_1 | h1_1 | h1_1 | h1_1 | h1_1
  · skip
    refine W.eq (g2 := F0 m 1 ls [.int (nI 0)]) (by rw [h1_1]) ?_
    refine lv_tableIn (off := 35) (tgt := 36) hx hb dFo_partsArePlain_1 (by decide) (by decide) (by decide) (by decide) ?_
    refine lv_iconst (v := nI 1) hx hb dFo_partsArePlain_36 (by decide) ?_
    exact wz_zret (b := true) hx hb hr hlocks (by rw [h1_1]; first | rfl | (simp [ww_pp, hk, hy, hz, h1_1])) hP hD hK hS dFo_partsArePlain_37
  · skip
    refine W.eq (g2 := F0 m 1 ls [.int (nI 1)]) (by rw [h1_1]) ?_
    refine lv_tableIn (off := 35) (tgt := 36) hx hb dFo_partsArePlain_1 (by decide) (by decide) (by decide) (by decide) ?_
    refine lv_iconst (v := nI 1) hx hb dFo_partsArePlain_36 (by decide) ?_
    exact wz_zret (b := true) hx hb hr hlocks (by rw [h1_1]; first | rfl | (simp [ww_pp, hk, hy, hz, h1_1])) hP hD hK hS dFo_partsArePlain_37
  · skip
    refine W.eq (g2 := F0 m 1 ls [.int (nI 2)]) (by rw [h1_1]) ?_
    refine lv_tableIn (off := 37) (tgt := 38) hx hb dFo_partsArePlain_1 (by decide) (by decide) (by decide) (by decide) ?_
    refine lv_aload_n hx hb dFo_partsArePlain_38 rfl (lv_at hl 0 rfl) ?_
    refine va_get (D := (dC, dI)) (ci := 2) (v := .ref apl) (C := RFo) (T := TFo) (N := 5) hx hb hw in_Fo hown hK hP 0 rfl rfl 3 (by decide) (hw _ w_95) (fun _ h9 => h9) rfl dFo_partsArePlain_39 ?_
    refine lv_iload_n hx hb dFo_partsArePlain_42 rfl (lv_at hl 2 rfl) ?_
    obtain ⟨rfl, hfj⟩ := hy (by omega)
    refine wz_aldB hx hb hK hP 1 2 rfl rfl (i := fj) (by omega) (by decide) dFo_partsArePlain_43 ?_
    exact wz_zret (b := pb fj) hx hb hr hlocks (by rw [h1_1]; first | rfl | (simp [ww_pp, hk, hy, hz, h1_1])) hP hD hK hS dFo_partsArePlain_44
  · skip
    refine W.eq (g2 := F0 m 1 ls [.int (nI 3)]) (by rw [h1_1]) ?_
    refine lv_tableIn (off := 44) (tgt := 45) hx hb dFo_partsArePlain_1 (by decide) (by decide) (by decide) (by decide) ?_
    refine lv_aload_n hx hb dFo_partsArePlain_45 rfl (lv_at hl 0 rfl) ?_
    refine va_get (D := (dC, dI)) (ci := 2) (v := .ref apl) (C := RFo) (T := TFo) (N := 5) hx hb hw in_Fo hown hK hP 0 rfl rfl 3 (by decide) (hw _ w_95) (fun _ h9 => h9) rfl dFo_partsArePlain_46 ?_
    refine lv_iload_n hx hb dFo_partsArePlain_49 rfl (lv_at hl 2 rfl) ?_
    obtain ⟨rfl, hfj⟩ := hy (by omega)
    refine wz_aldB hx hb hK hP 1 2 rfl rfl (i := fj) (by omega) (by decide) dFo_partsArePlain_50 ?_
    refine wz_ifz (tgt := 67) hx hb dFo_partsArePlain_51 (by decide) (fun h51_2 => ?_) (fun h51_2 => ?_)
    · skip
      refine lv_iconst (v := nI 0) hx hb dFo_partsArePlain_67 (by decide) ?_
      exact wz_zret (b := false) hx hb hr hlocks (by rw [h1_1]; first | rfl | (simp [ww_pp, hk, hy, hz, h1_1, h51_2])) hP hD hK hS dFo_partsArePlain_68
    · skip
      refine lv_aload_n hx hb dFo_partsArePlain_54 rfl (lv_at hl 0 rfl) ?_
      refine va_get (D := (dC, dI)) (ci := 2) (v := .ref apl) (C := RFo) (T := TFo) (N := 5) hx hb hw in_Fo hown hK hP 0 rfl rfl 3 (by decide) (hw _ w_95) (fun _ h9 => h9) rfl dFo_partsArePlain_55 ?_
      refine lv_iload_n hx hb dFo_partsArePlain_58 rfl (lv_at hl 3 rfl) ?_
      obtain ⟨rfl, hgj⟩ := hz (by rw [h1_1]; rfl)
      refine wz_aldB hx hb hK hP 1 2 rfl rfl (i := gj) (by omega) (by decide) dFo_partsArePlain_59 ?_
      refine wz_ifz (tgt := 67) hx hb dFo_partsArePlain_60 (by decide) (fun h60_3 => ?_) (fun h60_3 => ?_)
      · skip
        refine lv_iconst (v := nI 0) hx hb dFo_partsArePlain_67 (by decide) ?_
        exact wz_zret (b := false) hx hb hr hlocks (by rw [h1_1]; first | rfl | (simp [ww_pp, hk, hy, hz, h1_1, h51_2, h60_3])) hP hD hK hS dFo_partsArePlain_68
      · skip
        refine lv_iconst (v := nI 1) hx hb dFo_partsArePlain_63 (by decide) ?_
        refine lv_goto (tgt := 68) hx hb dFo_partsArePlain_64 (by decide) ?_
        exact wz_zret (b := true) hx hb hr hlocks (by rw [h1_1]; first | rfl | (simp [ww_pp, hk, hy, hz, h1_1, h51_2, h60_3])) hP hD hK hS dFo_partsArePlain_68
  · skip
    refine W.eq (g2 := F0 m 1 ls [.int (nI 4)]) (by rw [h1_1]) ?_
    refine lv_tableIn (off := 44) (tgt := 45) hx hb dFo_partsArePlain_1 (by decide) (by decide) (by decide) (by decide) ?_
    refine lv_aload_n hx hb dFo_partsArePlain_45 rfl (lv_at hl 0 rfl) ?_
    refine va_get (D := (dC, dI)) (ci := 2) (v := .ref apl) (C := RFo) (T := TFo) (N := 5) hx hb hw in_Fo hown hK hP 0 rfl rfl 3 (by decide) (hw _ w_95) (fun _ h9 => h9) rfl dFo_partsArePlain_46 ?_
    refine lv_iload_n hx hb dFo_partsArePlain_49 rfl (lv_at hl 2 rfl) ?_
    obtain ⟨rfl, hfj⟩ := hy (by omega)
    refine wz_aldB hx hb hK hP 1 2 rfl rfl (i := fj) (by omega) (by decide) dFo_partsArePlain_50 ?_
    refine wz_ifz (tgt := 67) hx hb dFo_partsArePlain_51 (by decide) (fun h51_4 => ?_) (fun h51_4 => ?_)
    · skip
      refine lv_iconst (v := nI 0) hx hb dFo_partsArePlain_67 (by decide) ?_
      exact wz_zret (b := false) hx hb hr hlocks (by rw [h1_1]; first | rfl | (simp [ww_pp, hk, hy, hz, h1_1, h51_4])) hP hD hK hS dFo_partsArePlain_68
    · skip
      refine lv_aload_n hx hb dFo_partsArePlain_54 rfl (lv_at hl 0 rfl) ?_
      refine va_get (D := (dC, dI)) (ci := 2) (v := .ref apl) (C := RFo) (T := TFo) (N := 5) hx hb hw in_Fo hown hK hP 0 rfl rfl 3 (by decide) (hw _ w_95) (fun _ h9 => h9) rfl dFo_partsArePlain_55 ?_
      refine lv_iload_n hx hb dFo_partsArePlain_58 rfl (lv_at hl 3 rfl) ?_
      obtain ⟨rfl, hgj⟩ := hz (by rw [h1_1]; rfl)
      refine wz_aldB hx hb hK hP 1 2 rfl rfl (i := gj) (by omega) (by decide) dFo_partsArePlain_59 ?_
      refine wz_ifz (tgt := 67) hx hb dFo_partsArePlain_60 (by decide) (fun h60_5 => ?_) (fun h60_5 => ?_)
      · skip
        refine lv_iconst (v := nI 0) hx hb dFo_partsArePlain_67 (by decide) ?_
        exact wz_zret (b := false) hx hb hr hlocks (by rw [h1_1]; first | rfl | (simp [ww_pp, hk, hy, hz, h1_1, h51_4, h60_5])) hP hD hK hS dFo_partsArePlain_68
      · skip
        refine lv_iconst (v := nI 1) hx hb dFo_partsArePlain_63 (by decide) ?_
        refine lv_goto (tgt := 68) hx hb dFo_partsArePlain_64 (by decide) ?_
        exact wz_zret (b := true) hx hb hr hlocks (by rw [h1_1]; first | rfl | (simp [ww_pp, hk, hy, hz, h1_1, h51_4, h60_5])) hP hD hK hS dFo_partsArePlain_68
  · skip
    refine W.eq (g2 := F0 m 1 ls [.int (nI 5)]) (by rw [h1_1]) ?_
    refine lv_tableOut (tgt := 69) hx hb dFo_partsArePlain_1 (by decide) (by decide) ?_
    refine lv_iconst (v := nI 0) hx hb dFo_partsArePlain_69 (by decide) ?_
    exact wz_zret (b := false) hx hb hr hlocks (by rw [h1_1]; first | rfl | (simp [ww_pp, hk, hy, hz, h1_1])) hP hD hK hS dFo_partsArePlain_70
  · skip
    refine W.eq (g2 := F0 m 1 ls [.int (nI 6)]) (by rw [h1_1]) ?_
    refine lv_tableOut (tgt := 69) hx hb dFo_partsArePlain_1 (by decide) (by decide) ?_
    refine lv_iconst (v := nI 0) hx hb dFo_partsArePlain_69 (by decide) ?_
    exact wz_zret (b := false) hx hb hr hlocks (by rw [h1_1]; first | rfl | (simp [ww_pp, hk, hy, hz, h1_1])) hP hD hK hS dFo_partsArePlain_70
  · skip
    refine W.eq (g2 := F0 m 1 ls [.int (nI 7)]) (by rw [h1_1]) ?_
    refine lv_tableOut (tgt := 69) hx hb dFo_partsArePlain_1 (by decide) (by decide) ?_
    refine lv_iconst (v := nI 0) hx hb dFo_partsArePlain_69 (by decide) ?_
    exact wz_zret (b := false) hx hb hr hlocks (by rw [h1_1]; first | rfl | (simp [ww_pp, hk, hy, hz, h1_1])) hP hD hK hS dFo_partsArePlain_70
  · skip
    refine W.eq (g2 := F0 m 1 ls [.int (nI 8)]) (by rw [h1_1]) ?_
    refine lv_tableOut (tgt := 69) hx hb dFo_partsArePlain_1 (by decide) (by decide) ?_
    refine lv_iconst (v := nI 0) hx hb dFo_partsArePlain_69 (by decide) ?_
    exact wz_zret (b := false) hx hb hr hlocks (by rw [h1_1]; first | rfl | (simp [ww_pp, hk, hy, hz, h1_1])) hP hD hK hS dFo_partsArePlain_70
  · skip
    refine W.eq (g2 := F0 m 1 ls [.int (nI 9)]) (by rw [h1_1]) ?_
    refine lv_tableOut (tgt := 69) hx hb dFo_partsArePlain_1 (by decide) (by decide) ?_
    refine lv_iconst (v := nI 0) hx hb dFo_partsArePlain_69 (by decide) ?_
    exact wz_zret (b := false) hx hb hr hlocks (by rw [h1_1]; first | rfl | (simp [ww_pp, hk, hy, hz, h1_1])) hP hD hK hS dFo_partsArePlain_70
  · skip
    refine W.eq (g2 := F0 m 1 ls [.int (nI 10)]) (by rw [h1_1]) ?_
    refine lv_tableOut (tgt := 69) hx hb dFo_partsArePlain_1 (by decide) (by decide) ?_
    refine lv_iconst (v := nI 0) hx hb dFo_partsArePlain_69 (by decide) ?_
    exact wz_zret (b := false) hx hb hr hlocks (by rw [h1_1]; first | rfl | (simp [ww_pp, hk, hy, hz, h1_1])) hP hD hK hS dFo_partsArePlain_70
  · skip
    refine W.eq (g2 := F0 m 1 ls [.int (nI 11)]) (by rw [h1_1]) ?_
    refine lv_tableOut (tgt := 69) hx hb dFo_partsArePlain_1 (by decide) (by decide) ?_
    refine lv_iconst (v := nI 0) hx hb dFo_partsArePlain_69 (by decide) ?_
    exact wz_zret (b := false) hx hb hr hlocks (by rw [h1_1]; first | rfl | (simp [ww_pp, hk, hy, hz, h1_1])) hP hD hK hS dFo_partsArePlain_70
  · skip
    refine W.eq (g2 := F0 m 1 ls [.int (nI 12)]) (by rw [h1_1]) ?_
    refine lv_tableOut (tgt := 69) hx hb dFo_partsArePlain_1 (by decide) (by decide) ?_
    refine lv_iconst (v := nI 0) hx hb dFo_partsArePlain_69 (by decide) ?_
    exact wz_zret (b := false) hx hb hr hlocks (by rw [h1_1]; first | rfl | (simp [ww_pp, hk, hy, hz, h1_1])) hP hD hK hS dFo_partsArePlain_70
set_option maxHeartbeats 4000000 in
set_option maxRecDepth 100000 in
theorem kFo_add (l : Launch) (dC : Nat → ClassId) (dI : Nat → Nat → Nat) (cI cJ cZ : ClassId) (sz : Nat) (aO : Nat) (aki : Nat) (afi : Nat) (ase : Nat) (apl : Nat) (n : Nat) (kn : Nat → Nat) (fn : Nat → Nat) (sn : Nat → Nat) (pb : Nat → Bool) (k : Nat) (y : Int32) (z : Int32) (fj : Nat) (gj : Nat) (hk : k ≤ 12) (hn : n < 32) (hy : ¬ k = 1 → y = nI fj ∧ fj < 32) (hz : ww_h2 k = true → z = nI gj ∧ gj < 32) : Met l yFo_add (.code yFo_add cFo_add 5 (some .int) :: wz_all) ({ frames := 1, cells := 0, slots := 0, locals := 23 }) (wz_Pc (dC, dI) vwCl (wz_T cI cJ cZ) [.ref aO, .int (nI k), .int y, .int z] sz [(aO, .inr (2, [.ref aki, .ref afi, .ref ase, .ref apl, .int (nI n)])), (aki, .inl (cI, 32, .inl (wz_n kn))), (afi, .inl (cI, 32, .inl (wz_n fn))), (ase, .inl (cI, 32, .inl (wz_n sn))), (apl, .inl (cZ, 32, .inl (wz_bb pb)))]) (va_Qi (fun (r : Int32) (_ : Unit) => r = nI n) (fun _ t => va_P (dC, dI) vwCl [(aO, .inr (2, [.ref aki, .ref afi, .ref ase, .ref apl, .int (nI (n + 1))])), (aki, .inl (cI, 32, .inl (wz_n (wz_un kn n k)))), (afi, .inl (cI, 32, .inl (wz_n (wz_un fn n (if k = 1 then 0 else fj))))), (ase, .inl (cI, 32, .inl (wz_n (wz_un sn n (if ww_h2 k = true then gj else 0))))), (apl, .inl (cZ, 32, .inl (wz_bb (wz_ub pb n (ww_pp pb k fj gj)))))] t.heap ∧ va_K (dC, dI) vwCl (wz_T cI cJ cZ) t ∧ va_D (va_A [(aO, .inr (2, [.ref aki, .ref afi, .ref ase, .ref apl, .int (nI n)])), (aki, .inl (cI, 32, .inl (wz_n kn))), (afi, .inl (cI, 32, .inl (wz_n fn))), (ase, .inl (cI, 32, .inl (wz_n sn))), (apl, .inl (cZ, 32, .inl (wz_bb pb)))] sz) [(aO, .inr (2, [.ref aki, .ref afi, .ref ase, .ref apl, .int (nI (n + 1))])), (aki, .inl (cI, 32, .inl (wz_n (wz_un kn n k)))), (afi, .inl (cI, 32, .inl (wz_n (wz_un fn n (if k = 1 then 0 else fj))))), (ase, .inl (cI, 32, .inl (wz_n (wz_un sn n (if ww_h2 k = true then gj else 0))))), (apl, .inl (cZ, 32, .inl (wz_bb (wz_ub pb n (ww_pp pb k fj gj)))))]) (va_A [(aO, .inr (2, [.ref aki, .ref afi, .ref ase, .ref apl, .int (nI n)])), (aki, .inl (cI, 32, .inl (wz_n kn))), (afi, .inl (cI, 32, .inl (wz_n fn))), (ase, .inl (cI, 32, .inl (wz_n sn))), (apl, .inl (cZ, 32, .inl (wz_bb pb)))] sz)) 0 0 (va_A [(aO, .inr (2, [.ref aki, .ref afi, .ref ase, .ref apl, .int (nI n)])), (aki, .inl (cI, 32, .inl (wz_n kn))), (afi, .inl (cI, 32, .inl (wz_n fn))), (ase, .inl (cI, 32, .inl (wz_n sn))), (apl, .inl (cZ, 32, .inl (wz_bb pb)))] sz) := by
  refine Met.ofW (cc := cFo_add) (maxL := 5) (ret := (some .int)) (by decide) rfl ?_
  intro p e s m args below meth c s₁ B hml hv
  obtain ⟨rfl, hsz, hP, hK, hD0, hN⟩ := hv
  have hx := B.exec
  have hb := B.bytes
  have hr := B.returns
  have hts := atoms_spec (ws := (.code yFo_add cFo_add 5 (some .int) :: wz_all)) B.pre
  have hw : ∀ w9 ∈ wz_all, w9.before [.ref aO, .int (nI k), .int y, .int z].toArray s = true := fun w9 h => hts w9 (List.mem_cons_of_mem _ h)
  have hown : s.vm.findClass RFo = some m.cls := findClass_of_methodNamed B.named
  have hlocks := B.notSynchronized
  subst hsz
  have hD := hD0.self (sz := s.heap.size)
  generalize hAe : va_A [(aO, .inr (2, [.ref aki, .ref afi, .ref ase, .ref apl, .int (nI n)])), (aki, .inl (cI, 32, .inl (wz_n kn))), (afi, .inl (cI, 32, .inl (wz_n fn))), (ase, .inl (cI, 32, .inl (wz_n sn))), (apl, .inl (cZ, 32, .inl (wz_bb pb)))] s.heap.size = A at hD ⊢
  have hA : ∀ q : Nat, s.heap.size ≤ q → A q := fun q h => by rw [← hAe]; exact Or.inr h
  have hS : va_S A s.heap s.heap [] := va_S.rf
  have hP : va_P (dC, dI) vwCl [(aO, .inr (2, [.ref aki, .ref afi, .ref ase, .ref apl, .int (nI n)])), (aki, .inl (cI, 32, .inl (wz_n kn))), (afi, .inl (cI, 32, .inl (wz_n fn))), (ase, .inl (cI, 32, .inl (wz_n sn))), (apl, .inl (cZ, 32, .inl (wz_bb pb)))] s.heap := hP
  have hl := lv_entry ([.ref aO, .int (nI k), .int y, .int z]) (n := 5) (Nat.le_of_ble_eq_true rfl)
  rw [lg_entry_eq]
  generalize (lg_sl ([.ref aO, .int (nI k), .int y, .int z]) ++ List.replicate (5 - (lg_sl ([.ref aO, .int (nI k), .int y, .int z])).length) Slot.unset).toArray = ls at hl ⊢
  have hl : lv_has ls 5 [(0, .ref aO), (1, .int (nI k)), (2, .int y), (3, .int z)] := hl
  refine lv_aload_n hx hb dFo_add_0 rfl (lv_at hl 0 rfl) ?_
  refine va_get (D := (dC, dI)) (ci := 2) (v := .int (nI n)) (C := RFo) (T := TFo) (N := 5) hx hb hw in_Fo hown hK hP 0 rfl rfl 4 (by decide) (hw _ w_96) (fun _ h9 => h9) rfl dFo_add_1 ?_
  refine lv_istore (lv' := [(4, .int (nI n)), (0, .ref aO), (1, .int (nI k)), (2, .int y), (3, .int z)]) hx hb dFo_add_4 hl (by decide) rfl (fun ls hl => ?_)
  refine lv_aload_n hx hb dFo_add_6 rfl (lv_at hl 1 rfl) ?_
  refine va_get (D := (dC, dI)) (ci := 2) (v := .ref aki) (C := RFo) (T := TFo) (N := 5) hx hb hw in_Fo hown hK hP 0 rfl rfl 0 (by decide) (hw _ w_92) (fun _ h9 => h9) rfl dFo_add_7 ?_
  refine lv_iload hx hb dFo_add_10 (lv_at hl 0 rfl) ?_
  refine lv_iload_n hx hb dFo_add_12 rfl (lv_at hl 2 rfl) ?_
  refine wz_astN (ws' := [(aO, .inr (2, [.ref aki, .ref afi, .ref ase, .ref apl, .int (nI n)])), (aki, .inl (cI, 32, .inl (wz_n (wz_un kn n k)))), (afi, .inl (cI, 32, .inl (wz_n fn))), (ase, .inl (cI, 32, .inl (wz_n sn))), (apl, .inl (cZ, 32, .inl (wz_bb pb)))]) hx hb hK hP hD hS 1 0 rfl rfl (i := n) (by omega) (by decide) dFo_add_13 rfl (fun H locs hP hD hS => ?_)
  refine lv_aload_n hx hb dFo_add_14 rfl (lv_at hl 1 rfl) ?_
  refine va_get (D := (dC, dI)) (ci := 2) (v := .ref afi) (C := RFo) (T := TFo) (N := 5) hx hb hw in_Fo hown hK hP 0 rfl rfl 1 (by decide) (hw _ w_93) (fun _ h9 => h9) rfl dFo_add_15 ?_
  refine lv_iload hx hb dFo_add_18 (lv_at hl 0 rfl) ?_
  refine lv_iload_n hx hb dFo_add_20 rfl (lv_at hl 2 rfl) ?_
  refine lv_iconst (v := nI 1) hx hb dFo_add_21 (by decide) ?_
  refine wz_icmp_ne (x := k) (y := 1) (tgt := 29) hx hb (by omega) (by omega) dFo_add_22 (by decide) (fun h22_1 => ?_) (fun h22_1 => ?_)
  · skip
    obtain ⟨rfl, hfj⟩ := hy h22_1
    refine lv_iload_n hx hb dFo_add_29 rfl (lv_at hl 3 rfl) ?_
    refine wz_astN (ws' := [(aO, .inr (2, [.ref aki, .ref afi, .ref ase, .ref apl, .int (nI n)])), (aki, .inl (cI, 32, .inl (wz_n (wz_un kn n k)))), (afi, .inl (cI, 32, .inl (wz_n (wz_un fn n fj)))), (ase, .inl (cI, 32, .inl (wz_n sn))), (apl, .inl (cZ, 32, .inl (wz_bb pb)))]) hx hb hK hP hD hS 2 0 rfl rfl (i := n) (by omega) (by decide) dFo_add_30 rfl (fun H locs hP hD hS => ?_)
    refine lv_aload_n hx hb dFo_add_31 rfl (lv_at hl 1 rfl) ?_
    refine va_get (D := (dC, dI)) (ci := 2) (v := .ref ase) (C := RFo) (T := TFo) (N := 5) hx hb hw in_Fo hown hK hP 0 rfl rfl 2 (by decide) (hw _ w_94) (fun _ h9 => h9) rfl dFo_add_32 ?_
    refine lv_iload hx hb dFo_add_35 (lv_at hl 0 rfl) ?_
    refine lv_iload_n hx hb dFo_add_37 rfl (lv_at hl 2 rfl) ?_
    refine wz_calli (wc := []) (wr := [(aO, .inr (2, [.ref aki, .ref afi, .ref ase, .ref apl, .int (nI n)])), (aki, .inl (cI, 32, .inl (wz_n (wz_un kn n k)))), (afi, .inl (cI, 32, .inl (wz_n (wz_un fn n fj)))), (ase, .inl (cI, 32, .inl (wz_n sn))), (apl, .inl (cZ, 32, .inl (wz_bb pb)))]) (w1 := []) (ws' := [(aO, .inr (2, [.ref aki, .ref afi, .ref ase, .ref apl, .int (nI n)])), (aki, .inl (cI, 32, .inl (wz_n (wz_un kn n k)))), (afi, .inl (cI, 32, .inl (wz_n (wz_un fn n fj)))), (ase, .inl (cI, 32, .inl (wz_n sn))), (apl, .inl (cZ, 32, .inl (wz_bb pb)))]) hP hD hS hA [] [0, 1, 2, 3, 4] [0, 1, 2, 3, 4] rfl rfl (by decide) (by decide) (by decide) rfl rfl (va_runS (As := [.int (nI k)]) (rest := [.int (nI n), .ref ase]) ⟨hx, hb, hml, hown, hts⟩ (kFo_usesSecond l dC dI cI cJ cZ H.size k hk) (va_cwS 1 hts (wz_gS w_331 w_332 w_36 w_333) rfl rfl rfl (by decide +kernel) ⟨Nat.le_of_ble_eq_true rfl, Nat.le_of_ble_eq_true rfl⟩) (wz_preS hN hK hP hD [] (by decide) rfl rfl) rfl rfl hl.1 rfl (lv_room (Nat.le_of_ble_eq_true rfl)) dFo_add_38 ⟨Nat.le_refl _, Nat.le_refl _⟩) (fun H locs hP hD hS => ?_)
    refine wz_ifz (tgt := 48) hx hb dFo_add_41 (by decide) (fun h41_2 => ?_) (fun h41_2 => ?_)
    · skip
      refine lv_iconst (v := nI 0) hx hb dFo_add_48 (by decide) ?_
      refine wz_astN (ws' := [(aO, .inr (2, [.ref aki, .ref afi, .ref ase, .ref apl, .int (nI n)])), (aki, .inl (cI, 32, .inl (wz_n (wz_un kn n k)))), (afi, .inl (cI, 32, .inl (wz_n (wz_un fn n fj)))), (ase, .inl (cI, 32, .inl (wz_n (wz_un sn n 0)))), (apl, .inl (cZ, 32, .inl (wz_bb pb)))]) hx hb hK hP hD hS 3 0 rfl rfl (i := n) (by omega) (by decide) dFo_add_49 rfl (fun H locs hP hD hS => ?_)
      refine lv_aload_n hx hb dFo_add_50 rfl (lv_at hl 1 rfl) ?_
      refine va_get (D := (dC, dI)) (ci := 2) (v := .ref apl) (C := RFo) (T := TFo) (N := 5) hx hb hw in_Fo hown hK hP 0 rfl rfl 3 (by decide) (hw _ w_95) (fun _ h9 => h9) rfl dFo_add_51 ?_
      refine lv_iload hx hb dFo_add_54 (lv_at hl 0 rfl) ?_
      refine lv_aload_n hx hb dFo_add_56 rfl (lv_at hl 1 rfl) ?_
      refine lv_iload_n hx hb dFo_add_57 rfl (lv_at hl 2 rfl) ?_
      refine lv_iload_n hx hb dFo_add_58 rfl (lv_at hl 3 rfl) ?_
      refine lv_iload_n hx hb dFo_add_59 rfl (lv_at hl 4 rfl) ?_
      refine wz_calli (wc := [(aO, .inr (2, [.ref aki, .ref afi, .ref ase, .ref apl, .int (nI n)])), (apl, .inl (cZ, 32, .inl (wz_bb pb)))]) (wr := [(aki, .inl (cI, 32, .inl (wz_n (wz_un kn n k)))), (afi, .inl (cI, 32, .inl (wz_n (wz_un fn n fj)))), (ase, .inl (cI, 32, .inl (wz_n (wz_un sn n 0))))]) (w1 := [(aO, .inr (2, [.ref aki, .ref afi, .ref ase, .ref apl, .int (nI n)])), (apl, .inl (cZ, 32, .inl (wz_bb pb)))]) (ws' := [(aO, .inr (2, [.ref aki, .ref afi, .ref ase, .ref apl, .int (nI n)])), (aki, .inl (cI, 32, .inl (wz_n (wz_un kn n k)))), (afi, .inl (cI, 32, .inl (wz_n (wz_un fn n fj)))), (ase, .inl (cI, 32, .inl (wz_n (wz_un sn n 0)))), (apl, .inl (cZ, 32, .inl (wz_bb pb)))]) hP hD hS hA [0, 4] [1, 2, 3] [3, 0, 1, 2, 4] rfl rfl (by decide) (by decide) (by decide) rfl rfl (va_runV (As := [.int (nI k), .int (nI fj), .int z]) (rest := [.int (nI n), .ref apl]) ⟨hx, hb, hml, hown, hts⟩ (kFo_partsArePlain l dC dI cI cJ cZ H.size aO aki afi ase apl n pb k (nI fj) z fj gj hk (by first | exact fun q => hy (by omega) | exact fun _ => ⟨rfl, hfj⟩) (by first | exact hz | exact fun _ => ⟨rfl, hgj⟩)) (cwV 3 hts (wz_gV w_342 w_343 w_1 w_36 w_344) rfl rfl rfl (by decide +kernel) ⟨Nat.le_of_ble_eq_true rfl, Nat.le_of_ble_eq_true rfl⟩) (wz_preV (q := (RFo, TFo, 5)) (ci := 2) hN hK hP hD [0, 4] (by decide) rfl rfl 0 rfl rfl) rfl rfl hl.1 rfl (lv_room (Nat.le_of_ble_eq_true rfl)) dFo_add_60 ⟨Nat.le_refl _, Nat.le_refl _⟩) (fun H locs hP hD hS => ?_)
      refine wz_astB (ws' := [(aO, .inr (2, [.ref aki, .ref afi, .ref ase, .ref apl, .int (nI n)])), (aki, .inl (cI, 32, .inl (wz_n (wz_un kn n k)))), (afi, .inl (cI, 32, .inl (wz_n (wz_un fn n fj)))), (ase, .inl (cI, 32, .inl (wz_n (wz_un sn n 0)))), (apl, .inl (cZ, 32, .inl (wz_bb (wz_ub pb n (ww_pp pb k fj gj)))))]) hx hb hK hP hD hS 4 2 rfl rfl (i := n) (by omega) (by decide) dFo_add_63 rfl (fun H locs hP hD hS => ?_)
      refine lv_aload_n hx hb dFo_add_64 rfl (lv_at hl 1 rfl) ?_
      refine lv_dup hx hb dFo_add_65 rfl ?_
      refine va_get (D := (dC, dI)) (ci := 2) (v := .int (nI n)) (C := RFo) (T := TFo) (N := 5) hx hb hw in_Fo hown hK hP 0 rfl rfl 4 (by decide) (hw _ w_96) (fun _ h9 => h9) rfl dFo_add_66 ?_
      refine lv_iconst (v := nI 1) hx hb dFo_add_69 (by decide) ?_
      refine wz_iadd hx hb dFo_add_70 ?_
      refine va_put (D := (dC, dI)) (ci := 2) (v := .int (nI (n + 1))) (ty := .int) (C := RFo) (T := TFo) (N := 5) hx hb hw in_Fo tyFo tyFo_ok nmFo hown hK hP hD hS 0 rfl rfl 4 (by decide) (hw _ w_96) (fun _ h9 => h9) rfl (by decide +kernel) rfl rfl (Nat.le_of_ble_eq_true rfl) dFo_add_71 (fun H locs hP hD hS => ?_)
      have hP : va_P (dC, dI) vwCl [(aO, .inr (2, [.ref aki, .ref afi, .ref ase, .ref apl, .int (nI (n + 1))])), (aki, .inl (cI, 32, .inl (wz_n (wz_un kn n k)))), (afi, .inl (cI, 32, .inl (wz_n (wz_un fn n fj)))), (ase, .inl (cI, 32, .inl (wz_n (wz_un sn n 0)))), (apl, .inl (cZ, 32, .inl (wz_bb (wz_ub pb n (ww_pp pb k fj gj)))))] H := hP
      have hD : va_D A [(aO, .inr (2, [.ref aki, .ref afi, .ref ase, .ref apl, .int (nI (n + 1))])), (aki, .inl (cI, 32, .inl (wz_n (wz_un kn n k)))), (afi, .inl (cI, 32, .inl (wz_n (wz_un fn n fj)))), (ase, .inl (cI, 32, .inl (wz_n (wz_un sn n 0)))), (apl, .inl (cZ, 32, .inl (wz_bb (wz_ub pb n (ww_pp pb k fj gj)))))] := hD
      refine lv_iload hx hb dFo_add_74 (lv_at hl 0 rfl) ?_
      have e_fi : wz_n (wz_un fn n fj) = wz_n (wz_un fn n (if k = 1 then 0 else fj)) := (by simp [h22_1])
      rw [e_fi] at hP hD
      have e_se : wz_n (wz_un sn n 0) = wz_n (wz_un sn n (if ww_h2 k = true then gj else 0)) := (by simp [h41_2])
      rw [e_se] at hP hD
      exact wz_iret hx hb hr hlocks rfl hP hD hK hS dFo_add_76
    · skip
      obtain ⟨rfl, hgj⟩ := hz h41_2
      refine lv_iload_n hx hb dFo_add_44 rfl (lv_at hl 4 rfl) ?_
      refine lv_goto (tgt := 49) hx hb dFo_add_45 (by decide) ?_
      refine wz_astN (ws' := [(aO, .inr (2, [.ref aki, .ref afi, .ref ase, .ref apl, .int (nI n)])), (aki, .inl (cI, 32, .inl (wz_n (wz_un kn n k)))), (afi, .inl (cI, 32, .inl (wz_n (wz_un fn n fj)))), (ase, .inl (cI, 32, .inl (wz_n (wz_un sn n gj)))), (apl, .inl (cZ, 32, .inl (wz_bb pb)))]) hx hb hK hP hD hS 3 0 rfl rfl (i := n) (by omega) (by decide) dFo_add_49 rfl (fun H locs hP hD hS => ?_)
      refine lv_aload_n hx hb dFo_add_50 rfl (lv_at hl 1 rfl) ?_
      refine va_get (D := (dC, dI)) (ci := 2) (v := .ref apl) (C := RFo) (T := TFo) (N := 5) hx hb hw in_Fo hown hK hP 0 rfl rfl 3 (by decide) (hw _ w_95) (fun _ h9 => h9) rfl dFo_add_51 ?_
      refine lv_iload hx hb dFo_add_54 (lv_at hl 0 rfl) ?_
      refine lv_aload_n hx hb dFo_add_56 rfl (lv_at hl 1 rfl) ?_
      refine lv_iload_n hx hb dFo_add_57 rfl (lv_at hl 2 rfl) ?_
      refine lv_iload_n hx hb dFo_add_58 rfl (lv_at hl 3 rfl) ?_
      refine lv_iload_n hx hb dFo_add_59 rfl (lv_at hl 4 rfl) ?_
      refine wz_calli (wc := [(aO, .inr (2, [.ref aki, .ref afi, .ref ase, .ref apl, .int (nI n)])), (apl, .inl (cZ, 32, .inl (wz_bb pb)))]) (wr := [(aki, .inl (cI, 32, .inl (wz_n (wz_un kn n k)))), (afi, .inl (cI, 32, .inl (wz_n (wz_un fn n fj)))), (ase, .inl (cI, 32, .inl (wz_n (wz_un sn n gj))))]) (w1 := [(aO, .inr (2, [.ref aki, .ref afi, .ref ase, .ref apl, .int (nI n)])), (apl, .inl (cZ, 32, .inl (wz_bb pb)))]) (ws' := [(aO, .inr (2, [.ref aki, .ref afi, .ref ase, .ref apl, .int (nI n)])), (aki, .inl (cI, 32, .inl (wz_n (wz_un kn n k)))), (afi, .inl (cI, 32, .inl (wz_n (wz_un fn n fj)))), (ase, .inl (cI, 32, .inl (wz_n (wz_un sn n gj)))), (apl, .inl (cZ, 32, .inl (wz_bb pb)))]) hP hD hS hA [0, 4] [1, 2, 3] [3, 0, 1, 2, 4] rfl rfl (by decide) (by decide) (by decide) rfl rfl (va_runV (As := [.int (nI k), .int (nI fj), .int (nI gj)]) (rest := [.int (nI n), .ref apl]) ⟨hx, hb, hml, hown, hts⟩ (kFo_partsArePlain l dC dI cI cJ cZ H.size aO aki afi ase apl n pb k (nI fj) (nI gj) fj gj hk (by first | exact fun q => hy (by omega) | exact fun _ => ⟨rfl, hfj⟩) (by first | exact hz | exact fun _ => ⟨rfl, hgj⟩)) (cwV 3 hts (wz_gV w_342 w_343 w_1 w_36 w_344) rfl rfl rfl (by decide +kernel) ⟨Nat.le_of_ble_eq_true rfl, Nat.le_of_ble_eq_true rfl⟩) (wz_preV (q := (RFo, TFo, 5)) (ci := 2) hN hK hP hD [0, 4] (by decide) rfl rfl 0 rfl rfl) rfl rfl hl.1 rfl (lv_room (Nat.le_of_ble_eq_true rfl)) dFo_add_60 ⟨Nat.le_refl _, Nat.le_refl _⟩) (fun H locs hP hD hS => ?_)
      refine wz_astB (ws' := [(aO, .inr (2, [.ref aki, .ref afi, .ref ase, .ref apl, .int (nI n)])), (aki, .inl (cI, 32, .inl (wz_n (wz_un kn n k)))), (afi, .inl (cI, 32, .inl (wz_n (wz_un fn n fj)))), (ase, .inl (cI, 32, .inl (wz_n (wz_un sn n gj)))), (apl, .inl (cZ, 32, .inl (wz_bb (wz_ub pb n (ww_pp pb k fj gj)))))]) hx hb hK hP hD hS 4 2 rfl rfl (i := n) (by omega) (by decide) dFo_add_63 rfl (fun H locs hP hD hS => ?_)
      refine lv_aload_n hx hb dFo_add_64 rfl (lv_at hl 1 rfl) ?_
      refine lv_dup hx hb dFo_add_65 rfl ?_
      refine va_get (D := (dC, dI)) (ci := 2) (v := .int (nI n)) (C := RFo) (T := TFo) (N := 5) hx hb hw in_Fo hown hK hP 0 rfl rfl 4 (by decide) (hw _ w_96) (fun _ h9 => h9) rfl dFo_add_66 ?_
      refine lv_iconst (v := nI 1) hx hb dFo_add_69 (by decide) ?_
      refine wz_iadd hx hb dFo_add_70 ?_
      refine va_put (D := (dC, dI)) (ci := 2) (v := .int (nI (n + 1))) (ty := .int) (C := RFo) (T := TFo) (N := 5) hx hb hw in_Fo tyFo tyFo_ok nmFo hown hK hP hD hS 0 rfl rfl 4 (by decide) (hw _ w_96) (fun _ h9 => h9) rfl (by decide +kernel) rfl rfl (Nat.le_of_ble_eq_true rfl) dFo_add_71 (fun H locs hP hD hS => ?_)
      have hP : va_P (dC, dI) vwCl [(aO, .inr (2, [.ref aki, .ref afi, .ref ase, .ref apl, .int (nI (n + 1))])), (aki, .inl (cI, 32, .inl (wz_n (wz_un kn n k)))), (afi, .inl (cI, 32, .inl (wz_n (wz_un fn n fj)))), (ase, .inl (cI, 32, .inl (wz_n (wz_un sn n gj)))), (apl, .inl (cZ, 32, .inl (wz_bb (wz_ub pb n (ww_pp pb k fj gj)))))] H := hP
      have hD : va_D A [(aO, .inr (2, [.ref aki, .ref afi, .ref ase, .ref apl, .int (nI (n + 1))])), (aki, .inl (cI, 32, .inl (wz_n (wz_un kn n k)))), (afi, .inl (cI, 32, .inl (wz_n (wz_un fn n fj)))), (ase, .inl (cI, 32, .inl (wz_n (wz_un sn n gj)))), (apl, .inl (cZ, 32, .inl (wz_bb (wz_ub pb n (ww_pp pb k fj gj)))))] := hD
      refine lv_iload hx hb dFo_add_74 (lv_at hl 0 rfl) ?_
      have e_fi : wz_n (wz_un fn n fj) = wz_n (wz_un fn n (if k = 1 then 0 else fj)) := (by simp [h22_1])
      rw [e_fi] at hP hD
      have e_se : wz_n (wz_un sn n gj) = wz_n (wz_un sn n (if ww_h2 k = true then gj else 0)) := (by simp [h41_2])
      rw [e_se] at hP hD
      exact wz_iret hx hb hr hlocks rfl hP hD hK hS dFo_add_76
  · skip
    refine lv_iconst (v := nI 0) hx hb dFo_add_25 (by decide) ?_
    refine lv_goto (tgt := 30) hx hb dFo_add_26 (by decide) ?_
    refine wz_astN (ws' := [(aO, .inr (2, [.ref aki, .ref afi, .ref ase, .ref apl, .int (nI n)])), (aki, .inl (cI, 32, .inl (wz_n (wz_un kn n k)))), (afi, .inl (cI, 32, .inl (wz_n (wz_un fn n 0)))), (ase, .inl (cI, 32, .inl (wz_n sn))), (apl, .inl (cZ, 32, .inl (wz_bb pb)))]) hx hb hK hP hD hS 2 0 rfl rfl (i := n) (by omega) (by decide) dFo_add_30 rfl (fun H locs hP hD hS => ?_)
    refine lv_aload_n hx hb dFo_add_31 rfl (lv_at hl 1 rfl) ?_
    refine va_get (D := (dC, dI)) (ci := 2) (v := .ref ase) (C := RFo) (T := TFo) (N := 5) hx hb hw in_Fo hown hK hP 0 rfl rfl 2 (by decide) (hw _ w_94) (fun _ h9 => h9) rfl dFo_add_32 ?_
    refine lv_iload hx hb dFo_add_35 (lv_at hl 0 rfl) ?_
    refine lv_iload_n hx hb dFo_add_37 rfl (lv_at hl 2 rfl) ?_
    refine wz_calli (wc := []) (wr := [(aO, .inr (2, [.ref aki, .ref afi, .ref ase, .ref apl, .int (nI n)])), (aki, .inl (cI, 32, .inl (wz_n (wz_un kn n k)))), (afi, .inl (cI, 32, .inl (wz_n (wz_un fn n 0)))), (ase, .inl (cI, 32, .inl (wz_n sn))), (apl, .inl (cZ, 32, .inl (wz_bb pb)))]) (w1 := []) (ws' := [(aO, .inr (2, [.ref aki, .ref afi, .ref ase, .ref apl, .int (nI n)])), (aki, .inl (cI, 32, .inl (wz_n (wz_un kn n k)))), (afi, .inl (cI, 32, .inl (wz_n (wz_un fn n 0)))), (ase, .inl (cI, 32, .inl (wz_n sn))), (apl, .inl (cZ, 32, .inl (wz_bb pb)))]) hP hD hS hA [] [0, 1, 2, 3, 4] [0, 1, 2, 3, 4] rfl rfl (by decide) (by decide) (by decide) rfl rfl (va_runS (As := [.int (nI k)]) (rest := [.int (nI n), .ref ase]) ⟨hx, hb, hml, hown, hts⟩ (kFo_usesSecond l dC dI cI cJ cZ H.size k hk) (va_cwS 1 hts (wz_gS w_331 w_332 w_36 w_333) rfl rfl rfl (by decide +kernel) ⟨Nat.le_of_ble_eq_true rfl, Nat.le_of_ble_eq_true rfl⟩) (wz_preS hN hK hP hD [] (by decide) rfl rfl) rfl rfl hl.1 rfl (lv_room (Nat.le_of_ble_eq_true rfl)) dFo_add_38 ⟨Nat.le_refl _, Nat.le_refl _⟩) (fun H locs hP hD hS => ?_)
    refine wz_ifz (tgt := 48) hx hb dFo_add_41 (by decide) (fun h41_3 => ?_) (fun h41_3 => ?_)
    · skip
      refine lv_iconst (v := nI 0) hx hb dFo_add_48 (by decide) ?_
      refine wz_astN (ws' := [(aO, .inr (2, [.ref aki, .ref afi, .ref ase, .ref apl, .int (nI n)])), (aki, .inl (cI, 32, .inl (wz_n (wz_un kn n k)))), (afi, .inl (cI, 32, .inl (wz_n (wz_un fn n 0)))), (ase, .inl (cI, 32, .inl (wz_n (wz_un sn n 0)))), (apl, .inl (cZ, 32, .inl (wz_bb pb)))]) hx hb hK hP hD hS 3 0 rfl rfl (i := n) (by omega) (by decide) dFo_add_49 rfl (fun H locs hP hD hS => ?_)
      refine lv_aload_n hx hb dFo_add_50 rfl (lv_at hl 1 rfl) ?_
      refine va_get (D := (dC, dI)) (ci := 2) (v := .ref apl) (C := RFo) (T := TFo) (N := 5) hx hb hw in_Fo hown hK hP 0 rfl rfl 3 (by decide) (hw _ w_95) (fun _ h9 => h9) rfl dFo_add_51 ?_
      refine lv_iload hx hb dFo_add_54 (lv_at hl 0 rfl) ?_
      refine lv_aload_n hx hb dFo_add_56 rfl (lv_at hl 1 rfl) ?_
      refine lv_iload_n hx hb dFo_add_57 rfl (lv_at hl 2 rfl) ?_
      refine lv_iload_n hx hb dFo_add_58 rfl (lv_at hl 3 rfl) ?_
      refine lv_iload_n hx hb dFo_add_59 rfl (lv_at hl 4 rfl) ?_
      refine wz_calli (wc := [(aO, .inr (2, [.ref aki, .ref afi, .ref ase, .ref apl, .int (nI n)])), (apl, .inl (cZ, 32, .inl (wz_bb pb)))]) (wr := [(aki, .inl (cI, 32, .inl (wz_n (wz_un kn n k)))), (afi, .inl (cI, 32, .inl (wz_n (wz_un fn n 0)))), (ase, .inl (cI, 32, .inl (wz_n (wz_un sn n 0))))]) (w1 := [(aO, .inr (2, [.ref aki, .ref afi, .ref ase, .ref apl, .int (nI n)])), (apl, .inl (cZ, 32, .inl (wz_bb pb)))]) (ws' := [(aO, .inr (2, [.ref aki, .ref afi, .ref ase, .ref apl, .int (nI n)])), (aki, .inl (cI, 32, .inl (wz_n (wz_un kn n k)))), (afi, .inl (cI, 32, .inl (wz_n (wz_un fn n 0)))), (ase, .inl (cI, 32, .inl (wz_n (wz_un sn n 0)))), (apl, .inl (cZ, 32, .inl (wz_bb pb)))]) hP hD hS hA [0, 4] [1, 2, 3] [3, 0, 1, 2, 4] rfl rfl (by decide) (by decide) (by decide) rfl rfl (va_runV (As := [.int (nI k), .int y, .int z]) (rest := [.int (nI n), .ref apl]) ⟨hx, hb, hml, hown, hts⟩ (kFo_partsArePlain l dC dI cI cJ cZ H.size aO aki afi ase apl n pb k y z fj gj hk (by first | exact fun q => hy (by omega) | exact fun _ => ⟨rfl, hfj⟩) (by first | exact hz | exact fun _ => ⟨rfl, hgj⟩)) (cwV 3 hts (wz_gV w_342 w_343 w_1 w_36 w_344) rfl rfl rfl (by decide +kernel) ⟨Nat.le_of_ble_eq_true rfl, Nat.le_of_ble_eq_true rfl⟩) (wz_preV (q := (RFo, TFo, 5)) (ci := 2) hN hK hP hD [0, 4] (by decide) rfl rfl 0 rfl rfl) rfl rfl hl.1 rfl (lv_room (Nat.le_of_ble_eq_true rfl)) dFo_add_60 ⟨Nat.le_refl _, Nat.le_refl _⟩) (fun H locs hP hD hS => ?_)
      refine wz_astB (ws' := [(aO, .inr (2, [.ref aki, .ref afi, .ref ase, .ref apl, .int (nI n)])), (aki, .inl (cI, 32, .inl (wz_n (wz_un kn n k)))), (afi, .inl (cI, 32, .inl (wz_n (wz_un fn n 0)))), (ase, .inl (cI, 32, .inl (wz_n (wz_un sn n 0)))), (apl, .inl (cZ, 32, .inl (wz_bb (wz_ub pb n (ww_pp pb k fj gj)))))]) hx hb hK hP hD hS 4 2 rfl rfl (i := n) (by omega) (by decide) dFo_add_63 rfl (fun H locs hP hD hS => ?_)
      refine lv_aload_n hx hb dFo_add_64 rfl (lv_at hl 1 rfl) ?_
      refine lv_dup hx hb dFo_add_65 rfl ?_
      refine va_get (D := (dC, dI)) (ci := 2) (v := .int (nI n)) (C := RFo) (T := TFo) (N := 5) hx hb hw in_Fo hown hK hP 0 rfl rfl 4 (by decide) (hw _ w_96) (fun _ h9 => h9) rfl dFo_add_66 ?_
      refine lv_iconst (v := nI 1) hx hb dFo_add_69 (by decide) ?_
      refine wz_iadd hx hb dFo_add_70 ?_
      refine va_put (D := (dC, dI)) (ci := 2) (v := .int (nI (n + 1))) (ty := .int) (C := RFo) (T := TFo) (N := 5) hx hb hw in_Fo tyFo tyFo_ok nmFo hown hK hP hD hS 0 rfl rfl 4 (by decide) (hw _ w_96) (fun _ h9 => h9) rfl (by decide +kernel) rfl rfl (Nat.le_of_ble_eq_true rfl) dFo_add_71 (fun H locs hP hD hS => ?_)
      have hP : va_P (dC, dI) vwCl [(aO, .inr (2, [.ref aki, .ref afi, .ref ase, .ref apl, .int (nI (n + 1))])), (aki, .inl (cI, 32, .inl (wz_n (wz_un kn n k)))), (afi, .inl (cI, 32, .inl (wz_n (wz_un fn n 0)))), (ase, .inl (cI, 32, .inl (wz_n (wz_un sn n 0)))), (apl, .inl (cZ, 32, .inl (wz_bb (wz_ub pb n (ww_pp pb k fj gj)))))] H := hP
      have hD : va_D A [(aO, .inr (2, [.ref aki, .ref afi, .ref ase, .ref apl, .int (nI (n + 1))])), (aki, .inl (cI, 32, .inl (wz_n (wz_un kn n k)))), (afi, .inl (cI, 32, .inl (wz_n (wz_un fn n 0)))), (ase, .inl (cI, 32, .inl (wz_n (wz_un sn n 0)))), (apl, .inl (cZ, 32, .inl (wz_bb (wz_ub pb n (ww_pp pb k fj gj)))))] := hD
      refine lv_iload hx hb dFo_add_74 (lv_at hl 0 rfl) ?_
      have e_fi : wz_n (wz_un fn n 0) = wz_n (wz_un fn n (if k = 1 then 0 else fj)) := (by simp [h22_1])
      rw [e_fi] at hP hD
      have e_se : wz_n (wz_un sn n 0) = wz_n (wz_un sn n (if ww_h2 k = true then gj else 0)) := (by simp [h41_3])
      rw [e_se] at hP hD
      exact wz_iret hx hb hr hlocks rfl hP hD hK hS dFo_add_76
    · skip
      obtain ⟨rfl, hgj⟩ := hz h41_3
      refine lv_iload_n hx hb dFo_add_44 rfl (lv_at hl 4 rfl) ?_
      refine lv_goto (tgt := 49) hx hb dFo_add_45 (by decide) ?_
      refine wz_astN (ws' := [(aO, .inr (2, [.ref aki, .ref afi, .ref ase, .ref apl, .int (nI n)])), (aki, .inl (cI, 32, .inl (wz_n (wz_un kn n k)))), (afi, .inl (cI, 32, .inl (wz_n (wz_un fn n 0)))), (ase, .inl (cI, 32, .inl (wz_n (wz_un sn n gj)))), (apl, .inl (cZ, 32, .inl (wz_bb pb)))]) hx hb hK hP hD hS 3 0 rfl rfl (i := n) (by omega) (by decide) dFo_add_49 rfl (fun H locs hP hD hS => ?_)
      refine lv_aload_n hx hb dFo_add_50 rfl (lv_at hl 1 rfl) ?_
      refine va_get (D := (dC, dI)) (ci := 2) (v := .ref apl) (C := RFo) (T := TFo) (N := 5) hx hb hw in_Fo hown hK hP 0 rfl rfl 3 (by decide) (hw _ w_95) (fun _ h9 => h9) rfl dFo_add_51 ?_
      refine lv_iload hx hb dFo_add_54 (lv_at hl 0 rfl) ?_
      refine lv_aload_n hx hb dFo_add_56 rfl (lv_at hl 1 rfl) ?_
      refine lv_iload_n hx hb dFo_add_57 rfl (lv_at hl 2 rfl) ?_
      refine lv_iload_n hx hb dFo_add_58 rfl (lv_at hl 3 rfl) ?_
      refine lv_iload_n hx hb dFo_add_59 rfl (lv_at hl 4 rfl) ?_
      refine wz_calli (wc := [(aO, .inr (2, [.ref aki, .ref afi, .ref ase, .ref apl, .int (nI n)])), (apl, .inl (cZ, 32, .inl (wz_bb pb)))]) (wr := [(aki, .inl (cI, 32, .inl (wz_n (wz_un kn n k)))), (afi, .inl (cI, 32, .inl (wz_n (wz_un fn n 0)))), (ase, .inl (cI, 32, .inl (wz_n (wz_un sn n gj))))]) (w1 := [(aO, .inr (2, [.ref aki, .ref afi, .ref ase, .ref apl, .int (nI n)])), (apl, .inl (cZ, 32, .inl (wz_bb pb)))]) (ws' := [(aO, .inr (2, [.ref aki, .ref afi, .ref ase, .ref apl, .int (nI n)])), (aki, .inl (cI, 32, .inl (wz_n (wz_un kn n k)))), (afi, .inl (cI, 32, .inl (wz_n (wz_un fn n 0)))), (ase, .inl (cI, 32, .inl (wz_n (wz_un sn n gj)))), (apl, .inl (cZ, 32, .inl (wz_bb pb)))]) hP hD hS hA [0, 4] [1, 2, 3] [3, 0, 1, 2, 4] rfl rfl (by decide) (by decide) (by decide) rfl rfl (va_runV (As := [.int (nI k), .int y, .int (nI gj)]) (rest := [.int (nI n), .ref apl]) ⟨hx, hb, hml, hown, hts⟩ (kFo_partsArePlain l dC dI cI cJ cZ H.size aO aki afi ase apl n pb k y (nI gj) fj gj hk (by first | exact fun q => hy (by omega) | exact fun _ => ⟨rfl, hfj⟩) (by first | exact hz | exact fun _ => ⟨rfl, hgj⟩)) (cwV 3 hts (wz_gV w_342 w_343 w_1 w_36 w_344) rfl rfl rfl (by decide +kernel) ⟨Nat.le_of_ble_eq_true rfl, Nat.le_of_ble_eq_true rfl⟩) (wz_preV (q := (RFo, TFo, 5)) (ci := 2) hN hK hP hD [0, 4] (by decide) rfl rfl 0 rfl rfl) rfl rfl hl.1 rfl (lv_room (Nat.le_of_ble_eq_true rfl)) dFo_add_60 ⟨Nat.le_refl _, Nat.le_refl _⟩) (fun H locs hP hD hS => ?_)
      refine wz_astB (ws' := [(aO, .inr (2, [.ref aki, .ref afi, .ref ase, .ref apl, .int (nI n)])), (aki, .inl (cI, 32, .inl (wz_n (wz_un kn n k)))), (afi, .inl (cI, 32, .inl (wz_n (wz_un fn n 0)))), (ase, .inl (cI, 32, .inl (wz_n (wz_un sn n gj)))), (apl, .inl (cZ, 32, .inl (wz_bb (wz_ub pb n (ww_pp pb k fj gj)))))]) hx hb hK hP hD hS 4 2 rfl rfl (i := n) (by omega) (by decide) dFo_add_63 rfl (fun H locs hP hD hS => ?_)
      refine lv_aload_n hx hb dFo_add_64 rfl (lv_at hl 1 rfl) ?_
      refine lv_dup hx hb dFo_add_65 rfl ?_
      refine va_get (D := (dC, dI)) (ci := 2) (v := .int (nI n)) (C := RFo) (T := TFo) (N := 5) hx hb hw in_Fo hown hK hP 0 rfl rfl 4 (by decide) (hw _ w_96) (fun _ h9 => h9) rfl dFo_add_66 ?_
      refine lv_iconst (v := nI 1) hx hb dFo_add_69 (by decide) ?_
      refine wz_iadd hx hb dFo_add_70 ?_
      refine va_put (D := (dC, dI)) (ci := 2) (v := .int (nI (n + 1))) (ty := .int) (C := RFo) (T := TFo) (N := 5) hx hb hw in_Fo tyFo tyFo_ok nmFo hown hK hP hD hS 0 rfl rfl 4 (by decide) (hw _ w_96) (fun _ h9 => h9) rfl (by decide +kernel) rfl rfl (Nat.le_of_ble_eq_true rfl) dFo_add_71 (fun H locs hP hD hS => ?_)
      have hP : va_P (dC, dI) vwCl [(aO, .inr (2, [.ref aki, .ref afi, .ref ase, .ref apl, .int (nI (n + 1))])), (aki, .inl (cI, 32, .inl (wz_n (wz_un kn n k)))), (afi, .inl (cI, 32, .inl (wz_n (wz_un fn n 0)))), (ase, .inl (cI, 32, .inl (wz_n (wz_un sn n gj)))), (apl, .inl (cZ, 32, .inl (wz_bb (wz_ub pb n (ww_pp pb k fj gj)))))] H := hP
      have hD : va_D A [(aO, .inr (2, [.ref aki, .ref afi, .ref ase, .ref apl, .int (nI (n + 1))])), (aki, .inl (cI, 32, .inl (wz_n (wz_un kn n k)))), (afi, .inl (cI, 32, .inl (wz_n (wz_un fn n 0)))), (ase, .inl (cI, 32, .inl (wz_n (wz_un sn n gj)))), (apl, .inl (cZ, 32, .inl (wz_bb (wz_ub pb n (ww_pp pb k fj gj)))))] := hD
      refine lv_iload hx hb dFo_add_74 (lv_at hl 0 rfl) ?_
      have e_fi : wz_n (wz_un fn n 0) = wz_n (wz_un fn n (if k = 1 then 0 else fj)) := (by simp [h22_1])
      rw [e_fi] at hP hD
      have e_se : wz_n (wz_un sn n gj) = wz_n (wz_un sn n (if ww_h2 k = true then gj else 0)) := (by simp [h41_3])
      rw [e_se] at hP hD
      exact wz_iret hx hb hr hlocks rfl hP hD hK hS dFo_add_76
set_option maxHeartbeats 4000000 in
set_option maxRecDepth 100000 in
theorem kFo_isPlain (l : Launch) (dC : Nat → ClassId) (dI : Nat → Nat → Nat) (cI cJ cZ : ClassId) (sz : Nat) (aO : Nat) (aki : Nat) (afi : Nat) (ase : Nat) (apl : Nat) (n : Nat) (pb : Nat → Bool) (i : Nat) (hi32 : i < 32) : Met l yFo_isPlain (.code yFo_isPlain cFo_isPlain 2 (some .boolean) :: wz_all) ({ frames := 0, cells := 0, slots := 0, locals := 0 }) (wz_Pc (dC, dI) vwCl (wz_T cI cJ cZ) [.ref aO, .int (nI i)] sz [(aO, .inr (2, [.ref aki, .ref afi, .ref ase, .ref apl, .int (nI n)])), (apl, .inl (cZ, 32, .inl (wz_bb pb)))]) (va_Qi (fun (r : Int32) (_ : Unit) => r = wz_i (pb i)) (fun _ t => va_P (dC, dI) vwCl [(aO, .inr (2, [.ref aki, .ref afi, .ref ase, .ref apl, .int (nI n)])), (apl, .inl (cZ, 32, .inl (wz_bb pb)))] t.heap ∧ va_K (dC, dI) vwCl (wz_T cI cJ cZ) t ∧ va_D (va_A [(aO, .inr (2, [.ref aki, .ref afi, .ref ase, .ref apl, .int (nI n)])), (apl, .inl (cZ, 32, .inl (wz_bb pb)))] sz) [(aO, .inr (2, [.ref aki, .ref afi, .ref ase, .ref apl, .int (nI n)])), (apl, .inl (cZ, 32, .inl (wz_bb pb)))]) (va_A [(aO, .inr (2, [.ref aki, .ref afi, .ref ase, .ref apl, .int (nI n)])), (apl, .inl (cZ, 32, .inl (wz_bb pb)))] sz)) 0 0 (va_A [(aO, .inr (2, [.ref aki, .ref afi, .ref ase, .ref apl, .int (nI n)])), (apl, .inl (cZ, 32, .inl (wz_bb pb)))] sz) := by
  refine Met.ofW (cc := cFo_isPlain) (maxL := 2) (ret := (some .boolean)) (by decide) rfl ?_
  intro p e s m args below meth c s₁ B hml hv
  obtain ⟨rfl, hsz, hP, hK, hD0, hN⟩ := hv
  have hx := B.exec
  have hb := B.bytes
  have hr := B.returns
  have hts := atoms_spec (ws := (.code yFo_isPlain cFo_isPlain 2 (some .boolean) :: wz_all)) B.pre
  have hw : ∀ w9 ∈ wz_all, w9.before [.ref aO, .int (nI i)].toArray s = true := fun w9 h => hts w9 (List.mem_cons_of_mem _ h)
  have hown : s.vm.findClass RFo = some m.cls := findClass_of_methodNamed B.named
  have hlocks := B.notSynchronized
  subst hsz
  have hD := hD0.self (sz := s.heap.size)
  generalize hAe : va_A [(aO, .inr (2, [.ref aki, .ref afi, .ref ase, .ref apl, .int (nI n)])), (apl, .inl (cZ, 32, .inl (wz_bb pb)))] s.heap.size = A at hD ⊢
  have hA : ∀ q : Nat, s.heap.size ≤ q → A q := fun q h => by rw [← hAe]; exact Or.inr h
  have hS : va_S A s.heap s.heap [] := va_S.rf
  have hP : va_P (dC, dI) vwCl [(aO, .inr (2, [.ref aki, .ref afi, .ref ase, .ref apl, .int (nI n)])), (apl, .inl (cZ, 32, .inl (wz_bb pb)))] s.heap := hP
  have hl := lv_entry ([.ref aO, .int (nI i)]) (n := 2) (Nat.le_of_ble_eq_true rfl)
  rw [lg_entry_eq]
  generalize (lg_sl ([.ref aO, .int (nI i)]) ++ List.replicate (2 - (lg_sl ([.ref aO, .int (nI i)])).length) Slot.unset).toArray = ls at hl ⊢
  have hl : lv_has ls 2 [(0, .ref aO), (1, .int (nI i))] := hl
  refine lv_aload_n hx hb dFo_isPlain_0 rfl (lv_at hl 0 rfl) ?_
  refine va_get (D := (dC, dI)) (ci := 2) (v := .ref apl) (C := RFo) (T := TFo) (N := 5) hx hb hw in_Fo hown hK hP 0 rfl rfl 3 (by decide) (hw _ w_95) (fun _ h9 => h9) rfl dFo_isPlain_1 ?_
  refine lv_iload_n hx hb dFo_isPlain_4 rfl (lv_at hl 1 rfl) ?_
  refine wz_aldB hx hb hK hP 1 2 rfl rfl (i := i) (by omega) (by decide) dFo_isPlain_5 ?_
  exact wz_zret (b := pb i) hx hb hr hlocks rfl hP hD hK hS dFo_isPlain_6
set_option maxHeartbeats 4000000 in
set_option maxRecDepth 100000 in
theorem kFo_kindOf (l : Launch) (dC : Nat → ClassId) (dI : Nat → Nat → Nat) (cI cJ cZ : ClassId) (sz : Nat) (aO : Nat) (aki : Nat) (afi : Nat) (ase : Nat) (apl : Nat) (n : Nat) (kn : Nat → Nat) (i : Nat) (hi32 : i < 32) : Met l yFo_kindOf (.code yFo_kindOf cFo_kindOf 2 (some .int) :: wz_all) ({ frames := 0, cells := 0, slots := 0, locals := 0 }) (wz_Pc (dC, dI) vwCl (wz_T cI cJ cZ) [.ref aO, .int (nI i)] sz [(aO, .inr (2, [.ref aki, .ref afi, .ref ase, .ref apl, .int (nI n)])), (aki, .inl (cI, 32, .inl (wz_n kn)))]) (va_Qi (fun (r : Int32) (_ : Unit) => r = nI (kn i)) (fun _ t => va_P (dC, dI) vwCl [(aO, .inr (2, [.ref aki, .ref afi, .ref ase, .ref apl, .int (nI n)])), (aki, .inl (cI, 32, .inl (wz_n kn)))] t.heap ∧ va_K (dC, dI) vwCl (wz_T cI cJ cZ) t ∧ va_D (va_A [(aO, .inr (2, [.ref aki, .ref afi, .ref ase, .ref apl, .int (nI n)])), (aki, .inl (cI, 32, .inl (wz_n kn)))] sz) [(aO, .inr (2, [.ref aki, .ref afi, .ref ase, .ref apl, .int (nI n)])), (aki, .inl (cI, 32, .inl (wz_n kn)))]) (va_A [(aO, .inr (2, [.ref aki, .ref afi, .ref ase, .ref apl, .int (nI n)])), (aki, .inl (cI, 32, .inl (wz_n kn)))] sz)) 0 0 (va_A [(aO, .inr (2, [.ref aki, .ref afi, .ref ase, .ref apl, .int (nI n)])), (aki, .inl (cI, 32, .inl (wz_n kn)))] sz) := by
  refine Met.ofW (cc := cFo_kindOf) (maxL := 2) (ret := (some .int)) (by decide) rfl ?_
  intro p e s m args below meth c s₁ B hml hv
  obtain ⟨rfl, hsz, hP, hK, hD0, hN⟩ := hv
  have hx := B.exec
  have hb := B.bytes
  have hr := B.returns
  have hts := atoms_spec (ws := (.code yFo_kindOf cFo_kindOf 2 (some .int) :: wz_all)) B.pre
  have hw : ∀ w9 ∈ wz_all, w9.before [.ref aO, .int (nI i)].toArray s = true := fun w9 h => hts w9 (List.mem_cons_of_mem _ h)
  have hown : s.vm.findClass RFo = some m.cls := findClass_of_methodNamed B.named
  have hlocks := B.notSynchronized
  subst hsz
  have hD := hD0.self (sz := s.heap.size)
  generalize hAe : va_A [(aO, .inr (2, [.ref aki, .ref afi, .ref ase, .ref apl, .int (nI n)])), (aki, .inl (cI, 32, .inl (wz_n kn)))] s.heap.size = A at hD ⊢
  have hA : ∀ q : Nat, s.heap.size ≤ q → A q := fun q h => by rw [← hAe]; exact Or.inr h
  have hS : va_S A s.heap s.heap [] := va_S.rf
  have hP : va_P (dC, dI) vwCl [(aO, .inr (2, [.ref aki, .ref afi, .ref ase, .ref apl, .int (nI n)])), (aki, .inl (cI, 32, .inl (wz_n kn)))] s.heap := hP
  have hl := lv_entry ([.ref aO, .int (nI i)]) (n := 2) (Nat.le_of_ble_eq_true rfl)
  rw [lg_entry_eq]
  generalize (lg_sl ([.ref aO, .int (nI i)]) ++ List.replicate (2 - (lg_sl ([.ref aO, .int (nI i)])).length) Slot.unset).toArray = ls at hl ⊢
  have hl : lv_has ls 2 [(0, .ref aO), (1, .int (nI i))] := hl
  refine lv_aload_n hx hb dFo_kindOf_0 rfl (lv_at hl 0 rfl) ?_
  refine va_get (D := (dC, dI)) (ci := 2) (v := .ref aki) (C := RFo) (T := TFo) (N := 5) hx hb hw in_Fo hown hK hP 0 rfl rfl 0 (by decide) (hw _ w_92) (fun _ h9 => h9) rfl dFo_kindOf_1 ?_
  refine lv_iload_n hx hb dFo_kindOf_4 rfl (lv_at hl 1 rfl) ?_
  refine wz_aldN hx hb hK hP 1 0 rfl rfl (i := i) (by omega) (by decide) dFo_kindOf_5 ?_
  exact wz_iret hx hb hr hlocks rfl hP hD hK hS dFo_kindOf_6
set_option maxHeartbeats 4000000 in
set_option maxRecDepth 100000 in
theorem kFo_firstOf (l : Launch) (dC : Nat → ClassId) (dI : Nat → Nat → Nat) (cI cJ cZ : ClassId) (sz : Nat) (aO : Nat) (aki : Nat) (afi : Nat) (ase : Nat) (apl : Nat) (n : Nat) (fn : Nat → Nat) (i : Nat) (hi32 : i < 32) : Met l yFo_firstOf (.code yFo_firstOf cFo_firstOf 2 (some .int) :: wz_all) ({ frames := 0, cells := 0, slots := 0, locals := 0 }) (wz_Pc (dC, dI) vwCl (wz_T cI cJ cZ) [.ref aO, .int (nI i)] sz [(aO, .inr (2, [.ref aki, .ref afi, .ref ase, .ref apl, .int (nI n)])), (afi, .inl (cI, 32, .inl (wz_n fn)))]) (va_Qi (fun (r : Int32) (_ : Unit) => r = nI (fn i)) (fun _ t => va_P (dC, dI) vwCl [(aO, .inr (2, [.ref aki, .ref afi, .ref ase, .ref apl, .int (nI n)])), (afi, .inl (cI, 32, .inl (wz_n fn)))] t.heap ∧ va_K (dC, dI) vwCl (wz_T cI cJ cZ) t ∧ va_D (va_A [(aO, .inr (2, [.ref aki, .ref afi, .ref ase, .ref apl, .int (nI n)])), (afi, .inl (cI, 32, .inl (wz_n fn)))] sz) [(aO, .inr (2, [.ref aki, .ref afi, .ref ase, .ref apl, .int (nI n)])), (afi, .inl (cI, 32, .inl (wz_n fn)))]) (va_A [(aO, .inr (2, [.ref aki, .ref afi, .ref ase, .ref apl, .int (nI n)])), (afi, .inl (cI, 32, .inl (wz_n fn)))] sz)) 0 0 (va_A [(aO, .inr (2, [.ref aki, .ref afi, .ref ase, .ref apl, .int (nI n)])), (afi, .inl (cI, 32, .inl (wz_n fn)))] sz) := by
  refine Met.ofW (cc := cFo_firstOf) (maxL := 2) (ret := (some .int)) (by decide) rfl ?_
  intro p e s m args below meth c s₁ B hml hv
  obtain ⟨rfl, hsz, hP, hK, hD0, hN⟩ := hv
  have hx := B.exec
  have hb := B.bytes
  have hr := B.returns
  have hts := atoms_spec (ws := (.code yFo_firstOf cFo_firstOf 2 (some .int) :: wz_all)) B.pre
  have hw : ∀ w9 ∈ wz_all, w9.before [.ref aO, .int (nI i)].toArray s = true := fun w9 h => hts w9 (List.mem_cons_of_mem _ h)
  have hown : s.vm.findClass RFo = some m.cls := findClass_of_methodNamed B.named
  have hlocks := B.notSynchronized
  subst hsz
  have hD := hD0.self (sz := s.heap.size)
  generalize hAe : va_A [(aO, .inr (2, [.ref aki, .ref afi, .ref ase, .ref apl, .int (nI n)])), (afi, .inl (cI, 32, .inl (wz_n fn)))] s.heap.size = A at hD ⊢
  have hA : ∀ q : Nat, s.heap.size ≤ q → A q := fun q h => by rw [← hAe]; exact Or.inr h
  have hS : va_S A s.heap s.heap [] := va_S.rf
  have hP : va_P (dC, dI) vwCl [(aO, .inr (2, [.ref aki, .ref afi, .ref ase, .ref apl, .int (nI n)])), (afi, .inl (cI, 32, .inl (wz_n fn)))] s.heap := hP
  have hl := lv_entry ([.ref aO, .int (nI i)]) (n := 2) (Nat.le_of_ble_eq_true rfl)
  rw [lg_entry_eq]
  generalize (lg_sl ([.ref aO, .int (nI i)]) ++ List.replicate (2 - (lg_sl ([.ref aO, .int (nI i)])).length) Slot.unset).toArray = ls at hl ⊢
  have hl : lv_has ls 2 [(0, .ref aO), (1, .int (nI i))] := hl
  refine lv_aload_n hx hb dFo_firstOf_0 rfl (lv_at hl 0 rfl) ?_
  refine va_get (D := (dC, dI)) (ci := 2) (v := .ref afi) (C := RFo) (T := TFo) (N := 5) hx hb hw in_Fo hown hK hP 0 rfl rfl 1 (by decide) (hw _ w_93) (fun _ h9 => h9) rfl dFo_firstOf_1 ?_
  refine lv_iload_n hx hb dFo_firstOf_4 rfl (lv_at hl 1 rfl) ?_
  refine wz_aldN hx hb hK hP 1 0 rfl rfl (i := i) (by omega) (by decide) dFo_firstOf_5 ?_
  exact wz_iret hx hb hr hlocks rfl hP hD hK hS dFo_firstOf_6
set_option maxHeartbeats 4000000 in
set_option maxRecDepth 100000 in
theorem kFo_secondOf (l : Launch) (dC : Nat → ClassId) (dI : Nat → Nat → Nat) (cI cJ cZ : ClassId) (sz : Nat) (aO : Nat) (aki : Nat) (afi : Nat) (ase : Nat) (apl : Nat) (n : Nat) (sn : Nat → Nat) (i : Nat) (hi32 : i < 32) : Met l yFo_secondOf (.code yFo_secondOf cFo_secondOf 2 (some .int) :: wz_all) ({ frames := 0, cells := 0, slots := 0, locals := 0 }) (wz_Pc (dC, dI) vwCl (wz_T cI cJ cZ) [.ref aO, .int (nI i)] sz [(aO, .inr (2, [.ref aki, .ref afi, .ref ase, .ref apl, .int (nI n)])), (ase, .inl (cI, 32, .inl (wz_n sn)))]) (va_Qi (fun (r : Int32) (_ : Unit) => r = nI (sn i)) (fun _ t => va_P (dC, dI) vwCl [(aO, .inr (2, [.ref aki, .ref afi, .ref ase, .ref apl, .int (nI n)])), (ase, .inl (cI, 32, .inl (wz_n sn)))] t.heap ∧ va_K (dC, dI) vwCl (wz_T cI cJ cZ) t ∧ va_D (va_A [(aO, .inr (2, [.ref aki, .ref afi, .ref ase, .ref apl, .int (nI n)])), (ase, .inl (cI, 32, .inl (wz_n sn)))] sz) [(aO, .inr (2, [.ref aki, .ref afi, .ref ase, .ref apl, .int (nI n)])), (ase, .inl (cI, 32, .inl (wz_n sn)))]) (va_A [(aO, .inr (2, [.ref aki, .ref afi, .ref ase, .ref apl, .int (nI n)])), (ase, .inl (cI, 32, .inl (wz_n sn)))] sz)) 0 0 (va_A [(aO, .inr (2, [.ref aki, .ref afi, .ref ase, .ref apl, .int (nI n)])), (ase, .inl (cI, 32, .inl (wz_n sn)))] sz) := by
  refine Met.ofW (cc := cFo_secondOf) (maxL := 2) (ret := (some .int)) (by decide) rfl ?_
  intro p e s m args below meth c s₁ B hml hv
  obtain ⟨rfl, hsz, hP, hK, hD0, hN⟩ := hv
  have hx := B.exec
  have hb := B.bytes
  have hr := B.returns
  have hts := atoms_spec (ws := (.code yFo_secondOf cFo_secondOf 2 (some .int) :: wz_all)) B.pre
  have hw : ∀ w9 ∈ wz_all, w9.before [.ref aO, .int (nI i)].toArray s = true := fun w9 h => hts w9 (List.mem_cons_of_mem _ h)
  have hown : s.vm.findClass RFo = some m.cls := findClass_of_methodNamed B.named
  have hlocks := B.notSynchronized
  subst hsz
  have hD := hD0.self (sz := s.heap.size)
  generalize hAe : va_A [(aO, .inr (2, [.ref aki, .ref afi, .ref ase, .ref apl, .int (nI n)])), (ase, .inl (cI, 32, .inl (wz_n sn)))] s.heap.size = A at hD ⊢
  have hA : ∀ q : Nat, s.heap.size ≤ q → A q := fun q h => by rw [← hAe]; exact Or.inr h
  have hS : va_S A s.heap s.heap [] := va_S.rf
  have hP : va_P (dC, dI) vwCl [(aO, .inr (2, [.ref aki, .ref afi, .ref ase, .ref apl, .int (nI n)])), (ase, .inl (cI, 32, .inl (wz_n sn)))] s.heap := hP
  have hl := lv_entry ([.ref aO, .int (nI i)]) (n := 2) (Nat.le_of_ble_eq_true rfl)
  rw [lg_entry_eq]
  generalize (lg_sl ([.ref aO, .int (nI i)]) ++ List.replicate (2 - (lg_sl ([.ref aO, .int (nI i)])).length) Slot.unset).toArray = ls at hl ⊢
  have hl : lv_has ls 2 [(0, .ref aO), (1, .int (nI i))] := hl
  refine lv_aload_n hx hb dFo_secondOf_0 rfl (lv_at hl 0 rfl) ?_
  refine va_get (D := (dC, dI)) (ci := 2) (v := .ref ase) (C := RFo) (T := TFo) (N := 5) hx hb hw in_Fo hown hK hP 0 rfl rfl 2 (by decide) (hw _ w_94) (fun _ h9 => h9) rfl dFo_secondOf_1 ?_
  refine lv_iload_n hx hb dFo_secondOf_4 rfl (lv_at hl 1 rfl) ?_
  refine wz_aldN hx hb hK hP 1 0 rfl rfl (i := i) (by omega) (by decide) dFo_secondOf_5 ?_
  exact wz_iret hx hb hr hlocks rfl hP hD hK hS dFo_secondOf_6
