/-! contracts, laid by a program of mine. -/
set_option maxHeartbeats 4000000 in
set_option maxRecDepth 100000 in
theorem kMo_noMask (l : Launch) (dC : Nat → ClassId) (dI : Nat → Nat → Nat) (cI cJ cZ : ClassId) (sz : Nat) (aR : Nat) (ams : Nat) (ann : Nat) (ak2 : Nat) (af2 : Nat) (as2 : Nat) (ah2 : Nat) (afa : Nat) (afx : Nat) (ald : Nat) (awy : Nat) (alt : Nat) (abg : Nat) (th : Nat) (mv : Nat) (n : Nat) (fc : Nat) (zz : Nat) (lp : Int32) (tl : Bool) (x : Int32) : Met l yMo_noMask (.code yMo_noMask cMo_noMask 2 (some .boolean) :: wz_all) ({ frames := 0, cells := 0, slots := 0, locals := 0 }) (wz_Pc (dC, dI) vwCl (wz_T cI cJ cZ) [.ref aR, .int x] sz [(aR, .inr (7, [.int (nI th), .int (nI mv), .ref ams, .ref ann, .int (nI n), .ref ak2, .ref af2, .ref as2, .ref ah2, .int (nI fc), .ref afa, .ref afx, .ref ald, .int (nI zz), .ref awy, .int lp, .ref alt, .ref abg, .int (wz_i tl)]))]) (va_Qi (fun (r : Int32) (_ : Unit) => r = wz_i (!ww_is x)) (fun _ t => va_P (dC, dI) vwCl [(aR, .inr (7, [.int (nI th), .int (nI mv), .ref ams, .ref ann, .int (nI n), .ref ak2, .ref af2, .ref as2, .ref ah2, .int (nI fc), .ref afa, .ref afx, .ref ald, .int (nI zz), .ref awy, .int lp, .ref alt, .ref abg, .int (wz_i tl)]))] t.heap ∧ va_K (dC, dI) vwCl (wz_T cI cJ cZ) t ∧ va_D (va_A [(aR, .inr (7, [.int (nI th), .int (nI mv), .ref ams, .ref ann, .int (nI n), .ref ak2, .ref af2, .ref as2, .ref ah2, .int (nI fc), .ref afa, .ref afx, .ref ald, .int (nI zz), .ref awy, .int lp, .ref alt, .ref abg, .int (wz_i tl)]))] sz) [(aR, .inr (7, [.int (nI th), .int (nI mv), .ref ams, .ref ann, .int (nI n), .ref ak2, .ref af2, .ref as2, .ref ah2, .int (nI fc), .ref afa, .ref afx, .ref ald, .int (nI zz), .ref awy, .int lp, .ref alt, .ref abg, .int (wz_i tl)]))]) (va_A [(aR, .inr (7, [.int (nI th), .int (nI mv), .ref ams, .ref ann, .int (nI n), .ref ak2, .ref af2, .ref as2, .ref ah2, .int (nI fc), .ref afa, .ref afx, .ref ald, .int (nI zz), .ref awy, .int lp, .ref alt, .ref abg, .int (wz_i tl)]))] sz)) 0 0 (va_A [(aR, .inr (7, [.int (nI th), .int (nI mv), .ref ams, .ref ann, .int (nI n), .ref ak2, .ref af2, .ref as2, .ref ah2, .int (nI fc), .ref afa, .ref afx, .ref ald, .int (nI zz), .ref awy, .int lp, .ref alt, .ref abg, .int (wz_i tl)]))] sz) := by
  refine Met.ofW (cc := cMo_noMask) (maxL := 2) (ret := (some .boolean)) (by decide) rfl ?_
  intro p e s m args below meth c s₁ B hml hv
  obtain ⟨rfl, hsz, hP, hK, hD0, hN⟩ := hv
  have hx := B.exec
  have hb := B.bytes
  have hr := B.returns
  have hts := atoms_spec (ws := (.code yMo_noMask cMo_noMask 2 (some .boolean) :: wz_all)) B.pre
  have hw : ∀ w9 ∈ wz_all, w9.before [.ref aR, .int x].toArray s = true := fun w9 h => hts w9 (List.mem_cons_of_mem _ h)
  have hown : s.vm.findClass RMo = some m.cls := findClass_of_methodNamed B.named
  have hlocks := B.notSynchronized
  subst hsz
  have hD := hD0.self (sz := s.heap.size)
  generalize hAe : va_A [(aR, .inr (7, [.int (nI th), .int (nI mv), .ref ams, .ref ann, .int (nI n), .ref ak2, .ref af2, .ref as2, .ref ah2, .int (nI fc), .ref afa, .ref afx, .ref ald, .int (nI zz), .ref awy, .int lp, .ref alt, .ref abg, .int (wz_i tl)]))] s.heap.size = A at hD ⊢
  have hA : ∀ q : Nat, s.heap.size ≤ q → A q := fun q h => by rw [← hAe]; exact Or.inr h
  have hS : va_S A s.heap s.heap [] := va_S.rf
  have hP : va_P (dC, dI) vwCl [(aR, .inr (7, [.int (nI th), .int (nI mv), .ref ams, .ref ann, .int (nI n), .ref ak2, .ref af2, .ref as2, .ref ah2, .int (nI fc), .ref afa, .ref afx, .ref ald, .int (nI zz), .ref awy, .int lp, .ref alt, .ref abg, .int (wz_i tl)]))] s.heap := hP
  have hl := lv_entry ([.ref aR, .int x]) (n := 2) (Nat.le_of_ble_eq_true rfl)
  rw [lg_entry_eq]
  generalize (lg_sl ([.ref aR, .int x]) ++ List.replicate (2 - (lg_sl ([.ref aR, .int x])).length) Slot.unset).toArray = ls at hl ⊢
  have hl : lv_has ls 2 [(0, .ref aR), (1, .int x)] := hl
  refine lv_iload_n hx hb dMo_noMask_0 rfl (lv_at hl 1 rfl) ?_
  refine lv_if_lt (tgt := 10) hx hb dMo_noMask_1 (by decide) (fun h1_1 => ?_) (fun h1_1 => ?_)
  · skip
    refine lv_iconst (v := nI 1) hx hb dMo_noMask_10 (by decide) ?_
    refine lv_goto (tgt := 15) hx hb dMo_noMask_11 (by decide) ?_
    exact wz_zret (b := true) hx hb hr hlocks (by rw [ww_is_63]; simp [h1_1]) hP hD hK hS dMo_noMask_15
  · skip
    refine lv_iload_n hx hb dMo_noMask_4 rfl (lv_at hl 1 rfl) ?_
    refine lv_bipush (v := nI 63) hx hb dMo_noMask_5 (by decide) ?_
    refine lv_icmp_le (tgt := 14) hx hb dMo_noMask_7 (by decide) (fun h7_2 => ?_) (fun h7_2 => ?_)
    · skip
      refine lv_iconst (v := nI 0) hx hb dMo_noMask_14 (by decide) ?_
      exact wz_zret (b := false) hx hb hr hlocks (by rw [ww_is_63]; simp [h1_1, h7_2]) hP hD hK hS dMo_noMask_15
    · skip
      refine lv_iconst (v := nI 1) hx hb dMo_noMask_10 (by decide) ?_
      refine lv_goto (tgt := 15) hx hb dMo_noMask_11 (by decide) ?_
      exact wz_zret (b := true) hx hb hr hlocks (by rw [ww_is_63]; simp [h1_1, h7_2]) hP hD hK hS dMo_noMask_15
set_option maxHeartbeats 4000000 in
set_option maxRecDepth 100000 in
theorem kMo_noState (l : Launch) (dC : Nat → ClassId) (dI : Nat → Nat → Nat) (cI cJ cZ : ClassId) (sz : Nat) (aR : Nat) (ams : Nat) (ann : Nat) (ak2 : Nat) (af2 : Nat) (as2 : Nat) (ah2 : Nat) (afa : Nat) (afx : Nat) (ald : Nat) (awy : Nat) (alt : Nat) (abg : Nat) (th : Nat) (mv : Nat) (n : Nat) (fc : Nat) (zz : Nat) (lp : Int32) (tl : Bool) (x : Int32) : Met l yMo_noState (.code yMo_noState cMo_noState 2 (some .boolean) :: wz_all) ({ frames := 0, cells := 0, slots := 0, locals := 0 }) (wz_Pc (dC, dI) vwCl (wz_T cI cJ cZ) [.ref aR, .int x] sz [(aR, .inr (7, [.int (nI th), .int (nI mv), .ref ams, .ref ann, .int (nI n), .ref ak2, .ref af2, .ref as2, .ref ah2, .int (nI fc), .ref afa, .ref afx, .ref ald, .int (nI zz), .ref awy, .int lp, .ref alt, .ref abg, .int (wz_i tl)]))]) (va_Qi (fun (r : Int32) (_ : Unit) => r = wz_i (!ww_is x)) (fun _ t => va_P (dC, dI) vwCl [(aR, .inr (7, [.int (nI th), .int (nI mv), .ref ams, .ref ann, .int (nI n), .ref ak2, .ref af2, .ref as2, .ref ah2, .int (nI fc), .ref afa, .ref afx, .ref ald, .int (nI zz), .ref awy, .int lp, .ref alt, .ref abg, .int (wz_i tl)]))] t.heap ∧ va_K (dC, dI) vwCl (wz_T cI cJ cZ) t ∧ va_D (va_A [(aR, .inr (7, [.int (nI th), .int (nI mv), .ref ams, .ref ann, .int (nI n), .ref ak2, .ref af2, .ref as2, .ref ah2, .int (nI fc), .ref afa, .ref afx, .ref ald, .int (nI zz), .ref awy, .int lp, .ref alt, .ref abg, .int (wz_i tl)]))] sz) [(aR, .inr (7, [.int (nI th), .int (nI mv), .ref ams, .ref ann, .int (nI n), .ref ak2, .ref af2, .ref as2, .ref ah2, .int (nI fc), .ref afa, .ref afx, .ref ald, .int (nI zz), .ref awy, .int lp, .ref alt, .ref abg, .int (wz_i tl)]))]) (va_A [(aR, .inr (7, [.int (nI th), .int (nI mv), .ref ams, .ref ann, .int (nI n), .ref ak2, .ref af2, .ref as2, .ref ah2, .int (nI fc), .ref afa, .ref afx, .ref ald, .int (nI zz), .ref awy, .int lp, .ref alt, .ref abg, .int (wz_i tl)]))] sz)) 0 0 (va_A [(aR, .inr (7, [.int (nI th), .int (nI mv), .ref ams, .ref ann, .int (nI n), .ref ak2, .ref af2, .ref as2, .ref ah2, .int (nI fc), .ref afa, .ref afx, .ref ald, .int (nI zz), .ref awy, .int lp, .ref alt, .ref abg, .int (wz_i tl)]))] sz) := by
  refine Met.ofW (cc := cMo_noState) (maxL := 2) (ret := (some .boolean)) (by decide) rfl ?_
  intro p e s m args below meth c s₁ B hml hv
  obtain ⟨rfl, hsz, hP, hK, hD0, hN⟩ := hv
  have hx := B.exec
  have hb := B.bytes
  have hr := B.returns
  have hts := atoms_spec (ws := (.code yMo_noState cMo_noState 2 (some .boolean) :: wz_all)) B.pre
  have hw : ∀ w9 ∈ wz_all, w9.before [.ref aR, .int x].toArray s = true := fun w9 h => hts w9 (List.mem_cons_of_mem _ h)
  have hown : s.vm.findClass RMo = some m.cls := findClass_of_methodNamed B.named
  have hlocks := B.notSynchronized
  subst hsz
  have hD := hD0.self (sz := s.heap.size)
  generalize hAe : va_A [(aR, .inr (7, [.int (nI th), .int (nI mv), .ref ams, .ref ann, .int (nI n), .ref ak2, .ref af2, .ref as2, .ref ah2, .int (nI fc), .ref afa, .ref afx, .ref ald, .int (nI zz), .ref awy, .int lp, .ref alt, .ref abg, .int (wz_i tl)]))] s.heap.size = A at hD ⊢
  have hA : ∀ q : Nat, s.heap.size ≤ q → A q := fun q h => by rw [← hAe]; exact Or.inr h
  have hS : va_S A s.heap s.heap [] := va_S.rf
  have hP : va_P (dC, dI) vwCl [(aR, .inr (7, [.int (nI th), .int (nI mv), .ref ams, .ref ann, .int (nI n), .ref ak2, .ref af2, .ref as2, .ref ah2, .int (nI fc), .ref afa, .ref afx, .ref ald, .int (nI zz), .ref awy, .int lp, .ref alt, .ref abg, .int (wz_i tl)]))] s.heap := hP
  have hl := lv_entry ([.ref aR, .int x]) (n := 2) (Nat.le_of_ble_eq_true rfl)
  rw [lg_entry_eq]
  generalize (lg_sl ([.ref aR, .int x]) ++ List.replicate (2 - (lg_sl ([.ref aR, .int x])).length) Slot.unset).toArray = ls at hl ⊢
  have hl : lv_has ls 2 [(0, .ref aR), (1, .int x)] := hl
  refine lv_iload_n hx hb dMo_noState_0 rfl (lv_at hl 1 rfl) ?_
  refine lv_if_lt (tgt := 10) hx hb dMo_noState_1 (by decide) (fun h1_1 => ?_) (fun h1_1 => ?_)
  · skip
    refine lv_iconst (v := nI 1) hx hb dMo_noState_10 (by decide) ?_
    refine lv_goto (tgt := 15) hx hb dMo_noState_11 (by decide) ?_
    exact wz_zret (b := true) hx hb hr hlocks (by rw [ww_is_63]; simp [h1_1]) hP hD hK hS dMo_noState_15
  · skip
    refine lv_iload_n hx hb dMo_noState_4 rfl (lv_at hl 1 rfl) ?_
    refine lv_bipush (v := nI 63) hx hb dMo_noState_5 (by decide) ?_
    refine lv_icmp_le (tgt := 14) hx hb dMo_noState_7 (by decide) (fun h7_2 => ?_) (fun h7_2 => ?_)
    · skip
      refine lv_iconst (v := nI 0) hx hb dMo_noState_14 (by decide) ?_
      exact wz_zret (b := false) hx hb hr hlocks (by rw [ww_is_63]; simp [h1_1, h7_2]) hP hD hK hS dMo_noState_15
    · skip
      refine lv_iconst (v := nI 1) hx hb dMo_noState_10 (by decide) ?_
      refine lv_goto (tgt := 15) hx hb dMo_noState_11 (by decide) ?_
      exact wz_zret (b := true) hx hb hr hlocks (by rw [ww_is_63]; simp [h1_1, h7_2]) hP hD hK hS dMo_noState_15
set_option maxHeartbeats 4000000 in
set_option maxRecDepth 100000 in
theorem kMo_noFormula (l : Launch) (dC : Nat → ClassId) (dI : Nat → Nat → Nat) (cI cJ cZ : ClassId) (sz : Nat) (aR : Nat) (ams : Nat) (ann : Nat) (ak2 : Nat) (af2 : Nat) (as2 : Nat) (ah2 : Nat) (afa : Nat) (afx : Nat) (ald : Nat) (awy : Nat) (alt : Nat) (abg : Nat) (th : Nat) (mv : Nat) (n : Nat) (fc : Nat) (zz : Nat) (lp : Int32) (tl : Bool) (x : Int32) : Met l yMo_noFormula (.code yMo_noFormula cMo_noFormula 2 (some .boolean) :: wz_all) ({ frames := 0, cells := 0, slots := 0, locals := 0 }) (wz_Pc (dC, dI) vwCl (wz_T cI cJ cZ) [.ref aR, .int x] sz [(aR, .inr (7, [.int (nI th), .int (nI mv), .ref ams, .ref ann, .int (nI n), .ref ak2, .ref af2, .ref as2, .ref ah2, .int (nI fc), .ref afa, .ref afx, .ref ald, .int (nI zz), .ref awy, .int lp, .ref alt, .ref abg, .int (wz_i tl)]))]) (va_Qi (fun (r : Int32) (_ : Unit) => r = wz_i (!ww_hs n x)) (fun _ t => va_P (dC, dI) vwCl [(aR, .inr (7, [.int (nI th), .int (nI mv), .ref ams, .ref ann, .int (nI n), .ref ak2, .ref af2, .ref as2, .ref ah2, .int (nI fc), .ref afa, .ref afx, .ref ald, .int (nI zz), .ref awy, .int lp, .ref alt, .ref abg, .int (wz_i tl)]))] t.heap ∧ va_K (dC, dI) vwCl (wz_T cI cJ cZ) t ∧ va_D (va_A [(aR, .inr (7, [.int (nI th), .int (nI mv), .ref ams, .ref ann, .int (nI n), .ref ak2, .ref af2, .ref as2, .ref ah2, .int (nI fc), .ref afa, .ref afx, .ref ald, .int (nI zz), .ref awy, .int lp, .ref alt, .ref abg, .int (wz_i tl)]))] sz) [(aR, .inr (7, [.int (nI th), .int (nI mv), .ref ams, .ref ann, .int (nI n), .ref ak2, .ref af2, .ref as2, .ref ah2, .int (nI fc), .ref afa, .ref afx, .ref ald, .int (nI zz), .ref awy, .int lp, .ref alt, .ref abg, .int (wz_i tl)]))]) (va_A [(aR, .inr (7, [.int (nI th), .int (nI mv), .ref ams, .ref ann, .int (nI n), .ref ak2, .ref af2, .ref as2, .ref ah2, .int (nI fc), .ref afa, .ref afx, .ref ald, .int (nI zz), .ref awy, .int lp, .ref alt, .ref abg, .int (wz_i tl)]))] sz)) 0 0 (va_A [(aR, .inr (7, [.int (nI th), .int (nI mv), .ref ams, .ref ann, .int (nI n), .ref ak2, .ref af2, .ref as2, .ref ah2, .int (nI fc), .ref afa, .ref afx, .ref ald, .int (nI zz), .ref awy, .int lp, .ref alt, .ref abg, .int (wz_i tl)]))] sz) := by
  refine Met.ofW (cc := cMo_noFormula) (maxL := 2) (ret := (some .boolean)) (by decide) rfl ?_
  intro p e s m args below meth c s₁ B hml hv
  obtain ⟨rfl, hsz, hP, hK, hD0, hN⟩ := hv
  have hx := B.exec
  have hb := B.bytes
  have hr := B.returns
  have hts := atoms_spec (ws := (.code yMo_noFormula cMo_noFormula 2 (some .boolean) :: wz_all)) B.pre
  have hw : ∀ w9 ∈ wz_all, w9.before [.ref aR, .int x].toArray s = true := fun w9 h => hts w9 (List.mem_cons_of_mem _ h)
  have hown : s.vm.findClass RMo = some m.cls := findClass_of_methodNamed B.named
  have hlocks := B.notSynchronized
  subst hsz
  have hD := hD0.self (sz := s.heap.size)
  generalize hAe : va_A [(aR, .inr (7, [.int (nI th), .int (nI mv), .ref ams, .ref ann, .int (nI n), .ref ak2, .ref af2, .ref as2, .ref ah2, .int (nI fc), .ref afa, .ref afx, .ref ald, .int (nI zz), .ref awy, .int lp, .ref alt, .ref abg, .int (wz_i tl)]))] s.heap.size = A at hD ⊢
  have hA : ∀ q : Nat, s.heap.size ≤ q → A q := fun q h => by rw [← hAe]; exact Or.inr h
  have hS : va_S A s.heap s.heap [] := va_S.rf
  have hP : va_P (dC, dI) vwCl [(aR, .inr (7, [.int (nI th), .int (nI mv), .ref ams, .ref ann, .int (nI n), .ref ak2, .ref af2, .ref as2, .ref ah2, .int (nI fc), .ref afa, .ref afx, .ref ald, .int (nI zz), .ref awy, .int lp, .ref alt, .ref abg, .int (wz_i tl)]))] s.heap := hP
  have hl := lv_entry ([.ref aR, .int x]) (n := 2) (Nat.le_of_ble_eq_true rfl)
  rw [lg_entry_eq]
  generalize (lg_sl ([.ref aR, .int x]) ++ List.replicate (2 - (lg_sl ([.ref aR, .int x])).length) Slot.unset).toArray = ls at hl ⊢
  have hl : lv_has ls 2 [(0, .ref aR), (1, .int x)] := hl
  refine lv_iload_n hx hb dMo_noFormula_0 rfl (lv_at hl 1 rfl) ?_
  refine lv_if_lt (tgt := 12) hx hb dMo_noFormula_1 (by decide) (fun h1_1 => ?_) (fun h1_1 => ?_)
  · skip
    refine lv_iconst (v := nI 1) hx hb dMo_noFormula_12 (by decide) ?_
    refine lv_goto (tgt := 17) hx hb dMo_noFormula_13 (by decide) ?_
    exact wz_zret (b := true) hx hb hr hlocks (by unfold ww_hs; simp [Int32.not_le, h1_1]) hP hD hK hS dMo_noFormula_17
  · skip
    refine lv_iload_n hx hb dMo_noFormula_4 rfl (lv_at hl 1 rfl) ?_
    refine lv_aload_n hx hb dMo_noFormula_5 rfl (lv_at hl 0 rfl) ?_
    refine va_get (D := (dC, dI)) (ci := 7) (v := .int (nI n)) (C := RMo) (T := TMo) (N := 19) hx hb hw in_Mo hown hK hP 0 rfl rfl 4 (by decide) (hw _ w_504) (fun _ h9 => h9) rfl dMo_noFormula_6 ?_
    refine lv_icmp_lt (tgt := 16) hx hb dMo_noFormula_9 (by decide) (fun h9_2 => ?_) (fun h9_2 => ?_)
    · skip
      refine lv_iconst (v := nI 0) hx hb dMo_noFormula_16 (by decide) ?_
      exact wz_zret (b := false) hx hb hr hlocks (by unfold ww_hs; simp [Int32.not_le, h1_1, h9_2]) hP hD hK hS dMo_noFormula_17
    · skip
      refine lv_iconst (v := nI 1) hx hb dMo_noFormula_12 (by decide) ?_
      refine lv_goto (tgt := 17) hx hb dMo_noFormula_13 (by decide) ?_
      exact wz_zret (b := true) hx hb hr hlocks (by unfold ww_hs; simp [Int32.not_le, h1_1, h9_2]) hP hD hK hS dMo_noFormula_17
set_option maxHeartbeats 4000000 in
set_option maxRecDepth 100000 in
theorem kMo_hasSecond (l : Launch) (dC : Nat → ClassId) (dI : Nat → Nat → Nat) (cI cJ cZ : ClassId) (sz : Nat) (aR : Nat) (ams : Nat) (ann : Nat) (ak2 : Nat) (af2 : Nat) (as2 : Nat) (ah2 : Nat) (afa : Nat) (afx : Nat) (ald : Nat) (awy : Nat) (alt : Nat) (abg : Nat) (th : Nat) (mv : Nat) (n : Nat) (fc : Nat) (zz : Nat) (lp : Int32) (tl : Bool) (k : Nat) (hk12 : k ≤ 12) : Met l yMo_hasSecond (.code yMo_hasSecond cMo_hasSecond 2 (some .boolean) :: wz_all) ({ frames := 0, cells := 0, slots := 0, locals := 0 }) (wz_Pc (dC, dI) vwCl (wz_T cI cJ cZ) [.ref aR, .int (nI k)] sz [(aR, .inr (7, [.int (nI th), .int (nI mv), .ref ams, .ref ann, .int (nI n), .ref ak2, .ref af2, .ref as2, .ref ah2, .int (nI fc), .ref afa, .ref afx, .ref ald, .int (nI zz), .ref awy, .int lp, .ref alt, .ref abg, .int (wz_i tl)]))]) (va_Qi (fun (r : Int32) (_ : Unit) => r = wz_i (ww_h2 k)) (fun _ t => va_P (dC, dI) vwCl [(aR, .inr (7, [.int (nI th), .int (nI mv), .ref ams, .ref ann, .int (nI n), .ref ak2, .ref af2, .ref as2, .ref ah2, .int (nI fc), .ref afa, .ref afx, .ref ald, .int (nI zz), .ref awy, .int lp, .ref alt, .ref abg, .int (wz_i tl)]))] t.heap ∧ va_K (dC, dI) vwCl (wz_T cI cJ cZ) t ∧ va_D (va_A [(aR, .inr (7, [.int (nI th), .int (nI mv), .ref ams, .ref ann, .int (nI n), .ref ak2, .ref af2, .ref as2, .ref ah2, .int (nI fc), .ref afa, .ref afx, .ref ald, .int (nI zz), .ref awy, .int lp, .ref alt, .ref abg, .int (wz_i tl)]))] sz) [(aR, .inr (7, [.int (nI th), .int (nI mv), .ref ams, .ref ann, .int (nI n), .ref ak2, .ref af2, .ref as2, .ref ah2, .int (nI fc), .ref afa, .ref afx, .ref ald, .int (nI zz), .ref awy, .int lp, .ref alt, .ref abg, .int (wz_i tl)]))]) (va_A [(aR, .inr (7, [.int (nI th), .int (nI mv), .ref ams, .ref ann, .int (nI n), .ref ak2, .ref af2, .ref as2, .ref ah2, .int (nI fc), .ref afa, .ref afx, .ref ald, .int (nI zz), .ref awy, .int lp, .ref alt, .ref abg, .int (wz_i tl)]))] sz)) 0 0 (va_A [(aR, .inr (7, [.int (nI th), .int (nI mv), .ref ams, .ref ann, .int (nI n), .ref ak2, .ref af2, .ref as2, .ref ah2, .int (nI fc), .ref afa, .ref afx, .ref ald, .int (nI zz), .ref awy, .int lp, .ref alt, .ref abg, .int (wz_i tl)]))] sz) := by
  refine Met.ofW (cc := cMo_hasSecond) (maxL := 2) (ret := (some .boolean)) (by decide) rfl ?_
  intro p e s m args below meth c s₁ B hml hv
  obtain ⟨rfl, hsz, hP, hK, hD0, hN⟩ := hv
  have hx := B.exec
  have hb := B.bytes
  have hr := B.returns
  have hts := atoms_spec (ws := (.code yMo_hasSecond cMo_hasSecond 2 (some .boolean) :: wz_all)) B.pre
  have hw : ∀ w9 ∈ wz_all, w9.before [.ref aR, .int (nI k)].toArray s = true := fun w9 h => hts w9 (List.mem_cons_of_mem _ h)
  have hown : s.vm.findClass RMo = some m.cls := findClass_of_methodNamed B.named
  have hlocks := B.notSynchronized
  subst hsz
  have hD := hD0.self (sz := s.heap.size)
  generalize hAe : va_A [(aR, .inr (7, [.int (nI th), .int (nI mv), .ref ams, .ref ann, .int (nI n), .ref ak2, .ref af2, .ref as2, .ref ah2, .int (nI fc), .ref afa, .ref afx, .ref ald, .int (nI zz), .ref awy, .int lp, .ref alt, .ref abg, .int (wz_i tl)]))] s.heap.size = A at hD ⊢
  have hA : ∀ q : Nat, s.heap.size ≤ q → A q := fun q h => by rw [← hAe]; exact Or.inr h
  have hS : va_S A s.heap s.heap [] := va_S.rf
  have hP : va_P (dC, dI) vwCl [(aR, .inr (7, [.int (nI th), .int (nI mv), .ref ams, .ref ann, .int (nI n), .ref ak2, .ref af2, .ref as2, .ref ah2, .int (nI fc), .ref afa, .ref afx, .ref ald, .int (nI zz), .ref awy, .int lp, .ref alt, .ref abg, .int (wz_i tl)]))] s.heap := hP
  have hl := lv_entry ([.ref aR, .int (nI k)]) (n := 2) (Nat.le_of_ble_eq_true rfl)
  rw [lg_entry_eq]
  generalize (lg_sl ([.ref aR, .int (nI k)]) ++ List.replicate (2 - (lg_sl ([.ref aR, .int (nI k)])).length) Slot.unset).toArray = ls at hl ⊢
  have hl : lv_has ls 2 [(0, .ref aR), (1, .int (nI k))] := hl
  refine lv_iload_n hx hb dMo_hasSecond_0 rfl (lv_at hl 1 rfl) ?_
  refine lv_iconst (v := nI 3) hx hb dMo_hasSecond_1 (by decide) ?_
  refine wz_icmp_eq (x := k) (y := 3) (tgt := 22) hx hb (by omega) (by omega) dMo_hasSecond_2 (by decide) (fun h2_1 => ?_) (fun h2_1 => ?_)
  · skip
    refine lv_iconst (v := nI 1) hx hb dMo_hasSecond_22 (by decide) ?_
    refine lv_goto (tgt := 27) hx hb dMo_hasSecond_23 (by decide) ?_
    exact wz_zret (b := true) hx hb hr hlocks (by unfold ww_h2; simp [hk12, h2_1]) hP hD hK hS dMo_hasSecond_27
  · skip
    refine lv_iload_n hx hb dMo_hasSecond_5 rfl (lv_at hl 1 rfl) ?_
    refine lv_iconst (v := nI 4) hx hb dMo_hasSecond_6 (by decide) ?_
    refine wz_icmp_eq (x := k) (y := 4) (tgt := 22) hx hb (by omega) (by omega) dMo_hasSecond_7 (by decide) (fun h7_2 => ?_) (fun h7_2 => ?_)
    · skip
      refine lv_iconst (v := nI 1) hx hb dMo_hasSecond_22 (by decide) ?_
      refine lv_goto (tgt := 27) hx hb dMo_hasSecond_23 (by decide) ?_
      exact wz_zret (b := true) hx hb hr hlocks (by unfold ww_h2; simp [hk12, h2_1, h7_2]) hP hD hK hS dMo_hasSecond_27
    · skip
      refine lv_iload_n hx hb dMo_hasSecond_10 rfl (lv_at hl 1 rfl) ?_
      refine lv_bipush (v := nI 6) hx hb dMo_hasSecond_11 (by decide) ?_
      refine wz_icmp_eq (x := k) (y := 6) (tgt := 22) hx hb (by omega) (by omega) dMo_hasSecond_13 (by decide) (fun h13_3 => ?_) (fun h13_3 => ?_)
      · skip
        refine lv_iconst (v := nI 1) hx hb dMo_hasSecond_22 (by decide) ?_
        refine lv_goto (tgt := 27) hx hb dMo_hasSecond_23 (by decide) ?_
        exact wz_zret (b := true) hx hb hr hlocks (by unfold ww_h2; simp [hk12, h2_1, h7_2, h13_3]) hP hD hK hS dMo_hasSecond_27
      · skip
        refine lv_iload_n hx hb dMo_hasSecond_16 rfl (lv_at hl 1 rfl) ?_
        refine lv_bipush (v := nI 10) hx hb dMo_hasSecond_17 (by decide) ?_
        refine wz_icmp_ne (x := k) (y := 10) (tgt := 26) hx hb (by omega) (by omega) dMo_hasSecond_19 (by decide) (fun h19_4 => ?_) (fun h19_4 => ?_)
        · skip
          refine lv_iconst (v := nI 0) hx hb dMo_hasSecond_26 (by decide) ?_
          exact wz_zret (b := false) hx hb hr hlocks (by unfold ww_h2; simp [hk12, h2_1, h7_2, h13_3, h19_4]) hP hD hK hS dMo_hasSecond_27
        · skip
          refine lv_iconst (v := nI 1) hx hb dMo_hasSecond_22 (by decide) ?_
          refine lv_goto (tgt := 27) hx hb dMo_hasSecond_23 (by decide) ?_
          exact wz_zret (b := true) hx hb hr hlocks (by unfold ww_h2; simp [hk12, h2_1, h7_2, h13_3, h19_4]) hP hD hK hS dMo_hasSecond_27
set_option maxHeartbeats 4000000 in
set_option maxRecDepth 100000 in
theorem kMo_unfair (l : Launch) (dC : Nat → ClassId) (dI : Nat → Nat → Nat) (cI cJ cZ : ClassId) (sz : Nat) (aR : Nat) (ams : Nat) (ann : Nat) (ak2 : Nat) (af2 : Nat) (as2 : Nat) (ah2 : Nat) (afa : Nat) (afx : Nat) (ald : Nat) (awy : Nat) (alt : Nat) (abg : Nat) (th : Nat) (mv : Nat) (n : Nat) (fc : Nat) (zz : Nat) (lp : Int32) (tl : Bool) : Met l yMo_unfair (.code yMo_unfair cMo_unfair 1 none :: wz_all) ({ frames := 0, cells := 0, slots := 0, locals := 0 }) (wz_Pc (dC, dI) vwCl (wz_T cI cJ cZ) [.ref aR] sz [(aR, .inr (7, [.int (nI th), .int (nI mv), .ref ams, .ref ann, .int (nI n), .ref ak2, .ref af2, .ref as2, .ref ah2, .int (nI fc), .ref afa, .ref afx, .ref ald, .int (nI zz), .ref awy, .int lp, .ref alt, .ref abg, .int (wz_i tl)]))]) (va_Qv (fun (_ : Unit) => True) (fun _ t => va_P (dC, dI) vwCl [(aR, .inr (7, [.int (nI 0), .int (nI mv), .ref ams, .ref ann, .int (nI n), .ref ak2, .ref af2, .ref as2, .ref ah2, .int (nI 0), .ref afa, .ref afx, .ref ald, .int (nI zz), .ref awy, .int lp, .ref alt, .ref abg, .int (wz_i tl)]))] t.heap ∧ va_K (dC, dI) vwCl (wz_T cI cJ cZ) t ∧ va_D (va_A [(aR, .inr (7, [.int (nI th), .int (nI mv), .ref ams, .ref ann, .int (nI n), .ref ak2, .ref af2, .ref as2, .ref ah2, .int (nI fc), .ref afa, .ref afx, .ref ald, .int (nI zz), .ref awy, .int lp, .ref alt, .ref abg, .int (wz_i tl)]))] sz) [(aR, .inr (7, [.int (nI 0), .int (nI mv), .ref ams, .ref ann, .int (nI n), .ref ak2, .ref af2, .ref as2, .ref ah2, .int (nI 0), .ref afa, .ref afx, .ref ald, .int (nI zz), .ref awy, .int lp, .ref alt, .ref abg, .int (wz_i tl)]))]) (va_A [(aR, .inr (7, [.int (nI th), .int (nI mv), .ref ams, .ref ann, .int (nI n), .ref ak2, .ref af2, .ref as2, .ref ah2, .int (nI fc), .ref afa, .ref afx, .ref ald, .int (nI zz), .ref awy, .int lp, .ref alt, .ref abg, .int (wz_i tl)]))] sz)) 0 0 (va_A [(aR, .inr (7, [.int (nI th), .int (nI mv), .ref ams, .ref ann, .int (nI n), .ref ak2, .ref af2, .ref as2, .ref ah2, .int (nI fc), .ref afa, .ref afx, .ref ald, .int (nI zz), .ref awy, .int lp, .ref alt, .ref abg, .int (wz_i tl)]))] sz) := by
  refine Met.ofW (cc := cMo_unfair) (maxL := 1) (ret := none) (by decide) rfl ?_
  intro p e s m args below meth c s₁ B hml hv
  obtain ⟨rfl, hsz, hP, hK, hD0, hN⟩ := hv
  have hx := B.exec
  have hb := B.bytes
  have hr := B.returns
  have hts := atoms_spec (ws := (.code yMo_unfair cMo_unfair 1 none :: wz_all)) B.pre
  have hw : ∀ w9 ∈ wz_all, w9.before [.ref aR].toArray s = true := fun w9 h => hts w9 (List.mem_cons_of_mem _ h)
  have hown : s.vm.findClass RMo = some m.cls := findClass_of_methodNamed B.named
  have hlocks := B.notSynchronized
  subst hsz
  have hD := hD0.self (sz := s.heap.size)
  generalize hAe : va_A [(aR, .inr (7, [.int (nI th), .int (nI mv), .ref ams, .ref ann, .int (nI n), .ref ak2, .ref af2, .ref as2, .ref ah2, .int (nI fc), .ref afa, .ref afx, .ref ald, .int (nI zz), .ref awy, .int lp, .ref alt, .ref abg, .int (wz_i tl)]))] s.heap.size = A at hD ⊢
  have hA : ∀ q : Nat, s.heap.size ≤ q → A q := fun q h => by rw [← hAe]; exact Or.inr h
  have hS : va_S A s.heap s.heap [] := va_S.rf
  have hP : va_P (dC, dI) vwCl [(aR, .inr (7, [.int (nI th), .int (nI mv), .ref ams, .ref ann, .int (nI n), .ref ak2, .ref af2, .ref as2, .ref ah2, .int (nI fc), .ref afa, .ref afx, .ref ald, .int (nI zz), .ref awy, .int lp, .ref alt, .ref abg, .int (wz_i tl)]))] s.heap := hP
  have hl := lv_entry ([.ref aR]) (n := 1) (Nat.le_of_ble_eq_true rfl)
  rw [lg_entry_eq]
  generalize (lg_sl ([.ref aR]) ++ List.replicate (1 - (lg_sl ([.ref aR])).length) Slot.unset).toArray = ls at hl ⊢
  have hl : lv_has ls 1 [(0, .ref aR)] := hl
  refine lv_aload_n hx hb dMo_unfair_0 rfl (lv_at hl 0 rfl) ?_
  refine lv_iconst (v := nI 0) hx hb dMo_unfair_1 (by decide) ?_
  refine va_put (D := (dC, dI)) (ci := 7) (v := .int (nI 0)) (ty := .int) (C := RMo) (T := TMo) (N := 19) hx hb hw in_Mo tyMo tyMo_ok nmMo hown hK hP hD hS 0 rfl rfl 0 (by decide) (hw _ w_500) (fun _ h9 => h9) rfl (by decide +kernel) rfl rfl (Nat.le_of_ble_eq_true rfl) dMo_unfair_2 (fun H locs hP hD hS => ?_)
  have hP : va_P (dC, dI) vwCl [(aR, .inr (7, [.int (nI 0), .int (nI mv), .ref ams, .ref ann, .int (nI n), .ref ak2, .ref af2, .ref as2, .ref ah2, .int (nI fc), .ref afa, .ref afx, .ref ald, .int (nI zz), .ref awy, .int lp, .ref alt, .ref abg, .int (wz_i tl)]))] H := hP
  have hD : va_D A [(aR, .inr (7, [.int (nI 0), .int (nI mv), .ref ams, .ref ann, .int (nI n), .ref ak2, .ref af2, .ref as2, .ref ah2, .int (nI fc), .ref afa, .ref afx, .ref ald, .int (nI zz), .ref awy, .int lp, .ref alt, .ref abg, .int (wz_i tl)]))] := hD
  refine lv_aload_n hx hb dMo_unfair_5 rfl (lv_at hl 0 rfl) ?_
  refine lv_iconst (v := nI 0) hx hb dMo_unfair_6 (by decide) ?_
  refine va_put (D := (dC, dI)) (ci := 7) (v := .int (nI 0)) (ty := .int) (C := RMo) (T := TMo) (N := 19) hx hb hw in_Mo tyMo tyMo_ok nmMo hown hK hP hD hS 0 rfl rfl 9 (by decide) (hw _ w_509) (fun _ h9 => h9) rfl (by decide +kernel) rfl rfl (Nat.le_of_ble_eq_true rfl) dMo_unfair_7 (fun H locs hP hD hS => ?_)
  have hP : va_P (dC, dI) vwCl [(aR, .inr (7, [.int (nI 0), .int (nI mv), .ref ams, .ref ann, .int (nI n), .ref ak2, .ref af2, .ref as2, .ref ah2, .int (nI 0), .ref afa, .ref afx, .ref ald, .int (nI zz), .ref awy, .int lp, .ref alt, .ref abg, .int (wz_i tl)]))] H := hP
  have hD : va_D A [(aR, .inr (7, [.int (nI 0), .int (nI mv), .ref ams, .ref ann, .int (nI n), .ref ak2, .ref af2, .ref as2, .ref ah2, .int (nI 0), .ref afa, .ref afx, .ref ald, .int (nI zz), .ref awy, .int lp, .ref alt, .ref abg, .int (wz_i tl)]))] := hD
  exact wz_vret hx hb hr hlocks hP hD hK hS dMo_unfair_10
set_option maxHeartbeats 4000000 in
set_option maxRecDepth 100000 in
theorem kMo_thrown (l : Launch) (dC : Nat → ClassId) (dI : Nat → Nat → Nat) (cI cJ cZ : ClassId) (sz : Nat) (aR : Nat) (ams : Nat) (ann : Nat) (ak2 : Nat) (af2 : Nat) (as2 : Nat) (ah2 : Nat) (afa : Nat) (afx : Nat) (ald : Nat) (awy : Nat) (alt : Nat) (abg : Nat) (th : Nat) (mv : Nat) (n : Nat) (fc : Nat) (zz : Nat) (lp : Int32) (tl : Bool) : Met l yMo_thrown (.code yMo_thrown cMo_thrown 1 (some .int) :: wz_all) ({ frames := 0, cells := 0, slots := 0, locals := 0 }) (wz_Pc (dC, dI) vwCl (wz_T cI cJ cZ) [.ref aR] sz [(aR, .inr (7, [.int (nI th), .int (nI mv), .ref ams, .ref ann, .int (nI n), .ref ak2, .ref af2, .ref as2, .ref ah2, .int (nI fc), .ref afa, .ref afx, .ref ald, .int (nI zz), .ref awy, .int lp, .ref alt, .ref abg, .int (wz_i tl)]))]) (va_Qi (fun (r : Int32) (_ : Unit) => r = nI th) (fun _ t => va_P (dC, dI) vwCl [(aR, .inr (7, [.int (nI th), .int (nI mv), .ref ams, .ref ann, .int (nI n), .ref ak2, .ref af2, .ref as2, .ref ah2, .int (nI fc), .ref afa, .ref afx, .ref ald, .int (nI zz), .ref awy, .int lp, .ref alt, .ref abg, .int (wz_i tl)]))] t.heap ∧ va_K (dC, dI) vwCl (wz_T cI cJ cZ) t ∧ va_D (va_A [(aR, .inr (7, [.int (nI th), .int (nI mv), .ref ams, .ref ann, .int (nI n), .ref ak2, .ref af2, .ref as2, .ref ah2, .int (nI fc), .ref afa, .ref afx, .ref ald, .int (nI zz), .ref awy, .int lp, .ref alt, .ref abg, .int (wz_i tl)]))] sz) [(aR, .inr (7, [.int (nI th), .int (nI mv), .ref ams, .ref ann, .int (nI n), .ref ak2, .ref af2, .ref as2, .ref ah2, .int (nI fc), .ref afa, .ref afx, .ref ald, .int (nI zz), .ref awy, .int lp, .ref alt, .ref abg, .int (wz_i tl)]))]) (va_A [(aR, .inr (7, [.int (nI th), .int (nI mv), .ref ams, .ref ann, .int (nI n), .ref ak2, .ref af2, .ref as2, .ref ah2, .int (nI fc), .ref afa, .ref afx, .ref ald, .int (nI zz), .ref awy, .int lp, .ref alt, .ref abg, .int (wz_i tl)]))] sz)) 0 0 (va_A [(aR, .inr (7, [.int (nI th), .int (nI mv), .ref ams, .ref ann, .int (nI n), .ref ak2, .ref af2, .ref as2, .ref ah2, .int (nI fc), .ref afa, .ref afx, .ref ald, .int (nI zz), .ref awy, .int lp, .ref alt, .ref abg, .int (wz_i tl)]))] sz) := by
  refine Met.ofW (cc := cMo_thrown) (maxL := 1) (ret := (some .int)) (by decide) rfl ?_
  intro p e s m args below meth c s₁ B hml hv
  obtain ⟨rfl, hsz, hP, hK, hD0, hN⟩ := hv
  have hx := B.exec
  have hb := B.bytes
  have hr := B.returns
  have hts := atoms_spec (ws := (.code yMo_thrown cMo_thrown 1 (some .int) :: wz_all)) B.pre
  have hw : ∀ w9 ∈ wz_all, w9.before [.ref aR].toArray s = true := fun w9 h => hts w9 (List.mem_cons_of_mem _ h)
  have hown : s.vm.findClass RMo = some m.cls := findClass_of_methodNamed B.named
  have hlocks := B.notSynchronized
  subst hsz
  have hD := hD0.self (sz := s.heap.size)
  generalize hAe : va_A [(aR, .inr (7, [.int (nI th), .int (nI mv), .ref ams, .ref ann, .int (nI n), .ref ak2, .ref af2, .ref as2, .ref ah2, .int (nI fc), .ref afa, .ref afx, .ref ald, .int (nI zz), .ref awy, .int lp, .ref alt, .ref abg, .int (wz_i tl)]))] s.heap.size = A at hD ⊢
  have hA : ∀ q : Nat, s.heap.size ≤ q → A q := fun q h => by rw [← hAe]; exact Or.inr h
  have hS : va_S A s.heap s.heap [] := va_S.rf
  have hP : va_P (dC, dI) vwCl [(aR, .inr (7, [.int (nI th), .int (nI mv), .ref ams, .ref ann, .int (nI n), .ref ak2, .ref af2, .ref as2, .ref ah2, .int (nI fc), .ref afa, .ref afx, .ref ald, .int (nI zz), .ref awy, .int lp, .ref alt, .ref abg, .int (wz_i tl)]))] s.heap := hP
  have hl := lv_entry ([.ref aR]) (n := 1) (Nat.le_of_ble_eq_true rfl)
  rw [lg_entry_eq]
  generalize (lg_sl ([.ref aR]) ++ List.replicate (1 - (lg_sl ([.ref aR])).length) Slot.unset).toArray = ls at hl ⊢
  have hl : lv_has ls 1 [(0, .ref aR)] := hl
  refine lv_aload_n hx hb dMo_thrown_0 rfl (lv_at hl 0 rfl) ?_
  refine va_get (D := (dC, dI)) (ci := 7) (v := .int (nI th)) (C := RMo) (T := TMo) (N := 19) hx hb hw in_Mo hown hK hP 0 rfl rfl 0 (by decide) (hw _ w_500) (fun _ h9 => h9) rfl dMo_thrown_1 ?_
  exact wz_iret hx hb hr hlocks rfl hP hD hK hS dMo_thrown_4
set_option maxHeartbeats 4000000 in
set_option maxRecDepth 100000 in
theorem kMo_in (l : Launch) (dC : Nat → ClassId) (dI : Nat → Nat → Nat) (cI cJ cZ : ClassId) (sz : Nat) (aR : Nat) (ams : Nat) (ann : Nat) (ak2 : Nat) (af2 : Nat) (as2 : Nat) (ah2 : Nat) (afa : Nat) (afx : Nat) (ald : Nat) (awy : Nat) (alt : Nat) (abg : Nat) (th : Nat) (mv : Nat) (n : Nat) (fc : Nat) (zz : Nat) (lp : Int32) (tl : Bool) (x : Int64) (k : Nat) (hk64 : k < 64) : Met l yMo_in (.code yMo_in cMo_in 4 (some .boolean) :: wz_all) ({ frames := 0, cells := 0, slots := 0, locals := 0 }) (wz_Pc (dC, dI) vwCl (wz_T cI cJ cZ) [.ref aR, .long x, .int (nI k)] sz [(aR, .inr (7, [.int (nI th), .int (nI mv), .ref ams, .ref ann, .int (nI n), .ref ak2, .ref af2, .ref as2, .ref ah2, .int (nI fc), .ref afa, .ref afx, .ref ald, .int (nI zz), .ref awy, .int lp, .ref alt, .ref abg, .int (wz_i tl)]))]) (va_Qi (fun (r : Int32) (_ : Unit) => r = wz_i (ww_m x k)) (fun _ t => va_P (dC, dI) vwCl [(aR, .inr (7, [.int (nI th), .int (nI mv), .ref ams, .ref ann, .int (nI n), .ref ak2, .ref af2, .ref as2, .ref ah2, .int (nI fc), .ref afa, .ref afx, .ref ald, .int (nI zz), .ref awy, .int lp, .ref alt, .ref abg, .int (wz_i tl)]))] t.heap ∧ va_K (dC, dI) vwCl (wz_T cI cJ cZ) t ∧ va_D (va_A [(aR, .inr (7, [.int (nI th), .int (nI mv), .ref ams, .ref ann, .int (nI n), .ref ak2, .ref af2, .ref as2, .ref ah2, .int (nI fc), .ref afa, .ref afx, .ref ald, .int (nI zz), .ref awy, .int lp, .ref alt, .ref abg, .int (wz_i tl)]))] sz) [(aR, .inr (7, [.int (nI th), .int (nI mv), .ref ams, .ref ann, .int (nI n), .ref ak2, .ref af2, .ref as2, .ref ah2, .int (nI fc), .ref afa, .ref afx, .ref ald, .int (nI zz), .ref awy, .int lp, .ref alt, .ref abg, .int (wz_i tl)]))]) (va_A [(aR, .inr (7, [.int (nI th), .int (nI mv), .ref ams, .ref ann, .int (nI n), .ref ak2, .ref af2, .ref as2, .ref ah2, .int (nI fc), .ref afa, .ref afx, .ref ald, .int (nI zz), .ref awy, .int lp, .ref alt, .ref abg, .int (wz_i tl)]))] sz)) 0 0 (va_A [(aR, .inr (7, [.int (nI th), .int (nI mv), .ref ams, .ref ann, .int (nI n), .ref ak2, .ref af2, .ref as2, .ref ah2, .int (nI fc), .ref afa, .ref afx, .ref ald, .int (nI zz), .ref awy, .int lp, .ref alt, .ref abg, .int (wz_i tl)]))] sz) := by
  refine Met.ofW (cc := cMo_in) (maxL := 4) (ret := (some .boolean)) (by decide) rfl ?_
  intro p e s m args below meth c s₁ B hml hv
  obtain ⟨rfl, hsz, hP, hK, hD0, hN⟩ := hv
  have hx := B.exec
  have hb := B.bytes
  have hr := B.returns
  have hts := atoms_spec (ws := (.code yMo_in cMo_in 4 (some .boolean) :: wz_all)) B.pre
  have hw : ∀ w9 ∈ wz_all, w9.before [.ref aR, .long x, .int (nI k)].toArray s = true := fun w9 h => hts w9 (List.mem_cons_of_mem _ h)
  have hown : s.vm.findClass RMo = some m.cls := findClass_of_methodNamed B.named
  have hlocks := B.notSynchronized
  subst hsz
  have hD := hD0.self (sz := s.heap.size)
  generalize hAe : va_A [(aR, .inr (7, [.int (nI th), .int (nI mv), .ref ams, .ref ann, .int (nI n), .ref ak2, .ref af2, .ref as2, .ref ah2, .int (nI fc), .ref afa, .ref afx, .ref ald, .int (nI zz), .ref awy, .int lp, .ref alt, .ref abg, .int (wz_i tl)]))] s.heap.size = A at hD ⊢
  have hA : ∀ q : Nat, s.heap.size ≤ q → A q := fun q h => by rw [← hAe]; exact Or.inr h
  have hS : va_S A s.heap s.heap [] := va_S.rf
  have hP : va_P (dC, dI) vwCl [(aR, .inr (7, [.int (nI th), .int (nI mv), .ref ams, .ref ann, .int (nI n), .ref ak2, .ref af2, .ref as2, .ref ah2, .int (nI fc), .ref afa, .ref afx, .ref ald, .int (nI zz), .ref awy, .int lp, .ref alt, .ref abg, .int (wz_i tl)]))] s.heap := hP
  have hl := lv_entry ([.ref aR, .long x, .int (nI k)]) (n := 4) (Nat.le_of_ble_eq_true rfl)
  rw [lg_entry_eq]
  generalize (lg_sl ([.ref aR, .long x, .int (nI k)]) ++ List.replicate (4 - (lg_sl ([.ref aR, .long x, .int (nI k)])).length) Slot.unset).toArray = ls at hl ⊢
  have hl : lv_has ls 4 [(0, .ref aR), (1, .long x), (3, .int (nI k))] := hl
  refine lv_lload_n hx hb dMo_in_0 rfl (lv_at hl 1 rfl) ?_
  refine lv_iload_n hx hb dMo_in_1 rfl (lv_at hl 2 rfl) ?_
  refine lv_lshr hx hb dMo_in_2 rfl ?_
  refine lv_lconst (v := 1) hx hb dMo_in_3 (by decide) ?_
  refine lv_land hx hb dMo_in_4 ?_
  refine lv_lconst (v := 1) hx hb dMo_in_5 (by decide) ?_
  refine wz_lcmp_ne (tgt := 14) hx hb dMo_in_6 dMo_in_7 (by decide) (fun h6_1 => ?_) (fun h6_1 => ?_)
  · skip
    refine lv_iconst (v := nI 0) hx hb dMo_in_14 (by decide) ?_
    exact wz_zret (b := false) hx hb hr hlocks (by first | (have h9 := h6_1; rw [ww_sshr x hk64, ww_bit_1] at h9; rw [h9]) | (have h9 := h6_1; rw [ww_sshr x hk64, ww_bit_1] at h9; cases h8 : ww_m x k; rfl; exact absurd h8 h9)) hP hD hK hS dMo_in_15
  · skip
    refine lv_iconst (v := nI 1) hx hb dMo_in_10 (by decide) ?_
    refine lv_goto (tgt := 15) hx hb dMo_in_11 (by decide) ?_
    exact wz_zret (b := true) hx hb hr hlocks (by first | (have h9 := h6_1; rw [ww_sshr x hk64, ww_bit_1] at h9; rw [h9]) | (have h9 := h6_1; rw [ww_sshr x hk64, ww_bit_1] at h9; cases h8 : ww_m x k; rfl; exact absurd h8 h9)) hP hD hK hS dMo_in_15
set_option maxHeartbeats 4000000 in
set_option maxRecDepth 100000 in
theorem kMo_before (l : Launch) (dC : Nat → ClassId) (dI : Nat → Nat → Nat) (cI cJ cZ : ClassId) (sz : Nat) (aR : Nat) (ams : Nat) (ann : Nat) (ak2 : Nat) (af2 : Nat) (as2 : Nat) (ah2 : Nat) (afa : Nat) (afx : Nat) (ald : Nat) (awy : Nat) (alt : Nat) (abg : Nat) (th : Nat) (mv : Nat) (n : Nat) (fc : Nat) (zz : Nat) (lp : Int32) (tl : Bool) (nx : Nat → Int64) (x : Int64) : Met l yMo_before (.code yMo_before cMo_before 6 (some .long) :: wz_all) ({ frames := 0, cells := 0, slots := 0, locals := 0 }) (wz_Pc (dC, dI) vwCl (wz_T cI cJ cZ) [.ref aR, .long x] sz [(aR, .inr (7, [.int (nI th), .int (nI mv), .ref ams, .ref ann, .int (nI n), .ref ak2, .ref af2, .ref as2, .ref ah2, .int (nI fc), .ref afa, .ref afx, .ref ald, .int (nI zz), .ref awy, .int lp, .ref alt, .ref abg, .int (wz_i tl)])), (ann, .inl (cJ, 64, .inr (.inl nx)))]) (va_Ql (fun (r : Int64) (_ : Unit) => r = ww_bf nx x) (fun _ t => va_P (dC, dI) vwCl [(aR, .inr (7, [.int (nI th), .int (nI mv), .ref ams, .ref ann, .int (nI n), .ref ak2, .ref af2, .ref as2, .ref ah2, .int (nI fc), .ref afa, .ref afx, .ref ald, .int (nI zz), .ref awy, .int lp, .ref alt, .ref abg, .int (wz_i tl)])), (ann, .inl (cJ, 64, .inr (.inl nx)))] t.heap ∧ va_K (dC, dI) vwCl (wz_T cI cJ cZ) t ∧ va_D (va_A [(aR, .inr (7, [.int (nI th), .int (nI mv), .ref ams, .ref ann, .int (nI n), .ref ak2, .ref af2, .ref as2, .ref ah2, .int (nI fc), .ref afa, .ref afx, .ref ald, .int (nI zz), .ref awy, .int lp, .ref alt, .ref abg, .int (wz_i tl)])), (ann, .inl (cJ, 64, .inr (.inl nx)))] sz) [(aR, .inr (7, [.int (nI th), .int (nI mv), .ref ams, .ref ann, .int (nI n), .ref ak2, .ref af2, .ref as2, .ref ah2, .int (nI fc), .ref afa, .ref afx, .ref ald, .int (nI zz), .ref awy, .int lp, .ref alt, .ref abg, .int (wz_i tl)])), (ann, .inl (cJ, 64, .inr (.inl nx)))]) (va_A [(aR, .inr (7, [.int (nI th), .int (nI mv), .ref ams, .ref ann, .int (nI n), .ref ak2, .ref af2, .ref as2, .ref ah2, .int (nI fc), .ref afa, .ref afx, .ref ald, .int (nI zz), .ref awy, .int lp, .ref alt, .ref abg, .int (wz_i tl)])), (ann, .inl (cJ, 64, .inr (.inl nx)))] sz)) 0 0 (va_A [(aR, .inr (7, [.int (nI th), .int (nI mv), .ref ams, .ref ann, .int (nI n), .ref ak2, .ref af2, .ref as2, .ref ah2, .int (nI fc), .ref afa, .ref afx, .ref ald, .int (nI zz), .ref awy, .int lp, .ref alt, .ref abg, .int (wz_i tl)])), (ann, .inl (cJ, 64, .inr (.inl nx)))] sz) := by
  refine Met.ofW (cc := cMo_before) (maxL := 6) (ret := (some .long)) (by decide) rfl ?_
  intro p e s m args below meth c s₁ B hml hv
  obtain ⟨rfl, hsz, hP, hK, hD0, hN⟩ := hv
  have hx := B.exec
  have hb := B.bytes
  have hr := B.returns
  have hts := atoms_spec (ws := (.code yMo_before cMo_before 6 (some .long) :: wz_all)) B.pre
  have hw : ∀ w9 ∈ wz_all, w9.before [.ref aR, .long x].toArray s = true := fun w9 h => hts w9 (List.mem_cons_of_mem _ h)
  have hown : s.vm.findClass RMo = some m.cls := findClass_of_methodNamed B.named
  have hlocks := B.notSynchronized
  subst hsz
  have hD := hD0.self (sz := s.heap.size)
  generalize hAe : va_A [(aR, .inr (7, [.int (nI th), .int (nI mv), .ref ams, .ref ann, .int (nI n), .ref ak2, .ref af2, .ref as2, .ref ah2, .int (nI fc), .ref afa, .ref afx, .ref ald, .int (nI zz), .ref awy, .int lp, .ref alt, .ref abg, .int (wz_i tl)])), (ann, .inl (cJ, 64, .inr (.inl nx)))] s.heap.size = A at hD ⊢
  have hA : ∀ q : Nat, s.heap.size ≤ q → A q := fun q h => by rw [← hAe]; exact Or.inr h
  have hS : va_S A s.heap s.heap [] := va_S.rf
  have hP : va_P (dC, dI) vwCl [(aR, .inr (7, [.int (nI th), .int (nI mv), .ref ams, .ref ann, .int (nI n), .ref ak2, .ref af2, .ref as2, .ref ah2, .int (nI fc), .ref afa, .ref afx, .ref ald, .int (nI zz), .ref awy, .int lp, .ref alt, .ref abg, .int (wz_i tl)])), (ann, .inl (cJ, 64, .inr (.inl nx)))] s.heap := hP
  have hl := lv_entry ([.ref aR, .long x]) (n := 6) (Nat.le_of_ble_eq_true rfl)
  rw [lg_entry_eq]
  generalize (lg_sl ([.ref aR, .long x]) ++ List.replicate (6 - (lg_sl ([.ref aR, .long x])).length) Slot.unset).toArray = ls at hl ⊢
  have hl : lv_has ls 6 [(0, .ref aR), (1, .long x)] := hl
  have cut5 : ∀ (n5 : Nat) (k : Nat) (b : Int64) (hk : k ≤ 64) (hbb : b = ww_mkn (fun s => decide (¬ nx s &&& x = 0)) k), 64 - k = n5 → ∀ (H : Heap) (locs : List Loc), va_P (dC, dI) vwCl [(aR, .inr (7, [.int (nI th), .int (nI mv), .ref ams, .ref ann, .int (nI n), .ref ak2, .ref af2, .ref as2, .ref ah2, .int (nI fc), .ref afa, .ref afx, .ref ald, .int (nI zz), .ref awy, .int lp, .ref alt, .ref abg, .int (wz_i tl)])), (ann, .inl (cJ, 64, .inr (.inl nx)))] H → va_D A [(aR, .inr (7, [.int (nI th), .int (nI mv), .ref ams, .ref ann, .int (nI n), .ref ak2, .ref af2, .ref as2, .ref ah2, .int (nI fc), .ref afa, .ref afx, .ref ald, .int (nI zz), .ref awy, .int lp, .ref alt, .ref abg, .int (wz_i tl)])), (ann, .inl (cJ, 64, .inr (.inl nx)))] → va_S A s.heap H locs → ∀ ls : Array Slot, lv_has ls 6 [(5, .int (nI k)), (3, .long b), (0, .ref aR), (1, .long x)] → W p l e (headSpec (.code yMo_before cMo_before 6 (some .long) :: wz_all) ({ frames := 0, cells := 0, slots := 0, locals := 0 })).room s m [.ref aR, .long x].toArray below meth c H locs 0 0 (MQ below (va_Ql (fun (r : Int64) (_ : Unit) => r = ww_bf nx x) (fun _ t => va_P (dC, dI) vwCl [(aR, .inr (7, [.int (nI th), .int (nI mv), .ref ams, .ref ann, .int (nI n), .ref ak2, .ref af2, .ref as2, .ref ah2, .int (nI fc), .ref afa, .ref afx, .ref ald, .int (nI zz), .ref awy, .int lp, .ref alt, .ref abg, .int (wz_i tl)])), (ann, .inl (cJ, 64, .inr (.inl nx)))] t.heap ∧ va_K (dC, dI) vwCl (wz_T cI cJ cZ) t ∧ va_D A [(aR, .inr (7, [.int (nI th), .int (nI mv), .ref ams, .ref ann, .int (nI n), .ref ak2, .ref af2, .ref as2, .ref ah2, .int (nI fc), .ref afa, .ref afx, .ref ald, .int (nI zz), .ref awy, .int lp, .ref alt, .ref abg, .int (wz_i tl)])), (ann, .inl (cJ, 64, .inr (.inl nx)))]) A) [.ref aR, .long x].toArray s 0 0 A) (F0 m 5 ls []) := by
    intro n5
    induction n5 using Nat.strongRecOn with
    | _ n5 ih5 =>
    intro k b hk hbb hm5 H locs hP hD hS ls hl
    refine lv_iload hx hb dMo_before_5 (lv_at hl 0 rfl) ?_
    refine lv_bipush (v := nI 64) hx hb dMo_before_7 (by decide) ?_
    refine wz_icmp_ge (x := k) (y := 64) (tgt := 43) hx hb (by omega) (by omega) dMo_before_9 (by decide) (fun h9_1 => ?_) (fun h9_1 => ?_)
    · skip
      refine lv_lload_n hx hb dMo_before_43 rfl (lv_at hl 1 rfl) ?_
      exact wz_lret hx hb hr hlocks (by rw [hbb, show k = 64 by omega]; rfl) hP hD hK hS dMo_before_44
    · skip
      refine lv_aload_n hx hb dMo_before_12 rfl (lv_at hl 2 rfl) ?_
      refine va_get (D := (dC, dI)) (ci := 7) (v := .ref ann) (C := RMo) (T := TMo) (N := 19) hx hb hw in_Mo hown hK hP 0 rfl rfl 3 (by decide) (hw _ w_503) (fun _ h9 => h9) rfl dMo_before_13 ?_
      refine lv_iload hx hb dMo_before_16 (lv_at hl 0 rfl) ?_
      refine wz_lald hx hb hK hP 1 1 rfl rfl (i := k) (by omega) (by decide) dMo_before_18 ?_
      refine lv_lload_n hx hb dMo_before_19 rfl (lv_at hl 3 rfl) ?_
      refine lv_land hx hb dMo_before_20 ?_
      refine lv_lconst (v := 0) hx hb dMo_before_21 (by decide) ?_
      refine wz_lcmp_eq (tgt := 35) hx hb dMo_before_22 dMo_before_23 (by decide) (fun h22_2 => ?_) (fun h22_2 => ?_)
      · skip
        refine lv_lload_n hx hb dMo_before_35 rfl (lv_at hl 1 rfl) ?_
        refine lv_lstore_n (lv' := [(3, .long b), (5, .int (nI k)), (0, .ref aR), (1, .long x)]) hx hb dMo_before_36 rfl hl (by decide) rfl (fun ls hl => ?_)
        refine lv_iinc (v := nI (k + 1)) (lv' := [(5, .int (nI (k + 1))), (3, .long b), (0, .ref aR), (1, .long x)]) hx hb dMo_before_37 hl (k := 1) rfl ((nI_succ _).symm) (by decide) rfl (fun ls hl => ?_)
        refine lv_goto (tgt := 5) hx hb dMo_before_40 (by decide) ?_
        exact ih5 _ (by omega) (k + 1) b (by omega) (by subst hbb; first | exact ww_mkn_y (decide_eq_true h22_2) | exact ww_mkn_n (decide_eq_false (fun q => q h22_2))) rfl _ _ hP hD hS _ hl
      · skip
        refine lv_lload_n hx hb dMo_before_26 rfl (lv_at hl 1 rfl) ?_
        refine lv_lconst (v := 1) hx hb dMo_before_27 (by decide) ?_
        refine lv_iload hx hb dMo_before_28 (lv_at hl 0 rfl) ?_
        refine wz_lshl1 hx hb (by omega) dMo_before_30 ?_
        refine lv_lor hx hb dMo_before_31 ?_
        refine lv_goto (tgt := 36) hx hb dMo_before_32 (by decide) ?_
        refine lv_lstore_n (lv' := [(3, .long (b ||| (ww_b k))), (5, .int (nI k)), (0, .ref aR), (1, .long x)]) hx hb dMo_before_36 rfl hl (by decide) rfl (fun ls hl => ?_)
        refine lv_iinc (v := nI (k + 1)) (lv' := [(5, .int (nI (k + 1))), (3, .long (b ||| (ww_b k))), (0, .ref aR), (1, .long x)]) hx hb dMo_before_37 hl (k := 1) rfl ((nI_succ _).symm) (by decide) rfl (fun ls hl => ?_)
        refine lv_goto (tgt := 5) hx hb dMo_before_40 (by decide) ?_
        exact ih5 _ (by omega) (k + 1) (b ||| (ww_b k)) (by omega) (by subst hbb; first | exact ww_mkn_y (decide_eq_true h22_2) | exact ww_mkn_n (decide_eq_false (fun q => q h22_2))) rfl _ _ hP hD hS _ hl
  refine lv_lconst (v := 0) hx hb dMo_before_0 (by decide) ?_
  refine lv_lstore_n (lv' := [(3, .long 0), (0, .ref aR), (1, .long x)]) hx hb dMo_before_1 rfl hl (by decide) rfl (fun ls hl => ?_)
  refine lv_iconst (v := nI 0) hx hb dMo_before_2 (by decide) ?_
  refine lv_istore (lv' := [(5, .int (nI 0)), (3, .long 0), (0, .ref aR), (1, .long x)]) hx hb dMo_before_3 hl (by decide) rfl (fun ls hl => ?_)
  exact cut5 _ 0 0 (by omega) rfl rfl _ _ hP hD hS _ hl
set_option maxHeartbeats 4000000 in
set_option maxRecDepth 100000 in
theorem kMo_reaching (l : Launch) (dC : Nat → ClassId) (dI : Nat → Nat → Nat) (cI cJ cZ : ClassId) (sz : Nat) (aR : Nat) (ams : Nat) (ann : Nat) (ak2 : Nat) (af2 : Nat) (as2 : Nat) (ah2 : Nat) (afa : Nat) (afx : Nat) (ald : Nat) (awy : Nat) (alt : Nat) (abg : Nat) (th : Nat) (mv : Nat) (n : Nat) (fc : Nat) (zz : Nat) (lp : Int32) (tl : Bool) (nx : Nat → Int64) (g : Int64) (w : Int64) : Met l yMo_reaching (.code yMo_reaching cMo_reaching 9 (some .long) :: wz_all) ({ frames := 1, cells := 0, slots := 0, locals := 25 }) (wz_Pc (dC, dI) vwCl (wz_T cI cJ cZ) [.ref aR, .long g, .long w] sz [(aR, .inr (7, [.int (nI th), .int (nI mv), .ref ams, .ref ann, .int (nI n), .ref ak2, .ref af2, .ref as2, .ref ah2, .int (nI fc), .ref afa, .ref afx, .ref ald, .int (nI zz), .ref awy, .int lp, .ref alt, .ref abg, .int (wz_i tl)])), (ann, .inl (cJ, 64, .inr (.inl nx)))]) (va_Ql (fun (r : Int64) (_ : Unit) => r = ww_rc nx g w) (fun _ t => va_P (dC, dI) vwCl [(aR, .inr (7, [.int (nI th), .int (nI mv), .ref ams, .ref ann, .int (nI n), .ref ak2, .ref af2, .ref as2, .ref ah2, .int (nI fc), .ref afa, .ref afx, .ref ald, .int (nI zz), .ref awy, .int lp, .ref alt, .ref abg, .int (wz_i tl)])), (ann, .inl (cJ, 64, .inr (.inl nx)))] t.heap ∧ va_K (dC, dI) vwCl (wz_T cI cJ cZ) t ∧ va_D (va_A [(aR, .inr (7, [.int (nI th), .int (nI mv), .ref ams, .ref ann, .int (nI n), .ref ak2, .ref af2, .ref as2, .ref ah2, .int (nI fc), .ref afa, .ref afx, .ref ald, .int (nI zz), .ref awy, .int lp, .ref alt, .ref abg, .int (wz_i tl)])), (ann, .inl (cJ, 64, .inr (.inl nx)))] sz) [(aR, .inr (7, [.int (nI th), .int (nI mv), .ref ams, .ref ann, .int (nI n), .ref ak2, .ref af2, .ref as2, .ref ah2, .int (nI fc), .ref afa, .ref afx, .ref ald, .int (nI zz), .ref awy, .int lp, .ref alt, .ref abg, .int (wz_i tl)])), (ann, .inl (cJ, 64, .inr (.inl nx)))]) (va_A [(aR, .inr (7, [.int (nI th), .int (nI mv), .ref ams, .ref ann, .int (nI n), .ref ak2, .ref af2, .ref as2, .ref ah2, .int (nI fc), .ref afa, .ref afx, .ref ald, .int (nI zz), .ref awy, .int lp, .ref alt, .ref abg, .int (wz_i tl)])), (ann, .inl (cJ, 64, .inr (.inl nx)))] sz)) 0 0 (va_A [(aR, .inr (7, [.int (nI th), .int (nI mv), .ref ams, .ref ann, .int (nI n), .ref ak2, .ref af2, .ref as2, .ref ah2, .int (nI fc), .ref afa, .ref afx, .ref ald, .int (nI zz), .ref awy, .int lp, .ref alt, .ref abg, .int (wz_i tl)])), (ann, .inl (cJ, 64, .inr (.inl nx)))] sz) := by
  refine Met.ofW (cc := cMo_reaching) (maxL := 9) (ret := (some .long)) (by decide) rfl ?_
  intro p e s m args below meth c s₁ B hml hv
  obtain ⟨rfl, hsz, hP, hK, hD0, hN⟩ := hv
  have hx := B.exec
  have hb := B.bytes
  have hr := B.returns
  have hts := atoms_spec (ws := (.code yMo_reaching cMo_reaching 9 (some .long) :: wz_all)) B.pre
  have hw : ∀ w9 ∈ wz_all, w9.before [.ref aR, .long g, .long w].toArray s = true := fun w9 h => hts w9 (List.mem_cons_of_mem _ h)
  have hown : s.vm.findClass RMo = some m.cls := findClass_of_methodNamed B.named
  have hlocks := B.notSynchronized
  subst hsz
  have hD := hD0.self (sz := s.heap.size)
  generalize hAe : va_A [(aR, .inr (7, [.int (nI th), .int (nI mv), .ref ams, .ref ann, .int (nI n), .ref ak2, .ref af2, .ref as2, .ref ah2, .int (nI fc), .ref afa, .ref afx, .ref ald, .int (nI zz), .ref awy, .int lp, .ref alt, .ref abg, .int (wz_i tl)])), (ann, .inl (cJ, 64, .inr (.inl nx)))] s.heap.size = A at hD ⊢
  have hA : ∀ q : Nat, s.heap.size ≤ q → A q := fun q h => by rw [← hAe]; exact Or.inr h
  have hS : va_S A s.heap s.heap [] := va_S.rf
  have hP : va_P (dC, dI) vwCl [(aR, .inr (7, [.int (nI th), .int (nI mv), .ref ams, .ref ann, .int (nI n), .ref ak2, .ref af2, .ref as2, .ref ah2, .int (nI fc), .ref afa, .ref afx, .ref ald, .int (nI zz), .ref awy, .int lp, .ref alt, .ref abg, .int (wz_i tl)])), (ann, .inl (cJ, 64, .inr (.inl nx)))] s.heap := hP
  have hl := lv_entry ([.ref aR, .long g, .long w]) (n := 9) (Nat.le_of_ble_eq_true rfl)
  rw [lg_entry_eq]
  generalize (lg_sl ([.ref aR, .long g, .long w]) ++ List.replicate (9 - (lg_sl ([.ref aR, .long g, .long w])).length) Slot.unset).toArray = ls at hl ⊢
  have hl : lv_has ls 9 [(0, .ref aR), (1, .long g), (3, .long w)] := hl
  have cut6 : ∀ (n6 : Nat) (k : Nat) (b : Int64) (wa : Int64) (hbb : b = ww_it (ww_R nx w) k g) (hwa : (k = 0 ∧ wa = 0) ∨ ∃ j, k = j + 1 ∧ wa = ww_it (ww_R nx w) j g) (hle : k ≤ ww_cn b + 1), 66 - k = n6 → ∀ (H : Heap) (locs : List Loc), va_P (dC, dI) vwCl [(aR, .inr (7, [.int (nI th), .int (nI mv), .ref ams, .ref ann, .int (nI n), .ref ak2, .ref af2, .ref as2, .ref ah2, .int (nI fc), .ref afa, .ref afx, .ref ald, .int (nI zz), .ref awy, .int lp, .ref alt, .ref abg, .int (wz_i tl)])), (ann, .inl (cJ, 64, .inr (.inl nx)))] H → va_D A [(aR, .inr (7, [.int (nI th), .int (nI mv), .ref ams, .ref ann, .int (nI n), .ref ak2, .ref af2, .ref as2, .ref ah2, .int (nI fc), .ref afa, .ref afx, .ref ald, .int (nI zz), .ref awy, .int lp, .ref alt, .ref abg, .int (wz_i tl)])), (ann, .inl (cJ, 64, .inr (.inl nx)))] → va_S A s.heap H locs → ∀ ls : Array Slot, lv_has ls 9 [(7, .long wa), (5, .long b), (0, .ref aR), (1, .long g), (3, .long w)] → W p l e (headSpec (.code yMo_reaching cMo_reaching 9 (some .long) :: wz_all) ({ frames := 1, cells := 0, slots := 0, locals := 25 })).room s m [.ref aR, .long g, .long w].toArray below meth c H locs 0 0 (MQ below (va_Ql (fun (r : Int64) (_ : Unit) => r = ww_rc nx g w) (fun _ t => va_P (dC, dI) vwCl [(aR, .inr (7, [.int (nI th), .int (nI mv), .ref ams, .ref ann, .int (nI n), .ref ak2, .ref af2, .ref as2, .ref ah2, .int (nI fc), .ref afa, .ref afx, .ref ald, .int (nI zz), .ref awy, .int lp, .ref alt, .ref abg, .int (wz_i tl)])), (ann, .inl (cJ, 64, .inr (.inl nx)))] t.heap ∧ va_K (dC, dI) vwCl (wz_T cI cJ cZ) t ∧ va_D A [(aR, .inr (7, [.int (nI th), .int (nI mv), .ref ams, .ref ann, .int (nI n), .ref ak2, .ref af2, .ref as2, .ref ah2, .int (nI fc), .ref afa, .ref afx, .ref ald, .int (nI zz), .ref awy, .int lp, .ref alt, .ref abg, .int (wz_i tl)])), (ann, .inl (cJ, 64, .inr (.inl nx)))]) A) [.ref aR, .long g, .long w].toArray s 0 0 A) (F0 m 6 ls []) := by
    intro n6
    induction n6 using Nat.strongRecOn with
    | _ n6 ih6 =>
    intro k b wa hbb hwa hle hm6 H locs hP hD hS ls hl
    refine lv_lload hx hb dMo_reaching_6 (lv_at hl 1 rfl) ?_
    refine lv_lload hx hb dMo_reaching_8 (lv_at hl 0 rfl) ?_
    refine wz_lcmp_eq (tgt := 34) hx hb dMo_reaching_10 dMo_reaching_11 (by decide) (fun h10_1 => ?_) (fun h10_1 => ?_)
    · skip
      refine lv_lload hx hb dMo_reaching_34 (lv_at hl 1 rfl) ?_
      exact wz_lret hx hb hr hlocks (ww_up_end hbb hwa h10_1) hP hD hK hS dMo_reaching_36
    · skip
      refine lv_lload hx hb dMo_reaching_14 (lv_at hl 1 rfl) ?_
      refine lv_lstore (lv' := [(7, .long b), (5, .long b), (0, .ref aR), (1, .long g), (3, .long w)]) hx hb dMo_reaching_16 hl (by decide) rfl (fun ls hl => ?_)
      refine lv_lload hx hb dMo_reaching_18 (lv_at hl 1 rfl) ?_
      refine lv_aload_n hx hb dMo_reaching_20 rfl (lv_at hl 2 rfl) ?_
      refine lv_lload hx hb dMo_reaching_21 (lv_at hl 1 rfl) ?_
      refine wz_calll (wc := [(aR, .inr (7, [.int (nI th), .int (nI mv), .ref ams, .ref ann, .int (nI n), .ref ak2, .ref af2, .ref as2, .ref ah2, .int (nI fc), .ref afa, .ref afx, .ref ald, .int (nI zz), .ref awy, .int lp, .ref alt, .ref abg, .int (wz_i tl)])), (ann, .inl (cJ, 64, .inr (.inl nx)))]) (wr := []) (w1 := [(aR, .inr (7, [.int (nI th), .int (nI mv), .ref ams, .ref ann, .int (nI n), .ref ak2, .ref af2, .ref as2, .ref ah2, .int (nI fc), .ref afa, .ref afx, .ref ald, .int (nI zz), .ref awy, .int lp, .ref alt, .ref abg, .int (wz_i tl)])), (ann, .inl (cJ, 64, .inr (.inl nx)))]) (ws' := [(aR, .inr (7, [.int (nI th), .int (nI mv), .ref ams, .ref ann, .int (nI n), .ref ak2, .ref af2, .ref as2, .ref ah2, .int (nI fc), .ref afa, .ref afx, .ref ald, .int (nI zz), .ref awy, .int lp, .ref alt, .ref abg, .int (wz_i tl)])), (ann, .inl (cJ, 64, .inr (.inl nx)))]) hP hD hS hA [0, 1] [] [0, 1] rfl rfl (by decide) (by decide) (by decide) rfl rfl (va_runV (As := [.long b]) (rest := [.long b]) ⟨hx, hb, hml, hown, hts⟩ (kMo_before l dC dI cI cJ cZ H.size aR ams ann ak2 af2 as2 ah2 afa afx ald awy alt abg th mv n fc zz lp tl nx b) (cwV 1 hts (wz_gV w_626 w_627 w_22 w_41 w_628) rfl rfl rfl (by decide +kernel) ⟨Nat.le_of_ble_eq_true rfl, Nat.le_of_ble_eq_true rfl⟩) (wz_preV (q := (RMo, TMo, 19)) (ci := 7) hN hK hP hD [0, 1] (by decide) rfl rfl 0 rfl rfl) rfl rfl hl.1 rfl (lv_room (Nat.le_of_ble_eq_true rfl)) dMo_reaching_23 ⟨Nat.le_refl _, Nat.le_refl _⟩) (fun H locs hP hD hS => ?_)
      refine lv_lload_n hx hb dMo_reaching_26 rfl (lv_at hl 4 rfl) ?_
      refine lv_land hx hb dMo_reaching_27 ?_
      refine lv_lor hx hb dMo_reaching_28 ?_
      refine lv_lstore (lv' := [(5, .long (b ||| ((ww_bf nx b) &&& w))), (7, .long b), (0, .ref aR), (1, .long g), (3, .long w)]) hx hb dMo_reaching_29 hl (by decide) rfl (fun ls hl => ?_)
      refine lv_goto (tgt := 6) hx hb dMo_reaching_31 (by decide) ?_
      exact ih6 _ (by have q9 := ww_cn_le b; omega) (k + 1) (b ||| ((ww_bf nx b) &&& w)) b (by subst hbb; rfl) (Or.inr ⟨k, rfl, hbb⟩) (ww_up_cn hbb hwa h10_1 hle) rfl _ _ hP hD hS _ (lv_sub hl [1, 0, 2, 3, 4] rfl)
  refine lv_lload_n hx hb dMo_reaching_0 rfl (lv_at hl 1 rfl) ?_
  refine lv_lstore (lv' := [(5, .long g), (0, .ref aR), (1, .long g), (3, .long w)]) hx hb dMo_reaching_1 hl (by decide) rfl (fun ls hl => ?_)
  refine lv_lconst (v := 0) hx hb dMo_reaching_3 (by decide) ?_
  refine lv_lstore (lv' := [(7, .long 0), (5, .long g), (0, .ref aR), (1, .long g), (3, .long w)]) hx hb dMo_reaching_4 hl (by decide) rfl (fun ls hl => ?_)
  exact cut6 _ 0 g 0 rfl (Or.inl ⟨rfl, rfl⟩) (Nat.zero_le _) rfl _ _ hP hD hS _ hl
set_option maxHeartbeats 4000000 in
set_option maxRecDepth 100000 in
theorem kMo_findLeads (l : Launch) (dC : Nat → ClassId) (dI : Nat → Nat → Nat) (cI cJ cZ : ClassId) (sz : Nat) (aR : Nat) (ams : Nat) (ann : Nat) (ak2 : Nat) (af2 : Nat) (as2 : Nat) (ah2 : Nat) (afa : Nat) (afx : Nat) (ald : Nat) (awy : Nat) (alt : Nat) (abg : Nat) (th : Nat) (mv : Nat) (n : Nat) (fc : Nat) (zz : Nat) (lp : Int32) (tl : Bool) (nx : Nat → Int64) (le2 : Nat → Int64) (w : Int64) : Met l yMo_findLeads (.code yMo_findLeads cMo_findLeads 5 none :: wz_all) ({ frames := 1, cells := 0, slots := 0, locals := 23 }) (wz_Pc (dC, dI) vwCl (wz_T cI cJ cZ) [.ref aR, .long w] sz [(aR, .inr (7, [.int (nI th), .int (nI mv), .ref ams, .ref ann, .int (nI n), .ref ak2, .ref af2, .ref as2, .ref ah2, .int (nI fc), .ref afa, .ref afx, .ref ald, .int (nI zz), .ref awy, .int lp, .ref alt, .ref abg, .int (wz_i tl)])), (ann, .inl (cJ, 64, .inr (.inl nx))), (ald, .inl (cJ, 64, .inr (.inl le2)))]) (va_Qv (fun (_ : Unit) => True) (fun _ t => va_P (dC, dI) vwCl [(aR, .inr (7, [.int (nI th), .int (nI mv), .ref ams, .ref ann, .int (nI n), .ref ak2, .ref af2, .ref as2, .ref ah2, .int (nI fc), .ref afa, .ref afx, .ref ald, .int (nI zz), .ref awy, .int lp, .ref alt, .ref abg, .int (wz_i tl)])), (ann, .inl (cJ, 64, .inr (.inl nx))), (ald, .inl (cJ, 64, .inr (.inl (ww_leK nx w le2))))] t.heap ∧ va_K (dC, dI) vwCl (wz_T cI cJ cZ) t ∧ va_D (va_A [(aR, .inr (7, [.int (nI th), .int (nI mv), .ref ams, .ref ann, .int (nI n), .ref ak2, .ref af2, .ref as2, .ref ah2, .int (nI fc), .ref afa, .ref afx, .ref ald, .int (nI zz), .ref awy, .int lp, .ref alt, .ref abg, .int (wz_i tl)])), (ann, .inl (cJ, 64, .inr (.inl nx))), (ald, .inl (cJ, 64, .inr (.inl le2)))] sz) [(aR, .inr (7, [.int (nI th), .int (nI mv), .ref ams, .ref ann, .int (nI n), .ref ak2, .ref af2, .ref as2, .ref ah2, .int (nI fc), .ref afa, .ref afx, .ref ald, .int (nI zz), .ref awy, .int lp, .ref alt, .ref abg, .int (wz_i tl)])), (ann, .inl (cJ, 64, .inr (.inl nx))), (ald, .inl (cJ, 64, .inr (.inl (ww_leK nx w le2))))]) (va_A [(aR, .inr (7, [.int (nI th), .int (nI mv), .ref ams, .ref ann, .int (nI n), .ref ak2, .ref af2, .ref as2, .ref ah2, .int (nI fc), .ref afa, .ref afx, .ref ald, .int (nI zz), .ref awy, .int lp, .ref alt, .ref abg, .int (wz_i tl)])), (ann, .inl (cJ, 64, .inr (.inl nx))), (ald, .inl (cJ, 64, .inr (.inl le2)))] sz)) 0 0 (va_A [(aR, .inr (7, [.int (nI th), .int (nI mv), .ref ams, .ref ann, .int (nI n), .ref ak2, .ref af2, .ref as2, .ref ah2, .int (nI fc), .ref afa, .ref afx, .ref ald, .int (nI zz), .ref awy, .int lp, .ref alt, .ref abg, .int (wz_i tl)])), (ann, .inl (cJ, 64, .inr (.inl nx))), (ald, .inl (cJ, 64, .inr (.inl le2)))] sz) := by
  refine Met.ofW (cc := cMo_findLeads) (maxL := 5) (ret := none) (by decide) rfl ?_
  intro p e s m args below meth c s₁ B hml hv
  obtain ⟨rfl, hsz, hP, hK, hD0, hN⟩ := hv
  have hx := B.exec
  have hb := B.bytes
  have hr := B.returns
  have hts := atoms_spec (ws := (.code yMo_findLeads cMo_findLeads 5 none :: wz_all)) B.pre
  have hw : ∀ w9 ∈ wz_all, w9.before [.ref aR, .long w].toArray s = true := fun w9 h => hts w9 (List.mem_cons_of_mem _ h)
  have hown : s.vm.findClass RMo = some m.cls := findClass_of_methodNamed B.named
  have hlocks := B.notSynchronized
  subst hsz
  have hD := hD0.self (sz := s.heap.size)
  generalize hAe : va_A [(aR, .inr (7, [.int (nI th), .int (nI mv), .ref ams, .ref ann, .int (nI n), .ref ak2, .ref af2, .ref as2, .ref ah2, .int (nI fc), .ref afa, .ref afx, .ref ald, .int (nI zz), .ref awy, .int lp, .ref alt, .ref abg, .int (wz_i tl)])), (ann, .inl (cJ, 64, .inr (.inl nx))), (ald, .inl (cJ, 64, .inr (.inl le2)))] s.heap.size = A at hD ⊢
  have hA : ∀ q : Nat, s.heap.size ≤ q → A q := fun q h => by rw [← hAe]; exact Or.inr h
  have hS : va_S A s.heap s.heap [] := va_S.rf
  have hP : va_P (dC, dI) vwCl [(aR, .inr (7, [.int (nI th), .int (nI mv), .ref ams, .ref ann, .int (nI n), .ref ak2, .ref af2, .ref as2, .ref ah2, .int (nI fc), .ref afa, .ref afx, .ref ald, .int (nI zz), .ref awy, .int lp, .ref alt, .ref abg, .int (wz_i tl)])), (ann, .inl (cJ, 64, .inr (.inl nx))), (ald, .inl (cJ, 64, .inr (.inl le2)))] s.heap := hP
  have hl := lv_entry ([.ref aR, .long w]) (n := 5) (Nat.le_of_ble_eq_true rfl)
  rw [lg_entry_eq]
  generalize (lg_sl ([.ref aR, .long w]) ++ List.replicate (5 - (lg_sl ([.ref aR, .long w])).length) Slot.unset).toArray = ls at hl ⊢
  have hl : lv_has ls 5 [(0, .ref aR), (1, .long w)] := hl
  have cut43 : ∀ (n43 : Nat) (k : Nat) (le3 : Nat → Int64) (hk : k ≤ 64) (hle3 : le3 = ww_wo k (ww_fl (ww_l0 nx w) ww_k64 le2)), 64 - k = n43 → ∀ (H : Heap) (locs : List Loc), va_P (dC, dI) vwCl [(aR, .inr (7, [.int (nI th), .int (nI mv), .ref ams, .ref ann, .int (nI n), .ref ak2, .ref af2, .ref as2, .ref ah2, .int (nI fc), .ref afa, .ref afx, .ref ald, .int (nI zz), .ref awy, .int lp, .ref alt, .ref abg, .int (wz_i tl)])), (ann, .inl (cJ, 64, .inr (.inl nx))), (ald, .inl (cJ, 64, .inr (.inl le3)))] H → va_D A [(aR, .inr (7, [.int (nI th), .int (nI mv), .ref ams, .ref ann, .int (nI n), .ref ak2, .ref af2, .ref as2, .ref ah2, .int (nI fc), .ref afa, .ref afx, .ref ald, .int (nI zz), .ref awy, .int lp, .ref alt, .ref abg, .int (wz_i tl)])), (ann, .inl (cJ, 64, .inr (.inl nx))), (ald, .inl (cJ, 64, .inr (.inl le3)))] → va_S A s.heap H locs → ∀ ls : Array Slot, lv_has ls 5 [(3, .int (nI k)), (0, .ref aR), (1, .long w)] → W p l e (headSpec (.code yMo_findLeads cMo_findLeads 5 none :: wz_all) ({ frames := 1, cells := 0, slots := 0, locals := 23 })).room s m [.ref aR, .long w].toArray below meth c H locs 0 0 (MQ below (va_Qv (fun (_ : Unit) => True) (fun _ t => va_P (dC, dI) vwCl [(aR, .inr (7, [.int (nI th), .int (nI mv), .ref ams, .ref ann, .int (nI n), .ref ak2, .ref af2, .ref as2, .ref ah2, .int (nI fc), .ref afa, .ref afx, .ref ald, .int (nI zz), .ref awy, .int lp, .ref alt, .ref abg, .int (wz_i tl)])), (ann, .inl (cJ, 64, .inr (.inl nx))), (ald, .inl (cJ, 64, .inr (.inl (ww_leK nx w le2))))] t.heap ∧ va_K (dC, dI) vwCl (wz_T cI cJ cZ) t ∧ va_D A [(aR, .inr (7, [.int (nI th), .int (nI mv), .ref ams, .ref ann, .int (nI n), .ref ak2, .ref af2, .ref as2, .ref ah2, .int (nI fc), .ref afa, .ref afx, .ref ald, .int (nI zz), .ref awy, .int lp, .ref alt, .ref abg, .int (wz_i tl)])), (ann, .inl (cJ, 64, .inr (.inl nx))), (ald, .inl (cJ, 64, .inr (.inl (ww_leK nx w le2))))]) A) [.ref aR, .long w].toArray s 0 0 A) (F0 m 43 ls []) := by
    intro n43
    induction n43 using Nat.strongRecOn with
    | _ n43 ih43 =>
    intro k le3 hk hle3 hm43 H locs hP hD hS ls hl
    have cut52 : ∀ (n52 : Nat) (j : Nat) (le4 : Nat → Int64) (hk1 : k < 64) (hj : j ≤ 64) (hle4 : le4 = ww_wi k j le3), 64 - j = n52 → ∀ (H : Heap) (locs : List Loc), va_P (dC, dI) vwCl [(aR, .inr (7, [.int (nI th), .int (nI mv), .ref ams, .ref ann, .int (nI n), .ref ak2, .ref af2, .ref as2, .ref ah2, .int (nI fc), .ref afa, .ref afx, .ref ald, .int (nI zz), .ref awy, .int lp, .ref alt, .ref abg, .int (wz_i tl)])), (ann, .inl (cJ, 64, .inr (.inl nx))), (ald, .inl (cJ, 64, .inr (.inl le4)))] H → va_D A [(aR, .inr (7, [.int (nI th), .int (nI mv), .ref ams, .ref ann, .int (nI n), .ref ak2, .ref af2, .ref as2, .ref ah2, .int (nI fc), .ref afa, .ref afx, .ref ald, .int (nI zz), .ref awy, .int lp, .ref alt, .ref abg, .int (wz_i tl)])), (ann, .inl (cJ, 64, .inr (.inl nx))), (ald, .inl (cJ, 64, .inr (.inl le4)))] → va_S A s.heap H locs → ∀ ls : Array Slot, lv_has ls 5 [(4, .int (nI j)), (3, .int (nI k)), (0, .ref aR), (1, .long w)] → W p l e (headSpec (.code yMo_findLeads cMo_findLeads 5 none :: wz_all) ({ frames := 1, cells := 0, slots := 0, locals := 23 })).room s m [.ref aR, .long w].toArray below meth c H locs 0 0 (MQ below (va_Qv (fun (_ : Unit) => True) (fun _ t => va_P (dC, dI) vwCl [(aR, .inr (7, [.int (nI th), .int (nI mv), .ref ams, .ref ann, .int (nI n), .ref ak2, .ref af2, .ref as2, .ref ah2, .int (nI fc), .ref afa, .ref afx, .ref ald, .int (nI zz), .ref awy, .int lp, .ref alt, .ref abg, .int (wz_i tl)])), (ann, .inl (cJ, 64, .inr (.inl nx))), (ald, .inl (cJ, 64, .inr (.inl (ww_leK nx w le2))))] t.heap ∧ va_K (dC, dI) vwCl (wz_T cI cJ cZ) t ∧ va_D A [(aR, .inr (7, [.int (nI th), .int (nI mv), .ref ams, .ref ann, .int (nI n), .ref ak2, .ref af2, .ref as2, .ref ah2, .int (nI fc), .ref afa, .ref afx, .ref ald, .int (nI zz), .ref awy, .int lp, .ref alt, .ref abg, .int (wz_i tl)])), (ann, .inl (cJ, 64, .inr (.inl nx))), (ald, .inl (cJ, 64, .inr (.inl (ww_leK nx w le2))))]) A) [.ref aR, .long w].toArray s 0 0 A) (F0 m 52 ls []) := by
      intro n52
      induction n52 using Nat.strongRecOn with
      | _ n52 ih52 =>
      intro j le4 hk1 hj hle4 hm52 H locs hP hD hS ls hl
      refine lv_iload hx hb dMo_findLeads_52 (lv_at hl 0 rfl) ?_
      refine lv_bipush (v := nI 64) hx hb dMo_findLeads_54 (by decide) ?_
      refine wz_icmp_ge (x := j) (y := 64) (tgt := 111) hx hb (by omega) (by omega) dMo_findLeads_56 (by decide) (fun h56_1 => ?_) (fun h56_1 => ?_)
      · skip
        refine lv_iinc (v := nI (k + 1)) (lv' := [(3, .int (nI (k + 1))), (4, .int (nI j)), (0, .ref aR), (1, .long w)]) hx hb dMo_findLeads_111 hl (k := 1) rfl ((nI_succ _).symm) (by decide) rfl (fun ls hl => ?_)
        refine lv_goto (tgt := 43) hx hb dMo_findLeads_114 (by decide) ?_
        exact ih43 _ (by omega) (k + 1) le4 (by omega) (by subst hle3; rw [hle4, show j = 64 by omega]; rfl) rfl _ _ hP hD hS _ (lv_sub hl [0, 2, 3] rfl)
      · skip
        refine lv_aload_n hx hb dMo_findLeads_59 rfl (lv_at hl 2 rfl) ?_
        refine va_get (D := (dC, dI)) (ci := 7) (v := .ref ald) (C := RMo) (T := TMo) (N := 19) hx hb hw in_Mo hown hK hP 0 rfl rfl 12 (by decide) (hw _ w_512) (fun _ h9 => h9) rfl dMo_findLeads_60 ?_
        refine lv_iload hx hb dMo_findLeads_63 (lv_at hl 0 rfl) ?_
        refine lv_aload_n hx hb dMo_findLeads_65 rfl (lv_at hl 2 rfl) ?_
        refine lv_aload_n hx hb dMo_findLeads_66 rfl (lv_at hl 2 rfl) ?_
        refine va_get (D := (dC, dI)) (ci := 7) (v := .ref ald) (C := RMo) (T := TMo) (N := 19) hx hb hw in_Mo hown hK hP 0 rfl rfl 12 (by decide) (hw _ w_512) (fun _ h9 => h9) rfl dMo_findLeads_67 ?_
        refine lv_iload hx hb dMo_findLeads_70 (lv_at hl 0 rfl) ?_
        refine wz_lald hx hb hK hP 2 1 rfl rfl (i := j) (by omega) (by decide) dMo_findLeads_72 ?_
        refine lv_iload_n hx hb dMo_findLeads_73 rfl (lv_at hl 1 rfl) ?_
        refine wz_calli (wc := [(aR, .inr (7, [.int (nI th), .int (nI mv), .ref ams, .ref ann, .int (nI n), .ref ak2, .ref af2, .ref as2, .ref ah2, .int (nI fc), .ref afa, .ref afx, .ref ald, .int (nI zz), .ref awy, .int lp, .ref alt, .ref abg, .int (wz_i tl)]))]) (wr := [(ann, .inl (cJ, 64, .inr (.inl nx))), (ald, .inl (cJ, 64, .inr (.inl le4)))]) (w1 := [(aR, .inr (7, [.int (nI th), .int (nI mv), .ref ams, .ref ann, .int (nI n), .ref ak2, .ref af2, .ref as2, .ref ah2, .int (nI fc), .ref afa, .ref afx, .ref ald, .int (nI zz), .ref awy, .int lp, .ref alt, .ref abg, .int (wz_i tl)]))]) (ws' := [(aR, .inr (7, [.int (nI th), .int (nI mv), .ref ams, .ref ann, .int (nI n), .ref ak2, .ref af2, .ref as2, .ref ah2, .int (nI fc), .ref afa, .ref afx, .ref ald, .int (nI zz), .ref awy, .int lp, .ref alt, .ref abg, .int (wz_i tl)])), (ann, .inl (cJ, 64, .inr (.inl nx))), (ald, .inl (cJ, 64, .inr (.inl le4)))]) hP hD hS hA [0] [1, 2] [2, 0, 1] rfl rfl (by decide) (by decide) (by decide) rfl rfl (va_runV (As := [.long (le4 j), .int (nI k)]) (rest := [.int (nI j), .ref ald]) ⟨hx, hb, hml, hown, hts⟩ (kMo_in l dC dI cI cJ cZ H.size aR ams ann ak2 af2 as2 ah2 afa afx ald awy alt abg th mv n fc zz lp tl (le4 j) k (by omega)) (cwV 2 hts (wz_gV w_617 w_618 w_19 w_41 w_619) rfl rfl rfl (by decide +kernel) ⟨Nat.le_of_ble_eq_true rfl, Nat.le_of_ble_eq_true rfl⟩) (wz_preV (q := (RMo, TMo, 19)) (ci := 7) hN hK hP hD [0] (by decide) rfl rfl 0 rfl rfl) rfl rfl hl.1 rfl (lv_room (Nat.le_of_ble_eq_true rfl)) dMo_findLeads_74 ⟨Nat.le_refl _, Nat.le_refl _⟩) (fun H locs hP hD hS => ?_)
        refine wz_ifz (tgt := 97) hx hb dMo_findLeads_77 (by decide) (fun h77_2 => ?_) (fun h77_2 => ?_)
        · skip
          refine lv_aload_n hx hb dMo_findLeads_97 rfl (lv_at hl 2 rfl) ?_
          refine va_get (D := (dC, dI)) (ci := 7) (v := .ref ald) (C := RMo) (T := TMo) (N := 19) hx hb hw in_Mo hown hK hP 0 rfl rfl 12 (by decide) (hw _ w_512) (fun _ h9 => h9) rfl dMo_findLeads_98 ?_
          refine lv_iload hx hb dMo_findLeads_101 (lv_at hl 0 rfl) ?_
          refine wz_lald hx hb hK hP 2 1 rfl rfl (i := j) (by omega) (by decide) dMo_findLeads_103 ?_
          refine wz_last (ws' := [(aR, .inr (7, [.int (nI th), .int (nI mv), .ref ams, .ref ann, .int (nI n), .ref ak2, .ref af2, .ref as2, .ref ah2, .int (nI fc), .ref afa, .ref afx, .ref ald, .int (nI zz), .ref awy, .int lp, .ref alt, .ref abg, .int (wz_i tl)])), (ann, .inl (cJ, 64, .inr (.inl nx))), (ald, .inl (cJ, 64, .inr (.inl (vp_updL le4 j (le4 j)))))]) hx hb hK hP hD hS 2 1 rfl rfl (i := j) (by omega) (by decide) dMo_findLeads_104 rfl (fun H locs hP hD hS => ?_)
          refine lv_iinc (v := nI (j + 1)) (lv' := [(4, .int (nI (j + 1))), (3, .int (nI k)), (0, .ref aR), (1, .long w)]) hx hb dMo_findLeads_105 hl (k := 0) rfl ((nI_succ _).symm) (by decide) rfl (fun ls hl => ?_)
          refine lv_goto (tgt := 52) hx hb dMo_findLeads_108 (by decide) ?_
          exact ih52 _ (by omega) (j + 1) (vp_updL le4 j (le4 j)) (by omega) (by omega) (by subst hle4; first | exact congrArg (vp_updL _ j) (if_pos h77_2).symm | exact congrArg (vp_updL _ j) (if_neg (by rw [h77_2]; decide)).symm) rfl _ _ hP hD hS _ hl
        · skip
          refine lv_aload_n hx hb dMo_findLeads_80 rfl (lv_at hl 2 rfl) ?_
          refine va_get (D := (dC, dI)) (ci := 7) (v := .ref ald) (C := RMo) (T := TMo) (N := 19) hx hb hw in_Mo hown hK hP 0 rfl rfl 12 (by decide) (hw _ w_512) (fun _ h9 => h9) rfl dMo_findLeads_81 ?_
          refine lv_iload hx hb dMo_findLeads_84 (lv_at hl 0 rfl) ?_
          refine wz_lald hx hb hK hP 2 1 rfl rfl (i := j) (by omega) (by decide) dMo_findLeads_86 ?_
          refine lv_aload_n hx hb dMo_findLeads_87 rfl (lv_at hl 2 rfl) ?_
          refine va_get (D := (dC, dI)) (ci := 7) (v := .ref ald) (C := RMo) (T := TMo) (N := 19) hx hb hw in_Mo hown hK hP 0 rfl rfl 12 (by decide) (hw _ w_512) (fun _ h9 => h9) rfl dMo_findLeads_88 ?_
          refine lv_iload_n hx hb dMo_findLeads_91 rfl (lv_at hl 1 rfl) ?_
          refine wz_lald hx hb hK hP 2 1 rfl rfl (i := k) (by omega) (by decide) dMo_findLeads_92 ?_
          refine lv_lor hx hb dMo_findLeads_93 ?_
          refine lv_goto (tgt := 104) hx hb dMo_findLeads_94 (by decide) ?_
          refine wz_last (ws' := [(aR, .inr (7, [.int (nI th), .int (nI mv), .ref ams, .ref ann, .int (nI n), .ref ak2, .ref af2, .ref as2, .ref ah2, .int (nI fc), .ref afa, .ref afx, .ref ald, .int (nI zz), .ref awy, .int lp, .ref alt, .ref abg, .int (wz_i tl)])), (ann, .inl (cJ, 64, .inr (.inl nx))), (ald, .inl (cJ, 64, .inr (.inl (vp_updL le4 j ((le4 j) ||| (le4 k))))))]) hx hb hK hP hD hS 2 1 rfl rfl (i := j) (by omega) (by decide) dMo_findLeads_104 rfl (fun H locs hP hD hS => ?_)
          refine lv_iinc (v := nI (j + 1)) (lv' := [(4, .int (nI (j + 1))), (3, .int (nI k)), (0, .ref aR), (1, .long w)]) hx hb dMo_findLeads_105 hl (k := 0) rfl ((nI_succ _).symm) (by decide) rfl (fun ls hl => ?_)
          refine lv_goto (tgt := 52) hx hb dMo_findLeads_108 (by decide) ?_
          exact ih52 _ (by omega) (j + 1) (vp_updL le4 j ((le4 j) ||| (le4 k))) (by omega) (by omega) (by subst hle4; first | exact congrArg (vp_updL _ j) (if_pos h77_2).symm | exact congrArg (vp_updL _ j) (if_neg (by rw [h77_2]; decide)).symm) rfl _ _ hP hD hS _ hl
    refine lv_iload_n hx hb dMo_findLeads_43 rfl (lv_at hl 0 rfl) ?_
    refine lv_bipush (v := nI 64) hx hb dMo_findLeads_44 (by decide) ?_
    refine wz_icmp_ge (x := k) (y := 64) (tgt := 117) hx hb (by omega) (by omega) dMo_findLeads_46 (by decide) (fun h46_3 => ?_) (fun h46_3 => ?_)
    · skip
      obtain rfl : k = ww_k64 := by rw [ww_k64_eq]; omega
      subst hle3
      exact wz_vret hx hb hr hlocks hP hD hK hS dMo_findLeads_117
    · skip
      refine lv_iconst (v := nI 0) hx hb dMo_findLeads_49 (by decide) ?_
      refine lv_istore (lv' := [(4, .int (nI 0)), (3, .int (nI k)), (0, .ref aR), (1, .long w)]) hx hb dMo_findLeads_50 hl (by decide) rfl (fun ls hl => ?_)
      exact cut52 _ 0 le3 (by omega) (by omega) rfl rfl _ _ hP hD hS _ hl
  have cut2 : ∀ (n2 : Nat) (k : Nat) (le3 : Nat → Int64) (hk : k ≤ 64) (hle3 : le3 = ww_fl (ww_l0 nx w) k le2), 64 - k = n2 → ∀ (H : Heap) (locs : List Loc), va_P (dC, dI) vwCl [(aR, .inr (7, [.int (nI th), .int (nI mv), .ref ams, .ref ann, .int (nI n), .ref ak2, .ref af2, .ref as2, .ref ah2, .int (nI fc), .ref afa, .ref afx, .ref ald, .int (nI zz), .ref awy, .int lp, .ref alt, .ref abg, .int (wz_i tl)])), (ann, .inl (cJ, 64, .inr (.inl nx))), (ald, .inl (cJ, 64, .inr (.inl le3)))] H → va_D A [(aR, .inr (7, [.int (nI th), .int (nI mv), .ref ams, .ref ann, .int (nI n), .ref ak2, .ref af2, .ref as2, .ref ah2, .int (nI fc), .ref afa, .ref afx, .ref ald, .int (nI zz), .ref awy, .int lp, .ref alt, .ref abg, .int (wz_i tl)])), (ann, .inl (cJ, 64, .inr (.inl nx))), (ald, .inl (cJ, 64, .inr (.inl le3)))] → va_S A s.heap H locs → ∀ ls : Array Slot, lv_has ls 5 [(3, .int (nI k)), (0, .ref aR), (1, .long w)] → W p l e (headSpec (.code yMo_findLeads cMo_findLeads 5 none :: wz_all) ({ frames := 1, cells := 0, slots := 0, locals := 23 })).room s m [.ref aR, .long w].toArray below meth c H locs 0 0 (MQ below (va_Qv (fun (_ : Unit) => True) (fun _ t => va_P (dC, dI) vwCl [(aR, .inr (7, [.int (nI th), .int (nI mv), .ref ams, .ref ann, .int (nI n), .ref ak2, .ref af2, .ref as2, .ref ah2, .int (nI fc), .ref afa, .ref afx, .ref ald, .int (nI zz), .ref awy, .int lp, .ref alt, .ref abg, .int (wz_i tl)])), (ann, .inl (cJ, 64, .inr (.inl nx))), (ald, .inl (cJ, 64, .inr (.inl (ww_leK nx w le2))))] t.heap ∧ va_K (dC, dI) vwCl (wz_T cI cJ cZ) t ∧ va_D A [(aR, .inr (7, [.int (nI th), .int (nI mv), .ref ams, .ref ann, .int (nI n), .ref ak2, .ref af2, .ref as2, .ref ah2, .int (nI fc), .ref afa, .ref afx, .ref ald, .int (nI zz), .ref awy, .int lp, .ref alt, .ref abg, .int (wz_i tl)])), (ann, .inl (cJ, 64, .inr (.inl nx))), (ald, .inl (cJ, 64, .inr (.inl (ww_leK nx w le2))))]) A) [.ref aR, .long w].toArray s 0 0 A) (F0 m 2 ls []) := by
    intro n2
    induction n2 using Nat.strongRecOn with
    | _ n2 ih2 =>
    intro k le3 hk hle3 hm2 H locs hP hD hS ls hl
    refine lv_iload_n hx hb dMo_findLeads_2 rfl (lv_at hl 0 rfl) ?_
    refine lv_bipush (v := nI 64) hx hb dMo_findLeads_3 (by decide) ?_
    refine wz_icmp_ge (x := k) (y := 64) (tgt := 41) hx hb (by omega) (by omega) dMo_findLeads_5 (by decide) (fun h5_4 => ?_) (fun h5_4 => ?_)
    · skip
      refine lv_iconst (v := nI 0) hx hb dMo_findLeads_41 (by decide) ?_
      refine lv_istore_n (lv' := [(3, .int (nI 0)), (0, .ref aR), (1, .long w)]) hx hb dMo_findLeads_42 rfl hl (by decide) rfl (fun ls hl => ?_)
      exact cut43 _ 0 le3 (by omega) (by rw [hle3, show k = ww_k64 by rw [ww_k64_eq]; omega]; rfl) rfl _ _ hP hD hS _ hl
    · skip
      refine lv_aload_n hx hb dMo_findLeads_8 rfl (lv_at hl 1 rfl) ?_
      refine va_get (D := (dC, dI)) (ci := 7) (v := .ref ald) (C := RMo) (T := TMo) (N := 19) hx hb hw in_Mo hown hK hP 0 rfl rfl 12 (by decide) (hw _ w_512) (fun _ h9 => h9) rfl dMo_findLeads_9 ?_
      refine lv_iload_n hx hb dMo_findLeads_12 rfl (lv_at hl 0 rfl) ?_
      refine lv_aload_n hx hb dMo_findLeads_13 rfl (lv_at hl 1 rfl) ?_
      refine lv_lload_n hx hb dMo_findLeads_14 rfl (lv_at hl 2 rfl) ?_
      refine lv_iload_n hx hb dMo_findLeads_15 rfl (lv_at hl 0 rfl) ?_
      refine wz_calli (wc := [(aR, .inr (7, [.int (nI th), .int (nI mv), .ref ams, .ref ann, .int (nI n), .ref ak2, .ref af2, .ref as2, .ref ah2, .int (nI fc), .ref afa, .ref afx, .ref ald, .int (nI zz), .ref awy, .int lp, .ref alt, .ref abg, .int (wz_i tl)]))]) (wr := [(ann, .inl (cJ, 64, .inr (.inl nx))), (ald, .inl (cJ, 64, .inr (.inl le3)))]) (w1 := [(aR, .inr (7, [.int (nI th), .int (nI mv), .ref ams, .ref ann, .int (nI n), .ref ak2, .ref af2, .ref as2, .ref ah2, .int (nI fc), .ref afa, .ref afx, .ref ald, .int (nI zz), .ref awy, .int lp, .ref alt, .ref abg, .int (wz_i tl)]))]) (ws' := [(aR, .inr (7, [.int (nI th), .int (nI mv), .ref ams, .ref ann, .int (nI n), .ref ak2, .ref af2, .ref as2, .ref ah2, .int (nI fc), .ref afa, .ref afx, .ref ald, .int (nI zz), .ref awy, .int lp, .ref alt, .ref abg, .int (wz_i tl)])), (ann, .inl (cJ, 64, .inr (.inl nx))), (ald, .inl (cJ, 64, .inr (.inl le3)))]) hP hD hS hA [0] [1, 2] [2, 0, 1] rfl rfl (by decide) (by decide) (by decide) rfl rfl (va_runV (As := [.long w, .int (nI k)]) (rest := [.int (nI k), .ref ald]) ⟨hx, hb, hml, hown, hts⟩ (kMo_in l dC dI cI cJ cZ H.size aR ams ann ak2 af2 as2 ah2 afa afx ald awy alt abg th mv n fc zz lp tl w k (by omega)) (cwV 2 hts (wz_gV w_617 w_618 w_19 w_41 w_619) rfl rfl rfl (by decide +kernel) ⟨Nat.le_of_ble_eq_true rfl, Nat.le_of_ble_eq_true rfl⟩) (wz_preV (q := (RMo, TMo, 19)) (ci := 7) hN hK hP hD [0] (by decide) rfl rfl 0 rfl rfl) rfl rfl hl.1 rfl (lv_room (Nat.le_of_ble_eq_true rfl)) dMo_findLeads_16 ⟨Nat.le_refl _, Nat.le_refl _⟩) (fun H locs hP hD hS => ?_)
      refine wz_ifz (tgt := 33) hx hb dMo_findLeads_19 (by decide) (fun h19_5 => ?_) (fun h19_5 => ?_)
      · skip
        refine lv_lconst (v := 0) hx hb dMo_findLeads_33 (by decide) ?_
        refine wz_last (ws' := [(aR, .inr (7, [.int (nI th), .int (nI mv), .ref ams, .ref ann, .int (nI n), .ref ak2, .ref af2, .ref as2, .ref ah2, .int (nI fc), .ref afa, .ref afx, .ref ald, .int (nI zz), .ref awy, .int lp, .ref alt, .ref abg, .int (wz_i tl)])), (ann, .inl (cJ, 64, .inr (.inl nx))), (ald, .inl (cJ, 64, .inr (.inl (vp_updL le3 k 0))))]) hx hb hK hP hD hS 2 1 rfl rfl (i := k) (by omega) (by decide) dMo_findLeads_34 rfl (fun H locs hP hD hS => ?_)
        refine lv_iinc (v := nI (k + 1)) (lv' := [(3, .int (nI (k + 1))), (0, .ref aR), (1, .long w)]) hx hb dMo_findLeads_35 hl (k := 0) rfl ((nI_succ _).symm) (by decide) rfl (fun ls hl => ?_)
        refine lv_goto (tgt := 2) hx hb dMo_findLeads_38 (by decide) ?_
        exact ih2 _ (by omega) (k + 1) (vp_updL le3 k 0) (by omega) (by subst hle3; first | exact congrArg (vp_updL _ k) (if_pos h19_5).symm | exact congrArg (vp_updL _ k) (if_neg (by rw [h19_5]; decide)).symm) rfl _ _ hP hD hS _ hl
      · skip
        refine lv_aload_n hx hb dMo_findLeads_22 rfl (lv_at hl 1 rfl) ?_
        refine va_get (D := (dC, dI)) (ci := 7) (v := .ref ann) (C := RMo) (T := TMo) (N := 19) hx hb hw in_Mo hown hK hP 0 rfl rfl 3 (by decide) (hw _ w_503) (fun _ h9 => h9) rfl dMo_findLeads_23 ?_
        refine lv_iload_n hx hb dMo_findLeads_26 rfl (lv_at hl 0 rfl) ?_
        refine wz_lald hx hb hK hP 1 1 rfl rfl (i := k) (by omega) (by decide) dMo_findLeads_27 ?_
        refine lv_lload_n hx hb dMo_findLeads_28 rfl (lv_at hl 2 rfl) ?_
        refine lv_land hx hb dMo_findLeads_29 ?_
        refine lv_goto (tgt := 34) hx hb dMo_findLeads_30 (by decide) ?_
        refine wz_last (ws' := [(aR, .inr (7, [.int (nI th), .int (nI mv), .ref ams, .ref ann, .int (nI n), .ref ak2, .ref af2, .ref as2, .ref ah2, .int (nI fc), .ref afa, .ref afx, .ref ald, .int (nI zz), .ref awy, .int lp, .ref alt, .ref abg, .int (wz_i tl)])), (ann, .inl (cJ, 64, .inr (.inl nx))), (ald, .inl (cJ, 64, .inr (.inl (vp_updL le3 k ((nx k) &&& w)))))]) hx hb hK hP hD hS 2 1 rfl rfl (i := k) (by omega) (by decide) dMo_findLeads_34 rfl (fun H locs hP hD hS => ?_)
        refine lv_iinc (v := nI (k + 1)) (lv' := [(3, .int (nI (k + 1))), (0, .ref aR), (1, .long w)]) hx hb dMo_findLeads_35 hl (k := 0) rfl ((nI_succ _).symm) (by decide) rfl (fun ls hl => ?_)
        refine lv_goto (tgt := 2) hx hb dMo_findLeads_38 (by decide) ?_
        exact ih2 _ (by omega) (k + 1) (vp_updL le3 k ((nx k) &&& w)) (by omega) (by subst hle3; first | exact congrArg (vp_updL _ k) (if_pos h19_5).symm | exact congrArg (vp_updL _ k) (if_neg (by rw [h19_5]; decide)).symm) rfl _ _ hP hD hS _ hl
  refine lv_iconst (v := nI 0) hx hb dMo_findLeads_0 (by decide) ?_
  refine lv_istore_n (lv' := [(3, .int (nI 0)), (0, .ref aR), (1, .long w)]) hx hb dMo_findLeads_1 rfl hl (by decide) rfl (fun ls hl => ?_)
  exact cut2 _ 0 le2 (by omega) rfl rfl _ _ hP hD hS _ hl
set_option maxHeartbeats 4000000 in
set_option maxRecDepth 100000 in
theorem kMo_rounds (l : Launch) (dC : Nat → ClassId) (dI : Nat → Nat → Nat) (cI cJ cZ : ClassId) (sz : Nat) (aR : Nat) (ams : Nat) (ann : Nat) (ak2 : Nat) (af2 : Nat) (as2 : Nat) (ah2 : Nat) (afa : Nat) (afx : Nat) (ald : Nat) (awy : Nat) (alt : Nat) (abg : Nat) (th : Nat) (mv : Nat) (n : Nat) (fc : Nat) (zz : Nat) (lp : Int32) (tl : Bool) (le2 : Nat → Int64) (gx : Nat → Int64) (k : Nat) (hk : k < 64) (hfc : fc ≤ 3) : Met l yMo_rounds (.code yMo_rounds cMo_rounds 6 (some .boolean) :: wz_all) ({ frames := 1, cells := 0, slots := 0, locals := 23 }) (wz_Pc (dC, dI) vwCl (wz_T cI cJ cZ) [.ref aR, .int (nI k)] sz [(aR, .inr (7, [.int (nI th), .int (nI mv), .ref ams, .ref ann, .int (nI n), .ref ak2, .ref af2, .ref as2, .ref ah2, .int (nI fc), .ref afa, .ref afx, .ref ald, .int (nI zz), .ref awy, .int lp, .ref alt, .ref abg, .int (wz_i tl)])), (ald, .inl (cJ, 64, .inr (.inl le2))), (afx, .inl (cJ, 3, .inr (.inl gx)))]) (va_Qi (fun (r : Int32) (_ : Unit) => r = wz_i (ww_gd le2 gx fc k)) (fun _ t => va_P (dC, dI) vwCl [(aR, .inr (7, [.int (nI th), .int (nI mv), .ref ams, .ref ann, .int (nI n), .ref ak2, .ref af2, .ref as2, .ref ah2, .int (nI fc), .ref afa, .ref afx, .ref ald, .int (nI zz), .ref awy, .int lp, .ref alt, .ref abg, .int (wz_i tl)])), (ald, .inl (cJ, 64, .inr (.inl le2))), (afx, .inl (cJ, 3, .inr (.inl gx)))] t.heap ∧ va_K (dC, dI) vwCl (wz_T cI cJ cZ) t ∧ va_D (va_A [(aR, .inr (7, [.int (nI th), .int (nI mv), .ref ams, .ref ann, .int (nI n), .ref ak2, .ref af2, .ref as2, .ref ah2, .int (nI fc), .ref afa, .ref afx, .ref ald, .int (nI zz), .ref awy, .int lp, .ref alt, .ref abg, .int (wz_i tl)])), (ald, .inl (cJ, 64, .inr (.inl le2))), (afx, .inl (cJ, 3, .inr (.inl gx)))] sz) [(aR, .inr (7, [.int (nI th), .int (nI mv), .ref ams, .ref ann, .int (nI n), .ref ak2, .ref af2, .ref as2, .ref ah2, .int (nI fc), .ref afa, .ref afx, .ref ald, .int (nI zz), .ref awy, .int lp, .ref alt, .ref abg, .int (wz_i tl)])), (ald, .inl (cJ, 64, .inr (.inl le2))), (afx, .inl (cJ, 3, .inr (.inl gx)))]) (va_A [(aR, .inr (7, [.int (nI th), .int (nI mv), .ref ams, .ref ann, .int (nI n), .ref ak2, .ref af2, .ref as2, .ref ah2, .int (nI fc), .ref afa, .ref afx, .ref ald, .int (nI zz), .ref awy, .int lp, .ref alt, .ref abg, .int (wz_i tl)])), (ald, .inl (cJ, 64, .inr (.inl le2))), (afx, .inl (cJ, 3, .inr (.inl gx)))] sz)) 0 0 (va_A [(aR, .inr (7, [.int (nI th), .int (nI mv), .ref ams, .ref ann, .int (nI n), .ref ak2, .ref af2, .ref as2, .ref ah2, .int (nI fc), .ref afa, .ref afx, .ref ald, .int (nI zz), .ref awy, .int lp, .ref alt, .ref abg, .int (wz_i tl)])), (ald, .inl (cJ, 64, .inr (.inl le2))), (afx, .inl (cJ, 3, .inr (.inl gx)))] sz) := by
  refine Met.ofW (cc := cMo_rounds) (maxL := 6) (ret := (some .boolean)) (by decide) rfl ?_
  intro p e s m args below meth c s₁ B hml hv
  obtain ⟨rfl, hsz, hP, hK, hD0, hN⟩ := hv
  have hx := B.exec
  have hb := B.bytes
  have hr := B.returns
  have hts := atoms_spec (ws := (.code yMo_rounds cMo_rounds 6 (some .boolean) :: wz_all)) B.pre
  have hw : ∀ w9 ∈ wz_all, w9.before [.ref aR, .int (nI k)].toArray s = true := fun w9 h => hts w9 (List.mem_cons_of_mem _ h)
  have hown : s.vm.findClass RMo = some m.cls := findClass_of_methodNamed B.named
  have hlocks := B.notSynchronized
  subst hsz
  have hD := hD0.self (sz := s.heap.size)
  generalize hAe : va_A [(aR, .inr (7, [.int (nI th), .int (nI mv), .ref ams, .ref ann, .int (nI n), .ref ak2, .ref af2, .ref as2, .ref ah2, .int (nI fc), .ref afa, .ref afx, .ref ald, .int (nI zz), .ref awy, .int lp, .ref alt, .ref abg, .int (wz_i tl)])), (ald, .inl (cJ, 64, .inr (.inl le2))), (afx, .inl (cJ, 3, .inr (.inl gx)))] s.heap.size = A at hD ⊢
  have hA : ∀ q : Nat, s.heap.size ≤ q → A q := fun q h => by rw [← hAe]; exact Or.inr h
  have hS : va_S A s.heap s.heap [] := va_S.rf
  have hP : va_P (dC, dI) vwCl [(aR, .inr (7, [.int (nI th), .int (nI mv), .ref ams, .ref ann, .int (nI n), .ref ak2, .ref af2, .ref as2, .ref ah2, .int (nI fc), .ref afa, .ref afx, .ref ald, .int (nI zz), .ref awy, .int lp, .ref alt, .ref abg, .int (wz_i tl)])), (ald, .inl (cJ, 64, .inr (.inl le2))), (afx, .inl (cJ, 3, .inr (.inl gx)))] s.heap := hP
  have hl := lv_entry ([.ref aR, .int (nI k)]) (n := 6) (Nat.le_of_ble_eq_true rfl)
  rw [lg_entry_eq]
  generalize (lg_sl ([.ref aR, .int (nI k)]) ++ List.replicate (6 - (lg_sl ([.ref aR, .int (nI k)])).length) Slot.unset).toArray = ls at hl ⊢
  have hl : lv_has ls 6 [(0, .ref aR), (1, .int (nI k))] := hl
  have cut81 : ∀ (n81 : Nat) (i : Nat) (al : Bool) (g9 : Int64) (h11b : ww_m (le2 k) k = true) (hi : i ≤ fc) (hg9 : g9 = ww_gr le2 k) (hal : al = ww_all (fun i => decide (¬ ww_gr le2 k &&& gx i = 0)) i), fc - i = n81 → ∀ (H : Heap) (locs : List Loc), va_P (dC, dI) vwCl [(aR, .inr (7, [.int (nI th), .int (nI mv), .ref ams, .ref ann, .int (nI n), .ref ak2, .ref af2, .ref as2, .ref ah2, .int (nI fc), .ref afa, .ref afx, .ref ald, .int (nI zz), .ref awy, .int lp, .ref alt, .ref abg, .int (wz_i tl)])), (ald, .inl (cJ, 64, .inr (.inl le2))), (afx, .inl (cJ, 3, .inr (.inl gx)))] H → va_D A [(aR, .inr (7, [.int (nI th), .int (nI mv), .ref ams, .ref ann, .int (nI n), .ref ak2, .ref af2, .ref as2, .ref ah2, .int (nI fc), .ref afa, .ref afx, .ref ald, .int (nI zz), .ref awy, .int lp, .ref alt, .ref abg, .int (wz_i tl)])), (ald, .inl (cJ, 64, .inr (.inl le2))), (afx, .inl (cJ, 3, .inr (.inl gx)))] → va_S A s.heap H locs → ∀ ls : Array Slot, lv_has ls 6 [(5, .int (nI i)), (4, .int (wz_i al)), (2, .long g9), (0, .ref aR), (1, .int (nI k))] → W p l e (headSpec (.code yMo_rounds cMo_rounds 6 (some .boolean) :: wz_all) ({ frames := 1, cells := 0, slots := 0, locals := 23 })).room s m [.ref aR, .int (nI k)].toArray below meth c H locs 0 0 (MQ below (va_Qi (fun (r : Int32) (_ : Unit) => r = wz_i (ww_gd le2 gx fc k)) (fun _ t => va_P (dC, dI) vwCl [(aR, .inr (7, [.int (nI th), .int (nI mv), .ref ams, .ref ann, .int (nI n), .ref ak2, .ref af2, .ref as2, .ref ah2, .int (nI fc), .ref afa, .ref afx, .ref ald, .int (nI zz), .ref awy, .int lp, .ref alt, .ref abg, .int (wz_i tl)])), (ald, .inl (cJ, 64, .inr (.inl le2))), (afx, .inl (cJ, 3, .inr (.inl gx)))] t.heap ∧ va_K (dC, dI) vwCl (wz_T cI cJ cZ) t ∧ va_D A [(aR, .inr (7, [.int (nI th), .int (nI mv), .ref ams, .ref ann, .int (nI n), .ref ak2, .ref af2, .ref as2, .ref ah2, .int (nI fc), .ref afa, .ref afx, .ref ald, .int (nI zz), .ref awy, .int lp, .ref alt, .ref abg, .int (wz_i tl)])), (ald, .inl (cJ, 64, .inr (.inl le2))), (afx, .inl (cJ, 3, .inr (.inl gx)))]) A) [.ref aR, .int (nI k)].toArray s 0 0 A) (F0 m 81 ls []) := by
    intro n81
    induction n81 using Nat.strongRecOn with
    | _ n81 ih81 =>
    intro i al g9 h11b hi hg9 hal hm81 H locs hP hD hS ls hl
    refine lv_iload hx hb dMo_rounds_81 (lv_at hl 0 rfl) ?_
    refine lv_aload_n hx hb dMo_rounds_83 rfl (lv_at hl 3 rfl) ?_
    refine va_get (D := (dC, dI)) (ci := 7) (v := .int (nI fc)) (C := RMo) (T := TMo) (N := 19) hx hb hw in_Mo hown hK hP 0 rfl rfl 9 (by decide) (hw _ w_509) (fun _ h9 => h9) rfl dMo_rounds_84 ?_
    refine wz_icmp_ge (x := i) (y := fc) (tgt := 122) hx hb (by omega) (by omega) dMo_rounds_87 (by decide) (fun h87_1 => ?_) (fun h87_1 => ?_)
    · skip
      refine lv_iload hx hb dMo_rounds_122 (lv_at hl 1 rfl) ?_
      exact wz_zret (b := al) hx hb hr hlocks (by rw [hal, show i = fc by omega]; unfold ww_gd; rw [h11b]; rfl) hP hD hK hS dMo_rounds_124
    · skip
      refine lv_iload hx hb dMo_rounds_90 (lv_at hl 1 rfl) ?_
      refine wz_ifz (tgt := 113) hx hb dMo_rounds_92 (by decide) (fun h92_2 => ?_) (fun h92_2 => ?_)
      · skip
        refine lv_iconst (v := nI 0) hx hb dMo_rounds_113 (by decide) ?_
        refine lv_istore (lv' := [(4, .int (nI 0)), (5, .int (nI i)), (2, .long g9), (0, .ref aR), (1, .int (nI k))]) hx hb dMo_rounds_114 hl (by decide) rfl (fun ls hl => ?_)
        refine lv_iinc (v := nI (i + 1)) (lv' := [(5, .int (nI (i + 1))), (4, .int (nI 0)), (2, .long g9), (0, .ref aR), (1, .int (nI k))]) hx hb dMo_rounds_116 hl (k := 1) rfl ((nI_succ _).symm) (by decide) rfl (fun ls hl => ?_)
        refine lv_goto (tgt := 81) hx hb dMo_rounds_119 (by decide) ?_
        exact ih81 _ (by omega) (i + 1) false g9 h11b (by omega) hg9 (by first | (show false = (ww_all _ i && _); rw [← hal, h92_2]; rfl) | (show false = (ww_all _ i && decide _); rw [← hal, h92_2, ← hg9, decide_eq_false (fun q => q h_none)]; rfl) | (show true = (ww_all _ i && decide _); rw [← hal, h92_2, ← hg9, decide_eq_true h_none]; rfl)) rfl _ _ hP hD hS _ hl
      · skip
        refine lv_lload_n hx hb dMo_rounds_95 rfl (lv_at hl 2 rfl) ?_
        refine lv_aload_n hx hb dMo_rounds_96 rfl (lv_at hl 3 rfl) ?_
        refine va_get (D := (dC, dI)) (ci := 7) (v := .ref afx) (C := RMo) (T := TMo) (N := 19) hx hb hw in_Mo hown hK hP 0 rfl rfl 11 (by decide) (hw _ w_511) (fun _ h9 => h9) rfl dMo_rounds_97 ?_
        refine lv_iload hx hb dMo_rounds_100 (lv_at hl 0 rfl) ?_
        refine wz_lald hx hb hK hP 2 1 rfl rfl (i := i) (by omega) (by decide) dMo_rounds_102 ?_
        refine lv_land hx hb dMo_rounds_103 ?_
        refine lv_lconst (v := 0) hx hb dMo_rounds_104 (by decide) ?_
        refine wz_lcmp_eq (tgt := 113) hx hb dMo_rounds_105 dMo_rounds_106 (by decide) (fun h105_3 => ?_) (fun h105_3 => ?_)
        · skip
          refine lv_iconst (v := nI 0) hx hb dMo_rounds_113 (by decide) ?_
          refine lv_istore (lv' := [(4, .int (nI 0)), (5, .int (nI i)), (2, .long g9), (0, .ref aR), (1, .int (nI k))]) hx hb dMo_rounds_114 hl (by decide) rfl (fun ls hl => ?_)
          refine lv_iinc (v := nI (i + 1)) (lv' := [(5, .int (nI (i + 1))), (4, .int (nI 0)), (2, .long g9), (0, .ref aR), (1, .int (nI k))]) hx hb dMo_rounds_116 hl (k := 1) rfl ((nI_succ _).symm) (by decide) rfl (fun ls hl => ?_)
          refine lv_goto (tgt := 81) hx hb dMo_rounds_119 (by decide) ?_
          exact ih81 _ (by omega) (i + 1) false g9 h11b (by omega) hg9 (by first | (show false = (ww_all _ i && _); rw [← hal, h92_2]; rfl) | (show false = (ww_all _ i && decide _); rw [← hal, h92_2, ← hg9, decide_eq_false (fun q => q h105_3)]; rfl) | (show true = (ww_all _ i && decide _); rw [← hal, h92_2, ← hg9, decide_eq_true h105_3]; rfl)) rfl _ _ hP hD hS _ hl
        · skip
          refine lv_iconst (v := nI 1) hx hb dMo_rounds_109 (by decide) ?_
          refine lv_goto (tgt := 114) hx hb dMo_rounds_110 (by decide) ?_
          refine lv_istore (lv' := [(4, .int (nI 1)), (5, .int (nI i)), (2, .long g9), (0, .ref aR), (1, .int (nI k))]) hx hb dMo_rounds_114 hl (by decide) rfl (fun ls hl => ?_)
          refine lv_iinc (v := nI (i + 1)) (lv' := [(5, .int (nI (i + 1))), (4, .int (nI 1)), (2, .long g9), (0, .ref aR), (1, .int (nI k))]) hx hb dMo_rounds_116 hl (k := 1) rfl ((nI_succ _).symm) (by decide) rfl (fun ls hl => ?_)
          refine lv_goto (tgt := 81) hx hb dMo_rounds_119 (by decide) ?_
          exact ih81 _ (by omega) (i + 1) true g9 h11b (by omega) hg9 (by first | (show false = (ww_all _ i && _); rw [← hal, h92_2]; rfl) | (show false = (ww_all _ i && decide _); rw [← hal, h92_2, ← hg9, decide_eq_false (fun q => q h105_3)]; rfl) | (show true = (ww_all _ i && decide _); rw [← hal, h92_2, ← hg9, decide_eq_true h105_3]; rfl)) rfl _ _ hP hD hS _ hl
  have cut21 : ∀ (n21 : Nat) (t : Nat) (gp : Int64) (h11a : ww_m (le2 k) k = true) (ht : t ≤ 64) (hgp : gp = ww_mkn (fun t => ww_m (le2 k) t && ww_m (le2 t) k) t), 64 - t = n21 → ∀ (H : Heap) (locs : List Loc), va_P (dC, dI) vwCl [(aR, .inr (7, [.int (nI th), .int (nI mv), .ref ams, .ref ann, .int (nI n), .ref ak2, .ref af2, .ref as2, .ref ah2, .int (nI fc), .ref afa, .ref afx, .ref ald, .int (nI zz), .ref awy, .int lp, .ref alt, .ref abg, .int (wz_i tl)])), (ald, .inl (cJ, 64, .inr (.inl le2))), (afx, .inl (cJ, 3, .inr (.inl gx)))] H → va_D A [(aR, .inr (7, [.int (nI th), .int (nI mv), .ref ams, .ref ann, .int (nI n), .ref ak2, .ref af2, .ref as2, .ref ah2, .int (nI fc), .ref afa, .ref afx, .ref ald, .int (nI zz), .ref awy, .int lp, .ref alt, .ref abg, .int (wz_i tl)])), (ald, .inl (cJ, 64, .inr (.inl le2))), (afx, .inl (cJ, 3, .inr (.inl gx)))] → va_S A s.heap H locs → ∀ ls : Array Slot, lv_has ls 6 [(4, .int (nI t)), (2, .long gp), (0, .ref aR), (1, .int (nI k))] → W p l e (headSpec (.code yMo_rounds cMo_rounds 6 (some .boolean) :: wz_all) ({ frames := 1, cells := 0, slots := 0, locals := 23 })).room s m [.ref aR, .int (nI k)].toArray below meth c H locs 0 0 (MQ below (va_Qi (fun (r : Int32) (_ : Unit) => r = wz_i (ww_gd le2 gx fc k)) (fun _ t => va_P (dC, dI) vwCl [(aR, .inr (7, [.int (nI th), .int (nI mv), .ref ams, .ref ann, .int (nI n), .ref ak2, .ref af2, .ref as2, .ref ah2, .int (nI fc), .ref afa, .ref afx, .ref ald, .int (nI zz), .ref awy, .int lp, .ref alt, .ref abg, .int (wz_i tl)])), (ald, .inl (cJ, 64, .inr (.inl le2))), (afx, .inl (cJ, 3, .inr (.inl gx)))] t.heap ∧ va_K (dC, dI) vwCl (wz_T cI cJ cZ) t ∧ va_D A [(aR, .inr (7, [.int (nI th), .int (nI mv), .ref ams, .ref ann, .int (nI n), .ref ak2, .ref af2, .ref as2, .ref ah2, .int (nI fc), .ref afa, .ref afx, .ref ald, .int (nI zz), .ref awy, .int lp, .ref alt, .ref abg, .int (wz_i tl)])), (ald, .inl (cJ, 64, .inr (.inl le2))), (afx, .inl (cJ, 3, .inr (.inl gx)))]) A) [.ref aR, .int (nI k)].toArray s 0 0 A) (F0 m 21 ls []) := by
    intro n21
    induction n21 using Nat.strongRecOn with
    | _ n21 ih21 =>
    intro t gp h11a ht hgp hm21 H locs hP hD hS ls hl
    refine lv_iload hx hb dMo_rounds_21 (lv_at hl 0 rfl) ?_
    refine lv_bipush (v := nI 64) hx hb dMo_rounds_23 (by decide) ?_
    refine wz_icmp_ge (x := t) (y := 64) (tgt := 75) hx hb (by omega) (by omega) dMo_rounds_25 (by decide) (fun h25_4 => ?_) (fun h25_4 => ?_)
    · skip
      refine lv_iconst (v := nI 1) hx hb dMo_rounds_75 (by decide) ?_
      refine lv_istore (lv' := [(4, .int (nI 1)), (2, .long gp), (0, .ref aR), (1, .int (nI k))]) hx hb dMo_rounds_76 hl (by decide) rfl (fun ls hl => ?_)
      refine lv_iconst (v := nI 0) hx hb dMo_rounds_78 (by decide) ?_
      refine lv_istore (lv' := [(5, .int (nI 0)), (4, .int (nI 1)), (2, .long gp), (0, .ref aR), (1, .int (nI k))]) hx hb dMo_rounds_79 hl (by decide) rfl (fun ls hl => ?_)
      exact cut81 _ 0 true gp h11a (by omega) (by rw [hgp, show t = 64 by omega]; rfl) rfl rfl _ _ hP hD hS _ hl
    · skip
      refine lv_aload_n hx hb dMo_rounds_28 rfl (lv_at hl 2 rfl) ?_
      refine lv_aload_n hx hb dMo_rounds_29 rfl (lv_at hl 2 rfl) ?_
      refine va_get (D := (dC, dI)) (ci := 7) (v := .ref ald) (C := RMo) (T := TMo) (N := 19) hx hb hw in_Mo hown hK hP 0 rfl rfl 12 (by decide) (hw _ w_512) (fun _ h9 => h9) rfl dMo_rounds_30 ?_
      refine lv_iload_n hx hb dMo_rounds_33 rfl (lv_at hl 3 rfl) ?_
      refine wz_lald hx hb hK hP 1 1 rfl rfl (i := k) (by omega) (by decide) dMo_rounds_34 ?_
      refine lv_iload hx hb dMo_rounds_35 (lv_at hl 0 rfl) ?_
      refine wz_calli (wc := [(aR, .inr (7, [.int (nI th), .int (nI mv), .ref ams, .ref ann, .int (nI n), .ref ak2, .ref af2, .ref as2, .ref ah2, .int (nI fc), .ref afa, .ref afx, .ref ald, .int (nI zz), .ref awy, .int lp, .ref alt, .ref abg, .int (wz_i tl)]))]) (wr := [(ald, .inl (cJ, 64, .inr (.inl le2))), (afx, .inl (cJ, 3, .inr (.inl gx)))]) (w1 := [(aR, .inr (7, [.int (nI th), .int (nI mv), .ref ams, .ref ann, .int (nI n), .ref ak2, .ref af2, .ref as2, .ref ah2, .int (nI fc), .ref afa, .ref afx, .ref ald, .int (nI zz), .ref awy, .int lp, .ref alt, .ref abg, .int (wz_i tl)]))]) (ws' := [(aR, .inr (7, [.int (nI th), .int (nI mv), .ref ams, .ref ann, .int (nI n), .ref ak2, .ref af2, .ref as2, .ref ah2, .int (nI fc), .ref afa, .ref afx, .ref ald, .int (nI zz), .ref awy, .int lp, .ref alt, .ref abg, .int (wz_i tl)])), (ald, .inl (cJ, 64, .inr (.inl le2))), (afx, .inl (cJ, 3, .inr (.inl gx)))]) hP hD hS hA [0] [1, 2] [2, 0, 1] rfl rfl (by decide) (by decide) (by decide) rfl rfl (va_runV (As := [.long (le2 k), .int (nI t)]) (rest := []) ⟨hx, hb, hml, hown, hts⟩ (kMo_in l dC dI cI cJ cZ H.size aR ams ann ak2 af2 as2 ah2 afa afx ald awy alt abg th mv n fc zz lp tl (le2 k) t (by omega)) (cwV 2 hts (wz_gV w_617 w_618 w_19 w_41 w_619) rfl rfl rfl (by decide +kernel) ⟨Nat.le_of_ble_eq_true rfl, Nat.le_of_ble_eq_true rfl⟩) (wz_preV (q := (RMo, TMo, 19)) (ci := 7) hN hK hP hD [0] (by decide) rfl rfl 0 rfl rfl) rfl rfl hl.1 rfl (lv_room (Nat.le_of_ble_eq_true rfl)) dMo_rounds_37 ⟨Nat.le_refl _, Nat.le_refl _⟩) (fun H locs hP hD hS => ?_)
      refine wz_ifz (tgt := 67) hx hb dMo_rounds_40 (by decide) (fun h40_5 => ?_) (fun h40_5 => ?_)
      · skip
        refine lv_lload_n hx hb dMo_rounds_67 rfl (lv_at hl 1 rfl) ?_
        refine lv_lstore_n (lv' := [(2, .long gp), (4, .int (nI t)), (0, .ref aR), (1, .int (nI k))]) hx hb dMo_rounds_68 rfl hl (by decide) rfl (fun ls hl => ?_)
        refine lv_iinc (v := nI (t + 1)) (lv' := [(4, .int (nI (t + 1))), (2, .long gp), (0, .ref aR), (1, .int (nI k))]) hx hb dMo_rounds_69 hl (k := 1) rfl ((nI_succ _).symm) (by decide) rfl (fun ls hl => ?_)
        refine lv_goto (tgt := 21) hx hb dMo_rounds_72 (by decide) ?_
        exact ih21 _ (by omega) (t + 1) gp h11a (by omega) (by subst hgp; first | exact ww_mkn_y (show (ww_m (le2 k) t && ww_m (le2 t) k) = true by rw [h40_5, h_none]; rfl) | exact ww_mkn_n (show (ww_m (le2 k) t && ww_m (le2 t) k) = false by rw [h40_5, h_none]; rfl) | exact ww_mkn_n (show (ww_m (le2 k) t && ww_m (le2 t) k) = false by rw [h40_5]; rfl)) rfl _ _ hP hD hS _ hl
      · skip
        refine lv_aload_n hx hb dMo_rounds_43 rfl (lv_at hl 2 rfl) ?_
        refine lv_aload_n hx hb dMo_rounds_44 rfl (lv_at hl 2 rfl) ?_
        refine va_get (D := (dC, dI)) (ci := 7) (v := .ref ald) (C := RMo) (T := TMo) (N := 19) hx hb hw in_Mo hown hK hP 0 rfl rfl 12 (by decide) (hw _ w_512) (fun _ h9 => h9) rfl dMo_rounds_45 ?_
        refine lv_iload hx hb dMo_rounds_48 (lv_at hl 0 rfl) ?_
        refine wz_lald hx hb hK hP 1 1 rfl rfl (i := t) (by omega) (by decide) dMo_rounds_50 ?_
        refine lv_iload_n hx hb dMo_rounds_51 rfl (lv_at hl 3 rfl) ?_
        refine wz_calli (wc := [(aR, .inr (7, [.int (nI th), .int (nI mv), .ref ams, .ref ann, .int (nI n), .ref ak2, .ref af2, .ref as2, .ref ah2, .int (nI fc), .ref afa, .ref afx, .ref ald, .int (nI zz), .ref awy, .int lp, .ref alt, .ref abg, .int (wz_i tl)]))]) (wr := [(ald, .inl (cJ, 64, .inr (.inl le2))), (afx, .inl (cJ, 3, .inr (.inl gx)))]) (w1 := [(aR, .inr (7, [.int (nI th), .int (nI mv), .ref ams, .ref ann, .int (nI n), .ref ak2, .ref af2, .ref as2, .ref ah2, .int (nI fc), .ref afa, .ref afx, .ref ald, .int (nI zz), .ref awy, .int lp, .ref alt, .ref abg, .int (wz_i tl)]))]) (ws' := [(aR, .inr (7, [.int (nI th), .int (nI mv), .ref ams, .ref ann, .int (nI n), .ref ak2, .ref af2, .ref as2, .ref ah2, .int (nI fc), .ref afa, .ref afx, .ref ald, .int (nI zz), .ref awy, .int lp, .ref alt, .ref abg, .int (wz_i tl)])), (ald, .inl (cJ, 64, .inr (.inl le2))), (afx, .inl (cJ, 3, .inr (.inl gx)))]) hP hD hS hA [0] [1, 2] [2, 0, 1] rfl rfl (by decide) (by decide) (by decide) rfl rfl (va_runV (As := [.long (le2 t), .int (nI k)]) (rest := []) ⟨hx, hb, hml, hown, hts⟩ (kMo_in l dC dI cI cJ cZ H.size aR ams ann ak2 af2 as2 ah2 afa afx ald awy alt abg th mv n fc zz lp tl (le2 t) k (by omega)) (cwV 2 hts (wz_gV w_617 w_618 w_19 w_41 w_619) rfl rfl rfl (by decide +kernel) ⟨Nat.le_of_ble_eq_true rfl, Nat.le_of_ble_eq_true rfl⟩) (wz_preV (q := (RMo, TMo, 19)) (ci := 7) hN hK hP hD [0] (by decide) rfl rfl 0 rfl rfl) rfl rfl hl.1 rfl (lv_room (Nat.le_of_ble_eq_true rfl)) dMo_rounds_52 ⟨Nat.le_refl _, Nat.le_refl _⟩) (fun H locs hP hD hS => ?_)
        refine wz_ifz (tgt := 67) hx hb dMo_rounds_55 (by decide) (fun h55_6 => ?_) (fun h55_6 => ?_)
        · skip
          refine lv_lload_n hx hb dMo_rounds_67 rfl (lv_at hl 1 rfl) ?_
          refine lv_lstore_n (lv' := [(2, .long gp), (4, .int (nI t)), (0, .ref aR), (1, .int (nI k))]) hx hb dMo_rounds_68 rfl hl (by decide) rfl (fun ls hl => ?_)
          refine lv_iinc (v := nI (t + 1)) (lv' := [(4, .int (nI (t + 1))), (2, .long gp), (0, .ref aR), (1, .int (nI k))]) hx hb dMo_rounds_69 hl (k := 1) rfl ((nI_succ _).symm) (by decide) rfl (fun ls hl => ?_)
          refine lv_goto (tgt := 21) hx hb dMo_rounds_72 (by decide) ?_
          exact ih21 _ (by omega) (t + 1) gp h11a (by omega) (by subst hgp; first | exact ww_mkn_y (show (ww_m (le2 k) t && ww_m (le2 t) k) = true by rw [h40_5, h55_6]; rfl) | exact ww_mkn_n (show (ww_m (le2 k) t && ww_m (le2 t) k) = false by rw [h40_5, h55_6]; rfl) | exact ww_mkn_n (show (ww_m (le2 k) t && ww_m (le2 t) k) = false by rw [h40_5]; rfl)) rfl _ _ hP hD hS _ hl
        · skip
          refine lv_lload_n hx hb dMo_rounds_58 rfl (lv_at hl 1 rfl) ?_
          refine lv_lconst (v := 1) hx hb dMo_rounds_59 (by decide) ?_
          refine lv_iload hx hb dMo_rounds_60 (lv_at hl 0 rfl) ?_
          refine wz_lshl1 hx hb (by omega) dMo_rounds_62 ?_
          refine lv_lor hx hb dMo_rounds_63 ?_
          refine lv_goto (tgt := 68) hx hb dMo_rounds_64 (by decide) ?_
          refine lv_lstore_n (lv' := [(2, .long (gp ||| (ww_b t))), (4, .int (nI t)), (0, .ref aR), (1, .int (nI k))]) hx hb dMo_rounds_68 rfl hl (by decide) rfl (fun ls hl => ?_)
          refine lv_iinc (v := nI (t + 1)) (lv' := [(4, .int (nI (t + 1))), (2, .long (gp ||| (ww_b t))), (0, .ref aR), (1, .int (nI k))]) hx hb dMo_rounds_69 hl (k := 1) rfl ((nI_succ _).symm) (by decide) rfl (fun ls hl => ?_)
          refine lv_goto (tgt := 21) hx hb dMo_rounds_72 (by decide) ?_
          exact ih21 _ (by omega) (t + 1) (gp ||| (ww_b t)) h11a (by omega) (by subst hgp; first | exact ww_mkn_y (show (ww_m (le2 k) t && ww_m (le2 t) k) = true by rw [h40_5, h55_6]; rfl) | exact ww_mkn_n (show (ww_m (le2 k) t && ww_m (le2 t) k) = false by rw [h40_5, h55_6]; rfl) | exact ww_mkn_n (show (ww_m (le2 k) t && ww_m (le2 t) k) = false by rw [h40_5]; rfl)) rfl _ _ hP hD hS _ hl
  refine lv_aload_n hx hb dMo_rounds_0 rfl (lv_at hl 0 rfl) ?_
  refine lv_aload_n hx hb dMo_rounds_1 rfl (lv_at hl 0 rfl) ?_
  refine va_get (D := (dC, dI)) (ci := 7) (v := .ref ald) (C := RMo) (T := TMo) (N := 19) hx hb hw in_Mo hown hK hP 0 rfl rfl 12 (by decide) (hw _ w_512) (fun _ h9 => h9) rfl dMo_rounds_2 ?_
  refine lv_iload_n hx hb dMo_rounds_5 rfl (lv_at hl 1 rfl) ?_
  refine wz_lald hx hb hK hP 1 1 rfl rfl (i := k) (by omega) (by decide) dMo_rounds_6 ?_
  refine lv_iload_n hx hb dMo_rounds_7 rfl (lv_at hl 1 rfl) ?_
  refine wz_calli (wc := [(aR, .inr (7, [.int (nI th), .int (nI mv), .ref ams, .ref ann, .int (nI n), .ref ak2, .ref af2, .ref as2, .ref ah2, .int (nI fc), .ref afa, .ref afx, .ref ald, .int (nI zz), .ref awy, .int lp, .ref alt, .ref abg, .int (wz_i tl)]))]) (wr := [(ald, .inl (cJ, 64, .inr (.inl le2))), (afx, .inl (cJ, 3, .inr (.inl gx)))]) (w1 := [(aR, .inr (7, [.int (nI th), .int (nI mv), .ref ams, .ref ann, .int (nI n), .ref ak2, .ref af2, .ref as2, .ref ah2, .int (nI fc), .ref afa, .ref afx, .ref ald, .int (nI zz), .ref awy, .int lp, .ref alt, .ref abg, .int (wz_i tl)]))]) (ws' := [(aR, .inr (7, [.int (nI th), .int (nI mv), .ref ams, .ref ann, .int (nI n), .ref ak2, .ref af2, .ref as2, .ref ah2, .int (nI fc), .ref afa, .ref afx, .ref ald, .int (nI zz), .ref awy, .int lp, .ref alt, .ref abg, .int (wz_i tl)])), (ald, .inl (cJ, 64, .inr (.inl le2))), (afx, .inl (cJ, 3, .inr (.inl gx)))]) hP hD hS hA [0] [1, 2] [2, 0, 1] rfl rfl (by decide) (by decide) (by decide) rfl rfl (va_runV (As := [.long (le2 k), .int (nI k)]) (rest := []) ⟨hx, hb, hml, hown, hts⟩ (kMo_in l dC dI cI cJ cZ s.heap.size aR ams ann ak2 af2 as2 ah2 afa afx ald awy alt abg th mv n fc zz lp tl (le2 k) k (by omega)) (cwV 2 hts (wz_gV w_617 w_618 w_19 w_41 w_619) rfl rfl rfl (by decide +kernel) ⟨Nat.le_of_ble_eq_true rfl, Nat.le_of_ble_eq_true rfl⟩) (wz_preV (q := (RMo, TMo, 19)) (ci := 7) hN hK hP hD [0] (by decide) rfl rfl 0 rfl rfl) rfl rfl hl.1 rfl (lv_room (Nat.le_of_ble_eq_true rfl)) dMo_rounds_8 ⟨Nat.le_refl _, Nat.le_refl _⟩) (fun H locs hP hD hS => ?_)
  refine wz_ifnz (tgt := 16) hx hb dMo_rounds_11 (by decide) (fun h11_7 => ?_) (fun h11_7 => ?_)
  · skip
    refine lv_lconst (v := 0) hx hb dMo_rounds_16 (by decide) ?_
    refine lv_lstore_n (lv' := [(2, .long 0), (0, .ref aR), (1, .int (nI k))]) hx hb dMo_rounds_17 rfl hl (by decide) rfl (fun ls hl => ?_)
    refine lv_iconst (v := nI 0) hx hb dMo_rounds_18 (by decide) ?_
    refine lv_istore (lv' := [(4, .int (nI 0)), (2, .long 0), (0, .ref aR), (1, .int (nI k))]) hx hb dMo_rounds_19 hl (by decide) rfl (fun ls hl => ?_)
    exact cut21 _ 0 0 h11_7 (by omega) rfl rfl _ _ hP hD hS _ hl
  · skip
    refine lv_iconst (v := nI 0) hx hb dMo_rounds_14 (by decide) ?_
    exact wz_zret (b := false) hx hb hr hlocks (by unfold ww_gd; rw [h11_7]; rfl) hP hD hK hS dMo_rounds_15
set_option maxHeartbeats 4000000 in
set_option maxRecDepth 100000 in
theorem kMo_staying (l : Launch) (dC : Nat → ClassId) (dI : Nat → Nat → Nat) (cI cJ cZ : ClassId) (sz : Nat) (aR : Nat) (ams : Nat) (ann : Nat) (ak2 : Nat) (af2 : Nat) (as2 : Nat) (ah2 : Nat) (afa : Nat) (afx : Nat) (ald : Nat) (awy : Nat) (alt : Nat) (abg : Nat) (th : Nat) (mv : Nat) (n : Nat) (fc : Nat) (zz : Nat) (lp : Int32) (tl : Bool) (nx : Nat → Int64) (le2 : Nat → Int64) (gx : Nat → Int64) (w : Int64) (hfc : fc ≤ 3) : Met l yMo_staying (.code yMo_staying cMo_staying 6 (some .long) :: wz_all) ({ frames := 2, cells := 0, slots := 0, locals := 53 }) (wz_Pc (dC, dI) vwCl (wz_T cI cJ cZ) [.ref aR, .long w] sz [(aR, .inr (7, [.int (nI th), .int (nI mv), .ref ams, .ref ann, .int (nI n), .ref ak2, .ref af2, .ref as2, .ref ah2, .int (nI fc), .ref afa, .ref afx, .ref ald, .int (nI zz), .ref awy, .int lp, .ref alt, .ref abg, .int (wz_i tl)])), (ann, .inl (cJ, 64, .inr (.inl nx))), (ald, .inl (cJ, 64, .inr (.inl le2))), (afx, .inl (cJ, 3, .inr (.inl gx)))]) (va_Ql (fun (r : Int64) (u : Nat → Int64) => r = ww_yy nx gx fc w ∧ True) (fun (u : Nat → Int64) t => va_P (dC, dI) vwCl [(aR, .inr (7, [.int (nI th), .int (nI mv), .ref ams, .ref ann, .int (nI n), .ref ak2, .ref af2, .ref as2, .ref ah2, .int (nI fc), .ref afa, .ref afx, .ref ald, .int (nI zz), .ref awy, .int lp, .ref alt, .ref abg, .int (wz_i tl)])), (ann, .inl (cJ, 64, .inr (.inl nx))), (ald, .inl (cJ, 64, .inr (.inl u))), (afx, .inl (cJ, 3, .inr (.inl gx)))] t.heap ∧ va_K (dC, dI) vwCl (wz_T cI cJ cZ) t ∧ va_D (va_A [(aR, .inr (7, [.int (nI th), .int (nI mv), .ref ams, .ref ann, .int (nI n), .ref ak2, .ref af2, .ref as2, .ref ah2, .int (nI fc), .ref afa, .ref afx, .ref ald, .int (nI zz), .ref awy, .int lp, .ref alt, .ref abg, .int (wz_i tl)])), (ann, .inl (cJ, 64, .inr (.inl nx))), (ald, .inl (cJ, 64, .inr (.inl le2))), (afx, .inl (cJ, 3, .inr (.inl gx)))] sz) [(aR, .inr (7, [.int (nI th), .int (nI mv), .ref ams, .ref ann, .int (nI n), .ref ak2, .ref af2, .ref as2, .ref ah2, .int (nI fc), .ref afa, .ref afx, .ref ald, .int (nI zz), .ref awy, .int lp, .ref alt, .ref abg, .int (wz_i tl)])), (ann, .inl (cJ, 64, .inr (.inl nx))), (ald, .inl (cJ, 64, .inr (.inl u))), (afx, .inl (cJ, 3, .inr (.inl gx)))]) (va_A [(aR, .inr (7, [.int (nI th), .int (nI mv), .ref ams, .ref ann, .int (nI n), .ref ak2, .ref af2, .ref as2, .ref ah2, .int (nI fc), .ref afa, .ref afx, .ref ald, .int (nI zz), .ref awy, .int lp, .ref alt, .ref abg, .int (wz_i tl)])), (ann, .inl (cJ, 64, .inr (.inl nx))), (ald, .inl (cJ, 64, .inr (.inl le2))), (afx, .inl (cJ, 3, .inr (.inl gx)))] sz)) 0 0 (va_A [(aR, .inr (7, [.int (nI th), .int (nI mv), .ref ams, .ref ann, .int (nI n), .ref ak2, .ref af2, .ref as2, .ref ah2, .int (nI fc), .ref afa, .ref afx, .ref ald, .int (nI zz), .ref awy, .int lp, .ref alt, .ref abg, .int (wz_i tl)])), (ann, .inl (cJ, 64, .inr (.inl nx))), (ald, .inl (cJ, 64, .inr (.inl le2))), (afx, .inl (cJ, 3, .inr (.inl gx)))] sz) := by
  refine Met.ofW (cc := cMo_staying) (maxL := 6) (ret := (some .long)) (by decide) rfl ?_
  intro p e s m args below meth c s₁ B hml hv
  obtain ⟨rfl, hsz, hP, hK, hD0, hN⟩ := hv
  have hx := B.exec
  have hb := B.bytes
  have hr := B.returns
  have hts := atoms_spec (ws := (.code yMo_staying cMo_staying 6 (some .long) :: wz_all)) B.pre
  have hw : ∀ w9 ∈ wz_all, w9.before [.ref aR, .long w].toArray s = true := fun w9 h => hts w9 (List.mem_cons_of_mem _ h)
  have hown : s.vm.findClass RMo = some m.cls := findClass_of_methodNamed B.named
  have hlocks := B.notSynchronized
  subst hsz
  have hD := hD0.self (sz := s.heap.size)
  generalize hAe : va_A [(aR, .inr (7, [.int (nI th), .int (nI mv), .ref ams, .ref ann, .int (nI n), .ref ak2, .ref af2, .ref as2, .ref ah2, .int (nI fc), .ref afa, .ref afx, .ref ald, .int (nI zz), .ref awy, .int lp, .ref alt, .ref abg, .int (wz_i tl)])), (ann, .inl (cJ, 64, .inr (.inl nx))), (ald, .inl (cJ, 64, .inr (.inl le2))), (afx, .inl (cJ, 3, .inr (.inl gx)))] s.heap.size = A at hD ⊢
  have hA : ∀ q : Nat, s.heap.size ≤ q → A q := fun q h => by rw [← hAe]; exact Or.inr h
  have hS : va_S A s.heap s.heap [] := va_S.rf
  have hP : va_P (dC, dI) vwCl [(aR, .inr (7, [.int (nI th), .int (nI mv), .ref ams, .ref ann, .int (nI n), .ref ak2, .ref af2, .ref as2, .ref ah2, .int (nI fc), .ref afa, .ref afx, .ref ald, .int (nI zz), .ref awy, .int lp, .ref alt, .ref abg, .int (wz_i tl)])), (ann, .inl (cJ, 64, .inr (.inl nx))), (ald, .inl (cJ, 64, .inr (.inl le2))), (afx, .inl (cJ, 3, .inr (.inl gx)))] s.heap := hP
  have hl := lv_entry ([.ref aR, .long w]) (n := 6) (Nat.le_of_ble_eq_true rfl)
  rw [lg_entry_eq]
  generalize (lg_sl ([.ref aR, .long w]) ++ List.replicate (6 - (lg_sl ([.ref aR, .long w])).length) Slot.unset).toArray = ls at hl ⊢
  have hl : lv_has ls 6 [(0, .ref aR), (1, .long w)] := hl
  have cut10 : ∀ (n10 : Nat) (k : Nat) (gd : Int64) (hk : k ≤ 64) (hgd : gd = ww_mkn (ww_gd (ww_leK nx w le2) gx fc) k), 64 - k = n10 → ∀ (H : Heap) (locs : List Loc), va_P (dC, dI) vwCl [(aR, .inr (7, [.int (nI th), .int (nI mv), .ref ams, .ref ann, .int (nI n), .ref ak2, .ref af2, .ref as2, .ref ah2, .int (nI fc), .ref afa, .ref afx, .ref ald, .int (nI zz), .ref awy, .int lp, .ref alt, .ref abg, .int (wz_i tl)])), (ann, .inl (cJ, 64, .inr (.inl nx))), (ald, .inl (cJ, 64, .inr (.inl (ww_leK nx w le2)))), (afx, .inl (cJ, 3, .inr (.inl gx)))] H → va_D A [(aR, .inr (7, [.int (nI th), .int (nI mv), .ref ams, .ref ann, .int (nI n), .ref ak2, .ref af2, .ref as2, .ref ah2, .int (nI fc), .ref afa, .ref afx, .ref ald, .int (nI zz), .ref awy, .int lp, .ref alt, .ref abg, .int (wz_i tl)])), (ann, .inl (cJ, 64, .inr (.inl nx))), (ald, .inl (cJ, 64, .inr (.inl (ww_leK nx w le2)))), (afx, .inl (cJ, 3, .inr (.inl gx)))] → va_S A s.heap H locs → ∀ ls : Array Slot, lv_has ls 6 [(5, .int (nI k)), (3, .long gd), (0, .ref aR), (1, .long w)] → W p l e (headSpec (.code yMo_staying cMo_staying 6 (some .long) :: wz_all) ({ frames := 2, cells := 0, slots := 0, locals := 53 })).room s m [.ref aR, .long w].toArray below meth c H locs 0 0 (MQ below (va_Ql (fun (r : Int64) (u : Nat → Int64) => r = ww_yy nx gx fc w ∧ True) (fun (u : Nat → Int64) t => va_P (dC, dI) vwCl [(aR, .inr (7, [.int (nI th), .int (nI mv), .ref ams, .ref ann, .int (nI n), .ref ak2, .ref af2, .ref as2, .ref ah2, .int (nI fc), .ref afa, .ref afx, .ref ald, .int (nI zz), .ref awy, .int lp, .ref alt, .ref abg, .int (wz_i tl)])), (ann, .inl (cJ, 64, .inr (.inl nx))), (ald, .inl (cJ, 64, .inr (.inl u))), (afx, .inl (cJ, 3, .inr (.inl gx)))] t.heap ∧ va_K (dC, dI) vwCl (wz_T cI cJ cZ) t ∧ va_D A [(aR, .inr (7, [.int (nI th), .int (nI mv), .ref ams, .ref ann, .int (nI n), .ref ak2, .ref af2, .ref as2, .ref ah2, .int (nI fc), .ref afa, .ref afx, .ref ald, .int (nI zz), .ref awy, .int lp, .ref alt, .ref abg, .int (wz_i tl)])), (ann, .inl (cJ, 64, .inr (.inl nx))), (ald, .inl (cJ, 64, .inr (.inl u))), (afx, .inl (cJ, 3, .inr (.inl gx)))]) A) [.ref aR, .long w].toArray s 0 0 A) (F0 m 10 ls []) := by
    intro n10
    induction n10 using Nat.strongRecOn with
    | _ n10 ih10 =>
    intro k gd hk hgd hm10 H locs hP hD hS ls hl
    refine lv_iload hx hb dMo_staying_10 (lv_at hl 0 rfl) ?_
    refine lv_bipush (v := nI 64) hx hb dMo_staying_12 (by decide) ?_
    refine wz_icmp_ge (x := k) (y := 64) (tgt := 43) hx hb (by omega) (by omega) dMo_staying_14 (by decide) (fun h14_1 => ?_) (fun h14_1 => ?_)
    · skip
      refine lv_aload_n hx hb dMo_staying_43 rfl (lv_at hl 2 rfl) ?_
      refine lv_lload_n hx hb dMo_staying_44 rfl (lv_at hl 1 rfl) ?_
      refine lv_lload_n hx hb dMo_staying_45 rfl (lv_at hl 3 rfl) ?_
      refine wz_calll (wc := [(aR, .inr (7, [.int (nI th), .int (nI mv), .ref ams, .ref ann, .int (nI n), .ref ak2, .ref af2, .ref as2, .ref ah2, .int (nI fc), .ref afa, .ref afx, .ref ald, .int (nI zz), .ref awy, .int lp, .ref alt, .ref abg, .int (wz_i tl)])), (ann, .inl (cJ, 64, .inr (.inl nx)))]) (wr := [(ald, .inl (cJ, 64, .inr (.inl (ww_leK nx w le2)))), (afx, .inl (cJ, 3, .inr (.inl gx)))]) (w1 := [(aR, .inr (7, [.int (nI th), .int (nI mv), .ref ams, .ref ann, .int (nI n), .ref ak2, .ref af2, .ref as2, .ref ah2, .int (nI fc), .ref afa, .ref afx, .ref ald, .int (nI zz), .ref awy, .int lp, .ref alt, .ref abg, .int (wz_i tl)])), (ann, .inl (cJ, 64, .inr (.inl nx)))]) (ws' := [(aR, .inr (7, [.int (nI th), .int (nI mv), .ref ams, .ref ann, .int (nI n), .ref ak2, .ref af2, .ref as2, .ref ah2, .int (nI fc), .ref afa, .ref afx, .ref ald, .int (nI zz), .ref awy, .int lp, .ref alt, .ref abg, .int (wz_i tl)])), (ann, .inl (cJ, 64, .inr (.inl nx))), (ald, .inl (cJ, 64, .inr (.inl (ww_leK nx w le2)))), (afx, .inl (cJ, 3, .inr (.inl gx)))]) hP hD hS hA [0, 1] [2, 3] [2, 3, 0, 1] rfl rfl (by decide) (by decide) (by decide) rfl rfl (va_runV (As := [.long gd, .long w]) (rest := []) ⟨hx, hb, hml, hown, hts⟩ (kMo_reaching l dC dI cI cJ cZ H.size aR ams ann ak2 af2 as2 ah2 afa afx ald awy alt abg th mv n fc zz lp tl nx gd w) (cwV 2 hts (wz_gV w_623 w_624 w_21 w_41 w_625) rfl rfl rfl (by decide +kernel) ⟨Nat.le_of_ble_eq_true rfl, Nat.le_of_ble_eq_true rfl⟩) (wz_preV (q := (RMo, TMo, 19)) (ci := 7) hN hK hP hD [0, 1] (by decide) rfl rfl 0 rfl rfl) rfl rfl hl.1 rfl (lv_room (Nat.le_of_ble_eq_true rfl)) dMo_staying_46 ⟨Nat.le_refl _, Nat.le_refl _⟩) (fun H locs hP hD hS => ?_)
      exact wz_lretU (ww_leK nx w le2) trivial hx hb hr hlocks (by rw [hgd, show k = 64 by omega]; exact ww_stay (ww_leK_Ld nx w le2)) hP hD hK hS dMo_staying_49
    · skip
      refine lv_aload_n hx hb dMo_staying_17 rfl (lv_at hl 2 rfl) ?_
      refine lv_iload hx hb dMo_staying_18 (lv_at hl 0 rfl) ?_
      refine wz_calli (wc := [(aR, .inr (7, [.int (nI th), .int (nI mv), .ref ams, .ref ann, .int (nI n), .ref ak2, .ref af2, .ref as2, .ref ah2, .int (nI fc), .ref afa, .ref afx, .ref ald, .int (nI zz), .ref awy, .int lp, .ref alt, .ref abg, .int (wz_i tl)])), (ald, .inl (cJ, 64, .inr (.inl (ww_leK nx w le2)))), (afx, .inl (cJ, 3, .inr (.inl gx)))]) (wr := [(ann, .inl (cJ, 64, .inr (.inl nx)))]) (w1 := [(aR, .inr (7, [.int (nI th), .int (nI mv), .ref ams, .ref ann, .int (nI n), .ref ak2, .ref af2, .ref as2, .ref ah2, .int (nI fc), .ref afa, .ref afx, .ref ald, .int (nI zz), .ref awy, .int lp, .ref alt, .ref abg, .int (wz_i tl)])), (ald, .inl (cJ, 64, .inr (.inl (ww_leK nx w le2)))), (afx, .inl (cJ, 3, .inr (.inl gx)))]) (ws' := [(aR, .inr (7, [.int (nI th), .int (nI mv), .ref ams, .ref ann, .int (nI n), .ref ak2, .ref af2, .ref as2, .ref ah2, .int (nI fc), .ref afa, .ref afx, .ref ald, .int (nI zz), .ref awy, .int lp, .ref alt, .ref abg, .int (wz_i tl)])), (ann, .inl (cJ, 64, .inr (.inl nx))), (ald, .inl (cJ, 64, .inr (.inl (ww_leK nx w le2)))), (afx, .inl (cJ, 3, .inr (.inl gx)))]) hP hD hS hA [0, 2, 3] [1] [1, 0, 2, 3] rfl rfl (by decide) (by decide) (by decide) rfl rfl (va_runV (As := [.int (nI k)]) (rest := []) ⟨hx, hb, hml, hown, hts⟩ (kMo_rounds l dC dI cI cJ cZ H.size aR ams ann ak2 af2 as2 ah2 afa afx ald awy alt abg th mv n fc zz lp tl (ww_leK nx w le2) gx k (by omega) hfc) (cwV 1 hts (wz_gV w_620 w_621 w_20 w_41 w_622) rfl rfl rfl (by decide +kernel) ⟨Nat.le_of_ble_eq_true rfl, Nat.le_of_ble_eq_true rfl⟩) (wz_preV (q := (RMo, TMo, 19)) (ci := 7) hN hK hP hD [0, 2, 3] (by decide) rfl rfl 0 rfl rfl) rfl rfl hl.1 rfl (lv_room (Nat.le_of_ble_eq_true rfl)) dMo_staying_20 ⟨Nat.le_refl _, Nat.le_refl _⟩) (fun H locs hP hD hS => ?_)
      refine wz_ifz (tgt := 35) hx hb dMo_staying_23 (by decide) (fun h23_2 => ?_) (fun h23_2 => ?_)
      · skip
        refine lv_lload_n hx hb dMo_staying_35 rfl (lv_at hl 1 rfl) ?_
        refine lv_lstore_n (lv' := [(3, .long gd), (5, .int (nI k)), (0, .ref aR), (1, .long w)]) hx hb dMo_staying_36 rfl hl (by decide) rfl (fun ls hl => ?_)
        refine lv_iinc (v := nI (k + 1)) (lv' := [(5, .int (nI (k + 1))), (3, .long gd), (0, .ref aR), (1, .long w)]) hx hb dMo_staying_37 hl (k := 1) rfl ((nI_succ _).symm) (by decide) rfl (fun ls hl => ?_)
        refine lv_goto (tgt := 10) hx hb dMo_staying_40 (by decide) ?_
        exact ih10 _ (by omega) (k + 1) gd (by omega) (by subst hgd; first | exact ww_mkn_y h23_2 | exact ww_mkn_n h23_2) rfl _ _ hP hD hS _ hl
      · skip
        refine lv_lload_n hx hb dMo_staying_26 rfl (lv_at hl 1 rfl) ?_
        refine lv_lconst (v := 1) hx hb dMo_staying_27 (by decide) ?_
        refine lv_iload hx hb dMo_staying_28 (lv_at hl 0 rfl) ?_
        refine wz_lshl1 hx hb (by omega) dMo_staying_30 ?_
        refine lv_lor hx hb dMo_staying_31 ?_
        refine lv_goto (tgt := 36) hx hb dMo_staying_32 (by decide) ?_
        refine lv_lstore_n (lv' := [(3, .long (gd ||| (ww_b k))), (5, .int (nI k)), (0, .ref aR), (1, .long w)]) hx hb dMo_staying_36 rfl hl (by decide) rfl (fun ls hl => ?_)
        refine lv_iinc (v := nI (k + 1)) (lv' := [(5, .int (nI (k + 1))), (3, .long (gd ||| (ww_b k))), (0, .ref aR), (1, .long w)]) hx hb dMo_staying_37 hl (k := 1) rfl ((nI_succ _).symm) (by decide) rfl (fun ls hl => ?_)
        refine lv_goto (tgt := 10) hx hb dMo_staying_40 (by decide) ?_
        exact ih10 _ (by omega) (k + 1) (gd ||| (ww_b k)) (by omega) (by subst hgd; first | exact ww_mkn_y h23_2 | exact ww_mkn_n h23_2) rfl _ _ hP hD hS _ hl
  refine lv_aload_n hx hb dMo_staying_0 rfl (lv_at hl 0 rfl) ?_
  refine lv_lload_n hx hb dMo_staying_1 rfl (lv_at hl 1 rfl) ?_
  refine wz_callv (wc := [(aR, .inr (7, [.int (nI th), .int (nI mv), .ref ams, .ref ann, .int (nI n), .ref ak2, .ref af2, .ref as2, .ref ah2, .int (nI fc), .ref afa, .ref afx, .ref ald, .int (nI zz), .ref awy, .int lp, .ref alt, .ref abg, .int (wz_i tl)])), (ann, .inl (cJ, 64, .inr (.inl nx))), (ald, .inl (cJ, 64, .inr (.inl le2)))]) (wr := [(afx, .inl (cJ, 3, .inr (.inl gx)))]) (w1 := [(aR, .inr (7, [.int (nI th), .int (nI mv), .ref ams, .ref ann, .int (nI n), .ref ak2, .ref af2, .ref as2, .ref ah2, .int (nI fc), .ref afa, .ref afx, .ref ald, .int (nI zz), .ref awy, .int lp, .ref alt, .ref abg, .int (wz_i tl)])), (ann, .inl (cJ, 64, .inr (.inl nx))), (ald, .inl (cJ, 64, .inr (.inl (ww_leK nx w le2))))]) (ws' := [(aR, .inr (7, [.int (nI th), .int (nI mv), .ref ams, .ref ann, .int (nI n), .ref ak2, .ref af2, .ref as2, .ref ah2, .int (nI fc), .ref afa, .ref afx, .ref ald, .int (nI zz), .ref awy, .int lp, .ref alt, .ref abg, .int (wz_i tl)])), (ann, .inl (cJ, 64, .inr (.inl nx))), (ald, .inl (cJ, 64, .inr (.inl (ww_leK nx w le2)))), (afx, .inl (cJ, 3, .inr (.inl gx)))]) hP hD hS hA [0, 1, 2] [3] [1, 2, 3, 0] rfl rfl (by decide) (by decide) (by decide) rfl rfl (va_runV (As := [.long w]) (rest := []) ⟨hx, hb, hml, hown, hts⟩ (kMo_findLeads l dC dI cI cJ cZ s.heap.size aR ams ann ak2 af2 as2 ah2 afa afx ald awy alt abg th mv n fc zz lp tl nx le2 w) (cwV 1 hts (wz_gV w_614 w_615 w_18 w_41 w_616) rfl rfl rfl (by decide +kernel) ⟨Nat.le_of_ble_eq_true rfl, Nat.le_of_ble_eq_true rfl⟩) (wz_preV (q := (RMo, TMo, 19)) (ci := 7) hN hK hP hD [0, 1, 2] (by decide) rfl rfl 0 rfl rfl) rfl rfl hl.1 rfl (lv_room (Nat.le_of_ble_eq_true rfl)) dMo_staying_2 ⟨Nat.le_refl _, Nat.le_refl _⟩) (fun H locs hP hD hS => ?_)
  refine lv_lconst (v := 0) hx hb dMo_staying_5 (by decide) ?_
  refine lv_lstore_n (lv' := [(3, .long 0), (0, .ref aR), (1, .long w)]) hx hb dMo_staying_6 rfl hl (by decide) rfl (fun ls hl => ?_)
  refine lv_iconst (v := nI 0) hx hb dMo_staying_7 (by decide) ?_
  refine lv_istore (lv' := [(5, .int (nI 0)), (3, .long 0), (0, .ref aR), (1, .long w)]) hx hb dMo_staying_8 hl (by decide) rfl (fun ls hl => ?_)
  exact cut10 _ 0 0 (by omega) rfl rfl _ _ hP hD hS _ hl
