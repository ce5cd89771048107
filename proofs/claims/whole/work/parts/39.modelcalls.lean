/-! contracts, laid by a program of mine. -/
set_option maxHeartbeats 4000000 in
set_option maxRecDepth 100000 in
theorem kMo_states_1 (l : Launch) (dC : Nat → ClassId) (dI : Nat → Nat → Nat) (cI cJ cZ : ClassId) (sz : Nat) (aR : Nat) (ams : Nat) (ann : Nat) (ak2 : Nat) (af2 : Nat) (as2 : Nat) (ah2 : Nat) (afa : Nat) (afx : Nat) (ald : Nat) (awy : Nat) (alt : Nat) (abg : Nat) (th : Nat) (mv : Nat) (n : Nat) (fc : Nat) (zz : Nat) (lp : Int32) (tl : Bool) (x : Int32) (hbad : ww_hs n x = false) : Met l yMo_states (.code yMo_states cMo_states 4 (some .long) :: wz_all) ({ frames := 1, cells := 0, slots := 0, locals := 21 }) (wz_Pc (dC, dI) vwCl (wz_T cI cJ cZ) [.ref aR, .int x] sz [(aR, .inr (7, [.int (nI th), .int (nI mv), .ref ams, .ref ann, .int (nI n), .ref ak2, .ref af2, .ref as2, .ref ah2, .int (nI fc), .ref afa, .ref afx, .ref ald, .int (nI zz), .ref awy, .int lp, .ref alt, .ref abg, .int (wz_i tl)]))]) (va_Ql (fun (r : Int64) (_ : Unit) => r = 0) (fun _ t => va_P (dC, dI) vwCl [(aR, .inr (7, [.int (nI 1), .int (nI mv), .ref ams, .ref ann, .int (nI n), .ref ak2, .ref af2, .ref as2, .ref ah2, .int (nI fc), .ref afa, .ref afx, .ref ald, .int (nI zz), .ref awy, .int lp, .ref alt, .ref abg, .int (wz_i tl)]))] t.heap ∧ va_K (dC, dI) vwCl (wz_T cI cJ cZ) t ∧ va_D (va_A [(aR, .inr (7, [.int (nI th), .int (nI mv), .ref ams, .ref ann, .int (nI n), .ref ak2, .ref af2, .ref as2, .ref ah2, .int (nI fc), .ref afa, .ref afx, .ref ald, .int (nI zz), .ref awy, .int lp, .ref alt, .ref abg, .int (wz_i tl)]))] sz) [(aR, .inr (7, [.int (nI 1), .int (nI mv), .ref ams, .ref ann, .int (nI n), .ref ak2, .ref af2, .ref as2, .ref ah2, .int (nI fc), .ref afa, .ref afx, .ref ald, .int (nI zz), .ref awy, .int lp, .ref alt, .ref abg, .int (wz_i tl)]))]) (va_A [(aR, .inr (7, [.int (nI th), .int (nI mv), .ref ams, .ref ann, .int (nI n), .ref ak2, .ref af2, .ref as2, .ref ah2, .int (nI fc), .ref afa, .ref afx, .ref ald, .int (nI zz), .ref awy, .int lp, .ref alt, .ref abg, .int (wz_i tl)]))] sz)) 0 0 (va_A [(aR, .inr (7, [.int (nI th), .int (nI mv), .ref ams, .ref ann, .int (nI n), .ref ak2, .ref af2, .ref as2, .ref ah2, .int (nI fc), .ref afa, .ref afx, .ref ald, .int (nI zz), .ref awy, .int lp, .ref alt, .ref abg, .int (wz_i tl)]))] sz) := by
  refine Met.ofW (cc := cMo_states) (maxL := 4) (ret := (some .long)) (by decide) rfl ?_
  intro p e s m args below meth c s₁ B hml hv
  obtain ⟨rfl, hsz, hP, hK, hD0, hN⟩ := hv
  have hx := B.exec
  have hb := B.bytes
  have hr := B.returns
  have hts := atoms_spec (ws := (.code yMo_states cMo_states 4 (some .long) :: wz_all)) B.pre
  have hw : ∀ w9 ∈ wz_all, w9.before [.ref aR, .int x].toArray s = true := fun w9 h => hts w9 (List.mem_cons_of_mem _ h)
  have hown : s.vm.findClass RMo = some m.cls := findClass_of_methodNamed B.named
  have hlocks := B.notSynchronized
  subst hsz
  have hD := hD0.self (sz := s.heap.size)
  generalize hAe : va_A [(aR, .inr (7, [.int (nI th), .int (nI mv), .ref ams, .ref ann, .int (nI n), .ref ak2, .ref af2, .ref as2, .ref ah2, .int (nI fc), .ref afa, .ref afx, .ref ald, .int (nI zz), .ref awy, .int lp, .ref alt, .ref abg, .int (wz_i tl)]))] s.heap.size = A at hD ⊢
  have hA : ∀ q : Nat, s.heap.size ≤ q → A q := fun q h => by rw [← hAe]; exact Or.inr h
  have hS : va_S A s.heap s.heap [] := va_S.rf
  have hP : va_P (dC, dI) vwCl [(aR, .inr (7, [.int (nI th), .int (nI mv), .ref ams, .ref ann, .int (nI n), .ref ak2, .ref af2, .ref as2, .ref ah2, .int (nI fc), .ref afa, .ref afx, .ref ald, .int (nI zz), .ref awy, .int lp, .ref alt, .ref abg, .int (wz_i tl)]))] s.heap := hP
  have hl := lv_entry ([.ref aR, .int x]) (n := 4) (Nat.le_of_ble_eq_true rfl)
  rw [lg_entry_eq]
  generalize (lg_sl ([.ref aR, .int x]) ++ List.replicate (4 - (lg_sl ([.ref aR, .int x])).length) Slot.unset).toArray = ls at hl ⊢
  have hl : lv_has ls 4 [(0, .ref aR), (1, .int x)] := hl
  refine lv_aload_n hx hb dMo_states_0 rfl (lv_at hl 0 rfl) ?_
  refine lv_aload_n hx hb dMo_states_1 rfl (lv_at hl 0 rfl) ?_
  refine lv_iload_n hx hb dMo_states_2 rfl (lv_at hl 1 rfl) ?_
  refine wz_calli (wc := [(aR, .inr (7, [.int (nI th), .int (nI mv), .ref ams, .ref ann, .int (nI n), .ref ak2, .ref af2, .ref as2, .ref ah2, .int (nI fc), .ref afa, .ref afx, .ref ald, .int (nI zz), .ref awy, .int lp, .ref alt, .ref abg, .int (wz_i tl)]))]) (wr := []) (w1 := [(aR, .inr (7, [.int (nI th), .int (nI mv), .ref ams, .ref ann, .int (nI n), .ref ak2, .ref af2, .ref as2, .ref ah2, .int (nI fc), .ref afa, .ref afx, .ref ald, .int (nI zz), .ref awy, .int lp, .ref alt, .ref abg, .int (wz_i tl)]))]) (ws' := [(aR, .inr (7, [.int (nI th), .int (nI mv), .ref ams, .ref ann, .int (nI n), .ref ak2, .ref af2, .ref as2, .ref ah2, .int (nI fc), .ref afa, .ref afx, .ref ald, .int (nI zz), .ref awy, .int lp, .ref alt, .ref abg, .int (wz_i tl)]))]) hP hD hS hA [0] [] [0] rfl rfl (by decide) (by decide) (by decide) rfl rfl (va_runV (As := [.int x]) (rest := [.ref aR]) ⟨hx, hb, hml, hown, hts⟩ (kMo_noFormula l dC dI cI cJ cZ s.heap.size aR ams ann ak2 af2 as2 ah2 afa afx ald awy alt abg th mv n fc zz lp tl x) (cwV 1 hts (wz_gV w_583 w_584 w_12 w_41 w_585) rfl rfl rfl (by decide +kernel) ⟨Nat.le_of_ble_eq_true rfl, Nat.le_of_ble_eq_true rfl⟩) (wz_preV (q := (RMo, TMo, 19)) (ci := 7) hN hK hP hD [0] (by decide) rfl rfl 0 rfl rfl) rfl rfl hl.1 rfl (lv_room (Nat.le_of_ble_eq_true rfl)) dMo_states_3 ⟨Nat.le_refl _, Nat.le_refl _⟩) (fun H locs hP hD hS => ?_)
  refine wz_ifz (tgt := 13) hx hb dMo_states_6 (by decide) (fun h6_1 => ?_) (fun h6_1 => ?_)
  · skip
    rw [hbad] at h6_1; cases h6_1
  · skip
    refine lv_iconst (v := nI 1) hx hb dMo_states_9 (by decide) ?_
    refine lv_goto (tgt := 14) hx hb dMo_states_10 (by decide) ?_
    refine va_put (D := (dC, dI)) (ci := 7) (v := .int (nI 1)) (ty := .int) (C := RMo) (T := TMo) (N := 19) hx hb hw in_Mo tyMo tyMo_ok nmMo hown hK hP hD hS 0 rfl rfl 0 (by decide) (hw _ w_500) (fun _ h9 => h9) rfl (by decide +kernel) rfl rfl (Nat.le_of_ble_eq_true rfl) dMo_states_14 (fun H locs hP hD hS => ?_)
    have hP : va_P (dC, dI) vwCl [(aR, .inr (7, [.int (nI 1), .int (nI mv), .ref ams, .ref ann, .int (nI n), .ref ak2, .ref af2, .ref as2, .ref ah2, .int (nI fc), .ref afa, .ref afx, .ref ald, .int (nI zz), .ref awy, .int lp, .ref alt, .ref abg, .int (wz_i tl)]))] H := hP
    have hD : va_D A [(aR, .inr (7, [.int (nI 1), .int (nI mv), .ref ams, .ref ann, .int (nI n), .ref ak2, .ref af2, .ref as2, .ref ah2, .int (nI fc), .ref afa, .ref afx, .ref ald, .int (nI zz), .ref awy, .int lp, .ref alt, .ref abg, .int (wz_i tl)]))] := hD
    refine lv_aload_n hx hb dMo_states_17 rfl (lv_at hl 0 rfl) ?_
    refine va_get (D := (dC, dI)) (ci := 7) (v := .int (nI 1)) (C := RMo) (T := TMo) (N := 19) hx hb hw in_Mo hown hK hP 0 rfl rfl 0 (by decide) (hw _ w_500) (fun _ h9 => h9) rfl dMo_states_18 ?_
    refine wz_ifN_eq (x := 1) (tgt := 26) hx hb (by omega) dMo_states_21 (by decide) (fun h21_2 => ?_) (fun h21_2 => ?_)
    · skip
      exact absurd h21_2 (by decide)
    · skip
      refine lv_lconst (v := 0) hx hb dMo_states_24 (by decide) ?_
      exact wz_lret hx hb hr hlocks rfl hP hD hK hS dMo_states_25
set_option maxHeartbeats 4000000 in
set_option maxRecDepth 100000 in
theorem kMo_states_0 (l : Launch) (dC : Nat → ClassId) (dI : Nat → Nat → Nat) (cI cJ cZ : ClassId) (sz : Nat) (aR : Nat) (ams : Nat) (ann : Nat) (ak2 : Nat) (af2 : Nat) (as2 : Nat) (ah2 : Nat) (afa : Nat) (afx : Nat) (ald : Nat) (awy : Nat) (alt : Nat) (abg : Nat) (th : Nat) (mv : Nat) (n : Nat) (fc : Nat) (zz : Nat) (lp : Int32) (tl : Bool) (mn : Nat → Nat) (nx : Nat → Int64) (kn : Nat → Nat) (f2 : Nat → Int32) (s2 : Nat → Int32) (ho : Nat → Int64) (fa : Nat → Nat) (gx : Nat → Int64) (le2 : Nat → Int64) (fn : Nat → Nat) (sn : Nat → Nat) (pb : Nat → Bool) (go : Nat → Int64) (f : Nat) (hmv : mv ≤ 16) (hmn : ∀ j, j < 5 * mv → mn j < 64) (hwf : ww_wf n kn fn sn) (hn : n ≤ 32) (hfi : ∀ i, i < n → ¬ kn i = 1 → f2 i = nI (fn i)) (hse : ∀ i, i < n → ww_h2 (kn i) = true → s2 i = nI (sn i)) (hfc : fc ≤ 3) (hpb : ww_pb n kn fn sn pb) (hfa : ∀ i, i < fc → fa i < n ∧ pb (fa i) = true) (hgo : ∀ i, i < fc → go i = ww_pv kn fn sn (fa i)) (hf : f < n) : Met l yMo_states (.code yMo_states cMo_states 4 (some .long) :: wz_all) ({ frames := 6, cells := 0, slots := 0, locals := 160 }) (wz_Pc (dC, dI) vwCl (wz_T cI cJ cZ) [.ref aR, .int (nI f)] sz [(aR, .inr (7, [.int (nI th), .int (nI mv), .ref ams, .ref ann, .int (nI n), .ref ak2, .ref af2, .ref as2, .ref ah2, .int (nI fc), .ref afa, .ref afx, .ref ald, .int (nI zz), .ref awy, .int lp, .ref alt, .ref abg, .int (wz_i tl)])), (ams, .inl (cI, 80, .inl (wz_n mn))), (ann, .inl (cJ, 64, .inr (.inl nx))), (ak2, .inl (cI, 32, .inl (wz_n kn))), (af2, .inl (cI, 32, .inl f2)), (as2, .inl (cI, 32, .inl s2)), (ah2, .inl (cJ, 32, .inr (.inl ho))), (afa, .inl (cI, 3, .inl (wz_n fa))), (afx, .inl (cJ, 3, .inr (.inl gx))), (ald, .inl (cJ, 64, .inr (.inl le2)))]) (va_Ql (fun (r : Int64) (u : (Nat → Int64) × (Nat → Int64) × (Nat → Int64)) => r = ww_val (ww_nxt mn mv) go fc (ww_yy (ww_nxt mn mv) go fc (-1)) kn fn sn f ∧ True) (fun (u : (Nat → Int64) × (Nat → Int64) × (Nat → Int64)) t => va_P (dC, dI) vwCl [(aR, .inr (7, [.int (nI 0), .int (nI mv), .ref ams, .ref ann, .int (nI n), .ref ak2, .ref af2, .ref as2, .ref ah2, .int (nI fc), .ref afa, .ref afx, .ref ald, .int (nI zz), .ref awy, .int lp, .ref alt, .ref abg, .int (wz_i tl)])), (ams, .inl (cI, 80, .inl (wz_n mn))), (ann, .inl (cJ, 64, .inr (.inl (ww_fl (ww_nxt mn mv) ww_k64 nx)))), (ak2, .inl (cI, 32, .inl (wz_n kn))), (af2, .inl (cI, 32, .inl f2)), (as2, .inl (cI, 32, .inl s2)), (ah2, .inl (cJ, 32, .inr (.inl (u.1)))), (afa, .inl (cI, 3, .inl (wz_n fa))), (afx, .inl (cJ, 3, .inr (.inl (u.2.1)))), (ald, .inl (cJ, 64, .inr (.inl (u.2.2))))] t.heap ∧ va_K (dC, dI) vwCl (wz_T cI cJ cZ) t ∧ va_D (va_A [(aR, .inr (7, [.int (nI th), .int (nI mv), .ref ams, .ref ann, .int (nI n), .ref ak2, .ref af2, .ref as2, .ref ah2, .int (nI fc), .ref afa, .ref afx, .ref ald, .int (nI zz), .ref awy, .int lp, .ref alt, .ref abg, .int (wz_i tl)])), (ams, .inl (cI, 80, .inl (wz_n mn))), (ann, .inl (cJ, 64, .inr (.inl nx))), (ak2, .inl (cI, 32, .inl (wz_n kn))), (af2, .inl (cI, 32, .inl f2)), (as2, .inl (cI, 32, .inl s2)), (ah2, .inl (cJ, 32, .inr (.inl ho))), (afa, .inl (cI, 3, .inl (wz_n fa))), (afx, .inl (cJ, 3, .inr (.inl gx))), (ald, .inl (cJ, 64, .inr (.inl le2)))] sz) [(aR, .inr (7, [.int (nI 0), .int (nI mv), .ref ams, .ref ann, .int (nI n), .ref ak2, .ref af2, .ref as2, .ref ah2, .int (nI fc), .ref afa, .ref afx, .ref ald, .int (nI zz), .ref awy, .int lp, .ref alt, .ref abg, .int (wz_i tl)])), (ams, .inl (cI, 80, .inl (wz_n mn))), (ann, .inl (cJ, 64, .inr (.inl (ww_fl (ww_nxt mn mv) ww_k64 nx)))), (ak2, .inl (cI, 32, .inl (wz_n kn))), (af2, .inl (cI, 32, .inl f2)), (as2, .inl (cI, 32, .inl s2)), (ah2, .inl (cJ, 32, .inr (.inl (u.1)))), (afa, .inl (cI, 3, .inl (wz_n fa))), (afx, .inl (cJ, 3, .inr (.inl (u.2.1)))), (ald, .inl (cJ, 64, .inr (.inl (u.2.2))))]) (va_A [(aR, .inr (7, [.int (nI th), .int (nI mv), .ref ams, .ref ann, .int (nI n), .ref ak2, .ref af2, .ref as2, .ref ah2, .int (nI fc), .ref afa, .ref afx, .ref ald, .int (nI zz), .ref awy, .int lp, .ref alt, .ref abg, .int (wz_i tl)])), (ams, .inl (cI, 80, .inl (wz_n mn))), (ann, .inl (cJ, 64, .inr (.inl nx))), (ak2, .inl (cI, 32, .inl (wz_n kn))), (af2, .inl (cI, 32, .inl f2)), (as2, .inl (cI, 32, .inl s2)), (ah2, .inl (cJ, 32, .inr (.inl ho))), (afa, .inl (cI, 3, .inl (wz_n fa))), (afx, .inl (cJ, 3, .inr (.inl gx))), (ald, .inl (cJ, 64, .inr (.inl le2)))] sz)) 0 0 (va_A [(aR, .inr (7, [.int (nI th), .int (nI mv), .ref ams, .ref ann, .int (nI n), .ref ak2, .ref af2, .ref as2, .ref ah2, .int (nI fc), .ref afa, .ref afx, .ref ald, .int (nI zz), .ref awy, .int lp, .ref alt, .ref abg, .int (wz_i tl)])), (ams, .inl (cI, 80, .inl (wz_n mn))), (ann, .inl (cJ, 64, .inr (.inl nx))), (ak2, .inl (cI, 32, .inl (wz_n kn))), (af2, .inl (cI, 32, .inl f2)), (as2, .inl (cI, 32, .inl s2)), (ah2, .inl (cJ, 32, .inr (.inl ho))), (afa, .inl (cI, 3, .inl (wz_n fa))), (afx, .inl (cJ, 3, .inr (.inl gx))), (ald, .inl (cJ, 64, .inr (.inl le2)))] sz) := by
  refine Met.ofW (cc := cMo_states) (maxL := 4) (ret := (some .long)) (by decide) rfl ?_
  intro p e s m args below meth c s₁ B hml hv
  obtain ⟨rfl, hsz, hP, hK, hD0, hN⟩ := hv
  have hx := B.exec
  have hb := B.bytes
  have hr := B.returns
  have hts := atoms_spec (ws := (.code yMo_states cMo_states 4 (some .long) :: wz_all)) B.pre
  have hw : ∀ w9 ∈ wz_all, w9.before [.ref aR, .int (nI f)].toArray s = true := fun w9 h => hts w9 (List.mem_cons_of_mem _ h)
  have hown : s.vm.findClass RMo = some m.cls := findClass_of_methodNamed B.named
  have hlocks := B.notSynchronized
  subst hsz
  have hD := hD0.self (sz := s.heap.size)
  generalize hAe : va_A [(aR, .inr (7, [.int (nI th), .int (nI mv), .ref ams, .ref ann, .int (nI n), .ref ak2, .ref af2, .ref as2, .ref ah2, .int (nI fc), .ref afa, .ref afx, .ref ald, .int (nI zz), .ref awy, .int lp, .ref alt, .ref abg, .int (wz_i tl)])), (ams, .inl (cI, 80, .inl (wz_n mn))), (ann, .inl (cJ, 64, .inr (.inl nx))), (ak2, .inl (cI, 32, .inl (wz_n kn))), (af2, .inl (cI, 32, .inl f2)), (as2, .inl (cI, 32, .inl s2)), (ah2, .inl (cJ, 32, .inr (.inl ho))), (afa, .inl (cI, 3, .inl (wz_n fa))), (afx, .inl (cJ, 3, .inr (.inl gx))), (ald, .inl (cJ, 64, .inr (.inl le2)))] s.heap.size = A at hD ⊢
  have hA : ∀ q : Nat, s.heap.size ≤ q → A q := fun q h => by rw [← hAe]; exact Or.inr h
  have hS : va_S A s.heap s.heap [] := va_S.rf
  have hP : va_P (dC, dI) vwCl [(aR, .inr (7, [.int (nI th), .int (nI mv), .ref ams, .ref ann, .int (nI n), .ref ak2, .ref af2, .ref as2, .ref ah2, .int (nI fc), .ref afa, .ref afx, .ref ald, .int (nI zz), .ref awy, .int lp, .ref alt, .ref abg, .int (wz_i tl)])), (ams, .inl (cI, 80, .inl (wz_n mn))), (ann, .inl (cJ, 64, .inr (.inl nx))), (ak2, .inl (cI, 32, .inl (wz_n kn))), (af2, .inl (cI, 32, .inl f2)), (as2, .inl (cI, 32, .inl s2)), (ah2, .inl (cJ, 32, .inr (.inl ho))), (afa, .inl (cI, 3, .inl (wz_n fa))), (afx, .inl (cJ, 3, .inr (.inl gx))), (ald, .inl (cJ, 64, .inr (.inl le2)))] s.heap := hP
  have hl := lv_entry ([.ref aR, .int (nI f)]) (n := 4) (Nat.le_of_ble_eq_true rfl)
  rw [lg_entry_eq]
  generalize (lg_sl ([.ref aR, .int (nI f)]) ++ List.replicate (4 - (lg_sl ([.ref aR, .int (nI f)])).length) Slot.unset).toArray = ls at hl ⊢
  have hl : lv_has ls 4 [(0, .ref aR), (1, .int (nI f))] := hl
  refine lv_aload_n hx hb dMo_states_0 rfl (lv_at hl 0 rfl) ?_
  refine lv_aload_n hx hb dMo_states_1 rfl (lv_at hl 0 rfl) ?_
  refine lv_iload_n hx hb dMo_states_2 rfl (lv_at hl 1 rfl) ?_
  refine wz_calli (wc := [(aR, .inr (7, [.int (nI th), .int (nI mv), .ref ams, .ref ann, .int (nI n), .ref ak2, .ref af2, .ref as2, .ref ah2, .int (nI fc), .ref afa, .ref afx, .ref ald, .int (nI zz), .ref awy, .int lp, .ref alt, .ref abg, .int (wz_i tl)]))]) (wr := [(ams, .inl (cI, 80, .inl (wz_n mn))), (ann, .inl (cJ, 64, .inr (.inl nx))), (ak2, .inl (cI, 32, .inl (wz_n kn))), (af2, .inl (cI, 32, .inl f2)), (as2, .inl (cI, 32, .inl s2)), (ah2, .inl (cJ, 32, .inr (.inl ho))), (afa, .inl (cI, 3, .inl (wz_n fa))), (afx, .inl (cJ, 3, .inr (.inl gx))), (ald, .inl (cJ, 64, .inr (.inl le2)))]) (w1 := [(aR, .inr (7, [.int (nI th), .int (nI mv), .ref ams, .ref ann, .int (nI n), .ref ak2, .ref af2, .ref as2, .ref ah2, .int (nI fc), .ref afa, .ref afx, .ref ald, .int (nI zz), .ref awy, .int lp, .ref alt, .ref abg, .int (wz_i tl)]))]) (ws' := [(aR, .inr (7, [.int (nI th), .int (nI mv), .ref ams, .ref ann, .int (nI n), .ref ak2, .ref af2, .ref as2, .ref ah2, .int (nI fc), .ref afa, .ref afx, .ref ald, .int (nI zz), .ref awy, .int lp, .ref alt, .ref abg, .int (wz_i tl)])), (ams, .inl (cI, 80, .inl (wz_n mn))), (ann, .inl (cJ, 64, .inr (.inl nx))), (ak2, .inl (cI, 32, .inl (wz_n kn))), (af2, .inl (cI, 32, .inl f2)), (as2, .inl (cI, 32, .inl s2)), (ah2, .inl (cJ, 32, .inr (.inl ho))), (afa, .inl (cI, 3, .inl (wz_n fa))), (afx, .inl (cJ, 3, .inr (.inl gx))), (ald, .inl (cJ, 64, .inr (.inl le2)))]) hP hD hS hA [0] [1, 2, 3, 4, 5, 6, 7, 8, 9] [9, 0, 1, 2, 3, 4, 5, 6, 7, 8] rfl rfl (by decide) (by decide) (by decide) rfl rfl (va_runV (As := [.int (nI f)]) (rest := [.ref aR]) ⟨hx, hb, hml, hown, hts⟩ (kMo_noFormula l dC dI cI cJ cZ s.heap.size aR ams ann ak2 af2 as2 ah2 afa afx ald awy alt abg th mv n fc zz lp tl (nI f)) (cwV 1 hts (wz_gV w_583 w_584 w_12 w_41 w_585) rfl rfl rfl (by decide +kernel) ⟨Nat.le_of_ble_eq_true rfl, Nat.le_of_ble_eq_true rfl⟩) (wz_preV (q := (RMo, TMo, 19)) (ci := 7) hN hK hP hD [0] (by decide) rfl rfl 0 rfl rfl) rfl rfl hl.1 rfl (lv_room (Nat.le_of_ble_eq_true rfl)) dMo_states_3 ⟨Nat.le_refl _, Nat.le_refl _⟩) (fun H locs hP hD hS => ?_)
  refine wz_ifz (tgt := 13) hx hb dMo_states_6 (by decide) (fun h6_1 => ?_) (fun h6_1 => ?_)
  · skip
    refine lv_iconst (v := nI 0) hx hb dMo_states_13 (by decide) ?_
    refine va_put (D := (dC, dI)) (ci := 7) (v := .int (nI 0)) (ty := .int) (C := RMo) (T := TMo) (N := 19) hx hb hw in_Mo tyMo tyMo_ok nmMo hown hK hP hD hS 0 rfl rfl 0 (by decide) (hw _ w_500) (fun _ h9 => h9) rfl (by decide +kernel) rfl rfl (Nat.le_of_ble_eq_true rfl) dMo_states_14 (fun H locs hP hD hS => ?_)
    have hP : va_P (dC, dI) vwCl [(aR, .inr (7, [.int (nI 0), .int (nI mv), .ref ams, .ref ann, .int (nI n), .ref ak2, .ref af2, .ref as2, .ref ah2, .int (nI fc), .ref afa, .ref afx, .ref ald, .int (nI zz), .ref awy, .int lp, .ref alt, .ref abg, .int (wz_i tl)])), (ams, .inl (cI, 80, .inl (wz_n mn))), (ann, .inl (cJ, 64, .inr (.inl nx))), (ak2, .inl (cI, 32, .inl (wz_n kn))), (af2, .inl (cI, 32, .inl f2)), (as2, .inl (cI, 32, .inl s2)), (ah2, .inl (cJ, 32, .inr (.inl ho))), (afa, .inl (cI, 3, .inl (wz_n fa))), (afx, .inl (cJ, 3, .inr (.inl gx))), (ald, .inl (cJ, 64, .inr (.inl le2)))] H := hP
    have hD : va_D A [(aR, .inr (7, [.int (nI 0), .int (nI mv), .ref ams, .ref ann, .int (nI n), .ref ak2, .ref af2, .ref as2, .ref ah2, .int (nI fc), .ref afa, .ref afx, .ref ald, .int (nI zz), .ref awy, .int lp, .ref alt, .ref abg, .int (wz_i tl)])), (ams, .inl (cI, 80, .inl (wz_n mn))), (ann, .inl (cJ, 64, .inr (.inl nx))), (ak2, .inl (cI, 32, .inl (wz_n kn))), (af2, .inl (cI, 32, .inl f2)), (as2, .inl (cI, 32, .inl s2)), (ah2, .inl (cJ, 32, .inr (.inl ho))), (afa, .inl (cI, 3, .inl (wz_n fa))), (afx, .inl (cJ, 3, .inr (.inl gx))), (ald, .inl (cJ, 64, .inr (.inl le2)))] := hD
    refine lv_aload_n hx hb dMo_states_17 rfl (lv_at hl 0 rfl) ?_
    refine va_get (D := (dC, dI)) (ci := 7) (v := .int (nI 0)) (C := RMo) (T := TMo) (N := 19) hx hb hw in_Mo hown hK hP 0 rfl rfl 0 (by decide) (hw _ w_500) (fun _ h9 => h9) rfl dMo_states_18 ?_
    refine wz_ifN_eq (x := 0) (tgt := 26) hx hb (by omega) dMo_states_21 (by decide) (fun h21_2 => ?_) (fun h21_2 => ?_)
    · skip
      refine lv_aload_n hx hb dMo_states_26 rfl (lv_at hl 0 rfl) ?_
      refine lv_iload_n hx hb dMo_states_27 rfl (lv_at hl 1 rfl) ?_
      refine wz_calllU (wc := [(aR, .inr (7, [.int (nI 0), .int (nI mv), .ref ams, .ref ann, .int (nI n), .ref ak2, .ref af2, .ref as2, .ref ah2, .int (nI fc), .ref afa, .ref afx, .ref ald, .int (nI zz), .ref awy, .int lp, .ref alt, .ref abg, .int (wz_i tl)])), (ams, .inl (cI, 80, .inl (wz_n mn))), (ann, .inl (cJ, 64, .inr (.inl nx))), (ak2, .inl (cI, 32, .inl (wz_n kn))), (af2, .inl (cI, 32, .inl f2)), (as2, .inl (cI, 32, .inl s2)), (ah2, .inl (cJ, 32, .inr (.inl ho))), (afa, .inl (cI, 3, .inl (wz_n fa))), (afx, .inl (cJ, 3, .inr (.inl gx))), (ald, .inl (cJ, 64, .inr (.inl le2)))]) (wr := []) (w1 := fun (u : (Nat → Int64) × (Nat → Int64) × (Nat → Int64)) => [(aR, .inr (7, [.int (nI 0), .int (nI mv), .ref ams, .ref ann, .int (nI n), .ref ak2, .ref af2, .ref as2, .ref ah2, .int (nI fc), .ref afa, .ref afx, .ref ald, .int (nI zz), .ref awy, .int lp, .ref alt, .ref abg, .int (wz_i tl)])), (ams, .inl (cI, 80, .inl (wz_n mn))), (ann, .inl (cJ, 64, .inr (.inl (ww_fl (ww_nxt mn mv) ww_k64 nx)))), (ak2, .inl (cI, 32, .inl (wz_n kn))), (af2, .inl (cI, 32, .inl f2)), (as2, .inl (cI, 32, .inl s2)), (ah2, .inl (cJ, 32, .inr (.inl (u.1)))), (afa, .inl (cI, 3, .inl (wz_n fa))), (afx, .inl (cJ, 3, .inr (.inl (u.2.1)))), (ald, .inl (cJ, 64, .inr (.inl (u.2.2))))]) (ws' := fun (u : (Nat → Int64) × (Nat → Int64) × (Nat → Int64)) => [(aR, .inr (7, [.int (nI 0), .int (nI mv), .ref ams, .ref ann, .int (nI n), .ref ak2, .ref af2, .ref as2, .ref ah2, .int (nI fc), .ref afa, .ref afx, .ref ald, .int (nI zz), .ref awy, .int lp, .ref alt, .ref abg, .int (wz_i tl)])), (ams, .inl (cI, 80, .inl (wz_n mn))), (ann, .inl (cJ, 64, .inr (.inl (ww_fl (ww_nxt mn mv) ww_k64 nx)))), (ak2, .inl (cI, 32, .inl (wz_n kn))), (af2, .inl (cI, 32, .inl f2)), (as2, .inl (cI, 32, .inl s2)), (ah2, .inl (cJ, 32, .inr (.inl (u.1)))), (afa, .inl (cI, 3, .inl (wz_n fa))), (afx, .inl (cJ, 3, .inr (.inl (u.2.1)))), (ald, .inl (cJ, 64, .inr (.inl (u.2.2))))]) hP hD hS hA [0, 1, 2, 3, 4, 5, 6, 7, 8, 9] [] [0, 1, 2, 3, 4, 5, 6, 7, 8, 9] rfl rfl (by decide) (by decide) (by decide) (fun _ => rfl) (fun _ => rfl) (va_runV (As := [.int (nI f)]) (rest := []) ⟨hx, hb, hml, hown, hts⟩ (kMo_workOut l dC dI cI cJ cZ H.size aR ams ann ak2 af2 as2 ah2 afa afx ald awy alt abg 0 mv n fc zz lp tl mn nx kn f2 s2 ho fa gx le2 fn sn pb go f hmv hmn hwf hn hfi hse hfc hpb hfa hgo hf) (cwV 1 hts (wz_gV w_604 w_605 w_15 w_41 w_606) rfl rfl rfl (by decide +kernel) ⟨Nat.le_of_ble_eq_true rfl, Nat.le_of_ble_eq_true rfl⟩) (wz_preV (q := (RMo, TMo, 19)) (ci := 7) hN hK hP hD [0, 1, 2, 3, 4, 5, 6, 7, 8, 9] (by decide) rfl rfl 0 rfl rfl) rfl rfl hl.1 rfl (lv_room (Nat.le_of_ble_eq_true rfl)) dMo_states_28 ⟨Nat.le_refl _, Nat.le_refl _⟩) (fun u3 hqu3 H locs hP hD hS => ?_)
      have hP : va_P (dC, dI) vwCl [(aR, .inr (7, [.int (nI 0), .int (nI mv), .ref ams, .ref ann, .int (nI n), .ref ak2, .ref af2, .ref as2, .ref ah2, .int (nI fc), .ref afa, .ref afx, .ref ald, .int (nI zz), .ref awy, .int lp, .ref alt, .ref abg, .int (wz_i tl)])), (ams, .inl (cI, 80, .inl (wz_n mn))), (ann, .inl (cJ, 64, .inr (.inl (ww_fl (ww_nxt mn mv) ww_k64 nx)))), (ak2, .inl (cI, 32, .inl (wz_n kn))), (af2, .inl (cI, 32, .inl f2)), (as2, .inl (cI, 32, .inl s2)), (ah2, .inl (cJ, 32, .inr (.inl (u3.1)))), (afa, .inl (cI, 3, .inl (wz_n fa))), (afx, .inl (cJ, 3, .inr (.inl (u3.2.1)))), (ald, .inl (cJ, 64, .inr (.inl (u3.2.2))))] H := hP
      have hD : va_D A [(aR, .inr (7, [.int (nI 0), .int (nI mv), .ref ams, .ref ann, .int (nI n), .ref ak2, .ref af2, .ref as2, .ref ah2, .int (nI fc), .ref afa, .ref afx, .ref ald, .int (nI zz), .ref awy, .int lp, .ref alt, .ref abg, .int (wz_i tl)])), (ams, .inl (cI, 80, .inl (wz_n mn))), (ann, .inl (cJ, 64, .inr (.inl (ww_fl (ww_nxt mn mv) ww_k64 nx)))), (ak2, .inl (cI, 32, .inl (wz_n kn))), (af2, .inl (cI, 32, .inl f2)), (as2, .inl (cI, 32, .inl s2)), (ah2, .inl (cJ, 32, .inr (.inl (u3.1)))), (afa, .inl (cI, 3, .inl (wz_n fa))), (afx, .inl (cJ, 3, .inr (.inl (u3.2.1)))), (ald, .inl (cJ, 64, .inr (.inl (u3.2.2))))] := hD
      refine lv_lstore_n (lv' := [(2, .long (ww_yy (ww_nxt mn mv) go fc (-1))), (0, .ref aR), (1, .int (nI f))]) hx hb dMo_states_31 rfl hl (by decide) rfl (fun ls hl => ?_)
      refine lv_aload_n hx hb dMo_states_32 rfl (lv_at hl 1 rfl) ?_
      refine va_get (D := (dC, dI)) (ci := 7) (v := .ref ah2) (C := RMo) (T := TMo) (N := 19) hx hb hw in_Mo hown hK hP 0 rfl rfl 8 (by decide) (hw _ w_508) (fun _ h9 => h9) rfl dMo_states_33 ?_
      refine lv_iload_n hx hb dMo_states_36 rfl (lv_at hl 2 rfl) ?_
      refine wz_lald hx hb hK hP 6 1 rfl rfl (i := f) (by omega) (by decide) dMo_states_37 ?_
      exact wz_lretU (_, _, _) trivial hx hb hr hlocks (hqu3.1 f (Nat.le_refl _)) hP hD hK hS dMo_states_38
    · skip
      exact absurd h21_2 (by decide)
  · skip
    simp [ww_hs_N hf (show n < 2 ^ 31 by omega)] at h6_1
set_option maxHeartbeats 4000000 in
set_option maxRecDepth 100000 in
theorem kMo_begins (l : Launch) (dC : Nat → ClassId) (dI : Nat → Nat → Nat) (cI cJ cZ : ClassId) (sz : Nat) (aR : Nat) (ams : Nat) (ann : Nat) (ak2 : Nat) (af2 : Nat) (as2 : Nat) (ah2 : Nat) (afa : Nat) (afx : Nat) (ald : Nat) (awy : Nat) (alt : Nat) (abg : Nat) (th : Nat) (mv : Nat) (n : Nat) (fc : Nat) (zz : Nat) (lp : Int32) (tl : Bool) (mn : Nat → Nat) (nx : Nat → Int64) (kn : Nat → Nat) (f2 : Nat → Int32) (s2 : Nat → Int32) (ho : Nat → Int64) (fa : Nat → Nat) (gx : Nat → Int64) (le2 : Nat → Int64) (fn : Nat → Nat) (sn : Nat → Nat) (pb : Nat → Bool) (go : Nat → Int64) (hmv : mv ≤ 16) (hmn : ∀ j, j < 5 * mv → mn j < 64) (hwf : ww_wf n kn fn sn) (hn : n ≤ 32) (hfi : ∀ i, i < n → ¬ kn i = 1 → f2 i = nI (fn i)) (hse : ∀ i, i < n → ww_h2 (kn i) = true → s2 i = nI (sn i)) (hfc : fc ≤ 3) (hpb : ww_pb n kn fn sn pb) (hfa : ∀ i, i < fc → fa i < n ∧ pb (fa i) = true) (hgo : ∀ i, i < fc → go i = ww_pv kn fn sn (fa i)) : Met l yMo_begins (.code yMo_begins cMo_begins 1 (some .long) :: wz_all) ({ frames := 4, cells := 0, slots := 0, locals := 106 }) (wz_Pc (dC, dI) vwCl (wz_T cI cJ cZ) [.ref aR] sz [(aR, .inr (7, [.int (nI th), .int (nI mv), .ref ams, .ref ann, .int (nI n), .ref ak2, .ref af2, .ref as2, .ref ah2, .int (nI fc), .ref afa, .ref afx, .ref ald, .int (nI zz), .ref awy, .int lp, .ref alt, .ref abg, .int (wz_i tl)])), (ams, .inl (cI, 80, .inl (wz_n mn))), (ann, .inl (cJ, 64, .inr (.inl nx))), (ak2, .inl (cI, 32, .inl (wz_n kn))), (af2, .inl (cI, 32, .inl f2)), (as2, .inl (cI, 32, .inl s2)), (ah2, .inl (cJ, 32, .inr (.inl ho))), (afa, .inl (cI, 3, .inl (wz_n fa))), (afx, .inl (cJ, 3, .inr (.inl gx))), (ald, .inl (cJ, 64, .inr (.inl le2)))]) (va_Ql (fun (r : Int64) (u : (Nat → Int64) × (Nat → Int64) × (Nat → Int64)) => r = (ww_yy (ww_nxt mn mv) go fc (-1)) ∧ True) (fun (u : (Nat → Int64) × (Nat → Int64) × (Nat → Int64)) t => va_P (dC, dI) vwCl [(aR, .inr (7, [.int (nI 0), .int (nI mv), .ref ams, .ref ann, .int (nI n), .ref ak2, .ref af2, .ref as2, .ref ah2, .int (nI fc), .ref afa, .ref afx, .ref ald, .int (nI zz), .ref awy, .int lp, .ref alt, .ref abg, .int (wz_i tl)])), (ams, .inl (cI, 80, .inl (wz_n mn))), (ann, .inl (cJ, 64, .inr (.inl (ww_fl (ww_nxt mn mv) ww_k64 nx)))), (ak2, .inl (cI, 32, .inl (wz_n kn))), (af2, .inl (cI, 32, .inl f2)), (as2, .inl (cI, 32, .inl s2)), (ah2, .inl (cJ, 32, .inr (.inl (u.1)))), (afa, .inl (cI, 3, .inl (wz_n fa))), (afx, .inl (cJ, 3, .inr (.inl (u.2.1)))), (ald, .inl (cJ, 64, .inr (.inl (u.2.2))))] t.heap ∧ va_K (dC, dI) vwCl (wz_T cI cJ cZ) t ∧ va_D (va_A [(aR, .inr (7, [.int (nI th), .int (nI mv), .ref ams, .ref ann, .int (nI n), .ref ak2, .ref af2, .ref as2, .ref ah2, .int (nI fc), .ref afa, .ref afx, .ref ald, .int (nI zz), .ref awy, .int lp, .ref alt, .ref abg, .int (wz_i tl)])), (ams, .inl (cI, 80, .inl (wz_n mn))), (ann, .inl (cJ, 64, .inr (.inl nx))), (ak2, .inl (cI, 32, .inl (wz_n kn))), (af2, .inl (cI, 32, .inl f2)), (as2, .inl (cI, 32, .inl s2)), (ah2, .inl (cJ, 32, .inr (.inl ho))), (afa, .inl (cI, 3, .inl (wz_n fa))), (afx, .inl (cJ, 3, .inr (.inl gx))), (ald, .inl (cJ, 64, .inr (.inl le2)))] sz) [(aR, .inr (7, [.int (nI 0), .int (nI mv), .ref ams, .ref ann, .int (nI n), .ref ak2, .ref af2, .ref as2, .ref ah2, .int (nI fc), .ref afa, .ref afx, .ref ald, .int (nI zz), .ref awy, .int lp, .ref alt, .ref abg, .int (wz_i tl)])), (ams, .inl (cI, 80, .inl (wz_n mn))), (ann, .inl (cJ, 64, .inr (.inl (ww_fl (ww_nxt mn mv) ww_k64 nx)))), (ak2, .inl (cI, 32, .inl (wz_n kn))), (af2, .inl (cI, 32, .inl f2)), (as2, .inl (cI, 32, .inl s2)), (ah2, .inl (cJ, 32, .inr (.inl (u.1)))), (afa, .inl (cI, 3, .inl (wz_n fa))), (afx, .inl (cJ, 3, .inr (.inl (u.2.1)))), (ald, .inl (cJ, 64, .inr (.inl (u.2.2))))]) (va_A [(aR, .inr (7, [.int (nI th), .int (nI mv), .ref ams, .ref ann, .int (nI n), .ref ak2, .ref af2, .ref as2, .ref ah2, .int (nI fc), .ref afa, .ref afx, .ref ald, .int (nI zz), .ref awy, .int lp, .ref alt, .ref abg, .int (wz_i tl)])), (ams, .inl (cI, 80, .inl (wz_n mn))), (ann, .inl (cJ, 64, .inr (.inl nx))), (ak2, .inl (cI, 32, .inl (wz_n kn))), (af2, .inl (cI, 32, .inl f2)), (as2, .inl (cI, 32, .inl s2)), (ah2, .inl (cJ, 32, .inr (.inl ho))), (afa, .inl (cI, 3, .inl (wz_n fa))), (afx, .inl (cJ, 3, .inr (.inl gx))), (ald, .inl (cJ, 64, .inr (.inl le2)))] sz)) 0 0 (va_A [(aR, .inr (7, [.int (nI th), .int (nI mv), .ref ams, .ref ann, .int (nI n), .ref ak2, .ref af2, .ref as2, .ref ah2, .int (nI fc), .ref afa, .ref afx, .ref ald, .int (nI zz), .ref awy, .int lp, .ref alt, .ref abg, .int (wz_i tl)])), (ams, .inl (cI, 80, .inl (wz_n mn))), (ann, .inl (cJ, 64, .inr (.inl nx))), (ak2, .inl (cI, 32, .inl (wz_n kn))), (af2, .inl (cI, 32, .inl f2)), (as2, .inl (cI, 32, .inl s2)), (ah2, .inl (cJ, 32, .inr (.inl ho))), (afa, .inl (cI, 3, .inl (wz_n fa))), (afx, .inl (cJ, 3, .inr (.inl gx))), (ald, .inl (cJ, 64, .inr (.inl le2)))] sz) := by
  refine Met.ofW (cc := cMo_begins) (maxL := 1) (ret := (some .long)) (by decide) rfl ?_
  intro p e s m args below meth c s₁ B hml hv
  obtain ⟨rfl, hsz, hP, hK, hD0, hN⟩ := hv
  have hx := B.exec
  have hb := B.bytes
  have hr := B.returns
  have hts := atoms_spec (ws := (.code yMo_begins cMo_begins 1 (some .long) :: wz_all)) B.pre
  have hw : ∀ w9 ∈ wz_all, w9.before [.ref aR].toArray s = true := fun w9 h => hts w9 (List.mem_cons_of_mem _ h)
  have hown : s.vm.findClass RMo = some m.cls := findClass_of_methodNamed B.named
  have hlocks := B.notSynchronized
  subst hsz
  have hD := hD0.self (sz := s.heap.size)
  generalize hAe : va_A [(aR, .inr (7, [.int (nI th), .int (nI mv), .ref ams, .ref ann, .int (nI n), .ref ak2, .ref af2, .ref as2, .ref ah2, .int (nI fc), .ref afa, .ref afx, .ref ald, .int (nI zz), .ref awy, .int lp, .ref alt, .ref abg, .int (wz_i tl)])), (ams, .inl (cI, 80, .inl (wz_n mn))), (ann, .inl (cJ, 64, .inr (.inl nx))), (ak2, .inl (cI, 32, .inl (wz_n kn))), (af2, .inl (cI, 32, .inl f2)), (as2, .inl (cI, 32, .inl s2)), (ah2, .inl (cJ, 32, .inr (.inl ho))), (afa, .inl (cI, 3, .inl (wz_n fa))), (afx, .inl (cJ, 3, .inr (.inl gx))), (ald, .inl (cJ, 64, .inr (.inl le2)))] s.heap.size = A at hD ⊢
  have hA : ∀ q : Nat, s.heap.size ≤ q → A q := fun q h => by rw [← hAe]; exact Or.inr h
  have hS : va_S A s.heap s.heap [] := va_S.rf
  have hP : va_P (dC, dI) vwCl [(aR, .inr (7, [.int (nI th), .int (nI mv), .ref ams, .ref ann, .int (nI n), .ref ak2, .ref af2, .ref as2, .ref ah2, .int (nI fc), .ref afa, .ref afx, .ref ald, .int (nI zz), .ref awy, .int lp, .ref alt, .ref abg, .int (wz_i tl)])), (ams, .inl (cI, 80, .inl (wz_n mn))), (ann, .inl (cJ, 64, .inr (.inl nx))), (ak2, .inl (cI, 32, .inl (wz_n kn))), (af2, .inl (cI, 32, .inl f2)), (as2, .inl (cI, 32, .inl s2)), (ah2, .inl (cJ, 32, .inr (.inl ho))), (afa, .inl (cI, 3, .inl (wz_n fa))), (afx, .inl (cJ, 3, .inr (.inl gx))), (ald, .inl (cJ, 64, .inr (.inl le2)))] s.heap := hP
  have hl := lv_entry ([.ref aR]) (n := 1) (Nat.le_of_ble_eq_true rfl)
  rw [lg_entry_eq]
  generalize (lg_sl ([.ref aR]) ++ List.replicate (1 - (lg_sl ([.ref aR])).length) Slot.unset).toArray = ls at hl ⊢
  have hl : lv_has ls 1 [(0, .ref aR)] := hl
  refine lv_aload_n hx hb dMo_begins_0 rfl (lv_at hl 0 rfl) ?_
  refine lv_iconst (v := nI 0) hx hb dMo_begins_1 (by decide) ?_
  refine va_put (D := (dC, dI)) (ci := 7) (v := .int (nI 0)) (ty := .int) (C := RMo) (T := TMo) (N := 19) hx hb hw in_Mo tyMo tyMo_ok nmMo hown hK hP hD hS 0 rfl rfl 0 (by decide) (hw _ w_500) (fun _ h9 => h9) rfl (by decide +kernel) rfl rfl (Nat.le_of_ble_eq_true rfl) dMo_begins_2 (fun H locs hP hD hS => ?_)
  have hP : va_P (dC, dI) vwCl [(aR, .inr (7, [.int (nI 0), .int (nI mv), .ref ams, .ref ann, .int (nI n), .ref ak2, .ref af2, .ref as2, .ref ah2, .int (nI fc), .ref afa, .ref afx, .ref ald, .int (nI zz), .ref awy, .int lp, .ref alt, .ref abg, .int (wz_i tl)])), (ams, .inl (cI, 80, .inl (wz_n mn))), (ann, .inl (cJ, 64, .inr (.inl nx))), (ak2, .inl (cI, 32, .inl (wz_n kn))), (af2, .inl (cI, 32, .inl f2)), (as2, .inl (cI, 32, .inl s2)), (ah2, .inl (cJ, 32, .inr (.inl ho))), (afa, .inl (cI, 3, .inl (wz_n fa))), (afx, .inl (cJ, 3, .inr (.inl gx))), (ald, .inl (cJ, 64, .inr (.inl le2)))] H := hP
  have hD : va_D A [(aR, .inr (7, [.int (nI 0), .int (nI mv), .ref ams, .ref ann, .int (nI n), .ref ak2, .ref af2, .ref as2, .ref ah2, .int (nI fc), .ref afa, .ref afx, .ref ald, .int (nI zz), .ref awy, .int lp, .ref alt, .ref abg, .int (wz_i tl)])), (ams, .inl (cI, 80, .inl (wz_n mn))), (ann, .inl (cJ, 64, .inr (.inl nx))), (ak2, .inl (cI, 32, .inl (wz_n kn))), (af2, .inl (cI, 32, .inl f2)), (as2, .inl (cI, 32, .inl s2)), (ah2, .inl (cJ, 32, .inr (.inl ho))), (afa, .inl (cI, 3, .inl (wz_n fa))), (afx, .inl (cJ, 3, .inr (.inl gx))), (ald, .inl (cJ, 64, .inr (.inl le2)))] := hD
  refine lv_aload_n hx hb dMo_begins_5 rfl (lv_at hl 0 rfl) ?_
  refine lv_iconst (v := (-1)) hx hb dMo_begins_6 (by decide) ?_
  refine wz_calllU (wc := [(aR, .inr (7, [.int (nI 0), .int (nI mv), .ref ams, .ref ann, .int (nI n), .ref ak2, .ref af2, .ref as2, .ref ah2, .int (nI fc), .ref afa, .ref afx, .ref ald, .int (nI zz), .ref awy, .int lp, .ref alt, .ref abg, .int (wz_i tl)])), (ams, .inl (cI, 80, .inl (wz_n mn))), (ann, .inl (cJ, 64, .inr (.inl nx))), (ak2, .inl (cI, 32, .inl (wz_n kn))), (af2, .inl (cI, 32, .inl f2)), (as2, .inl (cI, 32, .inl s2)), (ah2, .inl (cJ, 32, .inr (.inl ho))), (afa, .inl (cI, 3, .inl (wz_n fa))), (afx, .inl (cJ, 3, .inr (.inl gx))), (ald, .inl (cJ, 64, .inr (.inl le2)))]) (wr := []) (w1 := fun (u : (Nat → Int64) × (Nat → Int64) × (Nat → Int64)) => [(aR, .inr (7, [.int (nI 0), .int (nI mv), .ref ams, .ref ann, .int (nI n), .ref ak2, .ref af2, .ref as2, .ref ah2, .int (nI fc), .ref afa, .ref afx, .ref ald, .int (nI zz), .ref awy, .int lp, .ref alt, .ref abg, .int (wz_i tl)])), (ams, .inl (cI, 80, .inl (wz_n mn))), (ann, .inl (cJ, 64, .inr (.inl (ww_fl (ww_nxt mn mv) ww_k64 nx)))), (ak2, .inl (cI, 32, .inl (wz_n kn))), (af2, .inl (cI, 32, .inl f2)), (as2, .inl (cI, 32, .inl s2)), (ah2, .inl (cJ, 32, .inr (.inl (u.1)))), (afa, .inl (cI, 3, .inl (wz_n fa))), (afx, .inl (cJ, 3, .inr (.inl (u.2.1)))), (ald, .inl (cJ, 64, .inr (.inl (u.2.2))))]) (ws' := fun (u : (Nat → Int64) × (Nat → Int64) × (Nat → Int64)) => [(aR, .inr (7, [.int (nI 0), .int (nI mv), .ref ams, .ref ann, .int (nI n), .ref ak2, .ref af2, .ref as2, .ref ah2, .int (nI fc), .ref afa, .ref afx, .ref ald, .int (nI zz), .ref awy, .int lp, .ref alt, .ref abg, .int (wz_i tl)])), (ams, .inl (cI, 80, .inl (wz_n mn))), (ann, .inl (cJ, 64, .inr (.inl (ww_fl (ww_nxt mn mv) ww_k64 nx)))), (ak2, .inl (cI, 32, .inl (wz_n kn))), (af2, .inl (cI, 32, .inl f2)), (as2, .inl (cI, 32, .inl s2)), (ah2, .inl (cJ, 32, .inr (.inl (u.1)))), (afa, .inl (cI, 3, .inl (wz_n fa))), (afx, .inl (cJ, 3, .inr (.inl (u.2.1)))), (ald, .inl (cJ, 64, .inr (.inl (u.2.2))))]) hP hD hS hA [0, 1, 2, 3, 4, 5, 6, 7, 8, 9] [] [0, 1, 2, 3, 4, 5, 6, 7, 8, 9] rfl rfl (by decide) (by decide) (by decide) (fun _ => rfl) (fun _ => rfl) (va_runV (As := [.int (-1)]) (rest := []) ⟨hx, hb, hml, hown, hts⟩ (kMo_workOut_b l dC dI cI cJ cZ H.size aR ams ann ak2 af2 as2 ah2 afa afx ald awy alt abg 0 mv n fc zz lp tl mn nx kn f2 s2 ho fa gx le2 fn sn pb go hmv hmn hwf hn hfi hse hfc hpb hfa hgo) (cwV 1 hts (wz_gV w_604 w_605 w_15 w_41 w_606) rfl rfl rfl (by decide +kernel) ⟨Nat.le_of_ble_eq_true rfl, Nat.le_of_ble_eq_true rfl⟩) (wz_preV (q := (RMo, TMo, 19)) (ci := 7) hN hK hP hD [0, 1, 2, 3, 4, 5, 6, 7, 8, 9] (by decide) rfl rfl 0 rfl rfl) rfl rfl hl.1 rfl (lv_room (Nat.le_of_ble_eq_true rfl)) dMo_begins_7 ⟨Nat.le_refl _, Nat.le_refl _⟩) (fun u1 hqu1 H locs hP hD hS => ?_)
  have hP : va_P (dC, dI) vwCl [(aR, .inr (7, [.int (nI 0), .int (nI mv), .ref ams, .ref ann, .int (nI n), .ref ak2, .ref af2, .ref as2, .ref ah2, .int (nI fc), .ref afa, .ref afx, .ref ald, .int (nI zz), .ref awy, .int lp, .ref alt, .ref abg, .int (wz_i tl)])), (ams, .inl (cI, 80, .inl (wz_n mn))), (ann, .inl (cJ, 64, .inr (.inl (ww_fl (ww_nxt mn mv) ww_k64 nx)))), (ak2, .inl (cI, 32, .inl (wz_n kn))), (af2, .inl (cI, 32, .inl f2)), (as2, .inl (cI, 32, .inl s2)), (ah2, .inl (cJ, 32, .inr (.inl (u1.1)))), (afa, .inl (cI, 3, .inl (wz_n fa))), (afx, .inl (cJ, 3, .inr (.inl (u1.2.1)))), (ald, .inl (cJ, 64, .inr (.inl (u1.2.2))))] H := hP
  have hD : va_D A [(aR, .inr (7, [.int (nI 0), .int (nI mv), .ref ams, .ref ann, .int (nI n), .ref ak2, .ref af2, .ref as2, .ref ah2, .int (nI fc), .ref afa, .ref afx, .ref ald, .int (nI zz), .ref awy, .int lp, .ref alt, .ref abg, .int (wz_i tl)])), (ams, .inl (cI, 80, .inl (wz_n mn))), (ann, .inl (cJ, 64, .inr (.inl (ww_fl (ww_nxt mn mv) ww_k64 nx)))), (ak2, .inl (cI, 32, .inl (wz_n kn))), (af2, .inl (cI, 32, .inl f2)), (as2, .inl (cI, 32, .inl s2)), (ah2, .inl (cJ, 32, .inr (.inl (u1.1)))), (afa, .inl (cI, 3, .inl (wz_n fa))), (afx, .inl (cJ, 3, .inr (.inl (u1.2.1)))), (ald, .inl (cJ, 64, .inr (.inl (u1.2.2))))] := hD
  exact wz_lretU (_, _, _) trivial hx hb hr hlocks rfl hP hD hK hS dMo_begins_10
set_option maxHeartbeats 4000000 in
set_option maxRecDepth 100000 in
theorem kMo_loop (l : Launch) (dC : Nat → ClassId) (dI : Nat → Nat → Nat) (cI cJ cZ : ClassId) (sz : Nat) (aR : Nat) (ams : Nat) (ann : Nat) (ak2 : Nat) (af2 : Nat) (as2 : Nat) (ah2 : Nat) (afa : Nat) (afx : Nat) (ald : Nat) (awy : Nat) (alt : Nat) (abg : Nat) (th : Nat) (mv : Nat) (n : Nat) (fc : Nat) (zz : Nat) (lp : Int32) (tl : Bool) : Met l yMo_loop (.code yMo_loop cMo_loop 1 (some .int) :: wz_all) ({ frames := 0, cells := 0, slots := 0, locals := 0 }) (wz_Pc (dC, dI) vwCl (wz_T cI cJ cZ) [.ref aR] sz [(aR, .inr (7, [.int (nI th), .int (nI mv), .ref ams, .ref ann, .int (nI n), .ref ak2, .ref af2, .ref as2, .ref ah2, .int (nI fc), .ref afa, .ref afx, .ref ald, .int (nI zz), .ref awy, .int lp, .ref alt, .ref abg, .int (wz_i tl)]))]) (va_Qi (fun (r : Int32) (_ : Unit) => r = lp) (fun _ t => va_P (dC, dI) vwCl [(aR, .inr (7, [.int (nI 0), .int (nI mv), .ref ams, .ref ann, .int (nI n), .ref ak2, .ref af2, .ref as2, .ref ah2, .int (nI fc), .ref afa, .ref afx, .ref ald, .int (nI zz), .ref awy, .int lp, .ref alt, .ref abg, .int (wz_i tl)]))] t.heap ∧ va_K (dC, dI) vwCl (wz_T cI cJ cZ) t ∧ va_D (va_A [(aR, .inr (7, [.int (nI th), .int (nI mv), .ref ams, .ref ann, .int (nI n), .ref ak2, .ref af2, .ref as2, .ref ah2, .int (nI fc), .ref afa, .ref afx, .ref ald, .int (nI zz), .ref awy, .int lp, .ref alt, .ref abg, .int (wz_i tl)]))] sz) [(aR, .inr (7, [.int (nI 0), .int (nI mv), .ref ams, .ref ann, .int (nI n), .ref ak2, .ref af2, .ref as2, .ref ah2, .int (nI fc), .ref afa, .ref afx, .ref ald, .int (nI zz), .ref awy, .int lp, .ref alt, .ref abg, .int (wz_i tl)]))]) (va_A [(aR, .inr (7, [.int (nI th), .int (nI mv), .ref ams, .ref ann, .int (nI n), .ref ak2, .ref af2, .ref as2, .ref ah2, .int (nI fc), .ref afa, .ref afx, .ref ald, .int (nI zz), .ref awy, .int lp, .ref alt, .ref abg, .int (wz_i tl)]))] sz)) 0 0 (va_A [(aR, .inr (7, [.int (nI th), .int (nI mv), .ref ams, .ref ann, .int (nI n), .ref ak2, .ref af2, .ref as2, .ref ah2, .int (nI fc), .ref afa, .ref afx, .ref ald, .int (nI zz), .ref awy, .int lp, .ref alt, .ref abg, .int (wz_i tl)]))] sz) := by
  refine Met.ofW (cc := cMo_loop) (maxL := 1) (ret := (some .int)) (by decide) rfl ?_
  intro p e s m args below meth c s₁ B hml hv
  obtain ⟨rfl, hsz, hP, hK, hD0, hN⟩ := hv
  have hx := B.exec
  have hb := B.bytes
  have hr := B.returns
  have hts := atoms_spec (ws := (.code yMo_loop cMo_loop 1 (some .int) :: wz_all)) B.pre
  have hw : ∀ w9 ∈ wz_all, w9.before [.ref aR].toArray s = true := fun w9 h => hts w9 (List.mem_cons_of_mem _ h)
  have hown : s.vm.findClass RMo = some m.cls := findClass_of_methodNamed B.named
  have hlocks := B.notSynchronized
  subst hsz
  have hD := hD0.self (sz := s.heap.size)
  generalize hAe : va_A [(aR, .inr (7, [.int (nI th), .int (nI mv), .ref ams, .ref ann, .int (nI n), .ref ak2, .ref af2, .ref as2, .ref ah2, .int (nI fc), .ref afa, .ref afx, .ref ald, .int (nI zz), .ref awy, .int lp, .ref alt, .ref abg, .int (wz_i tl)]))] s.heap.size = A at hD ⊢
  have hA : ∀ q : Nat, s.heap.size ≤ q → A q := fun q h => by rw [← hAe]; exact Or.inr h
  have hS : va_S A s.heap s.heap [] := va_S.rf
  have hP : va_P (dC, dI) vwCl [(aR, .inr (7, [.int (nI th), .int (nI mv), .ref ams, .ref ann, .int (nI n), .ref ak2, .ref af2, .ref as2, .ref ah2, .int (nI fc), .ref afa, .ref afx, .ref ald, .int (nI zz), .ref awy, .int lp, .ref alt, .ref abg, .int (wz_i tl)]))] s.heap := hP
  have hl := lv_entry ([.ref aR]) (n := 1) (Nat.le_of_ble_eq_true rfl)
  rw [lg_entry_eq]
  generalize (lg_sl ([.ref aR]) ++ List.replicate (1 - (lg_sl ([.ref aR])).length) Slot.unset).toArray = ls at hl ⊢
  have hl : lv_has ls 1 [(0, .ref aR)] := hl
  refine lv_aload_n hx hb dMo_loop_0 rfl (lv_at hl 0 rfl) ?_
  refine lv_iconst (v := nI 0) hx hb dMo_loop_1 (by decide) ?_
  refine va_put (D := (dC, dI)) (ci := 7) (v := .int (nI 0)) (ty := .int) (C := RMo) (T := TMo) (N := 19) hx hb hw in_Mo tyMo tyMo_ok nmMo hown hK hP hD hS 0 rfl rfl 0 (by decide) (hw _ w_500) (fun _ h9 => h9) rfl (by decide +kernel) rfl rfl (Nat.le_of_ble_eq_true rfl) dMo_loop_2 (fun H locs hP hD hS => ?_)
  have hP : va_P (dC, dI) vwCl [(aR, .inr (7, [.int (nI 0), .int (nI mv), .ref ams, .ref ann, .int (nI n), .ref ak2, .ref af2, .ref as2, .ref ah2, .int (nI fc), .ref afa, .ref afx, .ref ald, .int (nI zz), .ref awy, .int lp, .ref alt, .ref abg, .int (wz_i tl)]))] H := hP
  have hD : va_D A [(aR, .inr (7, [.int (nI 0), .int (nI mv), .ref ams, .ref ann, .int (nI n), .ref ak2, .ref af2, .ref as2, .ref ah2, .int (nI fc), .ref afa, .ref afx, .ref ald, .int (nI zz), .ref awy, .int lp, .ref alt, .ref abg, .int (wz_i tl)]))] := hD
  refine lv_aload_n hx hb dMo_loop_5 rfl (lv_at hl 0 rfl) ?_
  refine va_get (D := (dC, dI)) (ci := 7) (v := .int lp) (C := RMo) (T := TMo) (N := 19) hx hb hw in_Mo hown hK hP 0 rfl rfl 15 (by decide) (hw _ w_515) (fun _ h9 => h9) rfl dMo_loop_6 ?_
  exact wz_iret hx hb hr hlocks rfl hP hD hK hS dMo_loop_9
set_option maxHeartbeats 4000000 in
set_option maxRecDepth 100000 in
theorem kMo_shown_1 (l : Launch) (dC : Nat → ClassId) (dI : Nat → Nat → Nat) (cI cJ cZ : ClassId) (sz : Nat) (aR : Nat) (ams : Nat) (ann : Nat) (ak2 : Nat) (af2 : Nat) (as2 : Nat) (ah2 : Nat) (afa : Nat) (afx : Nat) (ald : Nat) (awy : Nat) (alt : Nat) (abg : Nat) (th : Nat) (mv : Nat) (n : Nat) (fc : Nat) (zz : Nat) (lp : Int32) (tl : Bool) (wy : Nat → Int32) (x : Int32) (hbad : ww_hs zz x = false) : Met l yMo_shown (.code yMo_shown cMo_shown 2 (some .int) :: wz_all) ({ frames := 0, cells := 0, slots := 0, locals := 0 }) (wz_Pc (dC, dI) vwCl (wz_T cI cJ cZ) [.ref aR, .int x] sz [(aR, .inr (7, [.int (nI th), .int (nI mv), .ref ams, .ref ann, .int (nI n), .ref ak2, .ref af2, .ref as2, .ref ah2, .int (nI fc), .ref afa, .ref afx, .ref ald, .int (nI zz), .ref awy, .int lp, .ref alt, .ref abg, .int (wz_i tl)])), (awy, .inl (cI, 260, .inl wy))]) (va_Qi (fun (r : Int32) (_ : Unit) => r = nI 0) (fun _ t => va_P (dC, dI) vwCl [(aR, .inr (7, [.int (nI 1), .int (nI mv), .ref ams, .ref ann, .int (nI n), .ref ak2, .ref af2, .ref as2, .ref ah2, .int (nI fc), .ref afa, .ref afx, .ref ald, .int (nI zz), .ref awy, .int lp, .ref alt, .ref abg, .int (wz_i tl)])), (awy, .inl (cI, 260, .inl wy))] t.heap ∧ va_K (dC, dI) vwCl (wz_T cI cJ cZ) t ∧ va_D (va_A [(aR, .inr (7, [.int (nI th), .int (nI mv), .ref ams, .ref ann, .int (nI n), .ref ak2, .ref af2, .ref as2, .ref ah2, .int (nI fc), .ref afa, .ref afx, .ref ald, .int (nI zz), .ref awy, .int lp, .ref alt, .ref abg, .int (wz_i tl)])), (awy, .inl (cI, 260, .inl wy))] sz) [(aR, .inr (7, [.int (nI 1), .int (nI mv), .ref ams, .ref ann, .int (nI n), .ref ak2, .ref af2, .ref as2, .ref ah2, .int (nI fc), .ref afa, .ref afx, .ref ald, .int (nI zz), .ref awy, .int lp, .ref alt, .ref abg, .int (wz_i tl)])), (awy, .inl (cI, 260, .inl wy))]) (va_A [(aR, .inr (7, [.int (nI th), .int (nI mv), .ref ams, .ref ann, .int (nI n), .ref ak2, .ref af2, .ref as2, .ref ah2, .int (nI fc), .ref afa, .ref afx, .ref ald, .int (nI zz), .ref awy, .int lp, .ref alt, .ref abg, .int (wz_i tl)])), (awy, .inl (cI, 260, .inl wy))] sz)) 0 0 (va_A [(aR, .inr (7, [.int (nI th), .int (nI mv), .ref ams, .ref ann, .int (nI n), .ref ak2, .ref af2, .ref as2, .ref ah2, .int (nI fc), .ref afa, .ref afx, .ref ald, .int (nI zz), .ref awy, .int lp, .ref alt, .ref abg, .int (wz_i tl)])), (awy, .inl (cI, 260, .inl wy))] sz) := by
  refine Met.ofW (cc := cMo_shown) (maxL := 2) (ret := (some .int)) (by decide) rfl ?_
  intro p e s m args below meth c s₁ B hml hv
  obtain ⟨rfl, hsz, hP, hK, hD0, hN⟩ := hv
  have hx := B.exec
  have hb := B.bytes
  have hr := B.returns
  have hts := atoms_spec (ws := (.code yMo_shown cMo_shown 2 (some .int) :: wz_all)) B.pre
  have hw : ∀ w9 ∈ wz_all, w9.before [.ref aR, .int x].toArray s = true := fun w9 h => hts w9 (List.mem_cons_of_mem _ h)
  have hown : s.vm.findClass RMo = some m.cls := findClass_of_methodNamed B.named
  have hlocks := B.notSynchronized
  subst hsz
  have hD := hD0.self (sz := s.heap.size)
  generalize hAe : va_A [(aR, .inr (7, [.int (nI th), .int (nI mv), .ref ams, .ref ann, .int (nI n), .ref ak2, .ref af2, .ref as2, .ref ah2, .int (nI fc), .ref afa, .ref afx, .ref ald, .int (nI zz), .ref awy, .int lp, .ref alt, .ref abg, .int (wz_i tl)])), (awy, .inl (cI, 260, .inl wy))] s.heap.size = A at hD ⊢
  have hA : ∀ q : Nat, s.heap.size ≤ q → A q := fun q h => by rw [← hAe]; exact Or.inr h
  have hS : va_S A s.heap s.heap [] := va_S.rf
  have hP : va_P (dC, dI) vwCl [(aR, .inr (7, [.int (nI th), .int (nI mv), .ref ams, .ref ann, .int (nI n), .ref ak2, .ref af2, .ref as2, .ref ah2, .int (nI fc), .ref afa, .ref afx, .ref ald, .int (nI zz), .ref awy, .int lp, .ref alt, .ref abg, .int (wz_i tl)])), (awy, .inl (cI, 260, .inl wy))] s.heap := hP
  have hl := lv_entry ([.ref aR, .int x]) (n := 2) (Nat.le_of_ble_eq_true rfl)
  rw [lg_entry_eq]
  generalize (lg_sl ([.ref aR, .int x]) ++ List.replicate (2 - (lg_sl ([.ref aR, .int x])).length) Slot.unset).toArray = ls at hl ⊢
  have hl : lv_has ls 2 [(0, .ref aR), (1, .int x)] := hl
  refine lv_aload_n hx hb dMo_shown_0 rfl (lv_at hl 0 rfl) ?_
  refine lv_iload_n hx hb dMo_shown_1 rfl (lv_at hl 1 rfl) ?_
  refine lv_if_lt (tgt := 13) hx hb dMo_shown_2 (by decide) (fun h2_1 => ?_) (fun h2_1 => ?_)
  · skip
    refine lv_iconst (v := nI 1) hx hb dMo_shown_13 (by decide) ?_
    refine lv_goto (tgt := 18) hx hb dMo_shown_14 (by decide) ?_
    refine va_put (D := (dC, dI)) (ci := 7) (v := .int (nI 1)) (ty := .int) (C := RMo) (T := TMo) (N := 19) hx hb hw in_Mo tyMo tyMo_ok nmMo hown hK hP hD hS 0 rfl rfl 0 (by decide) (hw _ w_500) (fun _ h9 => h9) rfl (by decide +kernel) rfl rfl (Nat.le_of_ble_eq_true rfl) dMo_shown_18 (fun H locs hP hD hS => ?_)
    have hP : va_P (dC, dI) vwCl [(aR, .inr (7, [.int (nI 1), .int (nI mv), .ref ams, .ref ann, .int (nI n), .ref ak2, .ref af2, .ref as2, .ref ah2, .int (nI fc), .ref afa, .ref afx, .ref ald, .int (nI zz), .ref awy, .int lp, .ref alt, .ref abg, .int (wz_i tl)])), (awy, .inl (cI, 260, .inl wy))] H := hP
    have hD : va_D A [(aR, .inr (7, [.int (nI 1), .int (nI mv), .ref ams, .ref ann, .int (nI n), .ref ak2, .ref af2, .ref as2, .ref ah2, .int (nI fc), .ref afa, .ref afx, .ref ald, .int (nI zz), .ref awy, .int lp, .ref alt, .ref abg, .int (wz_i tl)])), (awy, .inl (cI, 260, .inl wy))] := hD
    refine lv_aload_n hx hb dMo_shown_21 rfl (lv_at hl 0 rfl) ?_
    refine va_get (D := (dC, dI)) (ci := 7) (v := .int (nI 1)) (C := RMo) (T := TMo) (N := 19) hx hb hw in_Mo hown hK hP 0 rfl rfl 0 (by decide) (hw _ w_500) (fun _ h9 => h9) rfl dMo_shown_22 ?_
    refine wz_ifN_ne (x := 1) (tgt := 37) hx hb (by omega) dMo_shown_25 (by decide) (fun h25_2 => ?_) (fun h25_2 => ?_)
    · skip
      refine lv_iconst (v := nI 0) hx hb dMo_shown_37 (by decide) ?_
      exact wz_iret hx hb hr hlocks rfl hP hD hK hS dMo_shown_38
    · skip
      exact absurd h25_2 (by decide)
  · skip
    refine lv_iload_n hx hb dMo_shown_5 rfl (lv_at hl 1 rfl) ?_
    refine lv_aload_n hx hb dMo_shown_6 rfl (lv_at hl 0 rfl) ?_
    refine va_get (D := (dC, dI)) (ci := 7) (v := .int (nI zz)) (C := RMo) (T := TMo) (N := 19) hx hb hw in_Mo hown hK hP 0 rfl rfl 13 (by decide) (hw _ w_513) (fun _ h9 => h9) rfl dMo_shown_7 ?_
    refine lv_icmp_lt (tgt := 17) hx hb dMo_shown_10 (by decide) (fun h10_3 => ?_) (fun h10_3 => ?_)
    · skip
      unfold ww_hs at hbad; exact absurd hbad (by rw [decide_eq_true ⟨h2_1, fun q => absurd h10_3 (Int32.not_lt.mpr q)⟩]; decide)
    · skip
      refine lv_iconst (v := nI 1) hx hb dMo_shown_13 (by decide) ?_
      refine lv_goto (tgt := 18) hx hb dMo_shown_14 (by decide) ?_
      refine va_put (D := (dC, dI)) (ci := 7) (v := .int (nI 1)) (ty := .int) (C := RMo) (T := TMo) (N := 19) hx hb hw in_Mo tyMo tyMo_ok nmMo hown hK hP hD hS 0 rfl rfl 0 (by decide) (hw _ w_500) (fun _ h9 => h9) rfl (by decide +kernel) rfl rfl (Nat.le_of_ble_eq_true rfl) dMo_shown_18 (fun H locs hP hD hS => ?_)
      have hP : va_P (dC, dI) vwCl [(aR, .inr (7, [.int (nI 1), .int (nI mv), .ref ams, .ref ann, .int (nI n), .ref ak2, .ref af2, .ref as2, .ref ah2, .int (nI fc), .ref afa, .ref afx, .ref ald, .int (nI zz), .ref awy, .int lp, .ref alt, .ref abg, .int (wz_i tl)])), (awy, .inl (cI, 260, .inl wy))] H := hP
      have hD : va_D A [(aR, .inr (7, [.int (nI 1), .int (nI mv), .ref ams, .ref ann, .int (nI n), .ref ak2, .ref af2, .ref as2, .ref ah2, .int (nI fc), .ref afa, .ref afx, .ref ald, .int (nI zz), .ref awy, .int lp, .ref alt, .ref abg, .int (wz_i tl)])), (awy, .inl (cI, 260, .inl wy))] := hD
      refine lv_aload_n hx hb dMo_shown_21 rfl (lv_at hl 0 rfl) ?_
      refine va_get (D := (dC, dI)) (ci := 7) (v := .int (nI 1)) (C := RMo) (T := TMo) (N := 19) hx hb hw in_Mo hown hK hP 0 rfl rfl 0 (by decide) (hw _ w_500) (fun _ h9 => h9) rfl dMo_shown_22 ?_
      refine wz_ifN_ne (x := 1) (tgt := 37) hx hb (by omega) dMo_shown_25 (by decide) (fun h25_4 => ?_) (fun h25_4 => ?_)
      · skip
        refine lv_iconst (v := nI 0) hx hb dMo_shown_37 (by decide) ?_
        exact wz_iret hx hb hr hlocks rfl hP hD hK hS dMo_shown_38
      · skip
        exact absurd h25_4 (by decide)
set_option maxHeartbeats 4000000 in
set_option maxRecDepth 100000 in
theorem kMo_shown_0 (l : Launch) (dC : Nat → ClassId) (dI : Nat → Nat → Nat) (cI cJ cZ : ClassId) (sz : Nat) (aR : Nat) (ams : Nat) (ann : Nat) (ak2 : Nat) (af2 : Nat) (as2 : Nat) (ah2 : Nat) (afa : Nat) (afx : Nat) (ald : Nat) (awy : Nat) (alt : Nat) (abg : Nat) (th : Nat) (mv : Nat) (n : Nat) (fc : Nat) (zz : Nat) (lp : Int32) (tl : Bool) (wy : Nat → Int32) (i : Nat) (hi : i < zz) (hzz : zz ≤ 250) : Met l yMo_shown (.code yMo_shown cMo_shown 2 (some .int) :: wz_all) ({ frames := 0, cells := 0, slots := 0, locals := 0 }) (wz_Pc (dC, dI) vwCl (wz_T cI cJ cZ) [.ref aR, .int (nI i)] sz [(aR, .inr (7, [.int (nI th), .int (nI mv), .ref ams, .ref ann, .int (nI n), .ref ak2, .ref af2, .ref as2, .ref ah2, .int (nI fc), .ref afa, .ref afx, .ref ald, .int (nI zz), .ref awy, .int lp, .ref alt, .ref abg, .int (wz_i tl)])), (awy, .inl (cI, 260, .inl wy))]) (va_Qi (fun (r : Int32) (_ : Unit) => r = wy i) (fun _ t => va_P (dC, dI) vwCl [(aR, .inr (7, [.int (nI 0), .int (nI mv), .ref ams, .ref ann, .int (nI n), .ref ak2, .ref af2, .ref as2, .ref ah2, .int (nI fc), .ref afa, .ref afx, .ref ald, .int (nI zz), .ref awy, .int lp, .ref alt, .ref abg, .int (wz_i tl)])), (awy, .inl (cI, 260, .inl wy))] t.heap ∧ va_K (dC, dI) vwCl (wz_T cI cJ cZ) t ∧ va_D (va_A [(aR, .inr (7, [.int (nI th), .int (nI mv), .ref ams, .ref ann, .int (nI n), .ref ak2, .ref af2, .ref as2, .ref ah2, .int (nI fc), .ref afa, .ref afx, .ref ald, .int (nI zz), .ref awy, .int lp, .ref alt, .ref abg, .int (wz_i tl)])), (awy, .inl (cI, 260, .inl wy))] sz) [(aR, .inr (7, [.int (nI 0), .int (nI mv), .ref ams, .ref ann, .int (nI n), .ref ak2, .ref af2, .ref as2, .ref ah2, .int (nI fc), .ref afa, .ref afx, .ref ald, .int (nI zz), .ref awy, .int lp, .ref alt, .ref abg, .int (wz_i tl)])), (awy, .inl (cI, 260, .inl wy))]) (va_A [(aR, .inr (7, [.int (nI th), .int (nI mv), .ref ams, .ref ann, .int (nI n), .ref ak2, .ref af2, .ref as2, .ref ah2, .int (nI fc), .ref afa, .ref afx, .ref ald, .int (nI zz), .ref awy, .int lp, .ref alt, .ref abg, .int (wz_i tl)])), (awy, .inl (cI, 260, .inl wy))] sz)) 0 0 (va_A [(aR, .inr (7, [.int (nI th), .int (nI mv), .ref ams, .ref ann, .int (nI n), .ref ak2, .ref af2, .ref as2, .ref ah2, .int (nI fc), .ref afa, .ref afx, .ref ald, .int (nI zz), .ref awy, .int lp, .ref alt, .ref abg, .int (wz_i tl)])), (awy, .inl (cI, 260, .inl wy))] sz) := by
  refine Met.ofW (cc := cMo_shown) (maxL := 2) (ret := (some .int)) (by decide) rfl ?_
  intro p e s m args below meth c s₁ B hml hv
  obtain ⟨rfl, hsz, hP, hK, hD0, hN⟩ := hv
  have hx := B.exec
  have hb := B.bytes
  have hr := B.returns
  have hts := atoms_spec (ws := (.code yMo_shown cMo_shown 2 (some .int) :: wz_all)) B.pre
  have hw : ∀ w9 ∈ wz_all, w9.before [.ref aR, .int (nI i)].toArray s = true := fun w9 h => hts w9 (List.mem_cons_of_mem _ h)
  have hown : s.vm.findClass RMo = some m.cls := findClass_of_methodNamed B.named
  have hlocks := B.notSynchronized
  subst hsz
  have hD := hD0.self (sz := s.heap.size)
  generalize hAe : va_A [(aR, .inr (7, [.int (nI th), .int (nI mv), .ref ams, .ref ann, .int (nI n), .ref ak2, .ref af2, .ref as2, .ref ah2, .int (nI fc), .ref afa, .ref afx, .ref ald, .int (nI zz), .ref awy, .int lp, .ref alt, .ref abg, .int (wz_i tl)])), (awy, .inl (cI, 260, .inl wy))] s.heap.size = A at hD ⊢
  have hA : ∀ q : Nat, s.heap.size ≤ q → A q := fun q h => by rw [← hAe]; exact Or.inr h
  have hS : va_S A s.heap s.heap [] := va_S.rf
  have hP : va_P (dC, dI) vwCl [(aR, .inr (7, [.int (nI th), .int (nI mv), .ref ams, .ref ann, .int (nI n), .ref ak2, .ref af2, .ref as2, .ref ah2, .int (nI fc), .ref afa, .ref afx, .ref ald, .int (nI zz), .ref awy, .int lp, .ref alt, .ref abg, .int (wz_i tl)])), (awy, .inl (cI, 260, .inl wy))] s.heap := hP
  have hl := lv_entry ([.ref aR, .int (nI i)]) (n := 2) (Nat.le_of_ble_eq_true rfl)
  rw [lg_entry_eq]
  generalize (lg_sl ([.ref aR, .int (nI i)]) ++ List.replicate (2 - (lg_sl ([.ref aR, .int (nI i)])).length) Slot.unset).toArray = ls at hl ⊢
  have hl : lv_has ls 2 [(0, .ref aR), (1, .int (nI i))] := hl
  refine lv_aload_n hx hb dMo_shown_0 rfl (lv_at hl 0 rfl) ?_
  refine lv_iload_n hx hb dMo_shown_1 rfl (lv_at hl 1 rfl) ?_
  refine lv_if_lt (tgt := 13) hx hb dMo_shown_2 (by decide) (fun h2_1 => ?_) (fun h2_1 => ?_)
  · skip
    exact absurd h2_1 (nI_pos (by omega))
  · skip
    refine lv_iload_n hx hb dMo_shown_5 rfl (lv_at hl 1 rfl) ?_
    refine lv_aload_n hx hb dMo_shown_6 rfl (lv_at hl 0 rfl) ?_
    refine va_get (D := (dC, dI)) (ci := 7) (v := .int (nI zz)) (C := RMo) (T := TMo) (N := 19) hx hb hw in_Mo hown hK hP 0 rfl rfl 13 (by decide) (hw _ w_513) (fun _ h9 => h9) rfl dMo_shown_7 ?_
    refine wz_icmp_lt (x := i) (y := zz) (tgt := 17) hx hb (by omega) (by omega) dMo_shown_10 (by decide) (fun h10_2 => ?_) (fun h10_2 => ?_)
    · skip
      refine lv_iconst (v := nI 0) hx hb dMo_shown_17 (by decide) ?_
      refine va_put (D := (dC, dI)) (ci := 7) (v := .int (nI 0)) (ty := .int) (C := RMo) (T := TMo) (N := 19) hx hb hw in_Mo tyMo tyMo_ok nmMo hown hK hP hD hS 0 rfl rfl 0 (by decide) (hw _ w_500) (fun _ h9 => h9) rfl (by decide +kernel) rfl rfl (Nat.le_of_ble_eq_true rfl) dMo_shown_18 (fun H locs hP hD hS => ?_)
      have hP : va_P (dC, dI) vwCl [(aR, .inr (7, [.int (nI 0), .int (nI mv), .ref ams, .ref ann, .int (nI n), .ref ak2, .ref af2, .ref as2, .ref ah2, .int (nI fc), .ref afa, .ref afx, .ref ald, .int (nI zz), .ref awy, .int lp, .ref alt, .ref abg, .int (wz_i tl)])), (awy, .inl (cI, 260, .inl wy))] H := hP
      have hD : va_D A [(aR, .inr (7, [.int (nI 0), .int (nI mv), .ref ams, .ref ann, .int (nI n), .ref ak2, .ref af2, .ref as2, .ref ah2, .int (nI fc), .ref afa, .ref afx, .ref ald, .int (nI zz), .ref awy, .int lp, .ref alt, .ref abg, .int (wz_i tl)])), (awy, .inl (cI, 260, .inl wy))] := hD
      refine lv_aload_n hx hb dMo_shown_21 rfl (lv_at hl 0 rfl) ?_
      refine va_get (D := (dC, dI)) (ci := 7) (v := .int (nI 0)) (C := RMo) (T := TMo) (N := 19) hx hb hw in_Mo hown hK hP 0 rfl rfl 0 (by decide) (hw _ w_500) (fun _ h9 => h9) rfl dMo_shown_22 ?_
      refine wz_ifN_ne (x := 0) (tgt := 37) hx hb (by omega) dMo_shown_25 (by decide) (fun h25_3 => ?_) (fun h25_3 => ?_)
      · skip
        exact absurd h25_3 (by decide)
      · skip
        refine lv_aload_n hx hb dMo_shown_28 rfl (lv_at hl 0 rfl) ?_
        refine va_get (D := (dC, dI)) (ci := 7) (v := .ref awy) (C := RMo) (T := TMo) (N := 19) hx hb hw in_Mo hown hK hP 0 rfl rfl 14 (by decide) (hw _ w_514) (fun _ h9 => h9) rfl dMo_shown_29 ?_
        refine lv_iload_n hx hb dMo_shown_32 rfl (lv_at hl 1 rfl) ?_
        refine wz_iald hx hb hK hP 1 0 rfl rfl (i := i) (by omega) (by decide) dMo_shown_33 ?_
        refine lv_goto (tgt := 38) hx hb dMo_shown_34 (by decide) ?_
        exact wz_iret hx hb hr hlocks rfl hP hD hK hS dMo_shown_38
    · skip
      omega
set_option maxHeartbeats 4000000 in
set_option maxRecDepth 100000 in
theorem kMo_followers_1 (l : Launch) (dC : Nat → ClassId) (dI : Nat → Nat → Nat) (cI cJ cZ : ClassId) (sz : Nat) (aR : Nat) (ams : Nat) (ann : Nat) (ak2 : Nat) (af2 : Nat) (as2 : Nat) (ah2 : Nat) (afa : Nat) (afx : Nat) (ald : Nat) (awy : Nat) (alt : Nat) (abg : Nat) (th : Nat) (mv : Nat) (n : Nat) (fc : Nat) (zz : Nat) (lp : Int32) (tl : Bool) (mn : Nat → Nat) (x : Int32) (hbad : ww_is x = false) : Met l yMo_followers (.code yMo_followers cMo_followers 2 (some .long) :: wz_all) ({ frames := 1, cells := 0, slots := 0, locals := 21 }) (wz_Pc (dC, dI) vwCl (wz_T cI cJ cZ) [.ref aR, .int x] sz [(aR, .inr (7, [.int (nI th), .int (nI mv), .ref ams, .ref ann, .int (nI n), .ref ak2, .ref af2, .ref as2, .ref ah2, .int (nI fc), .ref afa, .ref afx, .ref ald, .int (nI zz), .ref awy, .int lp, .ref alt, .ref abg, .int (wz_i tl)])), (ams, .inl (cI, 80, .inl (wz_n mn)))]) (va_Ql (fun (r : Int64) (_ : Unit) => r = 0) (fun _ t => va_P (dC, dI) vwCl [(aR, .inr (7, [.int (nI 1), .int (nI mv), .ref ams, .ref ann, .int (nI n), .ref ak2, .ref af2, .ref as2, .ref ah2, .int (nI fc), .ref afa, .ref afx, .ref ald, .int (nI zz), .ref awy, .int lp, .ref alt, .ref abg, .int (wz_i tl)])), (ams, .inl (cI, 80, .inl (wz_n mn)))] t.heap ∧ va_K (dC, dI) vwCl (wz_T cI cJ cZ) t ∧ va_D (va_A [(aR, .inr (7, [.int (nI th), .int (nI mv), .ref ams, .ref ann, .int (nI n), .ref ak2, .ref af2, .ref as2, .ref ah2, .int (nI fc), .ref afa, .ref afx, .ref ald, .int (nI zz), .ref awy, .int lp, .ref alt, .ref abg, .int (wz_i tl)])), (ams, .inl (cI, 80, .inl (wz_n mn)))] sz) [(aR, .inr (7, [.int (nI 1), .int (nI mv), .ref ams, .ref ann, .int (nI n), .ref ak2, .ref af2, .ref as2, .ref ah2, .int (nI fc), .ref afa, .ref afx, .ref ald, .int (nI zz), .ref awy, .int lp, .ref alt, .ref abg, .int (wz_i tl)])), (ams, .inl (cI, 80, .inl (wz_n mn)))]) (va_A [(aR, .inr (7, [.int (nI th), .int (nI mv), .ref ams, .ref ann, .int (nI n), .ref ak2, .ref af2, .ref as2, .ref ah2, .int (nI fc), .ref afa, .ref afx, .ref ald, .int (nI zz), .ref awy, .int lp, .ref alt, .ref abg, .int (wz_i tl)])), (ams, .inl (cI, 80, .inl (wz_n mn)))] sz)) 0 0 (va_A [(aR, .inr (7, [.int (nI th), .int (nI mv), .ref ams, .ref ann, .int (nI n), .ref ak2, .ref af2, .ref as2, .ref ah2, .int (nI fc), .ref afa, .ref afx, .ref ald, .int (nI zz), .ref awy, .int lp, .ref alt, .ref abg, .int (wz_i tl)])), (ams, .inl (cI, 80, .inl (wz_n mn)))] sz) := by
  refine Met.ofW (cc := cMo_followers) (maxL := 2) (ret := (some .long)) (by decide) rfl ?_
  intro p e s m args below meth c s₁ B hml hv
  obtain ⟨rfl, hsz, hP, hK, hD0, hN⟩ := hv
  have hx := B.exec
  have hb := B.bytes
  have hr := B.returns
  have hts := atoms_spec (ws := (.code yMo_followers cMo_followers 2 (some .long) :: wz_all)) B.pre
  have hw : ∀ w9 ∈ wz_all, w9.before [.ref aR, .int x].toArray s = true := fun w9 h => hts w9 (List.mem_cons_of_mem _ h)
  have hown : s.vm.findClass RMo = some m.cls := findClass_of_methodNamed B.named
  have hlocks := B.notSynchronized
  subst hsz
  have hD := hD0.self (sz := s.heap.size)
  generalize hAe : va_A [(aR, .inr (7, [.int (nI th), .int (nI mv), .ref ams, .ref ann, .int (nI n), .ref ak2, .ref af2, .ref as2, .ref ah2, .int (nI fc), .ref afa, .ref afx, .ref ald, .int (nI zz), .ref awy, .int lp, .ref alt, .ref abg, .int (wz_i tl)])), (ams, .inl (cI, 80, .inl (wz_n mn)))] s.heap.size = A at hD ⊢
  have hA : ∀ q : Nat, s.heap.size ≤ q → A q := fun q h => by rw [← hAe]; exact Or.inr h
  have hS : va_S A s.heap s.heap [] := va_S.rf
  have hP : va_P (dC, dI) vwCl [(aR, .inr (7, [.int (nI th), .int (nI mv), .ref ams, .ref ann, .int (nI n), .ref ak2, .ref af2, .ref as2, .ref ah2, .int (nI fc), .ref afa, .ref afx, .ref ald, .int (nI zz), .ref awy, .int lp, .ref alt, .ref abg, .int (wz_i tl)])), (ams, .inl (cI, 80, .inl (wz_n mn)))] s.heap := hP
  have hl := lv_entry ([.ref aR, .int x]) (n := 2) (Nat.le_of_ble_eq_true rfl)
  rw [lg_entry_eq]
  generalize (lg_sl ([.ref aR, .int x]) ++ List.replicate (2 - (lg_sl ([.ref aR, .int x])).length) Slot.unset).toArray = ls at hl ⊢
  have hl : lv_has ls 2 [(0, .ref aR), (1, .int x)] := hl
  refine lv_aload_n hx hb dMo_followers_0 rfl (lv_at hl 0 rfl) ?_
  refine lv_aload_n hx hb dMo_followers_1 rfl (lv_at hl 0 rfl) ?_
  refine lv_iload_n hx hb dMo_followers_2 rfl (lv_at hl 1 rfl) ?_
  refine wz_calli (wc := [(aR, .inr (7, [.int (nI th), .int (nI mv), .ref ams, .ref ann, .int (nI n), .ref ak2, .ref af2, .ref as2, .ref ah2, .int (nI fc), .ref afa, .ref afx, .ref ald, .int (nI zz), .ref awy, .int lp, .ref alt, .ref abg, .int (wz_i tl)]))]) (wr := [(ams, .inl (cI, 80, .inl (wz_n mn)))]) (w1 := [(aR, .inr (7, [.int (nI th), .int (nI mv), .ref ams, .ref ann, .int (nI n), .ref ak2, .ref af2, .ref as2, .ref ah2, .int (nI fc), .ref afa, .ref afx, .ref ald, .int (nI zz), .ref awy, .int lp, .ref alt, .ref abg, .int (wz_i tl)]))]) (ws' := [(aR, .inr (7, [.int (nI th), .int (nI mv), .ref ams, .ref ann, .int (nI n), .ref ak2, .ref af2, .ref as2, .ref ah2, .int (nI fc), .ref afa, .ref afx, .ref ald, .int (nI zz), .ref awy, .int lp, .ref alt, .ref abg, .int (wz_i tl)])), (ams, .inl (cI, 80, .inl (wz_n mn)))]) hP hD hS hA [0] [1] [1, 0] rfl rfl (by decide) (by decide) (by decide) rfl rfl (va_runV (As := [.int x]) (rest := [.ref aR]) ⟨hx, hb, hml, hown, hts⟩ (kMo_noState l dC dI cI cJ cZ s.heap.size aR ams ann ak2 af2 as2 ah2 afa afx ald awy alt abg th mv n fc zz lp tl x) (cwV 1 hts (wz_gV w_573 w_574 w_10 w_41 w_575) rfl rfl rfl (by decide +kernel) ⟨Nat.le_of_ble_eq_true rfl, Nat.le_of_ble_eq_true rfl⟩) (wz_preV (q := (RMo, TMo, 19)) (ci := 7) hN hK hP hD [0] (by decide) rfl rfl 0 rfl rfl) rfl rfl hl.1 rfl (lv_room (Nat.le_of_ble_eq_true rfl)) dMo_followers_3 ⟨Nat.le_refl _, Nat.le_refl _⟩) (fun H locs hP hD hS => ?_)
  refine wz_ifz (tgt := 13) hx hb dMo_followers_6 (by decide) (fun h6_1 => ?_) (fun h6_1 => ?_)
  · skip
    rw [hbad] at h6_1; cases h6_1
  · skip
    refine lv_iconst (v := nI 1) hx hb dMo_followers_9 (by decide) ?_
    refine lv_goto (tgt := 14) hx hb dMo_followers_10 (by decide) ?_
    refine va_put (D := (dC, dI)) (ci := 7) (v := .int (nI 1)) (ty := .int) (C := RMo) (T := TMo) (N := 19) hx hb hw in_Mo tyMo tyMo_ok nmMo hown hK hP hD hS 0 rfl rfl 0 (by decide) (hw _ w_500) (fun _ h9 => h9) rfl (by decide +kernel) rfl rfl (Nat.le_of_ble_eq_true rfl) dMo_followers_14 (fun H locs hP hD hS => ?_)
    have hP : va_P (dC, dI) vwCl [(aR, .inr (7, [.int (nI 1), .int (nI mv), .ref ams, .ref ann, .int (nI n), .ref ak2, .ref af2, .ref as2, .ref ah2, .int (nI fc), .ref afa, .ref afx, .ref ald, .int (nI zz), .ref awy, .int lp, .ref alt, .ref abg, .int (wz_i tl)])), (ams, .inl (cI, 80, .inl (wz_n mn)))] H := hP
    have hD : va_D A [(aR, .inr (7, [.int (nI 1), .int (nI mv), .ref ams, .ref ann, .int (nI n), .ref ak2, .ref af2, .ref as2, .ref ah2, .int (nI fc), .ref afa, .ref afx, .ref ald, .int (nI zz), .ref awy, .int lp, .ref alt, .ref abg, .int (wz_i tl)])), (ams, .inl (cI, 80, .inl (wz_n mn)))] := hD
    refine lv_aload_n hx hb dMo_followers_17 rfl (lv_at hl 0 rfl) ?_
    refine va_get (D := (dC, dI)) (ci := 7) (v := .int (nI 1)) (C := RMo) (T := TMo) (N := 19) hx hb hw in_Mo hown hK hP 0 rfl rfl 0 (by decide) (hw _ w_500) (fun _ h9 => h9) rfl dMo_followers_18 ?_
    refine wz_ifN_ne (x := 1) (tgt := 32) hx hb (by omega) dMo_followers_21 (by decide) (fun h21_2 => ?_) (fun h21_2 => ?_)
    · skip
      refine lv_lconst (v := 0) hx hb dMo_followers_32 (by decide) ?_
      exact wz_lret hx hb hr hlocks rfl hP hD hK hS dMo_followers_33
    · skip
      exact absurd h21_2 (by decide)
set_option maxHeartbeats 4000000 in
set_option maxRecDepth 100000 in
theorem kMo_followers_0 (l : Launch) (dC : Nat → ClassId) (dI : Nat → Nat → Nat) (cI cJ cZ : ClassId) (sz : Nat) (aR : Nat) (ams : Nat) (ann : Nat) (ak2 : Nat) (af2 : Nat) (as2 : Nat) (ah2 : Nat) (afa : Nat) (afx : Nat) (ald : Nat) (awy : Nat) (alt : Nat) (abg : Nat) (th : Nat) (mv : Nat) (n : Nat) (fc : Nat) (zz : Nat) (lp : Int32) (tl : Bool) (mn : Nat → Nat) (k : Nat) (hk64 : k < 64) (hmv : mv ≤ 16) (hmn : ∀ j, j < 5 * mv → mn j < 64) : Met l yMo_followers (.code yMo_followers cMo_followers 2 (some .long) :: wz_all) ({ frames := 1, cells := 0, slots := 0, locals := 27 }) (wz_Pc (dC, dI) vwCl (wz_T cI cJ cZ) [.ref aR, .int (nI k)] sz [(aR, .inr (7, [.int (nI th), .int (nI mv), .ref ams, .ref ann, .int (nI n), .ref ak2, .ref af2, .ref as2, .ref ah2, .int (nI fc), .ref afa, .ref afx, .ref ald, .int (nI zz), .ref awy, .int lp, .ref alt, .ref abg, .int (wz_i tl)])), (ams, .inl (cI, 80, .inl (wz_n mn)))]) (va_Ql (fun (r : Int64) (_ : Unit) => r = ww_nxt mn mv k) (fun _ t => va_P (dC, dI) vwCl [(aR, .inr (7, [.int (nI 0), .int (nI mv), .ref ams, .ref ann, .int (nI n), .ref ak2, .ref af2, .ref as2, .ref ah2, .int (nI fc), .ref afa, .ref afx, .ref ald, .int (nI zz), .ref awy, .int lp, .ref alt, .ref abg, .int (wz_i tl)])), (ams, .inl (cI, 80, .inl (wz_n mn)))] t.heap ∧ va_K (dC, dI) vwCl (wz_T cI cJ cZ) t ∧ va_D (va_A [(aR, .inr (7, [.int (nI th), .int (nI mv), .ref ams, .ref ann, .int (nI n), .ref ak2, .ref af2, .ref as2, .ref ah2, .int (nI fc), .ref afa, .ref afx, .ref ald, .int (nI zz), .ref awy, .int lp, .ref alt, .ref abg, .int (wz_i tl)])), (ams, .inl (cI, 80, .inl (wz_n mn)))] sz) [(aR, .inr (7, [.int (nI 0), .int (nI mv), .ref ams, .ref ann, .int (nI n), .ref ak2, .ref af2, .ref as2, .ref ah2, .int (nI fc), .ref afa, .ref afx, .ref ald, .int (nI zz), .ref awy, .int lp, .ref alt, .ref abg, .int (wz_i tl)])), (ams, .inl (cI, 80, .inl (wz_n mn)))]) (va_A [(aR, .inr (7, [.int (nI th), .int (nI mv), .ref ams, .ref ann, .int (nI n), .ref ak2, .ref af2, .ref as2, .ref ah2, .int (nI fc), .ref afa, .ref afx, .ref ald, .int (nI zz), .ref awy, .int lp, .ref alt, .ref abg, .int (wz_i tl)])), (ams, .inl (cI, 80, .inl (wz_n mn)))] sz)) 0 0 (va_A [(aR, .inr (7, [.int (nI th), .int (nI mv), .ref ams, .ref ann, .int (nI n), .ref ak2, .ref af2, .ref as2, .ref ah2, .int (nI fc), .ref afa, .ref afx, .ref ald, .int (nI zz), .ref awy, .int lp, .ref alt, .ref abg, .int (wz_i tl)])), (ams, .inl (cI, 80, .inl (wz_n mn)))] sz) := by
  refine Met.ofW (cc := cMo_followers) (maxL := 2) (ret := (some .long)) (by decide) rfl ?_
  intro p e s m args below meth c s₁ B hml hv
  obtain ⟨rfl, hsz, hP, hK, hD0, hN⟩ := hv
  have hx := B.exec
  have hb := B.bytes
  have hr := B.returns
  have hts := atoms_spec (ws := (.code yMo_followers cMo_followers 2 (some .long) :: wz_all)) B.pre
  have hw : ∀ w9 ∈ wz_all, w9.before [.ref aR, .int (nI k)].toArray s = true := fun w9 h => hts w9 (List.mem_cons_of_mem _ h)
  have hown : s.vm.findClass RMo = some m.cls := findClass_of_methodNamed B.named
  have hlocks := B.notSynchronized
  subst hsz
  have hD := hD0.self (sz := s.heap.size)
  generalize hAe : va_A [(aR, .inr (7, [.int (nI th), .int (nI mv), .ref ams, .ref ann, .int (nI n), .ref ak2, .ref af2, .ref as2, .ref ah2, .int (nI fc), .ref afa, .ref afx, .ref ald, .int (nI zz), .ref awy, .int lp, .ref alt, .ref abg, .int (wz_i tl)])), (ams, .inl (cI, 80, .inl (wz_n mn)))] s.heap.size = A at hD ⊢
  have hA : ∀ q : Nat, s.heap.size ≤ q → A q := fun q h => by rw [← hAe]; exact Or.inr h
  have hS : va_S A s.heap s.heap [] := va_S.rf
  have hP : va_P (dC, dI) vwCl [(aR, .inr (7, [.int (nI th), .int (nI mv), .ref ams, .ref ann, .int (nI n), .ref ak2, .ref af2, .ref as2, .ref ah2, .int (nI fc), .ref afa, .ref afx, .ref ald, .int (nI zz), .ref awy, .int lp, .ref alt, .ref abg, .int (wz_i tl)])), (ams, .inl (cI, 80, .inl (wz_n mn)))] s.heap := hP
  have hl := lv_entry ([.ref aR, .int (nI k)]) (n := 2) (Nat.le_of_ble_eq_true rfl)
  rw [lg_entry_eq]
  generalize (lg_sl ([.ref aR, .int (nI k)]) ++ List.replicate (2 - (lg_sl ([.ref aR, .int (nI k)])).length) Slot.unset).toArray = ls at hl ⊢
  have hl : lv_has ls 2 [(0, .ref aR), (1, .int (nI k))] := hl
  refine lv_aload_n hx hb dMo_followers_0 rfl (lv_at hl 0 rfl) ?_
  refine lv_aload_n hx hb dMo_followers_1 rfl (lv_at hl 0 rfl) ?_
  refine lv_iload_n hx hb dMo_followers_2 rfl (lv_at hl 1 rfl) ?_
  refine wz_calli (wc := [(aR, .inr (7, [.int (nI th), .int (nI mv), .ref ams, .ref ann, .int (nI n), .ref ak2, .ref af2, .ref as2, .ref ah2, .int (nI fc), .ref afa, .ref afx, .ref ald, .int (nI zz), .ref awy, .int lp, .ref alt, .ref abg, .int (wz_i tl)]))]) (wr := [(ams, .inl (cI, 80, .inl (wz_n mn)))]) (w1 := [(aR, .inr (7, [.int (nI th), .int (nI mv), .ref ams, .ref ann, .int (nI n), .ref ak2, .ref af2, .ref as2, .ref ah2, .int (nI fc), .ref afa, .ref afx, .ref ald, .int (nI zz), .ref awy, .int lp, .ref alt, .ref abg, .int (wz_i tl)]))]) (ws' := [(aR, .inr (7, [.int (nI th), .int (nI mv), .ref ams, .ref ann, .int (nI n), .ref ak2, .ref af2, .ref as2, .ref ah2, .int (nI fc), .ref afa, .ref afx, .ref ald, .int (nI zz), .ref awy, .int lp, .ref alt, .ref abg, .int (wz_i tl)])), (ams, .inl (cI, 80, .inl (wz_n mn)))]) hP hD hS hA [0] [1] [1, 0] rfl rfl (by decide) (by decide) (by decide) rfl rfl (va_runV (As := [.int (nI k)]) (rest := [.ref aR]) ⟨hx, hb, hml, hown, hts⟩ (kMo_noState l dC dI cI cJ cZ s.heap.size aR ams ann ak2 af2 as2 ah2 afa afx ald awy alt abg th mv n fc zz lp tl (nI k)) (cwV 1 hts (wz_gV w_573 w_574 w_10 w_41 w_575) rfl rfl rfl (by decide +kernel) ⟨Nat.le_of_ble_eq_true rfl, Nat.le_of_ble_eq_true rfl⟩) (wz_preV (q := (RMo, TMo, 19)) (ci := 7) hN hK hP hD [0] (by decide) rfl rfl 0 rfl rfl) rfl rfl hl.1 rfl (lv_room (Nat.le_of_ble_eq_true rfl)) dMo_followers_3 ⟨Nat.le_refl _, Nat.le_refl _⟩) (fun H locs hP hD hS => ?_)
  refine wz_ifz (tgt := 13) hx hb dMo_followers_6 (by decide) (fun h6_1 => ?_) (fun h6_1 => ?_)
  · skip
    refine lv_iconst (v := nI 0) hx hb dMo_followers_13 (by decide) ?_
    refine va_put (D := (dC, dI)) (ci := 7) (v := .int (nI 0)) (ty := .int) (C := RMo) (T := TMo) (N := 19) hx hb hw in_Mo tyMo tyMo_ok nmMo hown hK hP hD hS 0 rfl rfl 0 (by decide) (hw _ w_500) (fun _ h9 => h9) rfl (by decide +kernel) rfl rfl (Nat.le_of_ble_eq_true rfl) dMo_followers_14 (fun H locs hP hD hS => ?_)
    have hP : va_P (dC, dI) vwCl [(aR, .inr (7, [.int (nI 0), .int (nI mv), .ref ams, .ref ann, .int (nI n), .ref ak2, .ref af2, .ref as2, .ref ah2, .int (nI fc), .ref afa, .ref afx, .ref ald, .int (nI zz), .ref awy, .int lp, .ref alt, .ref abg, .int (wz_i tl)])), (ams, .inl (cI, 80, .inl (wz_n mn)))] H := hP
    have hD : va_D A [(aR, .inr (7, [.int (nI 0), .int (nI mv), .ref ams, .ref ann, .int (nI n), .ref ak2, .ref af2, .ref as2, .ref ah2, .int (nI fc), .ref afa, .ref afx, .ref ald, .int (nI zz), .ref awy, .int lp, .ref alt, .ref abg, .int (wz_i tl)])), (ams, .inl (cI, 80, .inl (wz_n mn)))] := hD
    refine lv_aload_n hx hb dMo_followers_17 rfl (lv_at hl 0 rfl) ?_
    refine va_get (D := (dC, dI)) (ci := 7) (v := .int (nI 0)) (C := RMo) (T := TMo) (N := 19) hx hb hw in_Mo hown hK hP 0 rfl rfl 0 (by decide) (hw _ w_500) (fun _ h9 => h9) rfl dMo_followers_18 ?_
    refine wz_ifN_ne (x := 0) (tgt := 32) hx hb (by omega) dMo_followers_21 (by decide) (fun h21_2 => ?_) (fun h21_2 => ?_)
    · skip
      exact absurd h21_2 (by decide)
    · skip
      refine lv_aload_n hx hb dMo_followers_24 rfl (lv_at hl 0 rfl) ?_
      refine lv_iload_n hx hb dMo_followers_25 rfl (lv_at hl 1 rfl) ?_
      refine wz_calll (wc := [(aR, .inr (7, [.int (nI 0), .int (nI mv), .ref ams, .ref ann, .int (nI n), .ref ak2, .ref af2, .ref as2, .ref ah2, .int (nI fc), .ref afa, .ref afx, .ref ald, .int (nI zz), .ref awy, .int lp, .ref alt, .ref abg, .int (wz_i tl)])), (ams, .inl (cI, 80, .inl (wz_n mn)))]) (wr := []) (w1 := [(aR, .inr (7, [.int (nI 0), .int (nI mv), .ref ams, .ref ann, .int (nI n), .ref ak2, .ref af2, .ref as2, .ref ah2, .int (nI fc), .ref afa, .ref afx, .ref ald, .int (nI zz), .ref awy, .int lp, .ref alt, .ref abg, .int (wz_i tl)])), (ams, .inl (cI, 80, .inl (wz_n mn)))]) (ws' := [(aR, .inr (7, [.int (nI 0), .int (nI mv), .ref ams, .ref ann, .int (nI n), .ref ak2, .ref af2, .ref as2, .ref ah2, .int (nI fc), .ref afa, .ref afx, .ref ald, .int (nI zz), .ref awy, .int lp, .ref alt, .ref abg, .int (wz_i tl)])), (ams, .inl (cI, 80, .inl (wz_n mn)))]) hP hD hS hA [0, 1] [] [0, 1] rfl rfl (by decide) (by decide) (by decide) rfl rfl (va_runV (As := [.int (nI k)]) (rest := []) ⟨hx, hb, hml, hown, hts⟩ (kMo_followersOf l dC dI cI cJ cZ H.size aR ams ann ak2 af2 as2 ah2 afa afx ald awy alt abg 0 mv n fc zz lp tl mn k hk64 hmv hmn) (cwV 1 hts (wz_gV w_576 w_577 w_11 w_41 w_578) rfl rfl rfl (by decide +kernel) ⟨Nat.le_of_ble_eq_true rfl, Nat.le_of_ble_eq_true rfl⟩) (wz_preV (q := (RMo, TMo, 19)) (ci := 7) hN hK hP hD [0, 1] (by decide) rfl rfl 0 rfl rfl) rfl rfl hl.1 rfl (lv_room (Nat.le_of_ble_eq_true rfl)) dMo_followers_26 ⟨Nat.le_refl _, Nat.le_refl _⟩) (fun H locs hP hD hS => ?_)
      refine lv_goto (tgt := 33) hx hb dMo_followers_29 (by decide) ?_
      exact wz_lret hx hb hr hlocks rfl hP hD hK hS dMo_followers_33
  · skip
    simp [ww_is_N hk64] at h6_1
set_option maxHeartbeats 4000000 in
set_option maxRecDepth 100000 in
theorem kMo_move_0 (l : Launch) (dC : Nat → ClassId) (dI : Nat → Nat → Nat) (cI cJ cZ : ClassId) (sz : Nat) (aR : Nat) (ams : Nat) (ann : Nat) (ak2 : Nat) (af2 : Nat) (as2 : Nat) (ah2 : Nat) (afa : Nat) (afx : Nat) (ald : Nat) (awy : Nat) (alt : Nat) (abg : Nat) (th : Nat) (mv : Nat) (n : Nat) (fc : Nat) (zz : Nat) (lp : Int32) (tl : Bool) (mn : Nat → Nat) (on : Nat) (off : Nat) (se : Nat) (cl : Nat) (an : Nat) (hon : on < 64) (hoff : off < 64) (hse : se < 64) (hcl : cl < 64) (han : an < 64) (hbits : se &&& cl = 0) (hmv16 : mv < 16) : Met l yMo_move (.code yMo_move cMo_move 7 (some .int) :: wz_all) ({ frames := 1, cells := 0, slots := 0, locals := 21 }) (wz_Pc (dC, dI) vwCl (wz_T cI cJ cZ) [.ref aR, .int (nI on), .int (nI off), .int (nI se), .int (nI cl), .int (nI an)] sz [(aR, .inr (7, [.int (nI th), .int (nI mv), .ref ams, .ref ann, .int (nI n), .ref ak2, .ref af2, .ref as2, .ref ah2, .int (nI fc), .ref afa, .ref afx, .ref ald, .int (nI zz), .ref awy, .int lp, .ref alt, .ref abg, .int (wz_i tl)])), (ams, .inl (cI, 80, .inl (wz_n mn)))]) (va_Qi (fun (r : Int32) (_ : Unit) => r = nI (mv + 1)) (fun _ t => va_P (dC, dI) vwCl [(aR, .inr (7, [.int (nI 0), .int (nI (mv + 1)), .ref ams, .ref ann, .int (nI n), .ref ak2, .ref af2, .ref as2, .ref ah2, .int (nI fc), .ref afa, .ref afx, .ref ald, .int (nI zz), .ref awy, .int lp, .ref alt, .ref abg, .int (wz_i tl)])), (ams, .inl (cI, 80, .inl (wz_n (wz_un (wz_un (wz_un (wz_un (wz_un mn (5 * mv) on) (5 * mv + 1) off) (5 * mv + 2) se) (5 * mv + 3) cl) (5 * mv + 4) an))))] t.heap ∧ va_K (dC, dI) vwCl (wz_T cI cJ cZ) t ∧ va_D (va_A [(aR, .inr (7, [.int (nI th), .int (nI mv), .ref ams, .ref ann, .int (nI n), .ref ak2, .ref af2, .ref as2, .ref ah2, .int (nI fc), .ref afa, .ref afx, .ref ald, .int (nI zz), .ref awy, .int lp, .ref alt, .ref abg, .int (wz_i tl)])), (ams, .inl (cI, 80, .inl (wz_n mn)))] sz) [(aR, .inr (7, [.int (nI 0), .int (nI (mv + 1)), .ref ams, .ref ann, .int (nI n), .ref ak2, .ref af2, .ref as2, .ref ah2, .int (nI fc), .ref afa, .ref afx, .ref ald, .int (nI zz), .ref awy, .int lp, .ref alt, .ref abg, .int (wz_i tl)])), (ams, .inl (cI, 80, .inl (wz_n (wz_un (wz_un (wz_un (wz_un (wz_un mn (5 * mv) on) (5 * mv + 1) off) (5 * mv + 2) se) (5 * mv + 3) cl) (5 * mv + 4) an))))]) (va_A [(aR, .inr (7, [.int (nI th), .int (nI mv), .ref ams, .ref ann, .int (nI n), .ref ak2, .ref af2, .ref as2, .ref ah2, .int (nI fc), .ref afa, .ref afx, .ref ald, .int (nI zz), .ref awy, .int lp, .ref alt, .ref abg, .int (wz_i tl)])), (ams, .inl (cI, 80, .inl (wz_n mn)))] sz)) 0 0 (va_A [(aR, .inr (7, [.int (nI th), .int (nI mv), .ref ams, .ref ann, .int (nI n), .ref ak2, .ref af2, .ref as2, .ref ah2, .int (nI fc), .ref afa, .ref afx, .ref ald, .int (nI zz), .ref awy, .int lp, .ref alt, .ref abg, .int (wz_i tl)])), (ams, .inl (cI, 80, .inl (wz_n mn)))] sz) := by
  refine Met.ofW (cc := cMo_move) (maxL := 7) (ret := (some .int)) (by decide) rfl ?_
  intro p e s m args below meth c s₁ B hml hv
  obtain ⟨rfl, hsz, hP, hK, hD0, hN⟩ := hv
  have hx := B.exec
  have hb := B.bytes
  have hr := B.returns
  have hts := atoms_spec (ws := (.code yMo_move cMo_move 7 (some .int) :: wz_all)) B.pre
  have hw : ∀ w9 ∈ wz_all, w9.before [.ref aR, .int (nI on), .int (nI off), .int (nI se), .int (nI cl), .int (nI an)].toArray s = true := fun w9 h => hts w9 (List.mem_cons_of_mem _ h)
  have hown : s.vm.findClass RMo = some m.cls := findClass_of_methodNamed B.named
  have hlocks := B.notSynchronized
  subst hsz
  have hD := hD0.self (sz := s.heap.size)
  generalize hAe : va_A [(aR, .inr (7, [.int (nI th), .int (nI mv), .ref ams, .ref ann, .int (nI n), .ref ak2, .ref af2, .ref as2, .ref ah2, .int (nI fc), .ref afa, .ref afx, .ref ald, .int (nI zz), .ref awy, .int lp, .ref alt, .ref abg, .int (wz_i tl)])), (ams, .inl (cI, 80, .inl (wz_n mn)))] s.heap.size = A at hD ⊢
  have hA : ∀ q : Nat, s.heap.size ≤ q → A q := fun q h => by rw [← hAe]; exact Or.inr h
  have hS : va_S A s.heap s.heap [] := va_S.rf
  have hP : va_P (dC, dI) vwCl [(aR, .inr (7, [.int (nI th), .int (nI mv), .ref ams, .ref ann, .int (nI n), .ref ak2, .ref af2, .ref as2, .ref ah2, .int (nI fc), .ref afa, .ref afx, .ref ald, .int (nI zz), .ref awy, .int lp, .ref alt, .ref abg, .int (wz_i tl)])), (ams, .inl (cI, 80, .inl (wz_n mn)))] s.heap := hP
  have hl := lv_entry ([.ref aR, .int (nI on), .int (nI off), .int (nI se), .int (nI cl), .int (nI an)]) (n := 7) (Nat.le_of_ble_eq_true rfl)
  rw [lg_entry_eq]
  generalize (lg_sl ([.ref aR, .int (nI on), .int (nI off), .int (nI se), .int (nI cl), .int (nI an)]) ++ List.replicate (7 - (lg_sl ([.ref aR, .int (nI on), .int (nI off), .int (nI se), .int (nI cl), .int (nI an)])).length) Slot.unset).toArray = ls at hl ⊢
  have hl : lv_has ls 7 [(0, .ref aR), (1, .int (nI on)), (2, .int (nI off)), (3, .int (nI se)), (4, .int (nI cl)), (5, .int (nI an))] := hl
  refine lv_aload_n hx hb dMo_move_0 rfl (lv_at hl 0 rfl) ?_
  refine lv_iload_n hx hb dMo_move_1 rfl (lv_at hl 1 rfl) ?_
  refine wz_calli (wc := [(aR, .inr (7, [.int (nI th), .int (nI mv), .ref ams, .ref ann, .int (nI n), .ref ak2, .ref af2, .ref as2, .ref ah2, .int (nI fc), .ref afa, .ref afx, .ref ald, .int (nI zz), .ref awy, .int lp, .ref alt, .ref abg, .int (wz_i tl)]))]) (wr := [(ams, .inl (cI, 80, .inl (wz_n mn)))]) (w1 := [(aR, .inr (7, [.int (nI th), .int (nI mv), .ref ams, .ref ann, .int (nI n), .ref ak2, .ref af2, .ref as2, .ref ah2, .int (nI fc), .ref afa, .ref afx, .ref ald, .int (nI zz), .ref awy, .int lp, .ref alt, .ref abg, .int (wz_i tl)]))]) (ws' := [(aR, .inr (7, [.int (nI th), .int (nI mv), .ref ams, .ref ann, .int (nI n), .ref ak2, .ref af2, .ref as2, .ref ah2, .int (nI fc), .ref afa, .ref afx, .ref ald, .int (nI zz), .ref awy, .int lp, .ref alt, .ref abg, .int (wz_i tl)])), (ams, .inl (cI, 80, .inl (wz_n mn)))]) hP hD hS hA [0] [1] [1, 0] rfl rfl (by decide) (by decide) (by decide) rfl rfl (va_runV (As := [.int (nI on)]) (rest := []) ⟨hx, hb, hml, hown, hts⟩ (kMo_noMask l dC dI cI cJ cZ s.heap.size aR ams ann ak2 af2 as2 ah2 afa afx ald awy alt abg th mv n fc zz lp tl (nI on)) (cwV 1 hts (wz_gV w_566 w_567 w_9 w_41 w_568) rfl rfl rfl (by decide +kernel) ⟨Nat.le_of_ble_eq_true rfl, Nat.le_of_ble_eq_true rfl⟩) (wz_preV (q := (RMo, TMo, 19)) (ci := 7) hN hK hP hD [0] (by decide) rfl rfl 0 rfl rfl) rfl rfl hl.1 rfl (lv_room (Nat.le_of_ble_eq_true rfl)) dMo_move_2 ⟨Nat.le_refl _, Nat.le_refl _⟩) (fun H locs hP hD hS => ?_)
  refine wz_ifnz (tgt := 42) hx hb dMo_move_5 (by decide) (fun h5_1 => ?_) (fun h5_1 => ?_)
  · skip
    simp [ww_is_N hon] at h5_1
  · skip
    refine lv_aload_n hx hb dMo_move_8 rfl (lv_at hl 0 rfl) ?_
    refine lv_iload_n hx hb dMo_move_9 rfl (lv_at hl 2 rfl) ?_
    refine wz_calli (wc := [(aR, .inr (7, [.int (nI th), .int (nI mv), .ref ams, .ref ann, .int (nI n), .ref ak2, .ref af2, .ref as2, .ref ah2, .int (nI fc), .ref afa, .ref afx, .ref ald, .int (nI zz), .ref awy, .int lp, .ref alt, .ref abg, .int (wz_i tl)]))]) (wr := [(ams, .inl (cI, 80, .inl (wz_n mn)))]) (w1 := [(aR, .inr (7, [.int (nI th), .int (nI mv), .ref ams, .ref ann, .int (nI n), .ref ak2, .ref af2, .ref as2, .ref ah2, .int (nI fc), .ref afa, .ref afx, .ref ald, .int (nI zz), .ref awy, .int lp, .ref alt, .ref abg, .int (wz_i tl)]))]) (ws' := [(aR, .inr (7, [.int (nI th), .int (nI mv), .ref ams, .ref ann, .int (nI n), .ref ak2, .ref af2, .ref as2, .ref ah2, .int (nI fc), .ref afa, .ref afx, .ref ald, .int (nI zz), .ref awy, .int lp, .ref alt, .ref abg, .int (wz_i tl)])), (ams, .inl (cI, 80, .inl (wz_n mn)))]) hP hD hS hA [0] [1] [1, 0] rfl rfl (by decide) (by decide) (by decide) rfl rfl (va_runV (As := [.int (nI off)]) (rest := []) ⟨hx, hb, hml, hown, hts⟩ (kMo_noMask l dC dI cI cJ cZ H.size aR ams ann ak2 af2 as2 ah2 afa afx ald awy alt abg th mv n fc zz lp tl (nI off)) (cwV 1 hts (wz_gV w_566 w_567 w_9 w_41 w_568) rfl rfl rfl (by decide +kernel) ⟨Nat.le_of_ble_eq_true rfl, Nat.le_of_ble_eq_true rfl⟩) (wz_preV (q := (RMo, TMo, 19)) (ci := 7) hN hK hP hD [0] (by decide) rfl rfl 0 rfl rfl) rfl rfl hl.1 rfl (lv_room (Nat.le_of_ble_eq_true rfl)) dMo_move_10 ⟨Nat.le_refl _, Nat.le_refl _⟩) (fun H locs hP hD hS => ?_)
    refine wz_ifnz (tgt := 42) hx hb dMo_move_13 (by decide) (fun h13_2 => ?_) (fun h13_2 => ?_)
    · skip
      simp [ww_is_N hoff] at h13_2
    · skip
      refine lv_aload_n hx hb dMo_move_16 rfl (lv_at hl 0 rfl) ?_
      refine lv_iload_n hx hb dMo_move_17 rfl (lv_at hl 3 rfl) ?_
      refine wz_calli (wc := [(aR, .inr (7, [.int (nI th), .int (nI mv), .ref ams, .ref ann, .int (nI n), .ref ak2, .ref af2, .ref as2, .ref ah2, .int (nI fc), .ref afa, .ref afx, .ref ald, .int (nI zz), .ref awy, .int lp, .ref alt, .ref abg, .int (wz_i tl)]))]) (wr := [(ams, .inl (cI, 80, .inl (wz_n mn)))]) (w1 := [(aR, .inr (7, [.int (nI th), .int (nI mv), .ref ams, .ref ann, .int (nI n), .ref ak2, .ref af2, .ref as2, .ref ah2, .int (nI fc), .ref afa, .ref afx, .ref ald, .int (nI zz), .ref awy, .int lp, .ref alt, .ref abg, .int (wz_i tl)]))]) (ws' := [(aR, .inr (7, [.int (nI th), .int (nI mv), .ref ams, .ref ann, .int (nI n), .ref ak2, .ref af2, .ref as2, .ref ah2, .int (nI fc), .ref afa, .ref afx, .ref ald, .int (nI zz), .ref awy, .int lp, .ref alt, .ref abg, .int (wz_i tl)])), (ams, .inl (cI, 80, .inl (wz_n mn)))]) hP hD hS hA [0] [1] [1, 0] rfl rfl (by decide) (by decide) (by decide) rfl rfl (va_runV (As := [.int (nI se)]) (rest := []) ⟨hx, hb, hml, hown, hts⟩ (kMo_noMask l dC dI cI cJ cZ H.size aR ams ann ak2 af2 as2 ah2 afa afx ald awy alt abg th mv n fc zz lp tl (nI se)) (cwV 1 hts (wz_gV w_566 w_567 w_9 w_41 w_568) rfl rfl rfl (by decide +kernel) ⟨Nat.le_of_ble_eq_true rfl, Nat.le_of_ble_eq_true rfl⟩) (wz_preV (q := (RMo, TMo, 19)) (ci := 7) hN hK hP hD [0] (by decide) rfl rfl 0 rfl rfl) rfl rfl hl.1 rfl (lv_room (Nat.le_of_ble_eq_true rfl)) dMo_move_18 ⟨Nat.le_refl _, Nat.le_refl _⟩) (fun H locs hP hD hS => ?_)
      refine wz_ifnz (tgt := 42) hx hb dMo_move_21 (by decide) (fun h21_3 => ?_) (fun h21_3 => ?_)
      · skip
        simp [ww_is_N hse] at h21_3
      · skip
        refine lv_aload_n hx hb dMo_move_24 rfl (lv_at hl 0 rfl) ?_
        refine lv_iload hx hb dMo_move_25 (lv_at hl 4 rfl) ?_
        refine wz_calli (wc := [(aR, .inr (7, [.int (nI th), .int (nI mv), .ref ams, .ref ann, .int (nI n), .ref ak2, .ref af2, .ref as2, .ref ah2, .int (nI fc), .ref afa, .ref afx, .ref ald, .int (nI zz), .ref awy, .int lp, .ref alt, .ref abg, .int (wz_i tl)]))]) (wr := [(ams, .inl (cI, 80, .inl (wz_n mn)))]) (w1 := [(aR, .inr (7, [.int (nI th), .int (nI mv), .ref ams, .ref ann, .int (nI n), .ref ak2, .ref af2, .ref as2, .ref ah2, .int (nI fc), .ref afa, .ref afx, .ref ald, .int (nI zz), .ref awy, .int lp, .ref alt, .ref abg, .int (wz_i tl)]))]) (ws' := [(aR, .inr (7, [.int (nI th), .int (nI mv), .ref ams, .ref ann, .int (nI n), .ref ak2, .ref af2, .ref as2, .ref ah2, .int (nI fc), .ref afa, .ref afx, .ref ald, .int (nI zz), .ref awy, .int lp, .ref alt, .ref abg, .int (wz_i tl)])), (ams, .inl (cI, 80, .inl (wz_n mn)))]) hP hD hS hA [0] [1] [1, 0] rfl rfl (by decide) (by decide) (by decide) rfl rfl (va_runV (As := [.int (nI cl)]) (rest := []) ⟨hx, hb, hml, hown, hts⟩ (kMo_noMask l dC dI cI cJ cZ H.size aR ams ann ak2 af2 as2 ah2 afa afx ald awy alt abg th mv n fc zz lp tl (nI cl)) (cwV 1 hts (wz_gV w_566 w_567 w_9 w_41 w_568) rfl rfl rfl (by decide +kernel) ⟨Nat.le_of_ble_eq_true rfl, Nat.le_of_ble_eq_true rfl⟩) (wz_preV (q := (RMo, TMo, 19)) (ci := 7) hN hK hP hD [0] (by decide) rfl rfl 0 rfl rfl) rfl rfl hl.1 rfl (lv_room (Nat.le_of_ble_eq_true rfl)) dMo_move_27 ⟨Nat.le_refl _, Nat.le_refl _⟩) (fun H locs hP hD hS => ?_)
        refine wz_ifnz (tgt := 42) hx hb dMo_move_30 (by decide) (fun h30_4 => ?_) (fun h30_4 => ?_)
        · skip
          simp [ww_is_N hcl] at h30_4
        · skip
          refine lv_aload_n hx hb dMo_move_33 rfl (lv_at hl 0 rfl) ?_
          refine lv_iload hx hb dMo_move_34 (lv_at hl 5 rfl) ?_
          refine wz_calli (wc := [(aR, .inr (7, [.int (nI th), .int (nI mv), .ref ams, .ref ann, .int (nI n), .ref ak2, .ref af2, .ref as2, .ref ah2, .int (nI fc), .ref afa, .ref afx, .ref ald, .int (nI zz), .ref awy, .int lp, .ref alt, .ref abg, .int (wz_i tl)]))]) (wr := [(ams, .inl (cI, 80, .inl (wz_n mn)))]) (w1 := [(aR, .inr (7, [.int (nI th), .int (nI mv), .ref ams, .ref ann, .int (nI n), .ref ak2, .ref af2, .ref as2, .ref ah2, .int (nI fc), .ref afa, .ref afx, .ref ald, .int (nI zz), .ref awy, .int lp, .ref alt, .ref abg, .int (wz_i tl)]))]) (ws' := [(aR, .inr (7, [.int (nI th), .int (nI mv), .ref ams, .ref ann, .int (nI n), .ref ak2, .ref af2, .ref as2, .ref ah2, .int (nI fc), .ref afa, .ref afx, .ref ald, .int (nI zz), .ref awy, .int lp, .ref alt, .ref abg, .int (wz_i tl)])), (ams, .inl (cI, 80, .inl (wz_n mn)))]) hP hD hS hA [0] [1] [1, 0] rfl rfl (by decide) (by decide) (by decide) rfl rfl (va_runV (As := [.int (nI an)]) (rest := []) ⟨hx, hb, hml, hown, hts⟩ (kMo_noMask l dC dI cI cJ cZ H.size aR ams ann ak2 af2 as2 ah2 afa afx ald awy alt abg th mv n fc zz lp tl (nI an)) (cwV 1 hts (wz_gV w_566 w_567 w_9 w_41 w_568) rfl rfl rfl (by decide +kernel) ⟨Nat.le_of_ble_eq_true rfl, Nat.le_of_ble_eq_true rfl⟩) (wz_preV (q := (RMo, TMo, 19)) (ci := 7) hN hK hP hD [0] (by decide) rfl rfl 0 rfl rfl) rfl rfl hl.1 rfl (lv_room (Nat.le_of_ble_eq_true rfl)) dMo_move_36 ⟨Nat.le_refl _, Nat.le_refl _⟩) (fun H locs hP hD hS => ?_)
          refine wz_ifz (tgt := 46) hx hb dMo_move_39 (by decide) (fun h39_5 => ?_) (fun h39_5 => ?_)
          · skip
            refine lv_iconst (v := nI 0) hx hb dMo_move_46 (by decide) ?_
            refine lv_istore (lv' := [(6, .int (nI 0)), (0, .ref aR), (1, .int (nI on)), (2, .int (nI off)), (3, .int (nI se)), (4, .int (nI cl)), (5, .int (nI an))]) hx hb dMo_move_47 hl (by decide) rfl (fun ls hl => ?_)
            refine lv_aload_n hx hb dMo_move_49 rfl (lv_at hl 1 rfl) ?_
            refine lv_iload hx hb dMo_move_50 (lv_at hl 0 rfl) ?_
            refine wz_ifN_ne (x := 0) (tgt := 62) hx hb (by omega) dMo_move_52 (by decide) (fun h52_6 => ?_) (fun h52_6 => ?_)
            · skip
              exact absurd h52_6 (by decide)
            · skip
              refine lv_iload_n hx hb dMo_move_55 rfl (lv_at hl 4 rfl) ?_
              refine lv_iload hx hb dMo_move_56 (lv_at hl 5 rfl) ?_
              refine lv_iand hx hb dMo_move_58 ?_
              refine W.eq (g2 := F0 m 59 ls [.int (nI (se &&& cl)), .ref aR]) (by rw [show ((nI se) &&& (nI cl) : Int32) = nI (se &&& cl) from (by rw [ww_na se hse cl hcl])]) ?_
              refine wz_ifN_eq (x := se &&& cl) (tgt := 66) hx hb (ww_a31 hcl) dMo_move_59 (by decide) (fun h59_7 => ?_) (fun h59_7 => ?_)
              · skip
                refine lv_aload_n hx hb dMo_move_66 rfl (lv_at hl 1 rfl) ?_
                refine va_get (D := (dC, dI)) (ci := 7) (v := .int (nI mv)) (C := RMo) (T := TMo) (N := 19) hx hb hw in_Mo hown hK hP 0 rfl rfl 1 (by decide) (hw _ w_501) (fun _ h9 => h9) rfl dMo_move_67 ?_
                refine lv_bipush (v := nI 16) hx hb dMo_move_70 (by decide) ?_
                refine wz_icmp_ne (x := mv) (y := 16) (tgt := 79) hx hb (by omega) (by omega) dMo_move_72 (by decide) (fun h72_8 => ?_) (fun h72_8 => ?_)
                · skip
                  refine lv_iconst (v := nI 0) hx hb dMo_move_79 (by decide) ?_
                  refine va_put (D := (dC, dI)) (ci := 7) (v := .int (nI 0)) (ty := .int) (C := RMo) (T := TMo) (N := 19) hx hb hw in_Mo tyMo tyMo_ok nmMo hown hK hP hD hS 0 rfl rfl 0 (by decide) (hw _ w_500) (fun _ h9 => h9) rfl (by decide +kernel) rfl rfl (Nat.le_of_ble_eq_true rfl) dMo_move_80 (fun H locs hP hD hS => ?_)
                  have hP : va_P (dC, dI) vwCl [(aR, .inr (7, [.int (nI 0), .int (nI mv), .ref ams, .ref ann, .int (nI n), .ref ak2, .ref af2, .ref as2, .ref ah2, .int (nI fc), .ref afa, .ref afx, .ref ald, .int (nI zz), .ref awy, .int lp, .ref alt, .ref abg, .int (wz_i tl)])), (ams, .inl (cI, 80, .inl (wz_n mn)))] H := hP
                  have hD : va_D A [(aR, .inr (7, [.int (nI 0), .int (nI mv), .ref ams, .ref ann, .int (nI n), .ref ak2, .ref af2, .ref as2, .ref ah2, .int (nI fc), .ref afa, .ref afx, .ref ald, .int (nI zz), .ref awy, .int lp, .ref alt, .ref abg, .int (wz_i tl)])), (ams, .inl (cI, 80, .inl (wz_n mn)))] := hD
                  refine lv_aload_n hx hb dMo_move_83 rfl (lv_at hl 1 rfl) ?_
                  refine va_get (D := (dC, dI)) (ci := 7) (v := .int (nI 0)) (C := RMo) (T := TMo) (N := 19) hx hb hw in_Mo hown hK hP 0 rfl rfl 0 (by decide) (hw _ w_500) (fun _ h9 => h9) rfl dMo_move_84 ?_
                  refine wz_ifN_eq (x := 0) (tgt := 92) hx hb (by omega) dMo_move_87 (by decide) (fun h87_9 => ?_) (fun h87_9 => ?_)
                  · skip
                    refine lv_aload_n hx hb dMo_move_92 rfl (lv_at hl 1 rfl) ?_
                    refine va_get (D := (dC, dI)) (ci := 7) (v := .ref ams) (C := RMo) (T := TMo) (N := 19) hx hb hw in_Mo hown hK hP 0 rfl rfl 2 (by decide) (hw _ w_502) (fun _ h9 => h9) rfl dMo_move_93 ?_
                    refine lv_iconst (v := nI 5) hx hb dMo_move_96 (by decide) ?_
                    refine lv_aload_n hx hb dMo_move_97 rfl (lv_at hl 1 rfl) ?_
                    refine va_get (D := (dC, dI)) (ci := 7) (v := .int (nI mv)) (C := RMo) (T := TMo) (N := 19) hx hb hw in_Mo hown hK hP 0 rfl rfl 1 (by decide) (hw _ w_501) (fun _ h9 => h9) rfl dMo_move_98 ?_
                    refine wz_imul hx hb dMo_move_101 ?_
                    refine lv_iload_n hx hb dMo_move_102 rfl (lv_at hl 2 rfl) ?_
                    refine wz_astN (ws' := [(aR, .inr (7, [.int (nI 0), .int (nI mv), .ref ams, .ref ann, .int (nI n), .ref ak2, .ref af2, .ref as2, .ref ah2, .int (nI fc), .ref afa, .ref afx, .ref ald, .int (nI zz), .ref awy, .int lp, .ref alt, .ref abg, .int (wz_i tl)])), (ams, .inl (cI, 80, .inl (wz_n (wz_un mn (5 * mv) on))))]) hx hb hK hP hD hS 1 0 rfl rfl (i := 5 * mv) (by omega) (by decide) dMo_move_103 rfl (fun H locs hP hD hS => ?_)
                    refine lv_aload_n hx hb dMo_move_104 rfl (lv_at hl 1 rfl) ?_
                    refine va_get (D := (dC, dI)) (ci := 7) (v := .ref ams) (C := RMo) (T := TMo) (N := 19) hx hb hw in_Mo hown hK hP 0 rfl rfl 2 (by decide) (hw _ w_502) (fun _ h9 => h9) rfl dMo_move_105 ?_
                    refine lv_iconst (v := nI 5) hx hb dMo_move_108 (by decide) ?_
                    refine lv_aload_n hx hb dMo_move_109 rfl (lv_at hl 1 rfl) ?_
                    refine va_get (D := (dC, dI)) (ci := 7) (v := .int (nI mv)) (C := RMo) (T := TMo) (N := 19) hx hb hw in_Mo hown hK hP 0 rfl rfl 1 (by decide) (hw _ w_501) (fun _ h9 => h9) rfl dMo_move_110 ?_
                    refine wz_imul hx hb dMo_move_113 ?_
                    refine lv_iconst (v := nI 1) hx hb dMo_move_114 (by decide) ?_
                    refine wz_iadd hx hb dMo_move_115 ?_
                    refine lv_iload_n hx hb dMo_move_116 rfl (lv_at hl 3 rfl) ?_
                    refine wz_astN (ws' := [(aR, .inr (7, [.int (nI 0), .int (nI mv), .ref ams, .ref ann, .int (nI n), .ref ak2, .ref af2, .ref as2, .ref ah2, .int (nI fc), .ref afa, .ref afx, .ref ald, .int (nI zz), .ref awy, .int lp, .ref alt, .ref abg, .int (wz_i tl)])), (ams, .inl (cI, 80, .inl (wz_n (wz_un (wz_un mn (5 * mv) on) ((5 * mv) + 1) off))))]) hx hb hK hP hD hS 1 0 rfl rfl (i := (5 * mv) + 1) (by omega) (by decide) dMo_move_117 rfl (fun H locs hP hD hS => ?_)
                    refine lv_aload_n hx hb dMo_move_118 rfl (lv_at hl 1 rfl) ?_
                    refine va_get (D := (dC, dI)) (ci := 7) (v := .ref ams) (C := RMo) (T := TMo) (N := 19) hx hb hw in_Mo hown hK hP 0 rfl rfl 2 (by decide) (hw _ w_502) (fun _ h9 => h9) rfl dMo_move_119 ?_
                    refine lv_iconst (v := nI 5) hx hb dMo_move_122 (by decide) ?_
                    refine lv_aload_n hx hb dMo_move_123 rfl (lv_at hl 1 rfl) ?_
                    refine va_get (D := (dC, dI)) (ci := 7) (v := .int (nI mv)) (C := RMo) (T := TMo) (N := 19) hx hb hw in_Mo hown hK hP 0 rfl rfl 1 (by decide) (hw _ w_501) (fun _ h9 => h9) rfl dMo_move_124 ?_
                    refine wz_imul hx hb dMo_move_127 ?_
                    refine lv_iconst (v := nI 2) hx hb dMo_move_128 (by decide) ?_
                    refine wz_iadd hx hb dMo_move_129 ?_
                    refine lv_iload_n hx hb dMo_move_130 rfl (lv_at hl 4 rfl) ?_
                    refine wz_astN (ws' := [(aR, .inr (7, [.int (nI 0), .int (nI mv), .ref ams, .ref ann, .int (nI n), .ref ak2, .ref af2, .ref as2, .ref ah2, .int (nI fc), .ref afa, .ref afx, .ref ald, .int (nI zz), .ref awy, .int lp, .ref alt, .ref abg, .int (wz_i tl)])), (ams, .inl (cI, 80, .inl (wz_n (wz_un (wz_un (wz_un mn (5 * mv) on) ((5 * mv) + 1) off) ((5 * mv) + 2) se))))]) hx hb hK hP hD hS 1 0 rfl rfl (i := (5 * mv) + 2) (by omega) (by decide) dMo_move_131 rfl (fun H locs hP hD hS => ?_)
                    refine lv_aload_n hx hb dMo_move_132 rfl (lv_at hl 1 rfl) ?_
                    refine va_get (D := (dC, dI)) (ci := 7) (v := .ref ams) (C := RMo) (T := TMo) (N := 19) hx hb hw in_Mo hown hK hP 0 rfl rfl 2 (by decide) (hw _ w_502) (fun _ h9 => h9) rfl dMo_move_133 ?_
                    refine lv_iconst (v := nI 5) hx hb dMo_move_136 (by decide) ?_
                    refine lv_aload_n hx hb dMo_move_137 rfl (lv_at hl 1 rfl) ?_
                    refine va_get (D := (dC, dI)) (ci := 7) (v := .int (nI mv)) (C := RMo) (T := TMo) (N := 19) hx hb hw in_Mo hown hK hP 0 rfl rfl 1 (by decide) (hw _ w_501) (fun _ h9 => h9) rfl dMo_move_138 ?_
                    refine wz_imul hx hb dMo_move_141 ?_
                    refine lv_iconst (v := nI 3) hx hb dMo_move_142 (by decide) ?_
                    refine wz_iadd hx hb dMo_move_143 ?_
                    refine lv_iload hx hb dMo_move_144 (lv_at hl 5 rfl) ?_
                    refine wz_astN (ws' := [(aR, .inr (7, [.int (nI 0), .int (nI mv), .ref ams, .ref ann, .int (nI n), .ref ak2, .ref af2, .ref as2, .ref ah2, .int (nI fc), .ref afa, .ref afx, .ref ald, .int (nI zz), .ref awy, .int lp, .ref alt, .ref abg, .int (wz_i tl)])), (ams, .inl (cI, 80, .inl (wz_n (wz_un (wz_un (wz_un (wz_un mn (5 * mv) on) ((5 * mv) + 1) off) ((5 * mv) + 2) se) ((5 * mv) + 3) cl))))]) hx hb hK hP hD hS 1 0 rfl rfl (i := (5 * mv) + 3) (by omega) (by decide) dMo_move_146 rfl (fun H locs hP hD hS => ?_)
                    refine lv_aload_n hx hb dMo_move_147 rfl (lv_at hl 1 rfl) ?_
                    refine va_get (D := (dC, dI)) (ci := 7) (v := .ref ams) (C := RMo) (T := TMo) (N := 19) hx hb hw in_Mo hown hK hP 0 rfl rfl 2 (by decide) (hw _ w_502) (fun _ h9 => h9) rfl dMo_move_148 ?_
                    refine lv_iconst (v := nI 5) hx hb dMo_move_151 (by decide) ?_
                    refine lv_aload_n hx hb dMo_move_152 rfl (lv_at hl 1 rfl) ?_
                    refine va_get (D := (dC, dI)) (ci := 7) (v := .int (nI mv)) (C := RMo) (T := TMo) (N := 19) hx hb hw in_Mo hown hK hP 0 rfl rfl 1 (by decide) (hw _ w_501) (fun _ h9 => h9) rfl dMo_move_153 ?_
                    refine wz_imul hx hb dMo_move_156 ?_
                    refine lv_iconst (v := nI 4) hx hb dMo_move_157 (by decide) ?_
                    refine wz_iadd hx hb dMo_move_158 ?_
                    refine lv_iload hx hb dMo_move_159 (lv_at hl 6 rfl) ?_
                    refine wz_astN (ws' := [(aR, .inr (7, [.int (nI 0), .int (nI mv), .ref ams, .ref ann, .int (nI n), .ref ak2, .ref af2, .ref as2, .ref ah2, .int (nI fc), .ref afa, .ref afx, .ref ald, .int (nI zz), .ref awy, .int lp, .ref alt, .ref abg, .int (wz_i tl)])), (ams, .inl (cI, 80, .inl (wz_n (wz_un (wz_un (wz_un (wz_un (wz_un mn (5 * mv) on) ((5 * mv) + 1) off) ((5 * mv) + 2) se) ((5 * mv) + 3) cl) ((5 * mv) + 4) an))))]) hx hb hK hP hD hS 1 0 rfl rfl (i := (5 * mv) + 4) (by omega) (by decide) dMo_move_161 rfl (fun H locs hP hD hS => ?_)
                    refine lv_aload_n hx hb dMo_move_162 rfl (lv_at hl 1 rfl) ?_
                    refine lv_dup hx hb dMo_move_163 rfl ?_
                    refine va_get (D := (dC, dI)) (ci := 7) (v := .int (nI mv)) (C := RMo) (T := TMo) (N := 19) hx hb hw in_Mo hown hK hP 0 rfl rfl 1 (by decide) (hw _ w_501) (fun _ h9 => h9) rfl dMo_move_164 ?_
                    refine lv_iconst (v := nI 1) hx hb dMo_move_167 (by decide) ?_
                    refine wz_iadd hx hb dMo_move_168 ?_
                    refine va_put (D := (dC, dI)) (ci := 7) (v := .int (nI (mv + 1))) (ty := .int) (C := RMo) (T := TMo) (N := 19) hx hb hw in_Mo tyMo tyMo_ok nmMo hown hK hP hD hS 0 rfl rfl 1 (by decide) (hw _ w_501) (fun _ h9 => h9) rfl (by decide +kernel) rfl rfl (Nat.le_of_ble_eq_true rfl) dMo_move_169 (fun H locs hP hD hS => ?_)
                    have hP : va_P (dC, dI) vwCl [(aR, .inr (7, [.int (nI 0), .int (nI (mv + 1)), .ref ams, .ref ann, .int (nI n), .ref ak2, .ref af2, .ref as2, .ref ah2, .int (nI fc), .ref afa, .ref afx, .ref ald, .int (nI zz), .ref awy, .int lp, .ref alt, .ref abg, .int (wz_i tl)])), (ams, .inl (cI, 80, .inl (wz_n (wz_un (wz_un (wz_un (wz_un (wz_un mn (5 * mv) on) ((5 * mv) + 1) off) ((5 * mv) + 2) se) ((5 * mv) + 3) cl) ((5 * mv) + 4) an))))] H := hP
                    have hD : va_D A [(aR, .inr (7, [.int (nI 0), .int (nI (mv + 1)), .ref ams, .ref ann, .int (nI n), .ref ak2, .ref af2, .ref as2, .ref ah2, .int (nI fc), .ref afa, .ref afx, .ref ald, .int (nI zz), .ref awy, .int lp, .ref alt, .ref abg, .int (wz_i tl)])), (ams, .inl (cI, 80, .inl (wz_n (wz_un (wz_un (wz_un (wz_un (wz_un mn (5 * mv) on) ((5 * mv) + 1) off) ((5 * mv) + 2) se) ((5 * mv) + 3) cl) ((5 * mv) + 4) an))))] := hD
                    refine lv_aload_n hx hb dMo_move_172 rfl (lv_at hl 1 rfl) ?_
                    refine va_get (D := (dC, dI)) (ci := 7) (v := .int (nI (mv + 1))) (C := RMo) (T := TMo) (N := 19) hx hb hw in_Mo hown hK hP 0 rfl rfl 1 (by decide) (hw _ w_501) (fun _ h9 => h9) rfl dMo_move_173 ?_
                    exact wz_iret hx hb hr hlocks rfl hP hD hK hS dMo_move_176
                  · skip
                    exact absurd h87_9 (by decide)
                · skip
                  omega
              · skip
                exact absurd hbits h59_7
          · skip
            simp [ww_is_N han] at h39_5
set_option maxHeartbeats 4000000 in
set_option maxRecDepth 100000 in
theorem kMo_move_2 (l : Launch) (dC : Nat → ClassId) (dI : Nat → Nat → Nat) (cI cJ cZ : ClassId) (sz : Nat) (aR : Nat) (ams : Nat) (ann : Nat) (ak2 : Nat) (af2 : Nat) (as2 : Nat) (ah2 : Nat) (afa : Nat) (afx : Nat) (ald : Nat) (awy : Nat) (alt : Nat) (abg : Nat) (th : Nat) (mv : Nat) (n : Nat) (fc : Nat) (zz : Nat) (lp : Int32) (tl : Bool) (mn : Nat → Nat) (on : Nat) (off : Nat) (se : Nat) (cl : Nat) (an : Nat) (hon : on < 64) (hoff : off < 64) (hse : se < 64) (hcl : cl < 64) (han : an < 64) (hbits : se &&& cl = 0) (hmv16 : mv = 16) : Met l yMo_move (.code yMo_move cMo_move 7 (some .int) :: wz_all) ({ frames := 1, cells := 0, slots := 0, locals := 21 }) (wz_Pc (dC, dI) vwCl (wz_T cI cJ cZ) [.ref aR, .int (nI on), .int (nI off), .int (nI se), .int (nI cl), .int (nI an)] sz [(aR, .inr (7, [.int (nI th), .int (nI mv), .ref ams, .ref ann, .int (nI n), .ref ak2, .ref af2, .ref as2, .ref ah2, .int (nI fc), .ref afa, .ref afx, .ref ald, .int (nI zz), .ref awy, .int lp, .ref alt, .ref abg, .int (wz_i tl)])), (ams, .inl (cI, 80, .inl (wz_n mn)))]) (va_Qi (fun (r : Int32) (_ : Unit) => r = nI 0) (fun _ t => va_P (dC, dI) vwCl [(aR, .inr (7, [.int (nI 2), .int (nI mv), .ref ams, .ref ann, .int (nI n), .ref ak2, .ref af2, .ref as2, .ref ah2, .int (nI fc), .ref afa, .ref afx, .ref ald, .int (nI zz), .ref awy, .int lp, .ref alt, .ref abg, .int (wz_i tl)])), (ams, .inl (cI, 80, .inl (wz_n mn)))] t.heap ∧ va_K (dC, dI) vwCl (wz_T cI cJ cZ) t ∧ va_D (va_A [(aR, .inr (7, [.int (nI th), .int (nI mv), .ref ams, .ref ann, .int (nI n), .ref ak2, .ref af2, .ref as2, .ref ah2, .int (nI fc), .ref afa, .ref afx, .ref ald, .int (nI zz), .ref awy, .int lp, .ref alt, .ref abg, .int (wz_i tl)])), (ams, .inl (cI, 80, .inl (wz_n mn)))] sz) [(aR, .inr (7, [.int (nI 2), .int (nI mv), .ref ams, .ref ann, .int (nI n), .ref ak2, .ref af2, .ref as2, .ref ah2, .int (nI fc), .ref afa, .ref afx, .ref ald, .int (nI zz), .ref awy, .int lp, .ref alt, .ref abg, .int (wz_i tl)])), (ams, .inl (cI, 80, .inl (wz_n mn)))]) (va_A [(aR, .inr (7, [.int (nI th), .int (nI mv), .ref ams, .ref ann, .int (nI n), .ref ak2, .ref af2, .ref as2, .ref ah2, .int (nI fc), .ref afa, .ref afx, .ref ald, .int (nI zz), .ref awy, .int lp, .ref alt, .ref abg, .int (wz_i tl)])), (ams, .inl (cI, 80, .inl (wz_n mn)))] sz)) 0 0 (va_A [(aR, .inr (7, [.int (nI th), .int (nI mv), .ref ams, .ref ann, .int (nI n), .ref ak2, .ref af2, .ref as2, .ref ah2, .int (nI fc), .ref afa, .ref afx, .ref ald, .int (nI zz), .ref awy, .int lp, .ref alt, .ref abg, .int (wz_i tl)])), (ams, .inl (cI, 80, .inl (wz_n mn)))] sz) := by
  refine Met.ofW (cc := cMo_move) (maxL := 7) (ret := (some .int)) (by decide) rfl ?_
  intro p e s m args below meth c s₁ B hml hv
  obtain ⟨rfl, hsz, hP, hK, hD0, hN⟩ := hv
  have hx := B.exec
  have hb := B.bytes
  have hr := B.returns
  have hts := atoms_spec (ws := (.code yMo_move cMo_move 7 (some .int) :: wz_all)) B.pre
  have hw : ∀ w9 ∈ wz_all, w9.before [.ref aR, .int (nI on), .int (nI off), .int (nI se), .int (nI cl), .int (nI an)].toArray s = true := fun w9 h => hts w9 (List.mem_cons_of_mem _ h)
  have hown : s.vm.findClass RMo = some m.cls := findClass_of_methodNamed B.named
  have hlocks := B.notSynchronized
  subst hsz
  have hD := hD0.self (sz := s.heap.size)
  generalize hAe : va_A [(aR, .inr (7, [.int (nI th), .int (nI mv), .ref ams, .ref ann, .int (nI n), .ref ak2, .ref af2, .ref as2, .ref ah2, .int (nI fc), .ref afa, .ref afx, .ref ald, .int (nI zz), .ref awy, .int lp, .ref alt, .ref abg, .int (wz_i tl)])), (ams, .inl (cI, 80, .inl (wz_n mn)))] s.heap.size = A at hD ⊢
  have hA : ∀ q : Nat, s.heap.size ≤ q → A q := fun q h => by rw [← hAe]; exact Or.inr h
  have hS : va_S A s.heap s.heap [] := va_S.rf
  have hP : va_P (dC, dI) vwCl [(aR, .inr (7, [.int (nI th), .int (nI mv), .ref ams, .ref ann, .int (nI n), .ref ak2, .ref af2, .ref as2, .ref ah2, .int (nI fc), .ref afa, .ref afx, .ref ald, .int (nI zz), .ref awy, .int lp, .ref alt, .ref abg, .int (wz_i tl)])), (ams, .inl (cI, 80, .inl (wz_n mn)))] s.heap := hP
  have hl := lv_entry ([.ref aR, .int (nI on), .int (nI off), .int (nI se), .int (nI cl), .int (nI an)]) (n := 7) (Nat.le_of_ble_eq_true rfl)
  rw [lg_entry_eq]
  generalize (lg_sl ([.ref aR, .int (nI on), .int (nI off), .int (nI se), .int (nI cl), .int (nI an)]) ++ List.replicate (7 - (lg_sl ([.ref aR, .int (nI on), .int (nI off), .int (nI se), .int (nI cl), .int (nI an)])).length) Slot.unset).toArray = ls at hl ⊢
  have hl : lv_has ls 7 [(0, .ref aR), (1, .int (nI on)), (2, .int (nI off)), (3, .int (nI se)), (4, .int (nI cl)), (5, .int (nI an))] := hl
  refine lv_aload_n hx hb dMo_move_0 rfl (lv_at hl 0 rfl) ?_
  refine lv_iload_n hx hb dMo_move_1 rfl (lv_at hl 1 rfl) ?_
  refine wz_calli (wc := [(aR, .inr (7, [.int (nI th), .int (nI mv), .ref ams, .ref ann, .int (nI n), .ref ak2, .ref af2, .ref as2, .ref ah2, .int (nI fc), .ref afa, .ref afx, .ref ald, .int (nI zz), .ref awy, .int lp, .ref alt, .ref abg, .int (wz_i tl)]))]) (wr := [(ams, .inl (cI, 80, .inl (wz_n mn)))]) (w1 := [(aR, .inr (7, [.int (nI th), .int (nI mv), .ref ams, .ref ann, .int (nI n), .ref ak2, .ref af2, .ref as2, .ref ah2, .int (nI fc), .ref afa, .ref afx, .ref ald, .int (nI zz), .ref awy, .int lp, .ref alt, .ref abg, .int (wz_i tl)]))]) (ws' := [(aR, .inr (7, [.int (nI th), .int (nI mv), .ref ams, .ref ann, .int (nI n), .ref ak2, .ref af2, .ref as2, .ref ah2, .int (nI fc), .ref afa, .ref afx, .ref ald, .int (nI zz), .ref awy, .int lp, .ref alt, .ref abg, .int (wz_i tl)])), (ams, .inl (cI, 80, .inl (wz_n mn)))]) hP hD hS hA [0] [1] [1, 0] rfl rfl (by decide) (by decide) (by decide) rfl rfl (va_runV (As := [.int (nI on)]) (rest := []) ⟨hx, hb, hml, hown, hts⟩ (kMo_noMask l dC dI cI cJ cZ s.heap.size aR ams ann ak2 af2 as2 ah2 afa afx ald awy alt abg th mv n fc zz lp tl (nI on)) (cwV 1 hts (wz_gV w_566 w_567 w_9 w_41 w_568) rfl rfl rfl (by decide +kernel) ⟨Nat.le_of_ble_eq_true rfl, Nat.le_of_ble_eq_true rfl⟩) (wz_preV (q := (RMo, TMo, 19)) (ci := 7) hN hK hP hD [0] (by decide) rfl rfl 0 rfl rfl) rfl rfl hl.1 rfl (lv_room (Nat.le_of_ble_eq_true rfl)) dMo_move_2 ⟨Nat.le_refl _, Nat.le_refl _⟩) (fun H locs hP hD hS => ?_)
  refine wz_ifnz (tgt := 42) hx hb dMo_move_5 (by decide) (fun h5_1 => ?_) (fun h5_1 => ?_)
  · skip
    simp [ww_is_N hon] at h5_1
  · skip
    refine lv_aload_n hx hb dMo_move_8 rfl (lv_at hl 0 rfl) ?_
    refine lv_iload_n hx hb dMo_move_9 rfl (lv_at hl 2 rfl) ?_
    refine wz_calli (wc := [(aR, .inr (7, [.int (nI th), .int (nI mv), .ref ams, .ref ann, .int (nI n), .ref ak2, .ref af2, .ref as2, .ref ah2, .int (nI fc), .ref afa, .ref afx, .ref ald, .int (nI zz), .ref awy, .int lp, .ref alt, .ref abg, .int (wz_i tl)]))]) (wr := [(ams, .inl (cI, 80, .inl (wz_n mn)))]) (w1 := [(aR, .inr (7, [.int (nI th), .int (nI mv), .ref ams, .ref ann, .int (nI n), .ref ak2, .ref af2, .ref as2, .ref ah2, .int (nI fc), .ref afa, .ref afx, .ref ald, .int (nI zz), .ref awy, .int lp, .ref alt, .ref abg, .int (wz_i tl)]))]) (ws' := [(aR, .inr (7, [.int (nI th), .int (nI mv), .ref ams, .ref ann, .int (nI n), .ref ak2, .ref af2, .ref as2, .ref ah2, .int (nI fc), .ref afa, .ref afx, .ref ald, .int (nI zz), .ref awy, .int lp, .ref alt, .ref abg, .int (wz_i tl)])), (ams, .inl (cI, 80, .inl (wz_n mn)))]) hP hD hS hA [0] [1] [1, 0] rfl rfl (by decide) (by decide) (by decide) rfl rfl (va_runV (As := [.int (nI off)]) (rest := []) ⟨hx, hb, hml, hown, hts⟩ (kMo_noMask l dC dI cI cJ cZ H.size aR ams ann ak2 af2 as2 ah2 afa afx ald awy alt abg th mv n fc zz lp tl (nI off)) (cwV 1 hts (wz_gV w_566 w_567 w_9 w_41 w_568) rfl rfl rfl (by decide +kernel) ⟨Nat.le_of_ble_eq_true rfl, Nat.le_of_ble_eq_true rfl⟩) (wz_preV (q := (RMo, TMo, 19)) (ci := 7) hN hK hP hD [0] (by decide) rfl rfl 0 rfl rfl) rfl rfl hl.1 rfl (lv_room (Nat.le_of_ble_eq_true rfl)) dMo_move_10 ⟨Nat.le_refl _, Nat.le_refl _⟩) (fun H locs hP hD hS => ?_)
    refine wz_ifnz (tgt := 42) hx hb dMo_move_13 (by decide) (fun h13_2 => ?_) (fun h13_2 => ?_)
    · skip
      simp [ww_is_N hoff] at h13_2
    · skip
      refine lv_aload_n hx hb dMo_move_16 rfl (lv_at hl 0 rfl) ?_
      refine lv_iload_n hx hb dMo_move_17 rfl (lv_at hl 3 rfl) ?_
      refine wz_calli (wc := [(aR, .inr (7, [.int (nI th), .int (nI mv), .ref ams, .ref ann, .int (nI n), .ref ak2, .ref af2, .ref as2, .ref ah2, .int (nI fc), .ref afa, .ref afx, .ref ald, .int (nI zz), .ref awy, .int lp, .ref alt, .ref abg, .int (wz_i tl)]))]) (wr := [(ams, .inl (cI, 80, .inl (wz_n mn)))]) (w1 := [(aR, .inr (7, [.int (nI th), .int (nI mv), .ref ams, .ref ann, .int (nI n), .ref ak2, .ref af2, .ref as2, .ref ah2, .int (nI fc), .ref afa, .ref afx, .ref ald, .int (nI zz), .ref awy, .int lp, .ref alt, .ref abg, .int (wz_i tl)]))]) (ws' := [(aR, .inr (7, [.int (nI th), .int (nI mv), .ref ams, .ref ann, .int (nI n), .ref ak2, .ref af2, .ref as2, .ref ah2, .int (nI fc), .ref afa, .ref afx, .ref ald, .int (nI zz), .ref awy, .int lp, .ref alt, .ref abg, .int (wz_i tl)])), (ams, .inl (cI, 80, .inl (wz_n mn)))]) hP hD hS hA [0] [1] [1, 0] rfl rfl (by decide) (by decide) (by decide) rfl rfl (va_runV (As := [.int (nI se)]) (rest := []) ⟨hx, hb, hml, hown, hts⟩ (kMo_noMask l dC dI cI cJ cZ H.size aR ams ann ak2 af2 as2 ah2 afa afx ald awy alt abg th mv n fc zz lp tl (nI se)) (cwV 1 hts (wz_gV w_566 w_567 w_9 w_41 w_568) rfl rfl rfl (by decide +kernel) ⟨Nat.le_of_ble_eq_true rfl, Nat.le_of_ble_eq_true rfl⟩) (wz_preV (q := (RMo, TMo, 19)) (ci := 7) hN hK hP hD [0] (by decide) rfl rfl 0 rfl rfl) rfl rfl hl.1 rfl (lv_room (Nat.le_of_ble_eq_true rfl)) dMo_move_18 ⟨Nat.le_refl _, Nat.le_refl _⟩) (fun H locs hP hD hS => ?_)
      refine wz_ifnz (tgt := 42) hx hb dMo_move_21 (by decide) (fun h21_3 => ?_) (fun h21_3 => ?_)
      · skip
        simp [ww_is_N hse] at h21_3
      · skip
        refine lv_aload_n hx hb dMo_move_24 rfl (lv_at hl 0 rfl) ?_
        refine lv_iload hx hb dMo_move_25 (lv_at hl 4 rfl) ?_
        refine wz_calli (wc := [(aR, .inr (7, [.int (nI th), .int (nI mv), .ref ams, .ref ann, .int (nI n), .ref ak2, .ref af2, .ref as2, .ref ah2, .int (nI fc), .ref afa, .ref afx, .ref ald, .int (nI zz), .ref awy, .int lp, .ref alt, .ref abg, .int (wz_i tl)]))]) (wr := [(ams, .inl (cI, 80, .inl (wz_n mn)))]) (w1 := [(aR, .inr (7, [.int (nI th), .int (nI mv), .ref ams, .ref ann, .int (nI n), .ref ak2, .ref af2, .ref as2, .ref ah2, .int (nI fc), .ref afa, .ref afx, .ref ald, .int (nI zz), .ref awy, .int lp, .ref alt, .ref abg, .int (wz_i tl)]))]) (ws' := [(aR, .inr (7, [.int (nI th), .int (nI mv), .ref ams, .ref ann, .int (nI n), .ref ak2, .ref af2, .ref as2, .ref ah2, .int (nI fc), .ref afa, .ref afx, .ref ald, .int (nI zz), .ref awy, .int lp, .ref alt, .ref abg, .int (wz_i tl)])), (ams, .inl (cI, 80, .inl (wz_n mn)))]) hP hD hS hA [0] [1] [1, 0] rfl rfl (by decide) (by decide) (by decide) rfl rfl (va_runV (As := [.int (nI cl)]) (rest := []) ⟨hx, hb, hml, hown, hts⟩ (kMo_noMask l dC dI cI cJ cZ H.size aR ams ann ak2 af2 as2 ah2 afa afx ald awy alt abg th mv n fc zz lp tl (nI cl)) (cwV 1 hts (wz_gV w_566 w_567 w_9 w_41 w_568) rfl rfl rfl (by decide +kernel) ⟨Nat.le_of_ble_eq_true rfl, Nat.le_of_ble_eq_true rfl⟩) (wz_preV (q := (RMo, TMo, 19)) (ci := 7) hN hK hP hD [0] (by decide) rfl rfl 0 rfl rfl) rfl rfl hl.1 rfl (lv_room (Nat.le_of_ble_eq_true rfl)) dMo_move_27 ⟨Nat.le_refl _, Nat.le_refl _⟩) (fun H locs hP hD hS => ?_)
        refine wz_ifnz (tgt := 42) hx hb dMo_move_30 (by decide) (fun h30_4 => ?_) (fun h30_4 => ?_)
        · skip
          simp [ww_is_N hcl] at h30_4
        · skip
          refine lv_aload_n hx hb dMo_move_33 rfl (lv_at hl 0 rfl) ?_
          refine lv_iload hx hb dMo_move_34 (lv_at hl 5 rfl) ?_
          refine wz_calli (wc := [(aR, .inr (7, [.int (nI th), .int (nI mv), .ref ams, .ref ann, .int (nI n), .ref ak2, .ref af2, .ref as2, .ref ah2, .int (nI fc), .ref afa, .ref afx, .ref ald, .int (nI zz), .ref awy, .int lp, .ref alt, .ref abg, .int (wz_i tl)]))]) (wr := [(ams, .inl (cI, 80, .inl (wz_n mn)))]) (w1 := [(aR, .inr (7, [.int (nI th), .int (nI mv), .ref ams, .ref ann, .int (nI n), .ref ak2, .ref af2, .ref as2, .ref ah2, .int (nI fc), .ref afa, .ref afx, .ref ald, .int (nI zz), .ref awy, .int lp, .ref alt, .ref abg, .int (wz_i tl)]))]) (ws' := [(aR, .inr (7, [.int (nI th), .int (nI mv), .ref ams, .ref ann, .int (nI n), .ref ak2, .ref af2, .ref as2, .ref ah2, .int (nI fc), .ref afa, .ref afx, .ref ald, .int (nI zz), .ref awy, .int lp, .ref alt, .ref abg, .int (wz_i tl)])), (ams, .inl (cI, 80, .inl (wz_n mn)))]) hP hD hS hA [0] [1] [1, 0] rfl rfl (by decide) (by decide) (by decide) rfl rfl (va_runV (As := [.int (nI an)]) (rest := []) ⟨hx, hb, hml, hown, hts⟩ (kMo_noMask l dC dI cI cJ cZ H.size aR ams ann ak2 af2 as2 ah2 afa afx ald awy alt abg th mv n fc zz lp tl (nI an)) (cwV 1 hts (wz_gV w_566 w_567 w_9 w_41 w_568) rfl rfl rfl (by decide +kernel) ⟨Nat.le_of_ble_eq_true rfl, Nat.le_of_ble_eq_true rfl⟩) (wz_preV (q := (RMo, TMo, 19)) (ci := 7) hN hK hP hD [0] (by decide) rfl rfl 0 rfl rfl) rfl rfl hl.1 rfl (lv_room (Nat.le_of_ble_eq_true rfl)) dMo_move_36 ⟨Nat.le_refl _, Nat.le_refl _⟩) (fun H locs hP hD hS => ?_)
          refine wz_ifz (tgt := 46) hx hb dMo_move_39 (by decide) (fun h39_5 => ?_) (fun h39_5 => ?_)
          · skip
            refine lv_iconst (v := nI 0) hx hb dMo_move_46 (by decide) ?_
            refine lv_istore (lv' := [(6, .int (nI 0)), (0, .ref aR), (1, .int (nI on)), (2, .int (nI off)), (3, .int (nI se)), (4, .int (nI cl)), (5, .int (nI an))]) hx hb dMo_move_47 hl (by decide) rfl (fun ls hl => ?_)
            refine lv_aload_n hx hb dMo_move_49 rfl (lv_at hl 1 rfl) ?_
            refine lv_iload hx hb dMo_move_50 (lv_at hl 0 rfl) ?_
            refine wz_ifN_ne (x := 0) (tgt := 62) hx hb (by omega) dMo_move_52 (by decide) (fun h52_6 => ?_) (fun h52_6 => ?_)
            · skip
              exact absurd h52_6 (by decide)
            · skip
              refine lv_iload_n hx hb dMo_move_55 rfl (lv_at hl 4 rfl) ?_
              refine lv_iload hx hb dMo_move_56 (lv_at hl 5 rfl) ?_
              refine lv_iand hx hb dMo_move_58 ?_
              refine W.eq (g2 := F0 m 59 ls [.int (nI (se &&& cl)), .ref aR]) (by rw [show ((nI se) &&& (nI cl) : Int32) = nI (se &&& cl) from (by rw [ww_na se hse cl hcl])]) ?_
              refine wz_ifN_eq (x := se &&& cl) (tgt := 66) hx hb (ww_a31 hcl) dMo_move_59 (by decide) (fun h59_7 => ?_) (fun h59_7 => ?_)
              · skip
                refine lv_aload_n hx hb dMo_move_66 rfl (lv_at hl 1 rfl) ?_
                refine va_get (D := (dC, dI)) (ci := 7) (v := .int (nI mv)) (C := RMo) (T := TMo) (N := 19) hx hb hw in_Mo hown hK hP 0 rfl rfl 1 (by decide) (hw _ w_501) (fun _ h9 => h9) rfl dMo_move_67 ?_
                refine lv_bipush (v := nI 16) hx hb dMo_move_70 (by decide) ?_
                refine wz_icmp_ne (x := mv) (y := 16) (tgt := 79) hx hb (by omega) (by omega) dMo_move_72 (by decide) (fun h72_8 => ?_) (fun h72_8 => ?_)
                · skip
                  exact absurd hmv16 h72_8
                · skip
                  refine lv_iconst (v := nI 2) hx hb dMo_move_75 (by decide) ?_
                  refine lv_goto (tgt := 80) hx hb dMo_move_76 (by decide) ?_
                  refine va_put (D := (dC, dI)) (ci := 7) (v := .int (nI 2)) (ty := .int) (C := RMo) (T := TMo) (N := 19) hx hb hw in_Mo tyMo tyMo_ok nmMo hown hK hP hD hS 0 rfl rfl 0 (by decide) (hw _ w_500) (fun _ h9 => h9) rfl (by decide +kernel) rfl rfl (Nat.le_of_ble_eq_true rfl) dMo_move_80 (fun H locs hP hD hS => ?_)
                  have hP : va_P (dC, dI) vwCl [(aR, .inr (7, [.int (nI 2), .int (nI mv), .ref ams, .ref ann, .int (nI n), .ref ak2, .ref af2, .ref as2, .ref ah2, .int (nI fc), .ref afa, .ref afx, .ref ald, .int (nI zz), .ref awy, .int lp, .ref alt, .ref abg, .int (wz_i tl)])), (ams, .inl (cI, 80, .inl (wz_n mn)))] H := hP
                  have hD : va_D A [(aR, .inr (7, [.int (nI 2), .int (nI mv), .ref ams, .ref ann, .int (nI n), .ref ak2, .ref af2, .ref as2, .ref ah2, .int (nI fc), .ref afa, .ref afx, .ref ald, .int (nI zz), .ref awy, .int lp, .ref alt, .ref abg, .int (wz_i tl)])), (ams, .inl (cI, 80, .inl (wz_n mn)))] := hD
                  refine lv_aload_n hx hb dMo_move_83 rfl (lv_at hl 1 rfl) ?_
                  refine va_get (D := (dC, dI)) (ci := 7) (v := .int (nI 2)) (C := RMo) (T := TMo) (N := 19) hx hb hw in_Mo hown hK hP 0 rfl rfl 0 (by decide) (hw _ w_500) (fun _ h9 => h9) rfl dMo_move_84 ?_
                  refine wz_ifN_eq (x := 2) (tgt := 92) hx hb (by omega) dMo_move_87 (by decide) (fun h87_9 => ?_) (fun h87_9 => ?_)
                  · skip
                    exact absurd h87_9 (by decide)
                  · skip
                    refine lv_iconst (v := nI 0) hx hb dMo_move_90 (by decide) ?_
                    exact wz_iret hx hb hr hlocks rfl hP hD hK hS dMo_move_91
              · skip
                exact absurd hbits h59_7
          · skip
            simp [ww_is_N han] at h39_5
set_option maxHeartbeats 4000000 in
set_option maxRecDepth 100000 in
theorem kMo_move_1 (l : Launch) (dC : Nat → ClassId) (dI : Nat → Nat → Nat) (cI cJ cZ : ClassId) (sz : Nat) (aR : Nat) (ams : Nat) (ann : Nat) (ak2 : Nat) (af2 : Nat) (as2 : Nat) (ah2 : Nat) (afa : Nat) (afx : Nat) (ald : Nat) (awy : Nat) (alt : Nat) (abg : Nat) (th : Nat) (mv : Nat) (n : Nat) (fc : Nat) (zz : Nat) (lp : Int32) (tl : Bool) (mn : Nat → Nat) (x1 : Int32) (x2 : Int32) (x3 : Int32) (x4 : Int32) (x5 : Int32) (hbad : (ww_is x1 && ww_is x2 && ww_is x3 && ww_is x4 && ww_is x5 && decide (x3 &&& x4 = 0)) = false) : Met l yMo_move (.code yMo_move cMo_move 7 (some .int) :: wz_all) ({ frames := 1, cells := 0, slots := 0, locals := 21 }) (wz_Pc (dC, dI) vwCl (wz_T cI cJ cZ) [.ref aR, .int x1, .int x2, .int x3, .int x4, .int x5] sz [(aR, .inr (7, [.int (nI th), .int (nI mv), .ref ams, .ref ann, .int (nI n), .ref ak2, .ref af2, .ref as2, .ref ah2, .int (nI fc), .ref afa, .ref afx, .ref ald, .int (nI zz), .ref awy, .int lp, .ref alt, .ref abg, .int (wz_i tl)])), (ams, .inl (cI, 80, .inl (wz_n mn)))]) (va_Qi (fun (r : Int32) (_ : Unit) => r = nI 0) (fun _ t => va_P (dC, dI) vwCl [(aR, .inr (7, [.int (nI 1), .int (nI mv), .ref ams, .ref ann, .int (nI n), .ref ak2, .ref af2, .ref as2, .ref ah2, .int (nI fc), .ref afa, .ref afx, .ref ald, .int (nI zz), .ref awy, .int lp, .ref alt, .ref abg, .int (wz_i tl)])), (ams, .inl (cI, 80, .inl (wz_n mn)))] t.heap ∧ va_K (dC, dI) vwCl (wz_T cI cJ cZ) t ∧ va_D (va_A [(aR, .inr (7, [.int (nI th), .int (nI mv), .ref ams, .ref ann, .int (nI n), .ref ak2, .ref af2, .ref as2, .ref ah2, .int (nI fc), .ref afa, .ref afx, .ref ald, .int (nI zz), .ref awy, .int lp, .ref alt, .ref abg, .int (wz_i tl)])), (ams, .inl (cI, 80, .inl (wz_n mn)))] sz) [(aR, .inr (7, [.int (nI 1), .int (nI mv), .ref ams, .ref ann, .int (nI n), .ref ak2, .ref af2, .ref as2, .ref ah2, .int (nI fc), .ref afa, .ref afx, .ref ald, .int (nI zz), .ref awy, .int lp, .ref alt, .ref abg, .int (wz_i tl)])), (ams, .inl (cI, 80, .inl (wz_n mn)))]) (va_A [(aR, .inr (7, [.int (nI th), .int (nI mv), .ref ams, .ref ann, .int (nI n), .ref ak2, .ref af2, .ref as2, .ref ah2, .int (nI fc), .ref afa, .ref afx, .ref ald, .int (nI zz), .ref awy, .int lp, .ref alt, .ref abg, .int (wz_i tl)])), (ams, .inl (cI, 80, .inl (wz_n mn)))] sz)) 0 0 (va_A [(aR, .inr (7, [.int (nI th), .int (nI mv), .ref ams, .ref ann, .int (nI n), .ref ak2, .ref af2, .ref as2, .ref ah2, .int (nI fc), .ref afa, .ref afx, .ref ald, .int (nI zz), .ref awy, .int lp, .ref alt, .ref abg, .int (wz_i tl)])), (ams, .inl (cI, 80, .inl (wz_n mn)))] sz) := by
  refine Met.ofW (cc := cMo_move) (maxL := 7) (ret := (some .int)) (by decide) rfl ?_
  intro p e s m args below meth c s₁ B hml hv
  obtain ⟨rfl, hsz, hP, hK, hD0, hN⟩ := hv
  have hx := B.exec
  have hb := B.bytes
  have hr := B.returns
  have hts := atoms_spec (ws := (.code yMo_move cMo_move 7 (some .int) :: wz_all)) B.pre
  have hw : ∀ w9 ∈ wz_all, w9.before [.ref aR, .int x1, .int x2, .int x3, .int x4, .int x5].toArray s = true := fun w9 h => hts w9 (List.mem_cons_of_mem _ h)
  have hown : s.vm.findClass RMo = some m.cls := findClass_of_methodNamed B.named
  have hlocks := B.notSynchronized
  subst hsz
  have hD := hD0.self (sz := s.heap.size)
  generalize hAe : va_A [(aR, .inr (7, [.int (nI th), .int (nI mv), .ref ams, .ref ann, .int (nI n), .ref ak2, .ref af2, .ref as2, .ref ah2, .int (nI fc), .ref afa, .ref afx, .ref ald, .int (nI zz), .ref awy, .int lp, .ref alt, .ref abg, .int (wz_i tl)])), (ams, .inl (cI, 80, .inl (wz_n mn)))] s.heap.size = A at hD ⊢
  have hA : ∀ q : Nat, s.heap.size ≤ q → A q := fun q h => by rw [← hAe]; exact Or.inr h
  have hS : va_S A s.heap s.heap [] := va_S.rf
  have hP : va_P (dC, dI) vwCl [(aR, .inr (7, [.int (nI th), .int (nI mv), .ref ams, .ref ann, .int (nI n), .ref ak2, .ref af2, .ref as2, .ref ah2, .int (nI fc), .ref afa, .ref afx, .ref ald, .int (nI zz), .ref awy, .int lp, .ref alt, .ref abg, .int (wz_i tl)])), (ams, .inl (cI, 80, .inl (wz_n mn)))] s.heap := hP
  have hl := lv_entry ([.ref aR, .int x1, .int x2, .int x3, .int x4, .int x5]) (n := 7) (Nat.le_of_ble_eq_true rfl)
  rw [lg_entry_eq]
  generalize (lg_sl ([.ref aR, .int x1, .int x2, .int x3, .int x4, .int x5]) ++ List.replicate (7 - (lg_sl ([.ref aR, .int x1, .int x2, .int x3, .int x4, .int x5])).length) Slot.unset).toArray = ls at hl ⊢
  have hl : lv_has ls 7 [(0, .ref aR), (1, .int x1), (2, .int x2), (3, .int x3), (4, .int x4), (5, .int x5)] := hl
  refine lv_aload_n hx hb dMo_move_0 rfl (lv_at hl 0 rfl) ?_
  refine lv_iload_n hx hb dMo_move_1 rfl (lv_at hl 1 rfl) ?_
  refine wz_calli (wc := [(aR, .inr (7, [.int (nI th), .int (nI mv), .ref ams, .ref ann, .int (nI n), .ref ak2, .ref af2, .ref as2, .ref ah2, .int (nI fc), .ref afa, .ref afx, .ref ald, .int (nI zz), .ref awy, .int lp, .ref alt, .ref abg, .int (wz_i tl)]))]) (wr := [(ams, .inl (cI, 80, .inl (wz_n mn)))]) (w1 := [(aR, .inr (7, [.int (nI th), .int (nI mv), .ref ams, .ref ann, .int (nI n), .ref ak2, .ref af2, .ref as2, .ref ah2, .int (nI fc), .ref afa, .ref afx, .ref ald, .int (nI zz), .ref awy, .int lp, .ref alt, .ref abg, .int (wz_i tl)]))]) (ws' := [(aR, .inr (7, [.int (nI th), .int (nI mv), .ref ams, .ref ann, .int (nI n), .ref ak2, .ref af2, .ref as2, .ref ah2, .int (nI fc), .ref afa, .ref afx, .ref ald, .int (nI zz), .ref awy, .int lp, .ref alt, .ref abg, .int (wz_i tl)])), (ams, .inl (cI, 80, .inl (wz_n mn)))]) hP hD hS hA [0] [1] [1, 0] rfl rfl (by decide) (by decide) (by decide) rfl rfl (va_runV (As := [.int x1]) (rest := []) ⟨hx, hb, hml, hown, hts⟩ (kMo_noMask l dC dI cI cJ cZ s.heap.size aR ams ann ak2 af2 as2 ah2 afa afx ald awy alt abg th mv n fc zz lp tl x1) (cwV 1 hts (wz_gV w_566 w_567 w_9 w_41 w_568) rfl rfl rfl (by decide +kernel) ⟨Nat.le_of_ble_eq_true rfl, Nat.le_of_ble_eq_true rfl⟩) (wz_preV (q := (RMo, TMo, 19)) (ci := 7) hN hK hP hD [0] (by decide) rfl rfl 0 rfl rfl) rfl rfl hl.1 rfl (lv_room (Nat.le_of_ble_eq_true rfl)) dMo_move_2 ⟨Nat.le_refl _, Nat.le_refl _⟩) (fun H locs hP hD hS => ?_)
  refine wz_ifnz (tgt := 42) hx hb dMo_move_5 (by decide) (fun h5_1 => ?_) (fun h5_1 => ?_)
  · skip
    refine lv_iconst (v := nI 1) hx hb dMo_move_42 (by decide) ?_
    refine lv_goto (tgt := 47) hx hb dMo_move_43 (by decide) ?_
    refine lv_istore (lv' := [(6, .int (nI 1)), (0, .ref aR), (1, .int x1), (2, .int x2), (3, .int x3), (4, .int x4), (5, .int x5)]) hx hb dMo_move_47 hl (by decide) rfl (fun ls hl => ?_)
    refine lv_aload_n hx hb dMo_move_49 rfl (lv_at hl 1 rfl) ?_
    refine lv_iload hx hb dMo_move_50 (lv_at hl 0 rfl) ?_
    refine wz_ifN_ne (x := 1) (tgt := 62) hx hb (by omega) dMo_move_52 (by decide) (fun h52_2 => ?_) (fun h52_2 => ?_)
    · skip
      refine lv_iconst (v := nI 1) hx hb dMo_move_62 (by decide) ?_
      refine lv_goto (tgt := 80) hx hb dMo_move_63 (by decide) ?_
      refine va_put (D := (dC, dI)) (ci := 7) (v := .int (nI 1)) (ty := .int) (C := RMo) (T := TMo) (N := 19) hx hb hw in_Mo tyMo tyMo_ok nmMo hown hK hP hD hS 0 rfl rfl 0 (by decide) (hw _ w_500) (fun _ h9 => h9) rfl (by decide +kernel) rfl rfl (Nat.le_of_ble_eq_true rfl) dMo_move_80 (fun H locs hP hD hS => ?_)
      have hP : va_P (dC, dI) vwCl [(aR, .inr (7, [.int (nI 1), .int (nI mv), .ref ams, .ref ann, .int (nI n), .ref ak2, .ref af2, .ref as2, .ref ah2, .int (nI fc), .ref afa, .ref afx, .ref ald, .int (nI zz), .ref awy, .int lp, .ref alt, .ref abg, .int (wz_i tl)])), (ams, .inl (cI, 80, .inl (wz_n mn)))] H := hP
      have hD : va_D A [(aR, .inr (7, [.int (nI 1), .int (nI mv), .ref ams, .ref ann, .int (nI n), .ref ak2, .ref af2, .ref as2, .ref ah2, .int (nI fc), .ref afa, .ref afx, .ref ald, .int (nI zz), .ref awy, .int lp, .ref alt, .ref abg, .int (wz_i tl)])), (ams, .inl (cI, 80, .inl (wz_n mn)))] := hD
      refine lv_aload_n hx hb dMo_move_83 rfl (lv_at hl 1 rfl) ?_
      refine va_get (D := (dC, dI)) (ci := 7) (v := .int (nI 1)) (C := RMo) (T := TMo) (N := 19) hx hb hw in_Mo hown hK hP 0 rfl rfl 0 (by decide) (hw _ w_500) (fun _ h9 => h9) rfl dMo_move_84 ?_
      refine wz_ifN_eq (x := 1) (tgt := 92) hx hb (by omega) dMo_move_87 (by decide) (fun h87_3 => ?_) (fun h87_3 => ?_)
      · skip
        exact absurd h87_3 (by decide)
      · skip
        refine lv_iconst (v := nI 0) hx hb dMo_move_90 (by decide) ?_
        exact wz_iret hx hb hr hlocks rfl hP hD hK hS dMo_move_91
    · skip
      exact absurd h52_2 (by decide)
  · skip
    refine lv_aload_n hx hb dMo_move_8 rfl (lv_at hl 0 rfl) ?_
    refine lv_iload_n hx hb dMo_move_9 rfl (lv_at hl 2 rfl) ?_
    refine wz_calli (wc := [(aR, .inr (7, [.int (nI th), .int (nI mv), .ref ams, .ref ann, .int (nI n), .ref ak2, .ref af2, .ref as2, .ref ah2, .int (nI fc), .ref afa, .ref afx, .ref ald, .int (nI zz), .ref awy, .int lp, .ref alt, .ref abg, .int (wz_i tl)]))]) (wr := [(ams, .inl (cI, 80, .inl (wz_n mn)))]) (w1 := [(aR, .inr (7, [.int (nI th), .int (nI mv), .ref ams, .ref ann, .int (nI n), .ref ak2, .ref af2, .ref as2, .ref ah2, .int (nI fc), .ref afa, .ref afx, .ref ald, .int (nI zz), .ref awy, .int lp, .ref alt, .ref abg, .int (wz_i tl)]))]) (ws' := [(aR, .inr (7, [.int (nI th), .int (nI mv), .ref ams, .ref ann, .int (nI n), .ref ak2, .ref af2, .ref as2, .ref ah2, .int (nI fc), .ref afa, .ref afx, .ref ald, .int (nI zz), .ref awy, .int lp, .ref alt, .ref abg, .int (wz_i tl)])), (ams, .inl (cI, 80, .inl (wz_n mn)))]) hP hD hS hA [0] [1] [1, 0] rfl rfl (by decide) (by decide) (by decide) rfl rfl (va_runV (As := [.int x2]) (rest := []) ⟨hx, hb, hml, hown, hts⟩ (kMo_noMask l dC dI cI cJ cZ H.size aR ams ann ak2 af2 as2 ah2 afa afx ald awy alt abg th mv n fc zz lp tl x2) (cwV 1 hts (wz_gV w_566 w_567 w_9 w_41 w_568) rfl rfl rfl (by decide +kernel) ⟨Nat.le_of_ble_eq_true rfl, Nat.le_of_ble_eq_true rfl⟩) (wz_preV (q := (RMo, TMo, 19)) (ci := 7) hN hK hP hD [0] (by decide) rfl rfl 0 rfl rfl) rfl rfl hl.1 rfl (lv_room (Nat.le_of_ble_eq_true rfl)) dMo_move_10 ⟨Nat.le_refl _, Nat.le_refl _⟩) (fun H locs hP hD hS => ?_)
    refine wz_ifnz (tgt := 42) hx hb dMo_move_13 (by decide) (fun h13_4 => ?_) (fun h13_4 => ?_)
    · skip
      refine lv_iconst (v := nI 1) hx hb dMo_move_42 (by decide) ?_
      refine lv_goto (tgt := 47) hx hb dMo_move_43 (by decide) ?_
      refine lv_istore (lv' := [(6, .int (nI 1)), (0, .ref aR), (1, .int x1), (2, .int x2), (3, .int x3), (4, .int x4), (5, .int x5)]) hx hb dMo_move_47 hl (by decide) rfl (fun ls hl => ?_)
      refine lv_aload_n hx hb dMo_move_49 rfl (lv_at hl 1 rfl) ?_
      refine lv_iload hx hb dMo_move_50 (lv_at hl 0 rfl) ?_
      refine wz_ifN_ne (x := 1) (tgt := 62) hx hb (by omega) dMo_move_52 (by decide) (fun h52_5 => ?_) (fun h52_5 => ?_)
      · skip
        refine lv_iconst (v := nI 1) hx hb dMo_move_62 (by decide) ?_
        refine lv_goto (tgt := 80) hx hb dMo_move_63 (by decide) ?_
        refine va_put (D := (dC, dI)) (ci := 7) (v := .int (nI 1)) (ty := .int) (C := RMo) (T := TMo) (N := 19) hx hb hw in_Mo tyMo tyMo_ok nmMo hown hK hP hD hS 0 rfl rfl 0 (by decide) (hw _ w_500) (fun _ h9 => h9) rfl (by decide +kernel) rfl rfl (Nat.le_of_ble_eq_true rfl) dMo_move_80 (fun H locs hP hD hS => ?_)
        have hP : va_P (dC, dI) vwCl [(aR, .inr (7, [.int (nI 1), .int (nI mv), .ref ams, .ref ann, .int (nI n), .ref ak2, .ref af2, .ref as2, .ref ah2, .int (nI fc), .ref afa, .ref afx, .ref ald, .int (nI zz), .ref awy, .int lp, .ref alt, .ref abg, .int (wz_i tl)])), (ams, .inl (cI, 80, .inl (wz_n mn)))] H := hP
        have hD : va_D A [(aR, .inr (7, [.int (nI 1), .int (nI mv), .ref ams, .ref ann, .int (nI n), .ref ak2, .ref af2, .ref as2, .ref ah2, .int (nI fc), .ref afa, .ref afx, .ref ald, .int (nI zz), .ref awy, .int lp, .ref alt, .ref abg, .int (wz_i tl)])), (ams, .inl (cI, 80, .inl (wz_n mn)))] := hD
        refine lv_aload_n hx hb dMo_move_83 rfl (lv_at hl 1 rfl) ?_
        refine va_get (D := (dC, dI)) (ci := 7) (v := .int (nI 1)) (C := RMo) (T := TMo) (N := 19) hx hb hw in_Mo hown hK hP 0 rfl rfl 0 (by decide) (hw _ w_500) (fun _ h9 => h9) rfl dMo_move_84 ?_
        refine wz_ifN_eq (x := 1) (tgt := 92) hx hb (by omega) dMo_move_87 (by decide) (fun h87_6 => ?_) (fun h87_6 => ?_)
        · skip
          exact absurd h87_6 (by decide)
        · skip
          refine lv_iconst (v := nI 0) hx hb dMo_move_90 (by decide) ?_
          exact wz_iret hx hb hr hlocks rfl hP hD hK hS dMo_move_91
      · skip
        exact absurd h52_5 (by decide)
    · skip
      refine lv_aload_n hx hb dMo_move_16 rfl (lv_at hl 0 rfl) ?_
      refine lv_iload_n hx hb dMo_move_17 rfl (lv_at hl 3 rfl) ?_
      refine wz_calli (wc := [(aR, .inr (7, [.int (nI th), .int (nI mv), .ref ams, .ref ann, .int (nI n), .ref ak2, .ref af2, .ref as2, .ref ah2, .int (nI fc), .ref afa, .ref afx, .ref ald, .int (nI zz), .ref awy, .int lp, .ref alt, .ref abg, .int (wz_i tl)]))]) (wr := [(ams, .inl (cI, 80, .inl (wz_n mn)))]) (w1 := [(aR, .inr (7, [.int (nI th), .int (nI mv), .ref ams, .ref ann, .int (nI n), .ref ak2, .ref af2, .ref as2, .ref ah2, .int (nI fc), .ref afa, .ref afx, .ref ald, .int (nI zz), .ref awy, .int lp, .ref alt, .ref abg, .int (wz_i tl)]))]) (ws' := [(aR, .inr (7, [.int (nI th), .int (nI mv), .ref ams, .ref ann, .int (nI n), .ref ak2, .ref af2, .ref as2, .ref ah2, .int (nI fc), .ref afa, .ref afx, .ref ald, .int (nI zz), .ref awy, .int lp, .ref alt, .ref abg, .int (wz_i tl)])), (ams, .inl (cI, 80, .inl (wz_n mn)))]) hP hD hS hA [0] [1] [1, 0] rfl rfl (by decide) (by decide) (by decide) rfl rfl (va_runV (As := [.int x3]) (rest := []) ⟨hx, hb, hml, hown, hts⟩ (kMo_noMask l dC dI cI cJ cZ H.size aR ams ann ak2 af2 as2 ah2 afa afx ald awy alt abg th mv n fc zz lp tl x3) (cwV 1 hts (wz_gV w_566 w_567 w_9 w_41 w_568) rfl rfl rfl (by decide +kernel) ⟨Nat.le_of_ble_eq_true rfl, Nat.le_of_ble_eq_true rfl⟩) (wz_preV (q := (RMo, TMo, 19)) (ci := 7) hN hK hP hD [0] (by decide) rfl rfl 0 rfl rfl) rfl rfl hl.1 rfl (lv_room (Nat.le_of_ble_eq_true rfl)) dMo_move_18 ⟨Nat.le_refl _, Nat.le_refl _⟩) (fun H locs hP hD hS => ?_)
      refine wz_ifnz (tgt := 42) hx hb dMo_move_21 (by decide) (fun h21_7 => ?_) (fun h21_7 => ?_)
      · skip
        refine lv_iconst (v := nI 1) hx hb dMo_move_42 (by decide) ?_
        refine lv_goto (tgt := 47) hx hb dMo_move_43 (by decide) ?_
        refine lv_istore (lv' := [(6, .int (nI 1)), (0, .ref aR), (1, .int x1), (2, .int x2), (3, .int x3), (4, .int x4), (5, .int x5)]) hx hb dMo_move_47 hl (by decide) rfl (fun ls hl => ?_)
        refine lv_aload_n hx hb dMo_move_49 rfl (lv_at hl 1 rfl) ?_
        refine lv_iload hx hb dMo_move_50 (lv_at hl 0 rfl) ?_
        refine wz_ifN_ne (x := 1) (tgt := 62) hx hb (by omega) dMo_move_52 (by decide) (fun h52_8 => ?_) (fun h52_8 => ?_)
        · skip
          refine lv_iconst (v := nI 1) hx hb dMo_move_62 (by decide) ?_
          refine lv_goto (tgt := 80) hx hb dMo_move_63 (by decide) ?_
          refine va_put (D := (dC, dI)) (ci := 7) (v := .int (nI 1)) (ty := .int) (C := RMo) (T := TMo) (N := 19) hx hb hw in_Mo tyMo tyMo_ok nmMo hown hK hP hD hS 0 rfl rfl 0 (by decide) (hw _ w_500) (fun _ h9 => h9) rfl (by decide +kernel) rfl rfl (Nat.le_of_ble_eq_true rfl) dMo_move_80 (fun H locs hP hD hS => ?_)
          have hP : va_P (dC, dI) vwCl [(aR, .inr (7, [.int (nI 1), .int (nI mv), .ref ams, .ref ann, .int (nI n), .ref ak2, .ref af2, .ref as2, .ref ah2, .int (nI fc), .ref afa, .ref afx, .ref ald, .int (nI zz), .ref awy, .int lp, .ref alt, .ref abg, .int (wz_i tl)])), (ams, .inl (cI, 80, .inl (wz_n mn)))] H := hP
          have hD : va_D A [(aR, .inr (7, [.int (nI 1), .int (nI mv), .ref ams, .ref ann, .int (nI n), .ref ak2, .ref af2, .ref as2, .ref ah2, .int (nI fc), .ref afa, .ref afx, .ref ald, .int (nI zz), .ref awy, .int lp, .ref alt, .ref abg, .int (wz_i tl)])), (ams, .inl (cI, 80, .inl (wz_n mn)))] := hD
          refine lv_aload_n hx hb dMo_move_83 rfl (lv_at hl 1 rfl) ?_
          refine va_get (D := (dC, dI)) (ci := 7) (v := .int (nI 1)) (C := RMo) (T := TMo) (N := 19) hx hb hw in_Mo hown hK hP 0 rfl rfl 0 (by decide) (hw _ w_500) (fun _ h9 => h9) rfl dMo_move_84 ?_
          refine wz_ifN_eq (x := 1) (tgt := 92) hx hb (by omega) dMo_move_87 (by decide) (fun h87_9 => ?_) (fun h87_9 => ?_)
          · skip
            exact absurd h87_9 (by decide)
          · skip
            refine lv_iconst (v := nI 0) hx hb dMo_move_90 (by decide) ?_
            exact wz_iret hx hb hr hlocks rfl hP hD hK hS dMo_move_91
        · skip
          exact absurd h52_8 (by decide)
      · skip
        refine lv_aload_n hx hb dMo_move_24 rfl (lv_at hl 0 rfl) ?_
        refine lv_iload hx hb dMo_move_25 (lv_at hl 4 rfl) ?_
        refine wz_calli (wc := [(aR, .inr (7, [.int (nI th), .int (nI mv), .ref ams, .ref ann, .int (nI n), .ref ak2, .ref af2, .ref as2, .ref ah2, .int (nI fc), .ref afa, .ref afx, .ref ald, .int (nI zz), .ref awy, .int lp, .ref alt, .ref abg, .int (wz_i tl)]))]) (wr := [(ams, .inl (cI, 80, .inl (wz_n mn)))]) (w1 := [(aR, .inr (7, [.int (nI th), .int (nI mv), .ref ams, .ref ann, .int (nI n), .ref ak2, .ref af2, .ref as2, .ref ah2, .int (nI fc), .ref afa, .ref afx, .ref ald, .int (nI zz), .ref awy, .int lp, .ref alt, .ref abg, .int (wz_i tl)]))]) (ws' := [(aR, .inr (7, [.int (nI th), .int (nI mv), .ref ams, .ref ann, .int (nI n), .ref ak2, .ref af2, .ref as2, .ref ah2, .int (nI fc), .ref afa, .ref afx, .ref ald, .int (nI zz), .ref awy, .int lp, .ref alt, .ref abg, .int (wz_i tl)])), (ams, .inl (cI, 80, .inl (wz_n mn)))]) hP hD hS hA [0] [1] [1, 0] rfl rfl (by decide) (by decide) (by decide) rfl rfl (va_runV (As := [.int x4]) (rest := []) ⟨hx, hb, hml, hown, hts⟩ (kMo_noMask l dC dI cI cJ cZ H.size aR ams ann ak2 af2 as2 ah2 afa afx ald awy alt abg th mv n fc zz lp tl x4) (cwV 1 hts (wz_gV w_566 w_567 w_9 w_41 w_568) rfl rfl rfl (by decide +kernel) ⟨Nat.le_of_ble_eq_true rfl, Nat.le_of_ble_eq_true rfl⟩) (wz_preV (q := (RMo, TMo, 19)) (ci := 7) hN hK hP hD [0] (by decide) rfl rfl 0 rfl rfl) rfl rfl hl.1 rfl (lv_room (Nat.le_of_ble_eq_true rfl)) dMo_move_27 ⟨Nat.le_refl _, Nat.le_refl _⟩) (fun H locs hP hD hS => ?_)
        refine wz_ifnz (tgt := 42) hx hb dMo_move_30 (by decide) (fun h30_10 => ?_) (fun h30_10 => ?_)
        · skip
          refine lv_iconst (v := nI 1) hx hb dMo_move_42 (by decide) ?_
          refine lv_goto (tgt := 47) hx hb dMo_move_43 (by decide) ?_
          refine lv_istore (lv' := [(6, .int (nI 1)), (0, .ref aR), (1, .int x1), (2, .int x2), (3, .int x3), (4, .int x4), (5, .int x5)]) hx hb dMo_move_47 hl (by decide) rfl (fun ls hl => ?_)
          refine lv_aload_n hx hb dMo_move_49 rfl (lv_at hl 1 rfl) ?_
          refine lv_iload hx hb dMo_move_50 (lv_at hl 0 rfl) ?_
          refine wz_ifN_ne (x := 1) (tgt := 62) hx hb (by omega) dMo_move_52 (by decide) (fun h52_11 => ?_) (fun h52_11 => ?_)
          · skip
            refine lv_iconst (v := nI 1) hx hb dMo_move_62 (by decide) ?_
            refine lv_goto (tgt := 80) hx hb dMo_move_63 (by decide) ?_
            refine va_put (D := (dC, dI)) (ci := 7) (v := .int (nI 1)) (ty := .int) (C := RMo) (T := TMo) (N := 19) hx hb hw in_Mo tyMo tyMo_ok nmMo hown hK hP hD hS 0 rfl rfl 0 (by decide) (hw _ w_500) (fun _ h9 => h9) rfl (by decide +kernel) rfl rfl (Nat.le_of_ble_eq_true rfl) dMo_move_80 (fun H locs hP hD hS => ?_)
            have hP : va_P (dC, dI) vwCl [(aR, .inr (7, [.int (nI 1), .int (nI mv), .ref ams, .ref ann, .int (nI n), .ref ak2, .ref af2, .ref as2, .ref ah2, .int (nI fc), .ref afa, .ref afx, .ref ald, .int (nI zz), .ref awy, .int lp, .ref alt, .ref abg, .int (wz_i tl)])), (ams, .inl (cI, 80, .inl (wz_n mn)))] H := hP
            have hD : va_D A [(aR, .inr (7, [.int (nI 1), .int (nI mv), .ref ams, .ref ann, .int (nI n), .ref ak2, .ref af2, .ref as2, .ref ah2, .int (nI fc), .ref afa, .ref afx, .ref ald, .int (nI zz), .ref awy, .int lp, .ref alt, .ref abg, .int (wz_i tl)])), (ams, .inl (cI, 80, .inl (wz_n mn)))] := hD
            refine lv_aload_n hx hb dMo_move_83 rfl (lv_at hl 1 rfl) ?_
            refine va_get (D := (dC, dI)) (ci := 7) (v := .int (nI 1)) (C := RMo) (T := TMo) (N := 19) hx hb hw in_Mo hown hK hP 0 rfl rfl 0 (by decide) (hw _ w_500) (fun _ h9 => h9) rfl dMo_move_84 ?_
            refine wz_ifN_eq (x := 1) (tgt := 92) hx hb (by omega) dMo_move_87 (by decide) (fun h87_12 => ?_) (fun h87_12 => ?_)
            · skip
              exact absurd h87_12 (by decide)
            · skip
              refine lv_iconst (v := nI 0) hx hb dMo_move_90 (by decide) ?_
              exact wz_iret hx hb hr hlocks rfl hP hD hK hS dMo_move_91
          · skip
            exact absurd h52_11 (by decide)
        · skip
          refine lv_aload_n hx hb dMo_move_33 rfl (lv_at hl 0 rfl) ?_
          refine lv_iload hx hb dMo_move_34 (lv_at hl 5 rfl) ?_
          refine wz_calli (wc := [(aR, .inr (7, [.int (nI th), .int (nI mv), .ref ams, .ref ann, .int (nI n), .ref ak2, .ref af2, .ref as2, .ref ah2, .int (nI fc), .ref afa, .ref afx, .ref ald, .int (nI zz), .ref awy, .int lp, .ref alt, .ref abg, .int (wz_i tl)]))]) (wr := [(ams, .inl (cI, 80, .inl (wz_n mn)))]) (w1 := [(aR, .inr (7, [.int (nI th), .int (nI mv), .ref ams, .ref ann, .int (nI n), .ref ak2, .ref af2, .ref as2, .ref ah2, .int (nI fc), .ref afa, .ref afx, .ref ald, .int (nI zz), .ref awy, .int lp, .ref alt, .ref abg, .int (wz_i tl)]))]) (ws' := [(aR, .inr (7, [.int (nI th), .int (nI mv), .ref ams, .ref ann, .int (nI n), .ref ak2, .ref af2, .ref as2, .ref ah2, .int (nI fc), .ref afa, .ref afx, .ref ald, .int (nI zz), .ref awy, .int lp, .ref alt, .ref abg, .int (wz_i tl)])), (ams, .inl (cI, 80, .inl (wz_n mn)))]) hP hD hS hA [0] [1] [1, 0] rfl rfl (by decide) (by decide) (by decide) rfl rfl (va_runV (As := [.int x5]) (rest := []) ⟨hx, hb, hml, hown, hts⟩ (kMo_noMask l dC dI cI cJ cZ H.size aR ams ann ak2 af2 as2 ah2 afa afx ald awy alt abg th mv n fc zz lp tl x5) (cwV 1 hts (wz_gV w_566 w_567 w_9 w_41 w_568) rfl rfl rfl (by decide +kernel) ⟨Nat.le_of_ble_eq_true rfl, Nat.le_of_ble_eq_true rfl⟩) (wz_preV (q := (RMo, TMo, 19)) (ci := 7) hN hK hP hD [0] (by decide) rfl rfl 0 rfl rfl) rfl rfl hl.1 rfl (lv_room (Nat.le_of_ble_eq_true rfl)) dMo_move_36 ⟨Nat.le_refl _, Nat.le_refl _⟩) (fun H locs hP hD hS => ?_)
          refine wz_ifz (tgt := 46) hx hb dMo_move_39 (by decide) (fun h39_13 => ?_) (fun h39_13 => ?_)
          · skip
            refine lv_iconst (v := nI 0) hx hb dMo_move_46 (by decide) ?_
            refine lv_istore (lv' := [(6, .int (nI 0)), (0, .ref aR), (1, .int x1), (2, .int x2), (3, .int x3), (4, .int x4), (5, .int x5)]) hx hb dMo_move_47 hl (by decide) rfl (fun ls hl => ?_)
            refine lv_aload_n hx hb dMo_move_49 rfl (lv_at hl 1 rfl) ?_
            refine lv_iload hx hb dMo_move_50 (lv_at hl 0 rfl) ?_
            refine wz_ifN_ne (x := 0) (tgt := 62) hx hb (by omega) dMo_move_52 (by decide) (fun h52_14 => ?_) (fun h52_14 => ?_)
            · skip
              exact absurd h52_14 (by decide)
            · skip
              refine lv_iload_n hx hb dMo_move_55 rfl (lv_at hl 4 rfl) ?_
              refine lv_iload hx hb dMo_move_56 (lv_at hl 5 rfl) ?_
              refine lv_iand hx hb dMo_move_58 ?_
              refine lv_if_eq (tgt := 66) hx hb dMo_move_59 (by decide) (fun h59_15 => ?_) (fun h59_15 => ?_)
              · skip
                exact absurd hbad (by rw [ww_nb' h5_1, ww_nb' h13_4, ww_nb' h21_7, ww_nb' h30_10, ww_nb' h39_13, decide_eq_true h59_15]; decide)
              · skip
                refine lv_iconst (v := nI 1) hx hb dMo_move_62 (by decide) ?_
                refine lv_goto (tgt := 80) hx hb dMo_move_63 (by decide) ?_
                refine va_put (D := (dC, dI)) (ci := 7) (v := .int (nI 1)) (ty := .int) (C := RMo) (T := TMo) (N := 19) hx hb hw in_Mo tyMo tyMo_ok nmMo hown hK hP hD hS 0 rfl rfl 0 (by decide) (hw _ w_500) (fun _ h9 => h9) rfl (by decide +kernel) rfl rfl (Nat.le_of_ble_eq_true rfl) dMo_move_80 (fun H locs hP hD hS => ?_)
                have hP : va_P (dC, dI) vwCl [(aR, .inr (7, [.int (nI 1), .int (nI mv), .ref ams, .ref ann, .int (nI n), .ref ak2, .ref af2, .ref as2, .ref ah2, .int (nI fc), .ref afa, .ref afx, .ref ald, .int (nI zz), .ref awy, .int lp, .ref alt, .ref abg, .int (wz_i tl)])), (ams, .inl (cI, 80, .inl (wz_n mn)))] H := hP
                have hD : va_D A [(aR, .inr (7, [.int (nI 1), .int (nI mv), .ref ams, .ref ann, .int (nI n), .ref ak2, .ref af2, .ref as2, .ref ah2, .int (nI fc), .ref afa, .ref afx, .ref ald, .int (nI zz), .ref awy, .int lp, .ref alt, .ref abg, .int (wz_i tl)])), (ams, .inl (cI, 80, .inl (wz_n mn)))] := hD
                refine lv_aload_n hx hb dMo_move_83 rfl (lv_at hl 1 rfl) ?_
                refine va_get (D := (dC, dI)) (ci := 7) (v := .int (nI 1)) (C := RMo) (T := TMo) (N := 19) hx hb hw in_Mo hown hK hP 0 rfl rfl 0 (by decide) (hw _ w_500) (fun _ h9 => h9) rfl dMo_move_84 ?_
                refine wz_ifN_eq (x := 1) (tgt := 92) hx hb (by omega) dMo_move_87 (by decide) (fun h87_16 => ?_) (fun h87_16 => ?_)
                · skip
                  exact absurd h87_16 (by decide)
                · skip
                  refine lv_iconst (v := nI 0) hx hb dMo_move_90 (by decide) ?_
                  exact wz_iret hx hb hr hlocks rfl hP hD hK hS dMo_move_91
          · skip
            refine lv_iconst (v := nI 1) hx hb dMo_move_42 (by decide) ?_
            refine lv_goto (tgt := 47) hx hb dMo_move_43 (by decide) ?_
            refine lv_istore (lv' := [(6, .int (nI 1)), (0, .ref aR), (1, .int x1), (2, .int x2), (3, .int x3), (4, .int x4), (5, .int x5)]) hx hb dMo_move_47 hl (by decide) rfl (fun ls hl => ?_)
            refine lv_aload_n hx hb dMo_move_49 rfl (lv_at hl 1 rfl) ?_
            refine lv_iload hx hb dMo_move_50 (lv_at hl 0 rfl) ?_
            refine wz_ifN_ne (x := 1) (tgt := 62) hx hb (by omega) dMo_move_52 (by decide) (fun h52_17 => ?_) (fun h52_17 => ?_)
            · skip
              refine lv_iconst (v := nI 1) hx hb dMo_move_62 (by decide) ?_
              refine lv_goto (tgt := 80) hx hb dMo_move_63 (by decide) ?_
              refine va_put (D := (dC, dI)) (ci := 7) (v := .int (nI 1)) (ty := .int) (C := RMo) (T := TMo) (N := 19) hx hb hw in_Mo tyMo tyMo_ok nmMo hown hK hP hD hS 0 rfl rfl 0 (by decide) (hw _ w_500) (fun _ h9 => h9) rfl (by decide +kernel) rfl rfl (Nat.le_of_ble_eq_true rfl) dMo_move_80 (fun H locs hP hD hS => ?_)
              have hP : va_P (dC, dI) vwCl [(aR, .inr (7, [.int (nI 1), .int (nI mv), .ref ams, .ref ann, .int (nI n), .ref ak2, .ref af2, .ref as2, .ref ah2, .int (nI fc), .ref afa, .ref afx, .ref ald, .int (nI zz), .ref awy, .int lp, .ref alt, .ref abg, .int (wz_i tl)])), (ams, .inl (cI, 80, .inl (wz_n mn)))] H := hP
              have hD : va_D A [(aR, .inr (7, [.int (nI 1), .int (nI mv), .ref ams, .ref ann, .int (nI n), .ref ak2, .ref af2, .ref as2, .ref ah2, .int (nI fc), .ref afa, .ref afx, .ref ald, .int (nI zz), .ref awy, .int lp, .ref alt, .ref abg, .int (wz_i tl)])), (ams, .inl (cI, 80, .inl (wz_n mn)))] := hD
              refine lv_aload_n hx hb dMo_move_83 rfl (lv_at hl 1 rfl) ?_
              refine va_get (D := (dC, dI)) (ci := 7) (v := .int (nI 1)) (C := RMo) (T := TMo) (N := 19) hx hb hw in_Mo hown hK hP 0 rfl rfl 0 (by decide) (hw _ w_500) (fun _ h9 => h9) rfl dMo_move_84 ?_
              refine wz_ifN_eq (x := 1) (tgt := 92) hx hb (by omega) dMo_move_87 (by decide) (fun h87_18 => ?_) (fun h87_18 => ?_)
              · skip
                exact absurd h87_18 (by decide)
              · skip
                refine lv_iconst (v := nI 0) hx hb dMo_move_90 (by decide) ?_
                exact wz_iret hx hb hr hlocks rfl hP hD hK hS dMo_move_91
            · skip
              exact absurd h52_17 (by decide)
set_option maxHeartbeats 4000000 in
set_option maxRecDepth 100000 in
theorem kMo_formula_0 (l : Launch) (dC : Nat → ClassId) (dI : Nat → Nat → Nat) (cI cJ cZ : ClassId) (sz : Nat) (aR : Nat) (ams : Nat) (ann : Nat) (ak2 : Nat) (af2 : Nat) (as2 : Nat) (ah2 : Nat) (afa : Nat) (afx : Nat) (ald : Nat) (awy : Nat) (alt : Nat) (abg : Nat) (th : Nat) (mv : Nat) (n : Nat) (fc : Nat) (zz : Nat) (lp : Int32) (tl : Bool) (kn : Nat → Nat) (f2 : Nat → Int32) (s2 : Nat → Int32) (k : Nat) (y : Int32) (z : Int32) (hk : k ≤ 12) (hcb : ww_cb n (nI k) y z = true) (hn32 : n < 32) : Met l yMo_formula (.code yMo_formula cMo_formula 5 (some .int) :: wz_all) ({ frames := 1, cells := 0, slots := 0, locals := 21 }) (wz_Pc (dC, dI) vwCl (wz_T cI cJ cZ) [.ref aR, .int (nI k), .int y, .int z] sz [(aR, .inr (7, [.int (nI th), .int (nI mv), .ref ams, .ref ann, .int (nI n), .ref ak2, .ref af2, .ref as2, .ref ah2, .int (nI fc), .ref afa, .ref afx, .ref ald, .int (nI zz), .ref awy, .int lp, .ref alt, .ref abg, .int (wz_i tl)])), (ak2, .inl (cI, 32, .inl (wz_n kn))), (af2, .inl (cI, 32, .inl f2)), (as2, .inl (cI, 32, .inl s2))]) (va_Qi (fun (r : Int32) (_ : Unit) => r = nI n) (fun _ t => va_P (dC, dI) vwCl [(aR, .inr (7, [.int (nI 0), .int (nI mv), .ref ams, .ref ann, .int (nI (n + 1)), .ref ak2, .ref af2, .ref as2, .ref ah2, .int (nI fc), .ref afa, .ref afx, .ref ald, .int (nI zz), .ref awy, .int lp, .ref alt, .ref abg, .int (wz_i tl)])), (ak2, .inl (cI, 32, .inl (wz_n (wz_un kn n k)))), (af2, .inl (cI, 32, .inl (upd f2 n y))), (as2, .inl (cI, 32, .inl (upd s2 n z)))] t.heap ∧ va_K (dC, dI) vwCl (wz_T cI cJ cZ) t ∧ va_D (va_A [(aR, .inr (7, [.int (nI th), .int (nI mv), .ref ams, .ref ann, .int (nI n), .ref ak2, .ref af2, .ref as2, .ref ah2, .int (nI fc), .ref afa, .ref afx, .ref ald, .int (nI zz), .ref awy, .int lp, .ref alt, .ref abg, .int (wz_i tl)])), (ak2, .inl (cI, 32, .inl (wz_n kn))), (af2, .inl (cI, 32, .inl f2)), (as2, .inl (cI, 32, .inl s2))] sz) [(aR, .inr (7, [.int (nI 0), .int (nI mv), .ref ams, .ref ann, .int (nI (n + 1)), .ref ak2, .ref af2, .ref as2, .ref ah2, .int (nI fc), .ref afa, .ref afx, .ref ald, .int (nI zz), .ref awy, .int lp, .ref alt, .ref abg, .int (wz_i tl)])), (ak2, .inl (cI, 32, .inl (wz_n (wz_un kn n k)))), (af2, .inl (cI, 32, .inl (upd f2 n y))), (as2, .inl (cI, 32, .inl (upd s2 n z)))]) (va_A [(aR, .inr (7, [.int (nI th), .int (nI mv), .ref ams, .ref ann, .int (nI n), .ref ak2, .ref af2, .ref as2, .ref ah2, .int (nI fc), .ref afa, .ref afx, .ref ald, .int (nI zz), .ref awy, .int lp, .ref alt, .ref abg, .int (wz_i tl)])), (ak2, .inl (cI, 32, .inl (wz_n kn))), (af2, .inl (cI, 32, .inl f2)), (as2, .inl (cI, 32, .inl s2))] sz)) 0 0 (va_A [(aR, .inr (7, [.int (nI th), .int (nI mv), .ref ams, .ref ann, .int (nI n), .ref ak2, .ref af2, .ref as2, .ref ah2, .int (nI fc), .ref afa, .ref afx, .ref ald, .int (nI zz), .ref awy, .int lp, .ref alt, .ref abg, .int (wz_i tl)])), (ak2, .inl (cI, 32, .inl (wz_n kn))), (af2, .inl (cI, 32, .inl f2)), (as2, .inl (cI, 32, .inl s2))] sz) := by
  refine Met.ofW (cc := cMo_formula) (maxL := 5) (ret := (some .int)) (by decide) rfl ?_
  intro p e s m args below meth c s₁ B hml hv
  obtain ⟨rfl, hsz, hP, hK, hD0, hN⟩ := hv
  have hx := B.exec
  have hb := B.bytes
  have hr := B.returns
  have hts := atoms_spec (ws := (.code yMo_formula cMo_formula 5 (some .int) :: wz_all)) B.pre
  have hw : ∀ w9 ∈ wz_all, w9.before [.ref aR, .int (nI k), .int y, .int z].toArray s = true := fun w9 h => hts w9 (List.mem_cons_of_mem _ h)
  have hown : s.vm.findClass RMo = some m.cls := findClass_of_methodNamed B.named
  have hlocks := B.notSynchronized
  subst hsz
  have hD := hD0.self (sz := s.heap.size)
  generalize hAe : va_A [(aR, .inr (7, [.int (nI th), .int (nI mv), .ref ams, .ref ann, .int (nI n), .ref ak2, .ref af2, .ref as2, .ref ah2, .int (nI fc), .ref afa, .ref afx, .ref ald, .int (nI zz), .ref awy, .int lp, .ref alt, .ref abg, .int (wz_i tl)])), (ak2, .inl (cI, 32, .inl (wz_n kn))), (af2, .inl (cI, 32, .inl f2)), (as2, .inl (cI, 32, .inl s2))] s.heap.size = A at hD ⊢
  have hA : ∀ q : Nat, s.heap.size ≤ q → A q := fun q h => by rw [← hAe]; exact Or.inr h
  have hS : va_S A s.heap s.heap [] := va_S.rf
  have hP : va_P (dC, dI) vwCl [(aR, .inr (7, [.int (nI th), .int (nI mv), .ref ams, .ref ann, .int (nI n), .ref ak2, .ref af2, .ref as2, .ref ah2, .int (nI fc), .ref afa, .ref afx, .ref ald, .int (nI zz), .ref awy, .int lp, .ref alt, .ref abg, .int (wz_i tl)])), (ak2, .inl (cI, 32, .inl (wz_n kn))), (af2, .inl (cI, 32, .inl f2)), (as2, .inl (cI, 32, .inl s2))] s.heap := hP
  have hl := lv_entry ([.ref aR, .int (nI k), .int y, .int z]) (n := 5) (Nat.le_of_ble_eq_true rfl)
  rw [lg_entry_eq]
  generalize (lg_sl ([.ref aR, .int (nI k), .int y, .int z]) ++ List.replicate (5 - (lg_sl ([.ref aR, .int (nI k), .int y, .int z])).length) Slot.unset).toArray = ls at hl ⊢
  have hl : lv_has ls 5 [(0, .ref aR), (1, .int (nI k)), (2, .int y), (3, .int z)] := hl
  refine lv_iload_n hx hb dMo_formula_0 rfl (lv_at hl 1 rfl) ?_
  refine lv_if_lt (tgt := 10) hx hb dMo_formula_1 (by decide) (fun h1_1 => ?_) (fun h1_1 => ?_)
  · skip
    exact absurd h1_1 (nI_pos (by omega))
  · skip
    refine lv_iload_n hx hb dMo_formula_4 rfl (lv_at hl 1 rfl) ?_
    refine lv_bipush (v := nI 12) hx hb dMo_formula_5 (by decide) ?_
    refine wz_icmp_le (x := k) (y := 12) (tgt := 14) hx hb (by omega) (by omega) dMo_formula_7 (by decide) (fun h7_2 => ?_) (fun h7_2 => ?_)
    · skip
      refine lv_iconst (v := nI 0) hx hb dMo_formula_14 (by decide) ?_
      refine lv_istore (lv' := [(4, .int (nI 0)), (0, .ref aR), (1, .int (nI k)), (2, .int y), (3, .int z)]) hx hb dMo_formula_15 hl (by decide) rfl (fun ls hl => ?_)
      refine lv_iload hx hb dMo_formula_17 (lv_at hl 0 rfl) ?_
      refine wz_ifN_ne (x := 0) (tgt := 51) hx hb (by omega) dMo_formula_19 (by decide) (fun h19_3 => ?_) (fun h19_3 => ?_)
      · skip
        exact absurd h19_3 (by decide)
      · skip
        refine lv_iload_n hx hb dMo_formula_22 rfl (lv_at hl 2 rfl) ?_
        refine wz_ifN_ne (x := k) (tgt := 38) hx hb (by omega) dMo_formula_23 (by decide) (fun h23_4 => ?_) (fun h23_4 => ?_)
        · skip
          refine lv_iload_n hx hb dMo_formula_38 rfl (lv_at hl 2 rfl) ?_
          refine lv_iconst (v := nI 1) hx hb dMo_formula_39 (by decide) ?_
          refine wz_icmp_eq (x := k) (y := 1) (tgt := 55) hx hb (by omega) (by omega) dMo_formula_40 (by decide) (fun h40_5 => ?_) (fun h40_5 => ?_)
          · skip
            refine lv_iconst (v := nI 0) hx hb dMo_formula_55 (by decide) ?_
            refine lv_istore (lv' := [(4, .int (nI 0)), (0, .ref aR), (1, .int (nI k)), (2, .int y), (3, .int z)]) hx hb dMo_formula_56 hl (by decide) rfl (fun ls hl => ?_)
            refine lv_iload hx hb dMo_formula_58 (lv_at hl 0 rfl) ?_
            refine wz_ifN_ne (x := 0) (tgt := 79) hx hb (by omega) dMo_formula_60 (by decide) (fun h60_6 => ?_) (fun h60_6 => ?_)
            · skip
              exact absurd h60_6 (by decide)
            · skip
              refine lv_aload_n hx hb dMo_formula_63 rfl (lv_at hl 1 rfl) ?_
              refine lv_iload_n hx hb dMo_formula_64 rfl (lv_at hl 2 rfl) ?_
              refine wz_calli (wc := [(aR, .inr (7, [.int (nI th), .int (nI mv), .ref ams, .ref ann, .int (nI n), .ref ak2, .ref af2, .ref as2, .ref ah2, .int (nI fc), .ref afa, .ref afx, .ref ald, .int (nI zz), .ref awy, .int lp, .ref alt, .ref abg, .int (wz_i tl)]))]) (wr := [(ak2, .inl (cI, 32, .inl (wz_n kn))), (af2, .inl (cI, 32, .inl f2)), (as2, .inl (cI, 32, .inl s2))]) (w1 := [(aR, .inr (7, [.int (nI th), .int (nI mv), .ref ams, .ref ann, .int (nI n), .ref ak2, .ref af2, .ref as2, .ref ah2, .int (nI fc), .ref afa, .ref afx, .ref ald, .int (nI zz), .ref awy, .int lp, .ref alt, .ref abg, .int (wz_i tl)]))]) (ws' := [(aR, .inr (7, [.int (nI th), .int (nI mv), .ref ams, .ref ann, .int (nI n), .ref ak2, .ref af2, .ref as2, .ref ah2, .int (nI fc), .ref afa, .ref afx, .ref ald, .int (nI zz), .ref awy, .int lp, .ref alt, .ref abg, .int (wz_i tl)])), (ak2, .inl (cI, 32, .inl (wz_n kn))), (af2, .inl (cI, 32, .inl f2)), (as2, .inl (cI, 32, .inl s2))]) hP hD hS hA [0] [1, 2, 3] [3, 0, 1, 2] rfl rfl (by decide) (by decide) (by decide) rfl rfl (va_runV (As := [.int (nI k)]) (rest := []) ⟨hx, hb, hml, hown, hts⟩ (kMo_hasSecond l dC dI cI cJ cZ s.heap.size aR ams ann ak2 af2 as2 ah2 afa afx ald awy alt abg th mv n fc zz lp tl k hk) (cwV 1 hts (wz_gV w_586 w_587 w_13 w_41 w_588) rfl rfl rfl (by decide +kernel) ⟨Nat.le_of_ble_eq_true rfl, Nat.le_of_ble_eq_true rfl⟩) (wz_preV (q := (RMo, TMo, 19)) (ci := 7) hN hK hP hD [0] (by decide) rfl rfl 0 rfl rfl) rfl rfl hl.1 rfl (lv_room (Nat.le_of_ble_eq_true rfl)) dMo_formula_65 ⟨Nat.le_refl _, Nat.le_refl _⟩) (fun H locs hP hD hS => ?_)
              refine wz_ifz (tgt := 83) hx hb dMo_formula_68 (by decide) (fun h68_7 => ?_) (fun h68_7 => ?_)
              · skip
                refine lv_iconst (v := nI 0) hx hb dMo_formula_83 (by decide) ?_
                refine lv_istore (lv' := [(4, .int (nI 0)), (0, .ref aR), (1, .int (nI k)), (2, .int y), (3, .int z)]) hx hb dMo_formula_84 hl (by decide) rfl (fun ls hl => ?_)
                refine lv_aload_n hx hb dMo_formula_86 rfl (lv_at hl 1 rfl) ?_
                refine lv_iload hx hb dMo_formula_87 (lv_at hl 0 rfl) ?_
                refine wz_ifN_eq (x := 0) (tgt := 96) hx hb (by omega) dMo_formula_89 (by decide) (fun h89_8 => ?_) (fun h89_8 => ?_)
                · skip
                  refine lv_aload_n hx hb dMo_formula_96 rfl (lv_at hl 1 rfl) ?_
                  refine va_get (D := (dC, dI)) (ci := 7) (v := .int (nI n)) (C := RMo) (T := TMo) (N := 19) hx hb hw in_Mo hown hK hP 0 rfl rfl 4 (by decide) (hw _ w_504) (fun _ h9 => h9) rfl dMo_formula_97 ?_
                  refine lv_bipush (v := nI 32) hx hb dMo_formula_100 (by decide) ?_
                  refine wz_icmp_ne (x := n) (y := 32) (tgt := 109) hx hb (by omega) (by omega) dMo_formula_102 (by decide) (fun h102_9 => ?_) (fun h102_9 => ?_)
                  · skip
                    refine lv_iconst (v := nI 0) hx hb dMo_formula_109 (by decide) ?_
                    refine va_put (D := (dC, dI)) (ci := 7) (v := .int (nI 0)) (ty := .int) (C := RMo) (T := TMo) (N := 19) hx hb hw in_Mo tyMo tyMo_ok nmMo hown hK hP hD hS 0 rfl rfl 0 (by decide) (hw _ w_500) (fun _ h9 => h9) rfl (by decide +kernel) rfl rfl (Nat.le_of_ble_eq_true rfl) dMo_formula_110 (fun H locs hP hD hS => ?_)
                    have hP : va_P (dC, dI) vwCl [(aR, .inr (7, [.int (nI 0), .int (nI mv), .ref ams, .ref ann, .int (nI n), .ref ak2, .ref af2, .ref as2, .ref ah2, .int (nI fc), .ref afa, .ref afx, .ref ald, .int (nI zz), .ref awy, .int lp, .ref alt, .ref abg, .int (wz_i tl)])), (ak2, .inl (cI, 32, .inl (wz_n kn))), (af2, .inl (cI, 32, .inl f2)), (as2, .inl (cI, 32, .inl s2))] H := hP
                    have hD : va_D A [(aR, .inr (7, [.int (nI 0), .int (nI mv), .ref ams, .ref ann, .int (nI n), .ref ak2, .ref af2, .ref as2, .ref ah2, .int (nI fc), .ref afa, .ref afx, .ref ald, .int (nI zz), .ref awy, .int lp, .ref alt, .ref abg, .int (wz_i tl)])), (ak2, .inl (cI, 32, .inl (wz_n kn))), (af2, .inl (cI, 32, .inl f2)), (as2, .inl (cI, 32, .inl s2))] := hD
                    refine lv_aload_n hx hb dMo_formula_113 rfl (lv_at hl 1 rfl) ?_
                    refine va_get (D := (dC, dI)) (ci := 7) (v := .int (nI 0)) (C := RMo) (T := TMo) (N := 19) hx hb hw in_Mo hown hK hP 0 rfl rfl 0 (by decide) (hw _ w_500) (fun _ h9 => h9) rfl dMo_formula_114 ?_
                    refine wz_ifN_eq (x := 0) (tgt := 122) hx hb (by omega) dMo_formula_117 (by decide) (fun h117_10 => ?_) (fun h117_10 => ?_)
                    · skip
                      refine lv_aload_n hx hb dMo_formula_122 rfl (lv_at hl 1 rfl) ?_
                      refine va_get (D := (dC, dI)) (ci := 7) (v := .ref ak2) (C := RMo) (T := TMo) (N := 19) hx hb hw in_Mo hown hK hP 0 rfl rfl 5 (by decide) (hw _ w_505) (fun _ h9 => h9) rfl dMo_formula_123 ?_
                      refine lv_aload_n hx hb dMo_formula_126 rfl (lv_at hl 1 rfl) ?_
                      refine va_get (D := (dC, dI)) (ci := 7) (v := .int (nI n)) (C := RMo) (T := TMo) (N := 19) hx hb hw in_Mo hown hK hP 0 rfl rfl 4 (by decide) (hw _ w_504) (fun _ h9 => h9) rfl dMo_formula_127 ?_
                      refine lv_iload_n hx hb dMo_formula_130 rfl (lv_at hl 2 rfl) ?_
                      refine wz_astN (ws' := [(aR, .inr (7, [.int (nI 0), .int (nI mv), .ref ams, .ref ann, .int (nI n), .ref ak2, .ref af2, .ref as2, .ref ah2, .int (nI fc), .ref afa, .ref afx, .ref ald, .int (nI zz), .ref awy, .int lp, .ref alt, .ref abg, .int (wz_i tl)])), (ak2, .inl (cI, 32, .inl (wz_n (wz_un kn n k)))), (af2, .inl (cI, 32, .inl f2)), (as2, .inl (cI, 32, .inl s2))]) hx hb hK hP hD hS 1 0 rfl rfl (i := n) (by omega) (by decide) dMo_formula_131 rfl (fun H locs hP hD hS => ?_)
                      refine lv_aload_n hx hb dMo_formula_132 rfl (lv_at hl 1 rfl) ?_
                      refine va_get (D := (dC, dI)) (ci := 7) (v := .ref af2) (C := RMo) (T := TMo) (N := 19) hx hb hw in_Mo hown hK hP 0 rfl rfl 6 (by decide) (hw _ w_506) (fun _ h9 => h9) rfl dMo_formula_133 ?_
                      refine lv_aload_n hx hb dMo_formula_136 rfl (lv_at hl 1 rfl) ?_
                      refine va_get (D := (dC, dI)) (ci := 7) (v := .int (nI n)) (C := RMo) (T := TMo) (N := 19) hx hb hw in_Mo hown hK hP 0 rfl rfl 4 (by decide) (hw _ w_504) (fun _ h9 => h9) rfl dMo_formula_137 ?_
                      refine lv_iload_n hx hb dMo_formula_140 rfl (lv_at hl 3 rfl) ?_
                      refine wz_iast (ws' := [(aR, .inr (7, [.int (nI 0), .int (nI mv), .ref ams, .ref ann, .int (nI n), .ref ak2, .ref af2, .ref as2, .ref ah2, .int (nI fc), .ref afa, .ref afx, .ref ald, .int (nI zz), .ref awy, .int lp, .ref alt, .ref abg, .int (wz_i tl)])), (ak2, .inl (cI, 32, .inl (wz_n (wz_un kn n k)))), (af2, .inl (cI, 32, .inl (upd f2 n y))), (as2, .inl (cI, 32, .inl s2))]) hx hb hK hP hD hS 2 0 rfl rfl (i := n) (by omega) (by decide) dMo_formula_141 rfl (fun H locs hP hD hS => ?_)
                      refine lv_aload_n hx hb dMo_formula_142 rfl (lv_at hl 1 rfl) ?_
                      refine va_get (D := (dC, dI)) (ci := 7) (v := .ref as2) (C := RMo) (T := TMo) (N := 19) hx hb hw in_Mo hown hK hP 0 rfl rfl 7 (by decide) (hw _ w_507) (fun _ h9 => h9) rfl dMo_formula_143 ?_
                      refine lv_aload_n hx hb dMo_formula_146 rfl (lv_at hl 1 rfl) ?_
                      refine va_get (D := (dC, dI)) (ci := 7) (v := .int (nI n)) (C := RMo) (T := TMo) (N := 19) hx hb hw in_Mo hown hK hP 0 rfl rfl 4 (by decide) (hw _ w_504) (fun _ h9 => h9) rfl dMo_formula_147 ?_
                      refine lv_iload_n hx hb dMo_formula_150 rfl (lv_at hl 4 rfl) ?_
                      refine wz_iast (ws' := [(aR, .inr (7, [.int (nI 0), .int (nI mv), .ref ams, .ref ann, .int (nI n), .ref ak2, .ref af2, .ref as2, .ref ah2, .int (nI fc), .ref afa, .ref afx, .ref ald, .int (nI zz), .ref awy, .int lp, .ref alt, .ref abg, .int (wz_i tl)])), (ak2, .inl (cI, 32, .inl (wz_n (wz_un kn n k)))), (af2, .inl (cI, 32, .inl (upd f2 n y))), (as2, .inl (cI, 32, .inl (upd s2 n z)))]) hx hb hK hP hD hS 3 0 rfl rfl (i := n) (by omega) (by decide) dMo_formula_151 rfl (fun H locs hP hD hS => ?_)
                      refine lv_aload_n hx hb dMo_formula_152 rfl (lv_at hl 1 rfl) ?_
                      refine lv_dup hx hb dMo_formula_153 rfl ?_
                      refine va_get (D := (dC, dI)) (ci := 7) (v := .int (nI n)) (C := RMo) (T := TMo) (N := 19) hx hb hw in_Mo hown hK hP 0 rfl rfl 4 (by decide) (hw _ w_504) (fun _ h9 => h9) rfl dMo_formula_154 ?_
                      refine lv_iconst (v := nI 1) hx hb dMo_formula_157 (by decide) ?_
                      refine wz_iadd hx hb dMo_formula_158 ?_
                      refine va_put (D := (dC, dI)) (ci := 7) (v := .int (nI (n + 1))) (ty := .int) (C := RMo) (T := TMo) (N := 19) hx hb hw in_Mo tyMo tyMo_ok nmMo hown hK hP hD hS 0 rfl rfl 4 (by decide) (hw _ w_504) (fun _ h9 => h9) rfl (by decide +kernel) rfl rfl (Nat.le_of_ble_eq_true rfl) dMo_formula_159 (fun H locs hP hD hS => ?_)
                      have hP : va_P (dC, dI) vwCl [(aR, .inr (7, [.int (nI 0), .int (nI mv), .ref ams, .ref ann, .int (nI (n + 1)), .ref ak2, .ref af2, .ref as2, .ref ah2, .int (nI fc), .ref afa, .ref afx, .ref ald, .int (nI zz), .ref awy, .int lp, .ref alt, .ref abg, .int (wz_i tl)])), (ak2, .inl (cI, 32, .inl (wz_n (wz_un kn n k)))), (af2, .inl (cI, 32, .inl (upd f2 n y))), (as2, .inl (cI, 32, .inl (upd s2 n z)))] H := hP
                      have hD : va_D A [(aR, .inr (7, [.int (nI 0), .int (nI mv), .ref ams, .ref ann, .int (nI (n + 1)), .ref ak2, .ref af2, .ref as2, .ref ah2, .int (nI fc), .ref afa, .ref afx, .ref ald, .int (nI zz), .ref awy, .int lp, .ref alt, .ref abg, .int (wz_i tl)])), (ak2, .inl (cI, 32, .inl (wz_n (wz_un kn n k)))), (af2, .inl (cI, 32, .inl (upd f2 n y))), (as2, .inl (cI, 32, .inl (upd s2 n z)))] := hD
                      refine lv_aload_n hx hb dMo_formula_162 rfl (lv_at hl 1 rfl) ?_
                      refine va_get (D := (dC, dI)) (ci := 7) (v := .int (nI (n + 1))) (C := RMo) (T := TMo) (N := 19) hx hb hw in_Mo hown hK hP 0 rfl rfl 4 (by decide) (hw _ w_504) (fun _ h9 => h9) rfl dMo_formula_163 ?_
                      refine lv_iconst (v := nI 1) hx hb dMo_formula_166 (by decide) ?_
                      refine wz_isub hx hb (by omega) dMo_formula_167 ?_
                      exact wz_iret hx hb hr hlocks rfl hP hD hK hS dMo_formula_168
                    · skip
                      exact absurd h117_10 (by decide)
                  · skip
                    omega
                · skip
                  exact absurd h89_8 (by decide)
              · skip
                refine lv_aload_n hx hb dMo_formula_71 rfl (lv_at hl 1 rfl) ?_
                refine lv_iload_n hx hb dMo_formula_72 rfl (lv_at hl 4 rfl) ?_
                refine wz_calli (wc := [(aR, .inr (7, [.int (nI th), .int (nI mv), .ref ams, .ref ann, .int (nI n), .ref ak2, .ref af2, .ref as2, .ref ah2, .int (nI fc), .ref afa, .ref afx, .ref ald, .int (nI zz), .ref awy, .int lp, .ref alt, .ref abg, .int (wz_i tl)]))]) (wr := [(ak2, .inl (cI, 32, .inl (wz_n kn))), (af2, .inl (cI, 32, .inl f2)), (as2, .inl (cI, 32, .inl s2))]) (w1 := [(aR, .inr (7, [.int (nI th), .int (nI mv), .ref ams, .ref ann, .int (nI n), .ref ak2, .ref af2, .ref as2, .ref ah2, .int (nI fc), .ref afa, .ref afx, .ref ald, .int (nI zz), .ref awy, .int lp, .ref alt, .ref abg, .int (wz_i tl)]))]) (ws' := [(aR, .inr (7, [.int (nI th), .int (nI mv), .ref ams, .ref ann, .int (nI n), .ref ak2, .ref af2, .ref as2, .ref ah2, .int (nI fc), .ref afa, .ref afx, .ref ald, .int (nI zz), .ref awy, .int lp, .ref alt, .ref abg, .int (wz_i tl)])), (ak2, .inl (cI, 32, .inl (wz_n kn))), (af2, .inl (cI, 32, .inl f2)), (as2, .inl (cI, 32, .inl s2))]) hP hD hS hA [0] [1, 2, 3] [3, 0, 1, 2] rfl rfl (by decide) (by decide) (by decide) rfl rfl (va_runV (As := [.int z]) (rest := []) ⟨hx, hb, hml, hown, hts⟩ (kMo_noFormula l dC dI cI cJ cZ H.size aR ams ann ak2 af2 as2 ah2 afa afx ald awy alt abg th mv n fc zz lp tl z) (cwV 1 hts (wz_gV w_583 w_584 w_12 w_41 w_585) rfl rfl rfl (by decide +kernel) ⟨Nat.le_of_ble_eq_true rfl, Nat.le_of_ble_eq_true rfl⟩) (wz_preV (q := (RMo, TMo, 19)) (ci := 7) hN hK hP hD [0] (by decide) rfl rfl 0 rfl rfl) rfl rfl hl.1 rfl (lv_room (Nat.le_of_ble_eq_true rfl)) dMo_formula_73 ⟨Nat.le_refl _, Nat.le_refl _⟩) (fun H locs hP hD hS => ?_)
                refine wz_ifz (tgt := 83) hx hb dMo_formula_76 (by decide) (fun h76_11 => ?_) (fun h76_11 => ?_)
                · skip
                  refine lv_iconst (v := nI 0) hx hb dMo_formula_83 (by decide) ?_
                  refine lv_istore (lv' := [(4, .int (nI 0)), (0, .ref aR), (1, .int (nI k)), (2, .int y), (3, .int z)]) hx hb dMo_formula_84 hl (by decide) rfl (fun ls hl => ?_)
                  refine lv_aload_n hx hb dMo_formula_86 rfl (lv_at hl 1 rfl) ?_
                  refine lv_iload hx hb dMo_formula_87 (lv_at hl 0 rfl) ?_
                  refine wz_ifN_eq (x := 0) (tgt := 96) hx hb (by omega) dMo_formula_89 (by decide) (fun h89_12 => ?_) (fun h89_12 => ?_)
                  · skip
                    refine lv_aload_n hx hb dMo_formula_96 rfl (lv_at hl 1 rfl) ?_
                    refine va_get (D := (dC, dI)) (ci := 7) (v := .int (nI n)) (C := RMo) (T := TMo) (N := 19) hx hb hw in_Mo hown hK hP 0 rfl rfl 4 (by decide) (hw _ w_504) (fun _ h9 => h9) rfl dMo_formula_97 ?_
                    refine lv_bipush (v := nI 32) hx hb dMo_formula_100 (by decide) ?_
                    refine wz_icmp_ne (x := n) (y := 32) (tgt := 109) hx hb (by omega) (by omega) dMo_formula_102 (by decide) (fun h102_13 => ?_) (fun h102_13 => ?_)
                    · skip
                      refine lv_iconst (v := nI 0) hx hb dMo_formula_109 (by decide) ?_
                      refine va_put (D := (dC, dI)) (ci := 7) (v := .int (nI 0)) (ty := .int) (C := RMo) (T := TMo) (N := 19) hx hb hw in_Mo tyMo tyMo_ok nmMo hown hK hP hD hS 0 rfl rfl 0 (by decide) (hw _ w_500) (fun _ h9 => h9) rfl (by decide +kernel) rfl rfl (Nat.le_of_ble_eq_true rfl) dMo_formula_110 (fun H locs hP hD hS => ?_)
                      have hP : va_P (dC, dI) vwCl [(aR, .inr (7, [.int (nI 0), .int (nI mv), .ref ams, .ref ann, .int (nI n), .ref ak2, .ref af2, .ref as2, .ref ah2, .int (nI fc), .ref afa, .ref afx, .ref ald, .int (nI zz), .ref awy, .int lp, .ref alt, .ref abg, .int (wz_i tl)])), (ak2, .inl (cI, 32, .inl (wz_n kn))), (af2, .inl (cI, 32, .inl f2)), (as2, .inl (cI, 32, .inl s2))] H := hP
                      have hD : va_D A [(aR, .inr (7, [.int (nI 0), .int (nI mv), .ref ams, .ref ann, .int (nI n), .ref ak2, .ref af2, .ref as2, .ref ah2, .int (nI fc), .ref afa, .ref afx, .ref ald, .int (nI zz), .ref awy, .int lp, .ref alt, .ref abg, .int (wz_i tl)])), (ak2, .inl (cI, 32, .inl (wz_n kn))), (af2, .inl (cI, 32, .inl f2)), (as2, .inl (cI, 32, .inl s2))] := hD
                      refine lv_aload_n hx hb dMo_formula_113 rfl (lv_at hl 1 rfl) ?_
                      refine va_get (D := (dC, dI)) (ci := 7) (v := .int (nI 0)) (C := RMo) (T := TMo) (N := 19) hx hb hw in_Mo hown hK hP 0 rfl rfl 0 (by decide) (hw _ w_500) (fun _ h9 => h9) rfl dMo_formula_114 ?_
                      refine wz_ifN_eq (x := 0) (tgt := 122) hx hb (by omega) dMo_formula_117 (by decide) (fun h117_14 => ?_) (fun h117_14 => ?_)
                      · skip
                        refine lv_aload_n hx hb dMo_formula_122 rfl (lv_at hl 1 rfl) ?_
                        refine va_get (D := (dC, dI)) (ci := 7) (v := .ref ak2) (C := RMo) (T := TMo) (N := 19) hx hb hw in_Mo hown hK hP 0 rfl rfl 5 (by decide) (hw _ w_505) (fun _ h9 => h9) rfl dMo_formula_123 ?_
                        refine lv_aload_n hx hb dMo_formula_126 rfl (lv_at hl 1 rfl) ?_
                        refine va_get (D := (dC, dI)) (ci := 7) (v := .int (nI n)) (C := RMo) (T := TMo) (N := 19) hx hb hw in_Mo hown hK hP 0 rfl rfl 4 (by decide) (hw _ w_504) (fun _ h9 => h9) rfl dMo_formula_127 ?_
                        refine lv_iload_n hx hb dMo_formula_130 rfl (lv_at hl 2 rfl) ?_
                        refine wz_astN (ws' := [(aR, .inr (7, [.int (nI 0), .int (nI mv), .ref ams, .ref ann, .int (nI n), .ref ak2, .ref af2, .ref as2, .ref ah2, .int (nI fc), .ref afa, .ref afx, .ref ald, .int (nI zz), .ref awy, .int lp, .ref alt, .ref abg, .int (wz_i tl)])), (ak2, .inl (cI, 32, .inl (wz_n (wz_un kn n k)))), (af2, .inl (cI, 32, .inl f2)), (as2, .inl (cI, 32, .inl s2))]) hx hb hK hP hD hS 1 0 rfl rfl (i := n) (by omega) (by decide) dMo_formula_131 rfl (fun H locs hP hD hS => ?_)
                        refine lv_aload_n hx hb dMo_formula_132 rfl (lv_at hl 1 rfl) ?_
                        refine va_get (D := (dC, dI)) (ci := 7) (v := .ref af2) (C := RMo) (T := TMo) (N := 19) hx hb hw in_Mo hown hK hP 0 rfl rfl 6 (by decide) (hw _ w_506) (fun _ h9 => h9) rfl dMo_formula_133 ?_
                        refine lv_aload_n hx hb dMo_formula_136 rfl (lv_at hl 1 rfl) ?_
                        refine va_get (D := (dC, dI)) (ci := 7) (v := .int (nI n)) (C := RMo) (T := TMo) (N := 19) hx hb hw in_Mo hown hK hP 0 rfl rfl 4 (by decide) (hw _ w_504) (fun _ h9 => h9) rfl dMo_formula_137 ?_
                        refine lv_iload_n hx hb dMo_formula_140 rfl (lv_at hl 3 rfl) ?_
                        refine wz_iast (ws' := [(aR, .inr (7, [.int (nI 0), .int (nI mv), .ref ams, .ref ann, .int (nI n), .ref ak2, .ref af2, .ref as2, .ref ah2, .int (nI fc), .ref afa, .ref afx, .ref ald, .int (nI zz), .ref awy, .int lp, .ref alt, .ref abg, .int (wz_i tl)])), (ak2, .inl (cI, 32, .inl (wz_n (wz_un kn n k)))), (af2, .inl (cI, 32, .inl (upd f2 n y))), (as2, .inl (cI, 32, .inl s2))]) hx hb hK hP hD hS 2 0 rfl rfl (i := n) (by omega) (by decide) dMo_formula_141 rfl (fun H locs hP hD hS => ?_)
                        refine lv_aload_n hx hb dMo_formula_142 rfl (lv_at hl 1 rfl) ?_
                        refine va_get (D := (dC, dI)) (ci := 7) (v := .ref as2) (C := RMo) (T := TMo) (N := 19) hx hb hw in_Mo hown hK hP 0 rfl rfl 7 (by decide) (hw _ w_507) (fun _ h9 => h9) rfl dMo_formula_143 ?_
                        refine lv_aload_n hx hb dMo_formula_146 rfl (lv_at hl 1 rfl) ?_
                        refine va_get (D := (dC, dI)) (ci := 7) (v := .int (nI n)) (C := RMo) (T := TMo) (N := 19) hx hb hw in_Mo hown hK hP 0 rfl rfl 4 (by decide) (hw _ w_504) (fun _ h9 => h9) rfl dMo_formula_147 ?_
                        refine lv_iload_n hx hb dMo_formula_150 rfl (lv_at hl 4 rfl) ?_
                        refine wz_iast (ws' := [(aR, .inr (7, [.int (nI 0), .int (nI mv), .ref ams, .ref ann, .int (nI n), .ref ak2, .ref af2, .ref as2, .ref ah2, .int (nI fc), .ref afa, .ref afx, .ref ald, .int (nI zz), .ref awy, .int lp, .ref alt, .ref abg, .int (wz_i tl)])), (ak2, .inl (cI, 32, .inl (wz_n (wz_un kn n k)))), (af2, .inl (cI, 32, .inl (upd f2 n y))), (as2, .inl (cI, 32, .inl (upd s2 n z)))]) hx hb hK hP hD hS 3 0 rfl rfl (i := n) (by omega) (by decide) dMo_formula_151 rfl (fun H locs hP hD hS => ?_)
                        refine lv_aload_n hx hb dMo_formula_152 rfl (lv_at hl 1 rfl) ?_
                        refine lv_dup hx hb dMo_formula_153 rfl ?_
                        refine va_get (D := (dC, dI)) (ci := 7) (v := .int (nI n)) (C := RMo) (T := TMo) (N := 19) hx hb hw in_Mo hown hK hP 0 rfl rfl 4 (by decide) (hw _ w_504) (fun _ h9 => h9) rfl dMo_formula_154 ?_
                        refine lv_iconst (v := nI 1) hx hb dMo_formula_157 (by decide) ?_
                        refine wz_iadd hx hb dMo_formula_158 ?_
                        refine va_put (D := (dC, dI)) (ci := 7) (v := .int (nI (n + 1))) (ty := .int) (C := RMo) (T := TMo) (N := 19) hx hb hw in_Mo tyMo tyMo_ok nmMo hown hK hP hD hS 0 rfl rfl 4 (by decide) (hw _ w_504) (fun _ h9 => h9) rfl (by decide +kernel) rfl rfl (Nat.le_of_ble_eq_true rfl) dMo_formula_159 (fun H locs hP hD hS => ?_)
                        have hP : va_P (dC, dI) vwCl [(aR, .inr (7, [.int (nI 0), .int (nI mv), .ref ams, .ref ann, .int (nI (n + 1)), .ref ak2, .ref af2, .ref as2, .ref ah2, .int (nI fc), .ref afa, .ref afx, .ref ald, .int (nI zz), .ref awy, .int lp, .ref alt, .ref abg, .int (wz_i tl)])), (ak2, .inl (cI, 32, .inl (wz_n (wz_un kn n k)))), (af2, .inl (cI, 32, .inl (upd f2 n y))), (as2, .inl (cI, 32, .inl (upd s2 n z)))] H := hP
                        have hD : va_D A [(aR, .inr (7, [.int (nI 0), .int (nI mv), .ref ams, .ref ann, .int (nI (n + 1)), .ref ak2, .ref af2, .ref as2, .ref ah2, .int (nI fc), .ref afa, .ref afx, .ref ald, .int (nI zz), .ref awy, .int lp, .ref alt, .ref abg, .int (wz_i tl)])), (ak2, .inl (cI, 32, .inl (wz_n (wz_un kn n k)))), (af2, .inl (cI, 32, .inl (upd f2 n y))), (as2, .inl (cI, 32, .inl (upd s2 n z)))] := hD
                        refine lv_aload_n hx hb dMo_formula_162 rfl (lv_at hl 1 rfl) ?_
                        refine va_get (D := (dC, dI)) (ci := 7) (v := .int (nI (n + 1))) (C := RMo) (T := TMo) (N := 19) hx hb hw in_Mo hown hK hP 0 rfl rfl 4 (by decide) (hw _ w_504) (fun _ h9 => h9) rfl dMo_formula_163 ?_
                        refine lv_iconst (v := nI 1) hx hb dMo_formula_166 (by decide) ?_
                        refine wz_isub hx hb (by omega) dMo_formula_167 ?_
                        exact wz_iret hx hb hr hlocks rfl hP hD hK hS dMo_formula_168
                      · skip
                        exact absurd h117_14 (by decide)
                    · skip
                      omega
                  · skip
                    exact absurd h89_12 (by decide)
                · skip
                  simp [ww_cb_second hk hcb h68_7] at h76_11
          · skip
            refine lv_aload_n hx hb dMo_formula_43 rfl (lv_at hl 1 rfl) ?_
            refine lv_iload_n hx hb dMo_formula_44 rfl (lv_at hl 3 rfl) ?_
            refine wz_calli (wc := [(aR, .inr (7, [.int (nI th), .int (nI mv), .ref ams, .ref ann, .int (nI n), .ref ak2, .ref af2, .ref as2, .ref ah2, .int (nI fc), .ref afa, .ref afx, .ref ald, .int (nI zz), .ref awy, .int lp, .ref alt, .ref abg, .int (wz_i tl)]))]) (wr := [(ak2, .inl (cI, 32, .inl (wz_n kn))), (af2, .inl (cI, 32, .inl f2)), (as2, .inl (cI, 32, .inl s2))]) (w1 := [(aR, .inr (7, [.int (nI th), .int (nI mv), .ref ams, .ref ann, .int (nI n), .ref ak2, .ref af2, .ref as2, .ref ah2, .int (nI fc), .ref afa, .ref afx, .ref ald, .int (nI zz), .ref awy, .int lp, .ref alt, .ref abg, .int (wz_i tl)]))]) (ws' := [(aR, .inr (7, [.int (nI th), .int (nI mv), .ref ams, .ref ann, .int (nI n), .ref ak2, .ref af2, .ref as2, .ref ah2, .int (nI fc), .ref afa, .ref afx, .ref ald, .int (nI zz), .ref awy, .int lp, .ref alt, .ref abg, .int (wz_i tl)])), (ak2, .inl (cI, 32, .inl (wz_n kn))), (af2, .inl (cI, 32, .inl f2)), (as2, .inl (cI, 32, .inl s2))]) hP hD hS hA [0] [1, 2, 3] [3, 0, 1, 2] rfl rfl (by decide) (by decide) (by decide) rfl rfl (va_runV (As := [.int y]) (rest := []) ⟨hx, hb, hml, hown, hts⟩ (kMo_noFormula l dC dI cI cJ cZ s.heap.size aR ams ann ak2 af2 as2 ah2 afa afx ald awy alt abg th mv n fc zz lp tl y) (cwV 1 hts (wz_gV w_583 w_584 w_12 w_41 w_585) rfl rfl rfl (by decide +kernel) ⟨Nat.le_of_ble_eq_true rfl, Nat.le_of_ble_eq_true rfl⟩) (wz_preV (q := (RMo, TMo, 19)) (ci := 7) hN hK hP hD [0] (by decide) rfl rfl 0 rfl rfl) rfl rfl hl.1 rfl (lv_room (Nat.le_of_ble_eq_true rfl)) dMo_formula_45 ⟨Nat.le_refl _, Nat.le_refl _⟩) (fun H locs hP hD hS => ?_)
            refine wz_ifz (tgt := 55) hx hb dMo_formula_48 (by decide) (fun h48_15 => ?_) (fun h48_15 => ?_)
            · skip
              refine lv_iconst (v := nI 0) hx hb dMo_formula_55 (by decide) ?_
              refine lv_istore (lv' := [(4, .int (nI 0)), (0, .ref aR), (1, .int (nI k)), (2, .int y), (3, .int z)]) hx hb dMo_formula_56 hl (by decide) rfl (fun ls hl => ?_)
              refine lv_iload hx hb dMo_formula_58 (lv_at hl 0 rfl) ?_
              refine wz_ifN_ne (x := 0) (tgt := 79) hx hb (by omega) dMo_formula_60 (by decide) (fun h60_16 => ?_) (fun h60_16 => ?_)
              · skip
                exact absurd h60_16 (by decide)
              · skip
                refine lv_aload_n hx hb dMo_formula_63 rfl (lv_at hl 1 rfl) ?_
                refine lv_iload_n hx hb dMo_formula_64 rfl (lv_at hl 2 rfl) ?_
                refine wz_calli (wc := [(aR, .inr (7, [.int (nI th), .int (nI mv), .ref ams, .ref ann, .int (nI n), .ref ak2, .ref af2, .ref as2, .ref ah2, .int (nI fc), .ref afa, .ref afx, .ref ald, .int (nI zz), .ref awy, .int lp, .ref alt, .ref abg, .int (wz_i tl)]))]) (wr := [(ak2, .inl (cI, 32, .inl (wz_n kn))), (af2, .inl (cI, 32, .inl f2)), (as2, .inl (cI, 32, .inl s2))]) (w1 := [(aR, .inr (7, [.int (nI th), .int (nI mv), .ref ams, .ref ann, .int (nI n), .ref ak2, .ref af2, .ref as2, .ref ah2, .int (nI fc), .ref afa, .ref afx, .ref ald, .int (nI zz), .ref awy, .int lp, .ref alt, .ref abg, .int (wz_i tl)]))]) (ws' := [(aR, .inr (7, [.int (nI th), .int (nI mv), .ref ams, .ref ann, .int (nI n), .ref ak2, .ref af2, .ref as2, .ref ah2, .int (nI fc), .ref afa, .ref afx, .ref ald, .int (nI zz), .ref awy, .int lp, .ref alt, .ref abg, .int (wz_i tl)])), (ak2, .inl (cI, 32, .inl (wz_n kn))), (af2, .inl (cI, 32, .inl f2)), (as2, .inl (cI, 32, .inl s2))]) hP hD hS hA [0] [1, 2, 3] [3, 0, 1, 2] rfl rfl (by decide) (by decide) (by decide) rfl rfl (va_runV (As := [.int (nI k)]) (rest := []) ⟨hx, hb, hml, hown, hts⟩ (kMo_hasSecond l dC dI cI cJ cZ H.size aR ams ann ak2 af2 as2 ah2 afa afx ald awy alt abg th mv n fc zz lp tl k hk) (cwV 1 hts (wz_gV w_586 w_587 w_13 w_41 w_588) rfl rfl rfl (by decide +kernel) ⟨Nat.le_of_ble_eq_true rfl, Nat.le_of_ble_eq_true rfl⟩) (wz_preV (q := (RMo, TMo, 19)) (ci := 7) hN hK hP hD [0] (by decide) rfl rfl 0 rfl rfl) rfl rfl hl.1 rfl (lv_room (Nat.le_of_ble_eq_true rfl)) dMo_formula_65 ⟨Nat.le_refl _, Nat.le_refl _⟩) (fun H locs hP hD hS => ?_)
                refine wz_ifz (tgt := 83) hx hb dMo_formula_68 (by decide) (fun h68_17 => ?_) (fun h68_17 => ?_)
                · skip
                  refine lv_iconst (v := nI 0) hx hb dMo_formula_83 (by decide) ?_
                  refine lv_istore (lv' := [(4, .int (nI 0)), (0, .ref aR), (1, .int (nI k)), (2, .int y), (3, .int z)]) hx hb dMo_formula_84 hl (by decide) rfl (fun ls hl => ?_)
                  refine lv_aload_n hx hb dMo_formula_86 rfl (lv_at hl 1 rfl) ?_
                  refine lv_iload hx hb dMo_formula_87 (lv_at hl 0 rfl) ?_
                  refine wz_ifN_eq (x := 0) (tgt := 96) hx hb (by omega) dMo_formula_89 (by decide) (fun h89_18 => ?_) (fun h89_18 => ?_)
                  · skip
                    refine lv_aload_n hx hb dMo_formula_96 rfl (lv_at hl 1 rfl) ?_
                    refine va_get (D := (dC, dI)) (ci := 7) (v := .int (nI n)) (C := RMo) (T := TMo) (N := 19) hx hb hw in_Mo hown hK hP 0 rfl rfl 4 (by decide) (hw _ w_504) (fun _ h9 => h9) rfl dMo_formula_97 ?_
                    refine lv_bipush (v := nI 32) hx hb dMo_formula_100 (by decide) ?_
                    refine wz_icmp_ne (x := n) (y := 32) (tgt := 109) hx hb (by omega) (by omega) dMo_formula_102 (by decide) (fun h102_19 => ?_) (fun h102_19 => ?_)
                    · skip
                      refine lv_iconst (v := nI 0) hx hb dMo_formula_109 (by decide) ?_
                      refine va_put (D := (dC, dI)) (ci := 7) (v := .int (nI 0)) (ty := .int) (C := RMo) (T := TMo) (N := 19) hx hb hw in_Mo tyMo tyMo_ok nmMo hown hK hP hD hS 0 rfl rfl 0 (by decide) (hw _ w_500) (fun _ h9 => h9) rfl (by decide +kernel) rfl rfl (Nat.le_of_ble_eq_true rfl) dMo_formula_110 (fun H locs hP hD hS => ?_)
                      have hP : va_P (dC, dI) vwCl [(aR, .inr (7, [.int (nI 0), .int (nI mv), .ref ams, .ref ann, .int (nI n), .ref ak2, .ref af2, .ref as2, .ref ah2, .int (nI fc), .ref afa, .ref afx, .ref ald, .int (nI zz), .ref awy, .int lp, .ref alt, .ref abg, .int (wz_i tl)])), (ak2, .inl (cI, 32, .inl (wz_n kn))), (af2, .inl (cI, 32, .inl f2)), (as2, .inl (cI, 32, .inl s2))] H := hP
                      have hD : va_D A [(aR, .inr (7, [.int (nI 0), .int (nI mv), .ref ams, .ref ann, .int (nI n), .ref ak2, .ref af2, .ref as2, .ref ah2, .int (nI fc), .ref afa, .ref afx, .ref ald, .int (nI zz), .ref awy, .int lp, .ref alt, .ref abg, .int (wz_i tl)])), (ak2, .inl (cI, 32, .inl (wz_n kn))), (af2, .inl (cI, 32, .inl f2)), (as2, .inl (cI, 32, .inl s2))] := hD
                      refine lv_aload_n hx hb dMo_formula_113 rfl (lv_at hl 1 rfl) ?_
                      refine va_get (D := (dC, dI)) (ci := 7) (v := .int (nI 0)) (C := RMo) (T := TMo) (N := 19) hx hb hw in_Mo hown hK hP 0 rfl rfl 0 (by decide) (hw _ w_500) (fun _ h9 => h9) rfl dMo_formula_114 ?_
                      refine wz_ifN_eq (x := 0) (tgt := 122) hx hb (by omega) dMo_formula_117 (by decide) (fun h117_20 => ?_) (fun h117_20 => ?_)
                      · skip
                        refine lv_aload_n hx hb dMo_formula_122 rfl (lv_at hl 1 rfl) ?_
                        refine va_get (D := (dC, dI)) (ci := 7) (v := .ref ak2) (C := RMo) (T := TMo) (N := 19) hx hb hw in_Mo hown hK hP 0 rfl rfl 5 (by decide) (hw _ w_505) (fun _ h9 => h9) rfl dMo_formula_123 ?_
                        refine lv_aload_n hx hb dMo_formula_126 rfl (lv_at hl 1 rfl) ?_
                        refine va_get (D := (dC, dI)) (ci := 7) (v := .int (nI n)) (C := RMo) (T := TMo) (N := 19) hx hb hw in_Mo hown hK hP 0 rfl rfl 4 (by decide) (hw _ w_504) (fun _ h9 => h9) rfl dMo_formula_127 ?_
                        refine lv_iload_n hx hb dMo_formula_130 rfl (lv_at hl 2 rfl) ?_
                        refine wz_astN (ws' := [(aR, .inr (7, [.int (nI 0), .int (nI mv), .ref ams, .ref ann, .int (nI n), .ref ak2, .ref af2, .ref as2, .ref ah2, .int (nI fc), .ref afa, .ref afx, .ref ald, .int (nI zz), .ref awy, .int lp, .ref alt, .ref abg, .int (wz_i tl)])), (ak2, .inl (cI, 32, .inl (wz_n (wz_un kn n k)))), (af2, .inl (cI, 32, .inl f2)), (as2, .inl (cI, 32, .inl s2))]) hx hb hK hP hD hS 1 0 rfl rfl (i := n) (by omega) (by decide) dMo_formula_131 rfl (fun H locs hP hD hS => ?_)
                        refine lv_aload_n hx hb dMo_formula_132 rfl (lv_at hl 1 rfl) ?_
                        refine va_get (D := (dC, dI)) (ci := 7) (v := .ref af2) (C := RMo) (T := TMo) (N := 19) hx hb hw in_Mo hown hK hP 0 rfl rfl 6 (by decide) (hw _ w_506) (fun _ h9 => h9) rfl dMo_formula_133 ?_
                        refine lv_aload_n hx hb dMo_formula_136 rfl (lv_at hl 1 rfl) ?_
                        refine va_get (D := (dC, dI)) (ci := 7) (v := .int (nI n)) (C := RMo) (T := TMo) (N := 19) hx hb hw in_Mo hown hK hP 0 rfl rfl 4 (by decide) (hw _ w_504) (fun _ h9 => h9) rfl dMo_formula_137 ?_
                        refine lv_iload_n hx hb dMo_formula_140 rfl (lv_at hl 3 rfl) ?_
                        refine wz_iast (ws' := [(aR, .inr (7, [.int (nI 0), .int (nI mv), .ref ams, .ref ann, .int (nI n), .ref ak2, .ref af2, .ref as2, .ref ah2, .int (nI fc), .ref afa, .ref afx, .ref ald, .int (nI zz), .ref awy, .int lp, .ref alt, .ref abg, .int (wz_i tl)])), (ak2, .inl (cI, 32, .inl (wz_n (wz_un kn n k)))), (af2, .inl (cI, 32, .inl (upd f2 n y))), (as2, .inl (cI, 32, .inl s2))]) hx hb hK hP hD hS 2 0 rfl rfl (i := n) (by omega) (by decide) dMo_formula_141 rfl (fun H locs hP hD hS => ?_)
                        refine lv_aload_n hx hb dMo_formula_142 rfl (lv_at hl 1 rfl) ?_
                        refine va_get (D := (dC, dI)) (ci := 7) (v := .ref as2) (C := RMo) (T := TMo) (N := 19) hx hb hw in_Mo hown hK hP 0 rfl rfl 7 (by decide) (hw _ w_507) (fun _ h9 => h9) rfl dMo_formula_143 ?_
                        refine lv_aload_n hx hb dMo_formula_146 rfl (lv_at hl 1 rfl) ?_
                        refine va_get (D := (dC, dI)) (ci := 7) (v := .int (nI n)) (C := RMo) (T := TMo) (N := 19) hx hb hw in_Mo hown hK hP 0 rfl rfl 4 (by decide) (hw _ w_504) (fun _ h9 => h9) rfl dMo_formula_147 ?_
                        refine lv_iload_n hx hb dMo_formula_150 rfl (lv_at hl 4 rfl) ?_
                        refine wz_iast (ws' := [(aR, .inr (7, [.int (nI 0), .int (nI mv), .ref ams, .ref ann, .int (nI n), .ref ak2, .ref af2, .ref as2, .ref ah2, .int (nI fc), .ref afa, .ref afx, .ref ald, .int (nI zz), .ref awy, .int lp, .ref alt, .ref abg, .int (wz_i tl)])), (ak2, .inl (cI, 32, .inl (wz_n (wz_un kn n k)))), (af2, .inl (cI, 32, .inl (upd f2 n y))), (as2, .inl (cI, 32, .inl (upd s2 n z)))]) hx hb hK hP hD hS 3 0 rfl rfl (i := n) (by omega) (by decide) dMo_formula_151 rfl (fun H locs hP hD hS => ?_)
                        refine lv_aload_n hx hb dMo_formula_152 rfl (lv_at hl 1 rfl) ?_
                        refine lv_dup hx hb dMo_formula_153 rfl ?_
                        refine va_get (D := (dC, dI)) (ci := 7) (v := .int (nI n)) (C := RMo) (T := TMo) (N := 19) hx hb hw in_Mo hown hK hP 0 rfl rfl 4 (by decide) (hw _ w_504) (fun _ h9 => h9) rfl dMo_formula_154 ?_
                        refine lv_iconst (v := nI 1) hx hb dMo_formula_157 (by decide) ?_
                        refine wz_iadd hx hb dMo_formula_158 ?_
                        refine va_put (D := (dC, dI)) (ci := 7) (v := .int (nI (n + 1))) (ty := .int) (C := RMo) (T := TMo) (N := 19) hx hb hw in_Mo tyMo tyMo_ok nmMo hown hK hP hD hS 0 rfl rfl 4 (by decide) (hw _ w_504) (fun _ h9 => h9) rfl (by decide +kernel) rfl rfl (Nat.le_of_ble_eq_true rfl) dMo_formula_159 (fun H locs hP hD hS => ?_)
                        have hP : va_P (dC, dI) vwCl [(aR, .inr (7, [.int (nI 0), .int (nI mv), .ref ams, .ref ann, .int (nI (n + 1)), .ref ak2, .ref af2, .ref as2, .ref ah2, .int (nI fc), .ref afa, .ref afx, .ref ald, .int (nI zz), .ref awy, .int lp, .ref alt, .ref abg, .int (wz_i tl)])), (ak2, .inl (cI, 32, .inl (wz_n (wz_un kn n k)))), (af2, .inl (cI, 32, .inl (upd f2 n y))), (as2, .inl (cI, 32, .inl (upd s2 n z)))] H := hP
                        have hD : va_D A [(aR, .inr (7, [.int (nI 0), .int (nI mv), .ref ams, .ref ann, .int (nI (n + 1)), .ref ak2, .ref af2, .ref as2, .ref ah2, .int (nI fc), .ref afa, .ref afx, .ref ald, .int (nI zz), .ref awy, .int lp, .ref alt, .ref abg, .int (wz_i tl)])), (ak2, .inl (cI, 32, .inl (wz_n (wz_un kn n k)))), (af2, .inl (cI, 32, .inl (upd f2 n y))), (as2, .inl (cI, 32, .inl (upd s2 n z)))] := hD
                        refine lv_aload_n hx hb dMo_formula_162 rfl (lv_at hl 1 rfl) ?_
                        refine va_get (D := (dC, dI)) (ci := 7) (v := .int (nI (n + 1))) (C := RMo) (T := TMo) (N := 19) hx hb hw in_Mo hown hK hP 0 rfl rfl 4 (by decide) (hw _ w_504) (fun _ h9 => h9) rfl dMo_formula_163 ?_
                        refine lv_iconst (v := nI 1) hx hb dMo_formula_166 (by decide) ?_
                        refine wz_isub hx hb (by omega) dMo_formula_167 ?_
                        exact wz_iret hx hb hr hlocks rfl hP hD hK hS dMo_formula_168
                      · skip
                        exact absurd h117_20 (by decide)
                    · skip
                      omega
                  · skip
                    exact absurd h89_18 (by decide)
                · skip
                  refine lv_aload_n hx hb dMo_formula_71 rfl (lv_at hl 1 rfl) ?_
                  refine lv_iload_n hx hb dMo_formula_72 rfl (lv_at hl 4 rfl) ?_
                  refine wz_calli (wc := [(aR, .inr (7, [.int (nI th), .int (nI mv), .ref ams, .ref ann, .int (nI n), .ref ak2, .ref af2, .ref as2, .ref ah2, .int (nI fc), .ref afa, .ref afx, .ref ald, .int (nI zz), .ref awy, .int lp, .ref alt, .ref abg, .int (wz_i tl)]))]) (wr := [(ak2, .inl (cI, 32, .inl (wz_n kn))), (af2, .inl (cI, 32, .inl f2)), (as2, .inl (cI, 32, .inl s2))]) (w1 := [(aR, .inr (7, [.int (nI th), .int (nI mv), .ref ams, .ref ann, .int (nI n), .ref ak2, .ref af2, .ref as2, .ref ah2, .int (nI fc), .ref afa, .ref afx, .ref ald, .int (nI zz), .ref awy, .int lp, .ref alt, .ref abg, .int (wz_i tl)]))]) (ws' := [(aR, .inr (7, [.int (nI th), .int (nI mv), .ref ams, .ref ann, .int (nI n), .ref ak2, .ref af2, .ref as2, .ref ah2, .int (nI fc), .ref afa, .ref afx, .ref ald, .int (nI zz), .ref awy, .int lp, .ref alt, .ref abg, .int (wz_i tl)])), (ak2, .inl (cI, 32, .inl (wz_n kn))), (af2, .inl (cI, 32, .inl f2)), (as2, .inl (cI, 32, .inl s2))]) hP hD hS hA [0] [1, 2, 3] [3, 0, 1, 2] rfl rfl (by decide) (by decide) (by decide) rfl rfl (va_runV (As := [.int z]) (rest := []) ⟨hx, hb, hml, hown, hts⟩ (kMo_noFormula l dC dI cI cJ cZ H.size aR ams ann ak2 af2 as2 ah2 afa afx ald awy alt abg th mv n fc zz lp tl z) (cwV 1 hts (wz_gV w_583 w_584 w_12 w_41 w_585) rfl rfl rfl (by decide +kernel) ⟨Nat.le_of_ble_eq_true rfl, Nat.le_of_ble_eq_true rfl⟩) (wz_preV (q := (RMo, TMo, 19)) (ci := 7) hN hK hP hD [0] (by decide) rfl rfl 0 rfl rfl) rfl rfl hl.1 rfl (lv_room (Nat.le_of_ble_eq_true rfl)) dMo_formula_73 ⟨Nat.le_refl _, Nat.le_refl _⟩) (fun H locs hP hD hS => ?_)
                  refine wz_ifz (tgt := 83) hx hb dMo_formula_76 (by decide) (fun h76_21 => ?_) (fun h76_21 => ?_)
                  · skip
                    refine lv_iconst (v := nI 0) hx hb dMo_formula_83 (by decide) ?_
                    refine lv_istore (lv' := [(4, .int (nI 0)), (0, .ref aR), (1, .int (nI k)), (2, .int y), (3, .int z)]) hx hb dMo_formula_84 hl (by decide) rfl (fun ls hl => ?_)
                    refine lv_aload_n hx hb dMo_formula_86 rfl (lv_at hl 1 rfl) ?_
                    refine lv_iload hx hb dMo_formula_87 (lv_at hl 0 rfl) ?_
                    refine wz_ifN_eq (x := 0) (tgt := 96) hx hb (by omega) dMo_formula_89 (by decide) (fun h89_22 => ?_) (fun h89_22 => ?_)
                    · skip
                      refine lv_aload_n hx hb dMo_formula_96 rfl (lv_at hl 1 rfl) ?_
                      refine va_get (D := (dC, dI)) (ci := 7) (v := .int (nI n)) (C := RMo) (T := TMo) (N := 19) hx hb hw in_Mo hown hK hP 0 rfl rfl 4 (by decide) (hw _ w_504) (fun _ h9 => h9) rfl dMo_formula_97 ?_
                      refine lv_bipush (v := nI 32) hx hb dMo_formula_100 (by decide) ?_
                      refine wz_icmp_ne (x := n) (y := 32) (tgt := 109) hx hb (by omega) (by omega) dMo_formula_102 (by decide) (fun h102_23 => ?_) (fun h102_23 => ?_)
                      · skip
                        refine lv_iconst (v := nI 0) hx hb dMo_formula_109 (by decide) ?_
                        refine va_put (D := (dC, dI)) (ci := 7) (v := .int (nI 0)) (ty := .int) (C := RMo) (T := TMo) (N := 19) hx hb hw in_Mo tyMo tyMo_ok nmMo hown hK hP hD hS 0 rfl rfl 0 (by decide) (hw _ w_500) (fun _ h9 => h9) rfl (by decide +kernel) rfl rfl (Nat.le_of_ble_eq_true rfl) dMo_formula_110 (fun H locs hP hD hS => ?_)
                        have hP : va_P (dC, dI) vwCl [(aR, .inr (7, [.int (nI 0), .int (nI mv), .ref ams, .ref ann, .int (nI n), .ref ak2, .ref af2, .ref as2, .ref ah2, .int (nI fc), .ref afa, .ref afx, .ref ald, .int (nI zz), .ref awy, .int lp, .ref alt, .ref abg, .int (wz_i tl)])), (ak2, .inl (cI, 32, .inl (wz_n kn))), (af2, .inl (cI, 32, .inl f2)), (as2, .inl (cI, 32, .inl s2))] H := hP
                        have hD : va_D A [(aR, .inr (7, [.int (nI 0), .int (nI mv), .ref ams, .ref ann, .int (nI n), .ref ak2, .ref af2, .ref as2, .ref ah2, .int (nI fc), .ref afa, .ref afx, .ref ald, .int (nI zz), .ref awy, .int lp, .ref alt, .ref abg, .int (wz_i tl)])), (ak2, .inl (cI, 32, .inl (wz_n kn))), (af2, .inl (cI, 32, .inl f2)), (as2, .inl (cI, 32, .inl s2))] := hD
                        refine lv_aload_n hx hb dMo_formula_113 rfl (lv_at hl 1 rfl) ?_
                        refine va_get (D := (dC, dI)) (ci := 7) (v := .int (nI 0)) (C := RMo) (T := TMo) (N := 19) hx hb hw in_Mo hown hK hP 0 rfl rfl 0 (by decide) (hw _ w_500) (fun _ h9 => h9) rfl dMo_formula_114 ?_
                        refine wz_ifN_eq (x := 0) (tgt := 122) hx hb (by omega) dMo_formula_117 (by decide) (fun h117_24 => ?_) (fun h117_24 => ?_)
                        · skip
                          refine lv_aload_n hx hb dMo_formula_122 rfl (lv_at hl 1 rfl) ?_
                          refine va_get (D := (dC, dI)) (ci := 7) (v := .ref ak2) (C := RMo) (T := TMo) (N := 19) hx hb hw in_Mo hown hK hP 0 rfl rfl 5 (by decide) (hw _ w_505) (fun _ h9 => h9) rfl dMo_formula_123 ?_
                          refine lv_aload_n hx hb dMo_formula_126 rfl (lv_at hl 1 rfl) ?_
                          refine va_get (D := (dC, dI)) (ci := 7) (v := .int (nI n)) (C := RMo) (T := TMo) (N := 19) hx hb hw in_Mo hown hK hP 0 rfl rfl 4 (by decide) (hw _ w_504) (fun _ h9 => h9) rfl dMo_formula_127 ?_
                          refine lv_iload_n hx hb dMo_formula_130 rfl (lv_at hl 2 rfl) ?_
                          refine wz_astN (ws' := [(aR, .inr (7, [.int (nI 0), .int (nI mv), .ref ams, .ref ann, .int (nI n), .ref ak2, .ref af2, .ref as2, .ref ah2, .int (nI fc), .ref afa, .ref afx, .ref ald, .int (nI zz), .ref awy, .int lp, .ref alt, .ref abg, .int (wz_i tl)])), (ak2, .inl (cI, 32, .inl (wz_n (wz_un kn n k)))), (af2, .inl (cI, 32, .inl f2)), (as2, .inl (cI, 32, .inl s2))]) hx hb hK hP hD hS 1 0 rfl rfl (i := n) (by omega) (by decide) dMo_formula_131 rfl (fun H locs hP hD hS => ?_)
                          refine lv_aload_n hx hb dMo_formula_132 rfl (lv_at hl 1 rfl) ?_
                          refine va_get (D := (dC, dI)) (ci := 7) (v := .ref af2) (C := RMo) (T := TMo) (N := 19) hx hb hw in_Mo hown hK hP 0 rfl rfl 6 (by decide) (hw _ w_506) (fun _ h9 => h9) rfl dMo_formula_133 ?_
                          refine lv_aload_n hx hb dMo_formula_136 rfl (lv_at hl 1 rfl) ?_
                          refine va_get (D := (dC, dI)) (ci := 7) (v := .int (nI n)) (C := RMo) (T := TMo) (N := 19) hx hb hw in_Mo hown hK hP 0 rfl rfl 4 (by decide) (hw _ w_504) (fun _ h9 => h9) rfl dMo_formula_137 ?_
                          refine lv_iload_n hx hb dMo_formula_140 rfl (lv_at hl 3 rfl) ?_
                          refine wz_iast (ws' := [(aR, .inr (7, [.int (nI 0), .int (nI mv), .ref ams, .ref ann, .int (nI n), .ref ak2, .ref af2, .ref as2, .ref ah2, .int (nI fc), .ref afa, .ref afx, .ref ald, .int (nI zz), .ref awy, .int lp, .ref alt, .ref abg, .int (wz_i tl)])), (ak2, .inl (cI, 32, .inl (wz_n (wz_un kn n k)))), (af2, .inl (cI, 32, .inl (upd f2 n y))), (as2, .inl (cI, 32, .inl s2))]) hx hb hK hP hD hS 2 0 rfl rfl (i := n) (by omega) (by decide) dMo_formula_141 rfl (fun H locs hP hD hS => ?_)
                          refine lv_aload_n hx hb dMo_formula_142 rfl (lv_at hl 1 rfl) ?_
                          refine va_get (D := (dC, dI)) (ci := 7) (v := .ref as2) (C := RMo) (T := TMo) (N := 19) hx hb hw in_Mo hown hK hP 0 rfl rfl 7 (by decide) (hw _ w_507) (fun _ h9 => h9) rfl dMo_formula_143 ?_
                          refine lv_aload_n hx hb dMo_formula_146 rfl (lv_at hl 1 rfl) ?_
                          refine va_get (D := (dC, dI)) (ci := 7) (v := .int (nI n)) (C := RMo) (T := TMo) (N := 19) hx hb hw in_Mo hown hK hP 0 rfl rfl 4 (by decide) (hw _ w_504) (fun _ h9 => h9) rfl dMo_formula_147 ?_
                          refine lv_iload_n hx hb dMo_formula_150 rfl (lv_at hl 4 rfl) ?_
                          refine wz_iast (ws' := [(aR, .inr (7, [.int (nI 0), .int (nI mv), .ref ams, .ref ann, .int (nI n), .ref ak2, .ref af2, .ref as2, .ref ah2, .int (nI fc), .ref afa, .ref afx, .ref ald, .int (nI zz), .ref awy, .int lp, .ref alt, .ref abg, .int (wz_i tl)])), (ak2, .inl (cI, 32, .inl (wz_n (wz_un kn n k)))), (af2, .inl (cI, 32, .inl (upd f2 n y))), (as2, .inl (cI, 32, .inl (upd s2 n z)))]) hx hb hK hP hD hS 3 0 rfl rfl (i := n) (by omega) (by decide) dMo_formula_151 rfl (fun H locs hP hD hS => ?_)
                          refine lv_aload_n hx hb dMo_formula_152 rfl (lv_at hl 1 rfl) ?_
                          refine lv_dup hx hb dMo_formula_153 rfl ?_
                          refine va_get (D := (dC, dI)) (ci := 7) (v := .int (nI n)) (C := RMo) (T := TMo) (N := 19) hx hb hw in_Mo hown hK hP 0 rfl rfl 4 (by decide) (hw _ w_504) (fun _ h9 => h9) rfl dMo_formula_154 ?_
                          refine lv_iconst (v := nI 1) hx hb dMo_formula_157 (by decide) ?_
                          refine wz_iadd hx hb dMo_formula_158 ?_
                          refine va_put (D := (dC, dI)) (ci := 7) (v := .int (nI (n + 1))) (ty := .int) (C := RMo) (T := TMo) (N := 19) hx hb hw in_Mo tyMo tyMo_ok nmMo hown hK hP hD hS 0 rfl rfl 4 (by decide) (hw _ w_504) (fun _ h9 => h9) rfl (by decide +kernel) rfl rfl (Nat.le_of_ble_eq_true rfl) dMo_formula_159 (fun H locs hP hD hS => ?_)
                          have hP : va_P (dC, dI) vwCl [(aR, .inr (7, [.int (nI 0), .int (nI mv), .ref ams, .ref ann, .int (nI (n + 1)), .ref ak2, .ref af2, .ref as2, .ref ah2, .int (nI fc), .ref afa, .ref afx, .ref ald, .int (nI zz), .ref awy, .int lp, .ref alt, .ref abg, .int (wz_i tl)])), (ak2, .inl (cI, 32, .inl (wz_n (wz_un kn n k)))), (af2, .inl (cI, 32, .inl (upd f2 n y))), (as2, .inl (cI, 32, .inl (upd s2 n z)))] H := hP
                          have hD : va_D A [(aR, .inr (7, [.int (nI 0), .int (nI mv), .ref ams, .ref ann, .int (nI (n + 1)), .ref ak2, .ref af2, .ref as2, .ref ah2, .int (nI fc), .ref afa, .ref afx, .ref ald, .int (nI zz), .ref awy, .int lp, .ref alt, .ref abg, .int (wz_i tl)])), (ak2, .inl (cI, 32, .inl (wz_n (wz_un kn n k)))), (af2, .inl (cI, 32, .inl (upd f2 n y))), (as2, .inl (cI, 32, .inl (upd s2 n z)))] := hD
                          refine lv_aload_n hx hb dMo_formula_162 rfl (lv_at hl 1 rfl) ?_
                          refine va_get (D := (dC, dI)) (ci := 7) (v := .int (nI (n + 1))) (C := RMo) (T := TMo) (N := 19) hx hb hw in_Mo hown hK hP 0 rfl rfl 4 (by decide) (hw _ w_504) (fun _ h9 => h9) rfl dMo_formula_163 ?_
                          refine lv_iconst (v := nI 1) hx hb dMo_formula_166 (by decide) ?_
                          refine wz_isub hx hb (by omega) dMo_formula_167 ?_
                          exact wz_iret hx hb hr hlocks rfl hP hD hK hS dMo_formula_168
                        · skip
                          exact absurd h117_24 (by decide)
                      · skip
                        omega
                    · skip
                      exact absurd h89_22 (by decide)
                  · skip
                    simp [ww_cb_second hk hcb h68_17] at h76_21
            · skip
              simp [ww_cb_first hk hcb h23_4 h40_5] at h48_15
        · skip
          refine lv_iload_n hx hb dMo_formula_26 rfl (lv_at hl 3 rfl) ?_
          refine lv_if_lt (tgt := 51) hx hb dMo_formula_27 (by decide) (fun h27_25 => ?_) (fun h27_25 => ?_)
          · skip
            exact absurd h27_25 (ww_cb_var hk hcb h23_4).1
          · skip
            refine lv_iload_n hx hb dMo_formula_30 rfl (lv_at hl 3 rfl) ?_
            refine lv_iconst (v := nI 5) hx hb dMo_formula_31 (by decide) ?_
            refine lv_icmp_le (tgt := 55) hx hb dMo_formula_32 (by decide) (fun h32_26 => ?_) (fun h32_26 => ?_)
            · skip
              refine lv_iconst (v := nI 0) hx hb dMo_formula_55 (by decide) ?_
              refine lv_istore (lv' := [(4, .int (nI 0)), (0, .ref aR), (1, .int (nI k)), (2, .int y), (3, .int z)]) hx hb dMo_formula_56 hl (by decide) rfl (fun ls hl => ?_)
              refine lv_iload hx hb dMo_formula_58 (lv_at hl 0 rfl) ?_
              refine wz_ifN_ne (x := 0) (tgt := 79) hx hb (by omega) dMo_formula_60 (by decide) (fun h60_27 => ?_) (fun h60_27 => ?_)
              · skip
                exact absurd h60_27 (by decide)
              · skip
                refine lv_aload_n hx hb dMo_formula_63 rfl (lv_at hl 1 rfl) ?_
                refine lv_iload_n hx hb dMo_formula_64 rfl (lv_at hl 2 rfl) ?_
                refine wz_calli (wc := [(aR, .inr (7, [.int (nI th), .int (nI mv), .ref ams, .ref ann, .int (nI n), .ref ak2, .ref af2, .ref as2, .ref ah2, .int (nI fc), .ref afa, .ref afx, .ref ald, .int (nI zz), .ref awy, .int lp, .ref alt, .ref abg, .int (wz_i tl)]))]) (wr := [(ak2, .inl (cI, 32, .inl (wz_n kn))), (af2, .inl (cI, 32, .inl f2)), (as2, .inl (cI, 32, .inl s2))]) (w1 := [(aR, .inr (7, [.int (nI th), .int (nI mv), .ref ams, .ref ann, .int (nI n), .ref ak2, .ref af2, .ref as2, .ref ah2, .int (nI fc), .ref afa, .ref afx, .ref ald, .int (nI zz), .ref awy, .int lp, .ref alt, .ref abg, .int (wz_i tl)]))]) (ws' := [(aR, .inr (7, [.int (nI th), .int (nI mv), .ref ams, .ref ann, .int (nI n), .ref ak2, .ref af2, .ref as2, .ref ah2, .int (nI fc), .ref afa, .ref afx, .ref ald, .int (nI zz), .ref awy, .int lp, .ref alt, .ref abg, .int (wz_i tl)])), (ak2, .inl (cI, 32, .inl (wz_n kn))), (af2, .inl (cI, 32, .inl f2)), (as2, .inl (cI, 32, .inl s2))]) hP hD hS hA [0] [1, 2, 3] [3, 0, 1, 2] rfl rfl (by decide) (by decide) (by decide) rfl rfl (va_runV (As := [.int (nI k)]) (rest := []) ⟨hx, hb, hml, hown, hts⟩ (kMo_hasSecond l dC dI cI cJ cZ s.heap.size aR ams ann ak2 af2 as2 ah2 afa afx ald awy alt abg th mv n fc zz lp tl k hk) (cwV 1 hts (wz_gV w_586 w_587 w_13 w_41 w_588) rfl rfl rfl (by decide +kernel) ⟨Nat.le_of_ble_eq_true rfl, Nat.le_of_ble_eq_true rfl⟩) (wz_preV (q := (RMo, TMo, 19)) (ci := 7) hN hK hP hD [0] (by decide) rfl rfl 0 rfl rfl) rfl rfl hl.1 rfl (lv_room (Nat.le_of_ble_eq_true rfl)) dMo_formula_65 ⟨Nat.le_refl _, Nat.le_refl _⟩) (fun H locs hP hD hS => ?_)
                refine wz_ifz (tgt := 83) hx hb dMo_formula_68 (by decide) (fun h68_28 => ?_) (fun h68_28 => ?_)
                · skip
                  refine lv_iconst (v := nI 0) hx hb dMo_formula_83 (by decide) ?_
                  refine lv_istore (lv' := [(4, .int (nI 0)), (0, .ref aR), (1, .int (nI k)), (2, .int y), (3, .int z)]) hx hb dMo_formula_84 hl (by decide) rfl (fun ls hl => ?_)
                  refine lv_aload_n hx hb dMo_formula_86 rfl (lv_at hl 1 rfl) ?_
                  refine lv_iload hx hb dMo_formula_87 (lv_at hl 0 rfl) ?_
                  refine wz_ifN_eq (x := 0) (tgt := 96) hx hb (by omega) dMo_formula_89 (by decide) (fun h89_29 => ?_) (fun h89_29 => ?_)
                  · skip
                    refine lv_aload_n hx hb dMo_formula_96 rfl (lv_at hl 1 rfl) ?_
                    refine va_get (D := (dC, dI)) (ci := 7) (v := .int (nI n)) (C := RMo) (T := TMo) (N := 19) hx hb hw in_Mo hown hK hP 0 rfl rfl 4 (by decide) (hw _ w_504) (fun _ h9 => h9) rfl dMo_formula_97 ?_
                    refine lv_bipush (v := nI 32) hx hb dMo_formula_100 (by decide) ?_
                    refine wz_icmp_ne (x := n) (y := 32) (tgt := 109) hx hb (by omega) (by omega) dMo_formula_102 (by decide) (fun h102_30 => ?_) (fun h102_30 => ?_)
                    · skip
                      refine lv_iconst (v := nI 0) hx hb dMo_formula_109 (by decide) ?_
                      refine va_put (D := (dC, dI)) (ci := 7) (v := .int (nI 0)) (ty := .int) (C := RMo) (T := TMo) (N := 19) hx hb hw in_Mo tyMo tyMo_ok nmMo hown hK hP hD hS 0 rfl rfl 0 (by decide) (hw _ w_500) (fun _ h9 => h9) rfl (by decide +kernel) rfl rfl (Nat.le_of_ble_eq_true rfl) dMo_formula_110 (fun H locs hP hD hS => ?_)
                      have hP : va_P (dC, dI) vwCl [(aR, .inr (7, [.int (nI 0), .int (nI mv), .ref ams, .ref ann, .int (nI n), .ref ak2, .ref af2, .ref as2, .ref ah2, .int (nI fc), .ref afa, .ref afx, .ref ald, .int (nI zz), .ref awy, .int lp, .ref alt, .ref abg, .int (wz_i tl)])), (ak2, .inl (cI, 32, .inl (wz_n kn))), (af2, .inl (cI, 32, .inl f2)), (as2, .inl (cI, 32, .inl s2))] H := hP
                      have hD : va_D A [(aR, .inr (7, [.int (nI 0), .int (nI mv), .ref ams, .ref ann, .int (nI n), .ref ak2, .ref af2, .ref as2, .ref ah2, .int (nI fc), .ref afa, .ref afx, .ref ald, .int (nI zz), .ref awy, .int lp, .ref alt, .ref abg, .int (wz_i tl)])), (ak2, .inl (cI, 32, .inl (wz_n kn))), (af2, .inl (cI, 32, .inl f2)), (as2, .inl (cI, 32, .inl s2))] := hD
                      refine lv_aload_n hx hb dMo_formula_113 rfl (lv_at hl 1 rfl) ?_
                      refine va_get (D := (dC, dI)) (ci := 7) (v := .int (nI 0)) (C := RMo) (T := TMo) (N := 19) hx hb hw in_Mo hown hK hP 0 rfl rfl 0 (by decide) (hw _ w_500) (fun _ h9 => h9) rfl dMo_formula_114 ?_
                      refine wz_ifN_eq (x := 0) (tgt := 122) hx hb (by omega) dMo_formula_117 (by decide) (fun h117_31 => ?_) (fun h117_31 => ?_)
                      · skip
                        refine lv_aload_n hx hb dMo_formula_122 rfl (lv_at hl 1 rfl) ?_
                        refine va_get (D := (dC, dI)) (ci := 7) (v := .ref ak2) (C := RMo) (T := TMo) (N := 19) hx hb hw in_Mo hown hK hP 0 rfl rfl 5 (by decide) (hw _ w_505) (fun _ h9 => h9) rfl dMo_formula_123 ?_
                        refine lv_aload_n hx hb dMo_formula_126 rfl (lv_at hl 1 rfl) ?_
                        refine va_get (D := (dC, dI)) (ci := 7) (v := .int (nI n)) (C := RMo) (T := TMo) (N := 19) hx hb hw in_Mo hown hK hP 0 rfl rfl 4 (by decide) (hw _ w_504) (fun _ h9 => h9) rfl dMo_formula_127 ?_
                        refine lv_iload_n hx hb dMo_formula_130 rfl (lv_at hl 2 rfl) ?_
                        refine wz_astN (ws' := [(aR, .inr (7, [.int (nI 0), .int (nI mv), .ref ams, .ref ann, .int (nI n), .ref ak2, .ref af2, .ref as2, .ref ah2, .int (nI fc), .ref afa, .ref afx, .ref ald, .int (nI zz), .ref awy, .int lp, .ref alt, .ref abg, .int (wz_i tl)])), (ak2, .inl (cI, 32, .inl (wz_n (wz_un kn n k)))), (af2, .inl (cI, 32, .inl f2)), (as2, .inl (cI, 32, .inl s2))]) hx hb hK hP hD hS 1 0 rfl rfl (i := n) (by omega) (by decide) dMo_formula_131 rfl (fun H locs hP hD hS => ?_)
                        refine lv_aload_n hx hb dMo_formula_132 rfl (lv_at hl 1 rfl) ?_
                        refine va_get (D := (dC, dI)) (ci := 7) (v := .ref af2) (C := RMo) (T := TMo) (N := 19) hx hb hw in_Mo hown hK hP 0 rfl rfl 6 (by decide) (hw _ w_506) (fun _ h9 => h9) rfl dMo_formula_133 ?_
                        refine lv_aload_n hx hb dMo_formula_136 rfl (lv_at hl 1 rfl) ?_
                        refine va_get (D := (dC, dI)) (ci := 7) (v := .int (nI n)) (C := RMo) (T := TMo) (N := 19) hx hb hw in_Mo hown hK hP 0 rfl rfl 4 (by decide) (hw _ w_504) (fun _ h9 => h9) rfl dMo_formula_137 ?_
                        refine lv_iload_n hx hb dMo_formula_140 rfl (lv_at hl 3 rfl) ?_
                        refine wz_iast (ws' := [(aR, .inr (7, [.int (nI 0), .int (nI mv), .ref ams, .ref ann, .int (nI n), .ref ak2, .ref af2, .ref as2, .ref ah2, .int (nI fc), .ref afa, .ref afx, .ref ald, .int (nI zz), .ref awy, .int lp, .ref alt, .ref abg, .int (wz_i tl)])), (ak2, .inl (cI, 32, .inl (wz_n (wz_un kn n k)))), (af2, .inl (cI, 32, .inl (upd f2 n y))), (as2, .inl (cI, 32, .inl s2))]) hx hb hK hP hD hS 2 0 rfl rfl (i := n) (by omega) (by decide) dMo_formula_141 rfl (fun H locs hP hD hS => ?_)
                        refine lv_aload_n hx hb dMo_formula_142 rfl (lv_at hl 1 rfl) ?_
                        refine va_get (D := (dC, dI)) (ci := 7) (v := .ref as2) (C := RMo) (T := TMo) (N := 19) hx hb hw in_Mo hown hK hP 0 rfl rfl 7 (by decide) (hw _ w_507) (fun _ h9 => h9) rfl dMo_formula_143 ?_
                        refine lv_aload_n hx hb dMo_formula_146 rfl (lv_at hl 1 rfl) ?_
                        refine va_get (D := (dC, dI)) (ci := 7) (v := .int (nI n)) (C := RMo) (T := TMo) (N := 19) hx hb hw in_Mo hown hK hP 0 rfl rfl 4 (by decide) (hw _ w_504) (fun _ h9 => h9) rfl dMo_formula_147 ?_
                        refine lv_iload_n hx hb dMo_formula_150 rfl (lv_at hl 4 rfl) ?_
                        refine wz_iast (ws' := [(aR, .inr (7, [.int (nI 0), .int (nI mv), .ref ams, .ref ann, .int (nI n), .ref ak2, .ref af2, .ref as2, .ref ah2, .int (nI fc), .ref afa, .ref afx, .ref ald, .int (nI zz), .ref awy, .int lp, .ref alt, .ref abg, .int (wz_i tl)])), (ak2, .inl (cI, 32, .inl (wz_n (wz_un kn n k)))), (af2, .inl (cI, 32, .inl (upd f2 n y))), (as2, .inl (cI, 32, .inl (upd s2 n z)))]) hx hb hK hP hD hS 3 0 rfl rfl (i := n) (by omega) (by decide) dMo_formula_151 rfl (fun H locs hP hD hS => ?_)
                        refine lv_aload_n hx hb dMo_formula_152 rfl (lv_at hl 1 rfl) ?_
                        refine lv_dup hx hb dMo_formula_153 rfl ?_
                        refine va_get (D := (dC, dI)) (ci := 7) (v := .int (nI n)) (C := RMo) (T := TMo) (N := 19) hx hb hw in_Mo hown hK hP 0 rfl rfl 4 (by decide) (hw _ w_504) (fun _ h9 => h9) rfl dMo_formula_154 ?_
                        refine lv_iconst (v := nI 1) hx hb dMo_formula_157 (by decide) ?_
                        refine wz_iadd hx hb dMo_formula_158 ?_
                        refine va_put (D := (dC, dI)) (ci := 7) (v := .int (nI (n + 1))) (ty := .int) (C := RMo) (T := TMo) (N := 19) hx hb hw in_Mo tyMo tyMo_ok nmMo hown hK hP hD hS 0 rfl rfl 4 (by decide) (hw _ w_504) (fun _ h9 => h9) rfl (by decide +kernel) rfl rfl (Nat.le_of_ble_eq_true rfl) dMo_formula_159 (fun H locs hP hD hS => ?_)
                        have hP : va_P (dC, dI) vwCl [(aR, .inr (7, [.int (nI 0), .int (nI mv), .ref ams, .ref ann, .int (nI (n + 1)), .ref ak2, .ref af2, .ref as2, .ref ah2, .int (nI fc), .ref afa, .ref afx, .ref ald, .int (nI zz), .ref awy, .int lp, .ref alt, .ref abg, .int (wz_i tl)])), (ak2, .inl (cI, 32, .inl (wz_n (wz_un kn n k)))), (af2, .inl (cI, 32, .inl (upd f2 n y))), (as2, .inl (cI, 32, .inl (upd s2 n z)))] H := hP
                        have hD : va_D A [(aR, .inr (7, [.int (nI 0), .int (nI mv), .ref ams, .ref ann, .int (nI (n + 1)), .ref ak2, .ref af2, .ref as2, .ref ah2, .int (nI fc), .ref afa, .ref afx, .ref ald, .int (nI zz), .ref awy, .int lp, .ref alt, .ref abg, .int (wz_i tl)])), (ak2, .inl (cI, 32, .inl (wz_n (wz_un kn n k)))), (af2, .inl (cI, 32, .inl (upd f2 n y))), (as2, .inl (cI, 32, .inl (upd s2 n z)))] := hD
                        refine lv_aload_n hx hb dMo_formula_162 rfl (lv_at hl 1 rfl) ?_
                        refine va_get (D := (dC, dI)) (ci := 7) (v := .int (nI (n + 1))) (C := RMo) (T := TMo) (N := 19) hx hb hw in_Mo hown hK hP 0 rfl rfl 4 (by decide) (hw _ w_504) (fun _ h9 => h9) rfl dMo_formula_163 ?_
                        refine lv_iconst (v := nI 1) hx hb dMo_formula_166 (by decide) ?_
                        refine wz_isub hx hb (by omega) dMo_formula_167 ?_
                        exact wz_iret hx hb hr hlocks rfl hP hD hK hS dMo_formula_168
                      · skip
                        exact absurd h117_31 (by decide)
                    · skip
                      omega
                  · skip
                    exact absurd h89_29 (by decide)
                · skip
                  refine lv_aload_n hx hb dMo_formula_71 rfl (lv_at hl 1 rfl) ?_
                  refine lv_iload_n hx hb dMo_formula_72 rfl (lv_at hl 4 rfl) ?_
                  refine wz_calli (wc := [(aR, .inr (7, [.int (nI th), .int (nI mv), .ref ams, .ref ann, .int (nI n), .ref ak2, .ref af2, .ref as2, .ref ah2, .int (nI fc), .ref afa, .ref afx, .ref ald, .int (nI zz), .ref awy, .int lp, .ref alt, .ref abg, .int (wz_i tl)]))]) (wr := [(ak2, .inl (cI, 32, .inl (wz_n kn))), (af2, .inl (cI, 32, .inl f2)), (as2, .inl (cI, 32, .inl s2))]) (w1 := [(aR, .inr (7, [.int (nI th), .int (nI mv), .ref ams, .ref ann, .int (nI n), .ref ak2, .ref af2, .ref as2, .ref ah2, .int (nI fc), .ref afa, .ref afx, .ref ald, .int (nI zz), .ref awy, .int lp, .ref alt, .ref abg, .int (wz_i tl)]))]) (ws' := [(aR, .inr (7, [.int (nI th), .int (nI mv), .ref ams, .ref ann, .int (nI n), .ref ak2, .ref af2, .ref as2, .ref ah2, .int (nI fc), .ref afa, .ref afx, .ref ald, .int (nI zz), .ref awy, .int lp, .ref alt, .ref abg, .int (wz_i tl)])), (ak2, .inl (cI, 32, .inl (wz_n kn))), (af2, .inl (cI, 32, .inl f2)), (as2, .inl (cI, 32, .inl s2))]) hP hD hS hA [0] [1, 2, 3] [3, 0, 1, 2] rfl rfl (by decide) (by decide) (by decide) rfl rfl (va_runV (As := [.int z]) (rest := []) ⟨hx, hb, hml, hown, hts⟩ (kMo_noFormula l dC dI cI cJ cZ H.size aR ams ann ak2 af2 as2 ah2 afa afx ald awy alt abg th mv n fc zz lp tl z) (cwV 1 hts (wz_gV w_583 w_584 w_12 w_41 w_585) rfl rfl rfl (by decide +kernel) ⟨Nat.le_of_ble_eq_true rfl, Nat.le_of_ble_eq_true rfl⟩) (wz_preV (q := (RMo, TMo, 19)) (ci := 7) hN hK hP hD [0] (by decide) rfl rfl 0 rfl rfl) rfl rfl hl.1 rfl (lv_room (Nat.le_of_ble_eq_true rfl)) dMo_formula_73 ⟨Nat.le_refl _, Nat.le_refl _⟩) (fun H locs hP hD hS => ?_)
                  refine wz_ifz (tgt := 83) hx hb dMo_formula_76 (by decide) (fun h76_32 => ?_) (fun h76_32 => ?_)
                  · skip
                    refine lv_iconst (v := nI 0) hx hb dMo_formula_83 (by decide) ?_
                    refine lv_istore (lv' := [(4, .int (nI 0)), (0, .ref aR), (1, .int (nI k)), (2, .int y), (3, .int z)]) hx hb dMo_formula_84 hl (by decide) rfl (fun ls hl => ?_)
                    refine lv_aload_n hx hb dMo_formula_86 rfl (lv_at hl 1 rfl) ?_
                    refine lv_iload hx hb dMo_formula_87 (lv_at hl 0 rfl) ?_
                    refine wz_ifN_eq (x := 0) (tgt := 96) hx hb (by omega) dMo_formula_89 (by decide) (fun h89_33 => ?_) (fun h89_33 => ?_)
                    · skip
                      refine lv_aload_n hx hb dMo_formula_96 rfl (lv_at hl 1 rfl) ?_
                      refine va_get (D := (dC, dI)) (ci := 7) (v := .int (nI n)) (C := RMo) (T := TMo) (N := 19) hx hb hw in_Mo hown hK hP 0 rfl rfl 4 (by decide) (hw _ w_504) (fun _ h9 => h9) rfl dMo_formula_97 ?_
                      refine lv_bipush (v := nI 32) hx hb dMo_formula_100 (by decide) ?_
                      refine wz_icmp_ne (x := n) (y := 32) (tgt := 109) hx hb (by omega) (by omega) dMo_formula_102 (by decide) (fun h102_34 => ?_) (fun h102_34 => ?_)
                      · skip
                        refine lv_iconst (v := nI 0) hx hb dMo_formula_109 (by decide) ?_
                        refine va_put (D := (dC, dI)) (ci := 7) (v := .int (nI 0)) (ty := .int) (C := RMo) (T := TMo) (N := 19) hx hb hw in_Mo tyMo tyMo_ok nmMo hown hK hP hD hS 0 rfl rfl 0 (by decide) (hw _ w_500) (fun _ h9 => h9) rfl (by decide +kernel) rfl rfl (Nat.le_of_ble_eq_true rfl) dMo_formula_110 (fun H locs hP hD hS => ?_)
                        have hP : va_P (dC, dI) vwCl [(aR, .inr (7, [.int (nI 0), .int (nI mv), .ref ams, .ref ann, .int (nI n), .ref ak2, .ref af2, .ref as2, .ref ah2, .int (nI fc), .ref afa, .ref afx, .ref ald, .int (nI zz), .ref awy, .int lp, .ref alt, .ref abg, .int (wz_i tl)])), (ak2, .inl (cI, 32, .inl (wz_n kn))), (af2, .inl (cI, 32, .inl f2)), (as2, .inl (cI, 32, .inl s2))] H := hP
                        have hD : va_D A [(aR, .inr (7, [.int (nI 0), .int (nI mv), .ref ams, .ref ann, .int (nI n), .ref ak2, .ref af2, .ref as2, .ref ah2, .int (nI fc), .ref afa, .ref afx, .ref ald, .int (nI zz), .ref awy, .int lp, .ref alt, .ref abg, .int (wz_i tl)])), (ak2, .inl (cI, 32, .inl (wz_n kn))), (af2, .inl (cI, 32, .inl f2)), (as2, .inl (cI, 32, .inl s2))] := hD
                        refine lv_aload_n hx hb dMo_formula_113 rfl (lv_at hl 1 rfl) ?_
                        refine va_get (D := (dC, dI)) (ci := 7) (v := .int (nI 0)) (C := RMo) (T := TMo) (N := 19) hx hb hw in_Mo hown hK hP 0 rfl rfl 0 (by decide) (hw _ w_500) (fun _ h9 => h9) rfl dMo_formula_114 ?_
                        refine wz_ifN_eq (x := 0) (tgt := 122) hx hb (by omega) dMo_formula_117 (by decide) (fun h117_35 => ?_) (fun h117_35 => ?_)
                        · skip
                          refine lv_aload_n hx hb dMo_formula_122 rfl (lv_at hl 1 rfl) ?_
                          refine va_get (D := (dC, dI)) (ci := 7) (v := .ref ak2) (C := RMo) (T := TMo) (N := 19) hx hb hw in_Mo hown hK hP 0 rfl rfl 5 (by decide) (hw _ w_505) (fun _ h9 => h9) rfl dMo_formula_123 ?_
                          refine lv_aload_n hx hb dMo_formula_126 rfl (lv_at hl 1 rfl) ?_
                          refine va_get (D := (dC, dI)) (ci := 7) (v := .int (nI n)) (C := RMo) (T := TMo) (N := 19) hx hb hw in_Mo hown hK hP 0 rfl rfl 4 (by decide) (hw _ w_504) (fun _ h9 => h9) rfl dMo_formula_127 ?_
                          refine lv_iload_n hx hb dMo_formula_130 rfl (lv_at hl 2 rfl) ?_
                          refine wz_astN (ws' := [(aR, .inr (7, [.int (nI 0), .int (nI mv), .ref ams, .ref ann, .int (nI n), .ref ak2, .ref af2, .ref as2, .ref ah2, .int (nI fc), .ref afa, .ref afx, .ref ald, .int (nI zz), .ref awy, .int lp, .ref alt, .ref abg, .int (wz_i tl)])), (ak2, .inl (cI, 32, .inl (wz_n (wz_un kn n k)))), (af2, .inl (cI, 32, .inl f2)), (as2, .inl (cI, 32, .inl s2))]) hx hb hK hP hD hS 1 0 rfl rfl (i := n) (by omega) (by decide) dMo_formula_131 rfl (fun H locs hP hD hS => ?_)
                          refine lv_aload_n hx hb dMo_formula_132 rfl (lv_at hl 1 rfl) ?_
                          refine va_get (D := (dC, dI)) (ci := 7) (v := .ref af2) (C := RMo) (T := TMo) (N := 19) hx hb hw in_Mo hown hK hP 0 rfl rfl 6 (by decide) (hw _ w_506) (fun _ h9 => h9) rfl dMo_formula_133 ?_
                          refine lv_aload_n hx hb dMo_formula_136 rfl (lv_at hl 1 rfl) ?_
                          refine va_get (D := (dC, dI)) (ci := 7) (v := .int (nI n)) (C := RMo) (T := TMo) (N := 19) hx hb hw in_Mo hown hK hP 0 rfl rfl 4 (by decide) (hw _ w_504) (fun _ h9 => h9) rfl dMo_formula_137 ?_
                          refine lv_iload_n hx hb dMo_formula_140 rfl (lv_at hl 3 rfl) ?_
                          refine wz_iast (ws' := [(aR, .inr (7, [.int (nI 0), .int (nI mv), .ref ams, .ref ann, .int (nI n), .ref ak2, .ref af2, .ref as2, .ref ah2, .int (nI fc), .ref afa, .ref afx, .ref ald, .int (nI zz), .ref awy, .int lp, .ref alt, .ref abg, .int (wz_i tl)])), (ak2, .inl (cI, 32, .inl (wz_n (wz_un kn n k)))), (af2, .inl (cI, 32, .inl (upd f2 n y))), (as2, .inl (cI, 32, .inl s2))]) hx hb hK hP hD hS 2 0 rfl rfl (i := n) (by omega) (by decide) dMo_formula_141 rfl (fun H locs hP hD hS => ?_)
                          refine lv_aload_n hx hb dMo_formula_142 rfl (lv_at hl 1 rfl) ?_
                          refine va_get (D := (dC, dI)) (ci := 7) (v := .ref as2) (C := RMo) (T := TMo) (N := 19) hx hb hw in_Mo hown hK hP 0 rfl rfl 7 (by decide) (hw _ w_507) (fun _ h9 => h9) rfl dMo_formula_143 ?_
                          refine lv_aload_n hx hb dMo_formula_146 rfl (lv_at hl 1 rfl) ?_
                          refine va_get (D := (dC, dI)) (ci := 7) (v := .int (nI n)) (C := RMo) (T := TMo) (N := 19) hx hb hw in_Mo hown hK hP 0 rfl rfl 4 (by decide) (hw _ w_504) (fun _ h9 => h9) rfl dMo_formula_147 ?_
                          refine lv_iload_n hx hb dMo_formula_150 rfl (lv_at hl 4 rfl) ?_
                          refine wz_iast (ws' := [(aR, .inr (7, [.int (nI 0), .int (nI mv), .ref ams, .ref ann, .int (nI n), .ref ak2, .ref af2, .ref as2, .ref ah2, .int (nI fc), .ref afa, .ref afx, .ref ald, .int (nI zz), .ref awy, .int lp, .ref alt, .ref abg, .int (wz_i tl)])), (ak2, .inl (cI, 32, .inl (wz_n (wz_un kn n k)))), (af2, .inl (cI, 32, .inl (upd f2 n y))), (as2, .inl (cI, 32, .inl (upd s2 n z)))]) hx hb hK hP hD hS 3 0 rfl rfl (i := n) (by omega) (by decide) dMo_formula_151 rfl (fun H locs hP hD hS => ?_)
                          refine lv_aload_n hx hb dMo_formula_152 rfl (lv_at hl 1 rfl) ?_
                          refine lv_dup hx hb dMo_formula_153 rfl ?_
                          refine va_get (D := (dC, dI)) (ci := 7) (v := .int (nI n)) (C := RMo) (T := TMo) (N := 19) hx hb hw in_Mo hown hK hP 0 rfl rfl 4 (by decide) (hw _ w_504) (fun _ h9 => h9) rfl dMo_formula_154 ?_
                          refine lv_iconst (v := nI 1) hx hb dMo_formula_157 (by decide) ?_
                          refine wz_iadd hx hb dMo_formula_158 ?_
                          refine va_put (D := (dC, dI)) (ci := 7) (v := .int (nI (n + 1))) (ty := .int) (C := RMo) (T := TMo) (N := 19) hx hb hw in_Mo tyMo tyMo_ok nmMo hown hK hP hD hS 0 rfl rfl 4 (by decide) (hw _ w_504) (fun _ h9 => h9) rfl (by decide +kernel) rfl rfl (Nat.le_of_ble_eq_true rfl) dMo_formula_159 (fun H locs hP hD hS => ?_)
                          have hP : va_P (dC, dI) vwCl [(aR, .inr (7, [.int (nI 0), .int (nI mv), .ref ams, .ref ann, .int (nI (n + 1)), .ref ak2, .ref af2, .ref as2, .ref ah2, .int (nI fc), .ref afa, .ref afx, .ref ald, .int (nI zz), .ref awy, .int lp, .ref alt, .ref abg, .int (wz_i tl)])), (ak2, .inl (cI, 32, .inl (wz_n (wz_un kn n k)))), (af2, .inl (cI, 32, .inl (upd f2 n y))), (as2, .inl (cI, 32, .inl (upd s2 n z)))] H := hP
                          have hD : va_D A [(aR, .inr (7, [.int (nI 0), .int (nI mv), .ref ams, .ref ann, .int (nI (n + 1)), .ref ak2, .ref af2, .ref as2, .ref ah2, .int (nI fc), .ref afa, .ref afx, .ref ald, .int (nI zz), .ref awy, .int lp, .ref alt, .ref abg, .int (wz_i tl)])), (ak2, .inl (cI, 32, .inl (wz_n (wz_un kn n k)))), (af2, .inl (cI, 32, .inl (upd f2 n y))), (as2, .inl (cI, 32, .inl (upd s2 n z)))] := hD
                          refine lv_aload_n hx hb dMo_formula_162 rfl (lv_at hl 1 rfl) ?_
                          refine va_get (D := (dC, dI)) (ci := 7) (v := .int (nI (n + 1))) (C := RMo) (T := TMo) (N := 19) hx hb hw in_Mo hown hK hP 0 rfl rfl 4 (by decide) (hw _ w_504) (fun _ h9 => h9) rfl dMo_formula_163 ?_
                          refine lv_iconst (v := nI 1) hx hb dMo_formula_166 (by decide) ?_
                          refine wz_isub hx hb (by omega) dMo_formula_167 ?_
                          exact wz_iret hx hb hr hlocks rfl hP hD hK hS dMo_formula_168
                        · skip
                          exact absurd h117_35 (by decide)
                      · skip
                        omega
                    · skip
                      exact absurd h89_33 (by decide)
                  · skip
                    simp [ww_cb_second hk hcb h68_28] at h76_32
            · skip
              exact absurd ((ww_5 y).mpr (ww_cb_var hk hcb h23_4).2) h32_26
    · skip
      omega
set_option maxHeartbeats 4000000 in
set_option maxRecDepth 100000 in
theorem kMo_formula_2 (l : Launch) (dC : Nat → ClassId) (dI : Nat → Nat → Nat) (cI cJ cZ : ClassId) (sz : Nat) (aR : Nat) (ams : Nat) (ann : Nat) (ak2 : Nat) (af2 : Nat) (as2 : Nat) (ah2 : Nat) (afa : Nat) (afx : Nat) (ald : Nat) (awy : Nat) (alt : Nat) (abg : Nat) (th : Nat) (mv : Nat) (n : Nat) (fc : Nat) (zz : Nat) (lp : Int32) (tl : Bool) (kn : Nat → Nat) (f2 : Nat → Int32) (s2 : Nat → Int32) (k : Nat) (y : Int32) (z : Int32) (hk : k ≤ 12) (hcb : ww_cb n (nI k) y z = true) (hn32 : n = 32) : Met l yMo_formula (.code yMo_formula cMo_formula 5 (some .int) :: wz_all) ({ frames := 1, cells := 0, slots := 0, locals := 21 }) (wz_Pc (dC, dI) vwCl (wz_T cI cJ cZ) [.ref aR, .int (nI k), .int y, .int z] sz [(aR, .inr (7, [.int (nI th), .int (nI mv), .ref ams, .ref ann, .int (nI n), .ref ak2, .ref af2, .ref as2, .ref ah2, .int (nI fc), .ref afa, .ref afx, .ref ald, .int (nI zz), .ref awy, .int lp, .ref alt, .ref abg, .int (wz_i tl)])), (ak2, .inl (cI, 32, .inl (wz_n kn))), (af2, .inl (cI, 32, .inl f2)), (as2, .inl (cI, 32, .inl s2))]) (va_Qi (fun (r : Int32) (_ : Unit) => r = nI 0) (fun _ t => va_P (dC, dI) vwCl [(aR, .inr (7, [.int (nI 2), .int (nI mv), .ref ams, .ref ann, .int (nI n), .ref ak2, .ref af2, .ref as2, .ref ah2, .int (nI fc), .ref afa, .ref afx, .ref ald, .int (nI zz), .ref awy, .int lp, .ref alt, .ref abg, .int (wz_i tl)])), (ak2, .inl (cI, 32, .inl (wz_n kn))), (af2, .inl (cI, 32, .inl f2)), (as2, .inl (cI, 32, .inl s2))] t.heap ∧ va_K (dC, dI) vwCl (wz_T cI cJ cZ) t ∧ va_D (va_A [(aR, .inr (7, [.int (nI th), .int (nI mv), .ref ams, .ref ann, .int (nI n), .ref ak2, .ref af2, .ref as2, .ref ah2, .int (nI fc), .ref afa, .ref afx, .ref ald, .int (nI zz), .ref awy, .int lp, .ref alt, .ref abg, .int (wz_i tl)])), (ak2, .inl (cI, 32, .inl (wz_n kn))), (af2, .inl (cI, 32, .inl f2)), (as2, .inl (cI, 32, .inl s2))] sz) [(aR, .inr (7, [.int (nI 2), .int (nI mv), .ref ams, .ref ann, .int (nI n), .ref ak2, .ref af2, .ref as2, .ref ah2, .int (nI fc), .ref afa, .ref afx, .ref ald, .int (nI zz), .ref awy, .int lp, .ref alt, .ref abg, .int (wz_i tl)])), (ak2, .inl (cI, 32, .inl (wz_n kn))), (af2, .inl (cI, 32, .inl f2)), (as2, .inl (cI, 32, .inl s2))]) (va_A [(aR, .inr (7, [.int (nI th), .int (nI mv), .ref ams, .ref ann, .int (nI n), .ref ak2, .ref af2, .ref as2, .ref ah2, .int (nI fc), .ref afa, .ref afx, .ref ald, .int (nI zz), .ref awy, .int lp, .ref alt, .ref abg, .int (wz_i tl)])), (ak2, .inl (cI, 32, .inl (wz_n kn))), (af2, .inl (cI, 32, .inl f2)), (as2, .inl (cI, 32, .inl s2))] sz)) 0 0 (va_A [(aR, .inr (7, [.int (nI th), .int (nI mv), .ref ams, .ref ann, .int (nI n), .ref ak2, .ref af2, .ref as2, .ref ah2, .int (nI fc), .ref afa, .ref afx, .ref ald, .int (nI zz), .ref awy, .int lp, .ref alt, .ref abg, .int (wz_i tl)])), (ak2, .inl (cI, 32, .inl (wz_n kn))), (af2, .inl (cI, 32, .inl f2)), (as2, .inl (cI, 32, .inl s2))] sz) := by
  refine Met.ofW (cc := cMo_formula) (maxL := 5) (ret := (some .int)) (by decide) rfl ?_
  intro p e s m args below meth c s₁ B hml hv
  obtain ⟨rfl, hsz, hP, hK, hD0, hN⟩ := hv
  have hx := B.exec
  have hb := B.bytes
  have hr := B.returns
  have hts := atoms_spec (ws := (.code yMo_formula cMo_formula 5 (some .int) :: wz_all)) B.pre
  have hw : ∀ w9 ∈ wz_all, w9.before [.ref aR, .int (nI k), .int y, .int z].toArray s = true := fun w9 h => hts w9 (List.mem_cons_of_mem _ h)
  have hown : s.vm.findClass RMo = some m.cls := findClass_of_methodNamed B.named
  have hlocks := B.notSynchronized
  subst hsz
  have hD := hD0.self (sz := s.heap.size)
  generalize hAe : va_A [(aR, .inr (7, [.int (nI th), .int (nI mv), .ref ams, .ref ann, .int (nI n), .ref ak2, .ref af2, .ref as2, .ref ah2, .int (nI fc), .ref afa, .ref afx, .ref ald, .int (nI zz), .ref awy, .int lp, .ref alt, .ref abg, .int (wz_i tl)])), (ak2, .inl (cI, 32, .inl (wz_n kn))), (af2, .inl (cI, 32, .inl f2)), (as2, .inl (cI, 32, .inl s2))] s.heap.size = A at hD ⊢
  have hA : ∀ q : Nat, s.heap.size ≤ q → A q := fun q h => by rw [← hAe]; exact Or.inr h
  have hS : va_S A s.heap s.heap [] := va_S.rf
  have hP : va_P (dC, dI) vwCl [(aR, .inr (7, [.int (nI th), .int (nI mv), .ref ams, .ref ann, .int (nI n), .ref ak2, .ref af2, .ref as2, .ref ah2, .int (nI fc), .ref afa, .ref afx, .ref ald, .int (nI zz), .ref awy, .int lp, .ref alt, .ref abg, .int (wz_i tl)])), (ak2, .inl (cI, 32, .inl (wz_n kn))), (af2, .inl (cI, 32, .inl f2)), (as2, .inl (cI, 32, .inl s2))] s.heap := hP
  have hl := lv_entry ([.ref aR, .int (nI k), .int y, .int z]) (n := 5) (Nat.le_of_ble_eq_true rfl)
  rw [lg_entry_eq]
  generalize (lg_sl ([.ref aR, .int (nI k), .int y, .int z]) ++ List.replicate (5 - (lg_sl ([.ref aR, .int (nI k), .int y, .int z])).length) Slot.unset).toArray = ls at hl ⊢
  have hl : lv_has ls 5 [(0, .ref aR), (1, .int (nI k)), (2, .int y), (3, .int z)] := hl
  refine lv_iload_n hx hb dMo_formula_0 rfl (lv_at hl 1 rfl) ?_
  refine lv_if_lt (tgt := 10) hx hb dMo_formula_1 (by decide) (fun h1_1 => ?_) (fun h1_1 => ?_)
  · skip
    exact absurd h1_1 (nI_pos (by omega))
  · skip
    refine lv_iload_n hx hb dMo_formula_4 rfl (lv_at hl 1 rfl) ?_
    refine lv_bipush (v := nI 12) hx hb dMo_formula_5 (by decide) ?_
    refine wz_icmp_le (x := k) (y := 12) (tgt := 14) hx hb (by omega) (by omega) dMo_formula_7 (by decide) (fun h7_2 => ?_) (fun h7_2 => ?_)
    · skip
      refine lv_iconst (v := nI 0) hx hb dMo_formula_14 (by decide) ?_
      refine lv_istore (lv' := [(4, .int (nI 0)), (0, .ref aR), (1, .int (nI k)), (2, .int y), (3, .int z)]) hx hb dMo_formula_15 hl (by decide) rfl (fun ls hl => ?_)
      refine lv_iload hx hb dMo_formula_17 (lv_at hl 0 rfl) ?_
      refine wz_ifN_ne (x := 0) (tgt := 51) hx hb (by omega) dMo_formula_19 (by decide) (fun h19_3 => ?_) (fun h19_3 => ?_)
      · skip
        exact absurd h19_3 (by decide)
      · skip
        refine lv_iload_n hx hb dMo_formula_22 rfl (lv_at hl 2 rfl) ?_
        refine wz_ifN_ne (x := k) (tgt := 38) hx hb (by omega) dMo_formula_23 (by decide) (fun h23_4 => ?_) (fun h23_4 => ?_)
        · skip
          refine lv_iload_n hx hb dMo_formula_38 rfl (lv_at hl 2 rfl) ?_
          refine lv_iconst (v := nI 1) hx hb dMo_formula_39 (by decide) ?_
          refine wz_icmp_eq (x := k) (y := 1) (tgt := 55) hx hb (by omega) (by omega) dMo_formula_40 (by decide) (fun h40_5 => ?_) (fun h40_5 => ?_)
          · skip
            refine lv_iconst (v := nI 0) hx hb dMo_formula_55 (by decide) ?_
            refine lv_istore (lv' := [(4, .int (nI 0)), (0, .ref aR), (1, .int (nI k)), (2, .int y), (3, .int z)]) hx hb dMo_formula_56 hl (by decide) rfl (fun ls hl => ?_)
            refine lv_iload hx hb dMo_formula_58 (lv_at hl 0 rfl) ?_
            refine wz_ifN_ne (x := 0) (tgt := 79) hx hb (by omega) dMo_formula_60 (by decide) (fun h60_6 => ?_) (fun h60_6 => ?_)
            · skip
              exact absurd h60_6 (by decide)
            · skip
              refine lv_aload_n hx hb dMo_formula_63 rfl (lv_at hl 1 rfl) ?_
              refine lv_iload_n hx hb dMo_formula_64 rfl (lv_at hl 2 rfl) ?_
              refine wz_calli (wc := [(aR, .inr (7, [.int (nI th), .int (nI mv), .ref ams, .ref ann, .int (nI n), .ref ak2, .ref af2, .ref as2, .ref ah2, .int (nI fc), .ref afa, .ref afx, .ref ald, .int (nI zz), .ref awy, .int lp, .ref alt, .ref abg, .int (wz_i tl)]))]) (wr := [(ak2, .inl (cI, 32, .inl (wz_n kn))), (af2, .inl (cI, 32, .inl f2)), (as2, .inl (cI, 32, .inl s2))]) (w1 := [(aR, .inr (7, [.int (nI th), .int (nI mv), .ref ams, .ref ann, .int (nI n), .ref ak2, .ref af2, .ref as2, .ref ah2, .int (nI fc), .ref afa, .ref afx, .ref ald, .int (nI zz), .ref awy, .int lp, .ref alt, .ref abg, .int (wz_i tl)]))]) (ws' := [(aR, .inr (7, [.int (nI th), .int (nI mv), .ref ams, .ref ann, .int (nI n), .ref ak2, .ref af2, .ref as2, .ref ah2, .int (nI fc), .ref afa, .ref afx, .ref ald, .int (nI zz), .ref awy, .int lp, .ref alt, .ref abg, .int (wz_i tl)])), (ak2, .inl (cI, 32, .inl (wz_n kn))), (af2, .inl (cI, 32, .inl f2)), (as2, .inl (cI, 32, .inl s2))]) hP hD hS hA [0] [1, 2, 3] [3, 0, 1, 2] rfl rfl (by decide) (by decide) (by decide) rfl rfl (va_runV (As := [.int (nI k)]) (rest := []) ⟨hx, hb, hml, hown, hts⟩ (kMo_hasSecond l dC dI cI cJ cZ s.heap.size aR ams ann ak2 af2 as2 ah2 afa afx ald awy alt abg th mv n fc zz lp tl k hk) (cwV 1 hts (wz_gV w_586 w_587 w_13 w_41 w_588) rfl rfl rfl (by decide +kernel) ⟨Nat.le_of_ble_eq_true rfl, Nat.le_of_ble_eq_true rfl⟩) (wz_preV (q := (RMo, TMo, 19)) (ci := 7) hN hK hP hD [0] (by decide) rfl rfl 0 rfl rfl) rfl rfl hl.1 rfl (lv_room (Nat.le_of_ble_eq_true rfl)) dMo_formula_65 ⟨Nat.le_refl _, Nat.le_refl _⟩) (fun H locs hP hD hS => ?_)
              refine wz_ifz (tgt := 83) hx hb dMo_formula_68 (by decide) (fun h68_7 => ?_) (fun h68_7 => ?_)
              · skip
                refine lv_iconst (v := nI 0) hx hb dMo_formula_83 (by decide) ?_
                refine lv_istore (lv' := [(4, .int (nI 0)), (0, .ref aR), (1, .int (nI k)), (2, .int y), (3, .int z)]) hx hb dMo_formula_84 hl (by decide) rfl (fun ls hl => ?_)
                refine lv_aload_n hx hb dMo_formula_86 rfl (lv_at hl 1 rfl) ?_
                refine lv_iload hx hb dMo_formula_87 (lv_at hl 0 rfl) ?_
                refine wz_ifN_eq (x := 0) (tgt := 96) hx hb (by omega) dMo_formula_89 (by decide) (fun h89_8 => ?_) (fun h89_8 => ?_)
                · skip
                  refine lv_aload_n hx hb dMo_formula_96 rfl (lv_at hl 1 rfl) ?_
                  refine va_get (D := (dC, dI)) (ci := 7) (v := .int (nI n)) (C := RMo) (T := TMo) (N := 19) hx hb hw in_Mo hown hK hP 0 rfl rfl 4 (by decide) (hw _ w_504) (fun _ h9 => h9) rfl dMo_formula_97 ?_
                  refine lv_bipush (v := nI 32) hx hb dMo_formula_100 (by decide) ?_
                  refine wz_icmp_ne (x := n) (y := 32) (tgt := 109) hx hb (by omega) (by omega) dMo_formula_102 (by decide) (fun h102_9 => ?_) (fun h102_9 => ?_)
                  · skip
                    exact absurd hn32 h102_9
                  · skip
                    refine lv_iconst (v := nI 2) hx hb dMo_formula_105 (by decide) ?_
                    refine lv_goto (tgt := 110) hx hb dMo_formula_106 (by decide) ?_
                    refine va_put (D := (dC, dI)) (ci := 7) (v := .int (nI 2)) (ty := .int) (C := RMo) (T := TMo) (N := 19) hx hb hw in_Mo tyMo tyMo_ok nmMo hown hK hP hD hS 0 rfl rfl 0 (by decide) (hw _ w_500) (fun _ h9 => h9) rfl (by decide +kernel) rfl rfl (Nat.le_of_ble_eq_true rfl) dMo_formula_110 (fun H locs hP hD hS => ?_)
                    have hP : va_P (dC, dI) vwCl [(aR, .inr (7, [.int (nI 2), .int (nI mv), .ref ams, .ref ann, .int (nI n), .ref ak2, .ref af2, .ref as2, .ref ah2, .int (nI fc), .ref afa, .ref afx, .ref ald, .int (nI zz), .ref awy, .int lp, .ref alt, .ref abg, .int (wz_i tl)])), (ak2, .inl (cI, 32, .inl (wz_n kn))), (af2, .inl (cI, 32, .inl f2)), (as2, .inl (cI, 32, .inl s2))] H := hP
                    have hD : va_D A [(aR, .inr (7, [.int (nI 2), .int (nI mv), .ref ams, .ref ann, .int (nI n), .ref ak2, .ref af2, .ref as2, .ref ah2, .int (nI fc), .ref afa, .ref afx, .ref ald, .int (nI zz), .ref awy, .int lp, .ref alt, .ref abg, .int (wz_i tl)])), (ak2, .inl (cI, 32, .inl (wz_n kn))), (af2, .inl (cI, 32, .inl f2)), (as2, .inl (cI, 32, .inl s2))] := hD
                    refine lv_aload_n hx hb dMo_formula_113 rfl (lv_at hl 1 rfl) ?_
                    refine va_get (D := (dC, dI)) (ci := 7) (v := .int (nI 2)) (C := RMo) (T := TMo) (N := 19) hx hb hw in_Mo hown hK hP 0 rfl rfl 0 (by decide) (hw _ w_500) (fun _ h9 => h9) rfl dMo_formula_114 ?_
                    refine wz_ifN_eq (x := 2) (tgt := 122) hx hb (by omega) dMo_formula_117 (by decide) (fun h117_10 => ?_) (fun h117_10 => ?_)
                    · skip
                      exact absurd h117_10 (by decide)
                    · skip
                      refine lv_iconst (v := nI 0) hx hb dMo_formula_120 (by decide) ?_
                      exact wz_iret hx hb hr hlocks rfl hP hD hK hS dMo_formula_121
                · skip
                  exact absurd h89_8 (by decide)
              · skip
                refine lv_aload_n hx hb dMo_formula_71 rfl (lv_at hl 1 rfl) ?_
                refine lv_iload_n hx hb dMo_formula_72 rfl (lv_at hl 4 rfl) ?_
                refine wz_calli (wc := [(aR, .inr (7, [.int (nI th), .int (nI mv), .ref ams, .ref ann, .int (nI n), .ref ak2, .ref af2, .ref as2, .ref ah2, .int (nI fc), .ref afa, .ref afx, .ref ald, .int (nI zz), .ref awy, .int lp, .ref alt, .ref abg, .int (wz_i tl)]))]) (wr := [(ak2, .inl (cI, 32, .inl (wz_n kn))), (af2, .inl (cI, 32, .inl f2)), (as2, .inl (cI, 32, .inl s2))]) (w1 := [(aR, .inr (7, [.int (nI th), .int (nI mv), .ref ams, .ref ann, .int (nI n), .ref ak2, .ref af2, .ref as2, .ref ah2, .int (nI fc), .ref afa, .ref afx, .ref ald, .int (nI zz), .ref awy, .int lp, .ref alt, .ref abg, .int (wz_i tl)]))]) (ws' := [(aR, .inr (7, [.int (nI th), .int (nI mv), .ref ams, .ref ann, .int (nI n), .ref ak2, .ref af2, .ref as2, .ref ah2, .int (nI fc), .ref afa, .ref afx, .ref ald, .int (nI zz), .ref awy, .int lp, .ref alt, .ref abg, .int (wz_i tl)])), (ak2, .inl (cI, 32, .inl (wz_n kn))), (af2, .inl (cI, 32, .inl f2)), (as2, .inl (cI, 32, .inl s2))]) hP hD hS hA [0] [1, 2, 3] [3, 0, 1, 2] rfl rfl (by decide) (by decide) (by decide) rfl rfl (va_runV (As := [.int z]) (rest := []) ⟨hx, hb, hml, hown, hts⟩ (kMo_noFormula l dC dI cI cJ cZ H.size aR ams ann ak2 af2 as2 ah2 afa afx ald awy alt abg th mv n fc zz lp tl z) (cwV 1 hts (wz_gV w_583 w_584 w_12 w_41 w_585) rfl rfl rfl (by decide +kernel) ⟨Nat.le_of_ble_eq_true rfl, Nat.le_of_ble_eq_true rfl⟩) (wz_preV (q := (RMo, TMo, 19)) (ci := 7) hN hK hP hD [0] (by decide) rfl rfl 0 rfl rfl) rfl rfl hl.1 rfl (lv_room (Nat.le_of_ble_eq_true rfl)) dMo_formula_73 ⟨Nat.le_refl _, Nat.le_refl _⟩) (fun H locs hP hD hS => ?_)
                refine wz_ifz (tgt := 83) hx hb dMo_formula_76 (by decide) (fun h76_11 => ?_) (fun h76_11 => ?_)
                · skip
                  refine lv_iconst (v := nI 0) hx hb dMo_formula_83 (by decide) ?_
                  refine lv_istore (lv' := [(4, .int (nI 0)), (0, .ref aR), (1, .int (nI k)), (2, .int y), (3, .int z)]) hx hb dMo_formula_84 hl (by decide) rfl (fun ls hl => ?_)
                  refine lv_aload_n hx hb dMo_formula_86 rfl (lv_at hl 1 rfl) ?_
                  refine lv_iload hx hb dMo_formula_87 (lv_at hl 0 rfl) ?_
                  refine wz_ifN_eq (x := 0) (tgt := 96) hx hb (by omega) dMo_formula_89 (by decide) (fun h89_12 => ?_) (fun h89_12 => ?_)
                  · skip
                    refine lv_aload_n hx hb dMo_formula_96 rfl (lv_at hl 1 rfl) ?_
                    refine va_get (D := (dC, dI)) (ci := 7) (v := .int (nI n)) (C := RMo) (T := TMo) (N := 19) hx hb hw in_Mo hown hK hP 0 rfl rfl 4 (by decide) (hw _ w_504) (fun _ h9 => h9) rfl dMo_formula_97 ?_
                    refine lv_bipush (v := nI 32) hx hb dMo_formula_100 (by decide) ?_
                    refine wz_icmp_ne (x := n) (y := 32) (tgt := 109) hx hb (by omega) (by omega) dMo_formula_102 (by decide) (fun h102_13 => ?_) (fun h102_13 => ?_)
                    · skip
                      exact absurd hn32 h102_13
                    · skip
                      refine lv_iconst (v := nI 2) hx hb dMo_formula_105 (by decide) ?_
                      refine lv_goto (tgt := 110) hx hb dMo_formula_106 (by decide) ?_
                      refine va_put (D := (dC, dI)) (ci := 7) (v := .int (nI 2)) (ty := .int) (C := RMo) (T := TMo) (N := 19) hx hb hw in_Mo tyMo tyMo_ok nmMo hown hK hP hD hS 0 rfl rfl 0 (by decide) (hw _ w_500) (fun _ h9 => h9) rfl (by decide +kernel) rfl rfl (Nat.le_of_ble_eq_true rfl) dMo_formula_110 (fun H locs hP hD hS => ?_)
                      have hP : va_P (dC, dI) vwCl [(aR, .inr (7, [.int (nI 2), .int (nI mv), .ref ams, .ref ann, .int (nI n), .ref ak2, .ref af2, .ref as2, .ref ah2, .int (nI fc), .ref afa, .ref afx, .ref ald, .int (nI zz), .ref awy, .int lp, .ref alt, .ref abg, .int (wz_i tl)])), (ak2, .inl (cI, 32, .inl (wz_n kn))), (af2, .inl (cI, 32, .inl f2)), (as2, .inl (cI, 32, .inl s2))] H := hP
                      have hD : va_D A [(aR, .inr (7, [.int (nI 2), .int (nI mv), .ref ams, .ref ann, .int (nI n), .ref ak2, .ref af2, .ref as2, .ref ah2, .int (nI fc), .ref afa, .ref afx, .ref ald, .int (nI zz), .ref awy, .int lp, .ref alt, .ref abg, .int (wz_i tl)])), (ak2, .inl (cI, 32, .inl (wz_n kn))), (af2, .inl (cI, 32, .inl f2)), (as2, .inl (cI, 32, .inl s2))] := hD
                      refine lv_aload_n hx hb dMo_formula_113 rfl (lv_at hl 1 rfl) ?_
                      refine va_get (D := (dC, dI)) (ci := 7) (v := .int (nI 2)) (C := RMo) (T := TMo) (N := 19) hx hb hw in_Mo hown hK hP 0 rfl rfl 0 (by decide) (hw _ w_500) (fun _ h9 => h9) rfl dMo_formula_114 ?_
                      refine wz_ifN_eq (x := 2) (tgt := 122) hx hb (by omega) dMo_formula_117 (by decide) (fun h117_14 => ?_) (fun h117_14 => ?_)
                      · skip
                        exact absurd h117_14 (by decide)
                      · skip
                        refine lv_iconst (v := nI 0) hx hb dMo_formula_120 (by decide) ?_
                        exact wz_iret hx hb hr hlocks rfl hP hD hK hS dMo_formula_121
                  · skip
                    exact absurd h89_12 (by decide)
                · skip
                  simp [ww_cb_second hk hcb h68_7] at h76_11
          · skip
            refine lv_aload_n hx hb dMo_formula_43 rfl (lv_at hl 1 rfl) ?_
            refine lv_iload_n hx hb dMo_formula_44 rfl (lv_at hl 3 rfl) ?_
            refine wz_calli (wc := [(aR, .inr (7, [.int (nI th), .int (nI mv), .ref ams, .ref ann, .int (nI n), .ref ak2, .ref af2, .ref as2, .ref ah2, .int (nI fc), .ref afa, .ref afx, .ref ald, .int (nI zz), .ref awy, .int lp, .ref alt, .ref abg, .int (wz_i tl)]))]) (wr := [(ak2, .inl (cI, 32, .inl (wz_n kn))), (af2, .inl (cI, 32, .inl f2)), (as2, .inl (cI, 32, .inl s2))]) (w1 := [(aR, .inr (7, [.int (nI th), .int (nI mv), .ref ams, .ref ann, .int (nI n), .ref ak2, .ref af2, .ref as2, .ref ah2, .int (nI fc), .ref afa, .ref afx, .ref ald, .int (nI zz), .ref awy, .int lp, .ref alt, .ref abg, .int (wz_i tl)]))]) (ws' := [(aR, .inr (7, [.int (nI th), .int (nI mv), .ref ams, .ref ann, .int (nI n), .ref ak2, .ref af2, .ref as2, .ref ah2, .int (nI fc), .ref afa, .ref afx, .ref ald, .int (nI zz), .ref awy, .int lp, .ref alt, .ref abg, .int (wz_i tl)])), (ak2, .inl (cI, 32, .inl (wz_n kn))), (af2, .inl (cI, 32, .inl f2)), (as2, .inl (cI, 32, .inl s2))]) hP hD hS hA [0] [1, 2, 3] [3, 0, 1, 2] rfl rfl (by decide) (by decide) (by decide) rfl rfl (va_runV (As := [.int y]) (rest := []) ⟨hx, hb, hml, hown, hts⟩ (kMo_noFormula l dC dI cI cJ cZ s.heap.size aR ams ann ak2 af2 as2 ah2 afa afx ald awy alt abg th mv n fc zz lp tl y) (cwV 1 hts (wz_gV w_583 w_584 w_12 w_41 w_585) rfl rfl rfl (by decide +kernel) ⟨Nat.le_of_ble_eq_true rfl, Nat.le_of_ble_eq_true rfl⟩) (wz_preV (q := (RMo, TMo, 19)) (ci := 7) hN hK hP hD [0] (by decide) rfl rfl 0 rfl rfl) rfl rfl hl.1 rfl (lv_room (Nat.le_of_ble_eq_true rfl)) dMo_formula_45 ⟨Nat.le_refl _, Nat.le_refl _⟩) (fun H locs hP hD hS => ?_)
            refine wz_ifz (tgt := 55) hx hb dMo_formula_48 (by decide) (fun h48_15 => ?_) (fun h48_15 => ?_)
            · skip
              refine lv_iconst (v := nI 0) hx hb dMo_formula_55 (by decide) ?_
              refine lv_istore (lv' := [(4, .int (nI 0)), (0, .ref aR), (1, .int (nI k)), (2, .int y), (3, .int z)]) hx hb dMo_formula_56 hl (by decide) rfl (fun ls hl => ?_)
              refine lv_iload hx hb dMo_formula_58 (lv_at hl 0 rfl) ?_
              refine wz_ifN_ne (x := 0) (tgt := 79) hx hb (by omega) dMo_formula_60 (by decide) (fun h60_16 => ?_) (fun h60_16 => ?_)
              · skip
                exact absurd h60_16 (by decide)
              · skip
                refine lv_aload_n hx hb dMo_formula_63 rfl (lv_at hl 1 rfl) ?_
                refine lv_iload_n hx hb dMo_formula_64 rfl (lv_at hl 2 rfl) ?_
                refine wz_calli (wc := [(aR, .inr (7, [.int (nI th), .int (nI mv), .ref ams, .ref ann, .int (nI n), .ref ak2, .ref af2, .ref as2, .ref ah2, .int (nI fc), .ref afa, .ref afx, .ref ald, .int (nI zz), .ref awy, .int lp, .ref alt, .ref abg, .int (wz_i tl)]))]) (wr := [(ak2, .inl (cI, 32, .inl (wz_n kn))), (af2, .inl (cI, 32, .inl f2)), (as2, .inl (cI, 32, .inl s2))]) (w1 := [(aR, .inr (7, [.int (nI th), .int (nI mv), .ref ams, .ref ann, .int (nI n), .ref ak2, .ref af2, .ref as2, .ref ah2, .int (nI fc), .ref afa, .ref afx, .ref ald, .int (nI zz), .ref awy, .int lp, .ref alt, .ref abg, .int (wz_i tl)]))]) (ws' := [(aR, .inr (7, [.int (nI th), .int (nI mv), .ref ams, .ref ann, .int (nI n), .ref ak2, .ref af2, .ref as2, .ref ah2, .int (nI fc), .ref afa, .ref afx, .ref ald, .int (nI zz), .ref awy, .int lp, .ref alt, .ref abg, .int (wz_i tl)])), (ak2, .inl (cI, 32, .inl (wz_n kn))), (af2, .inl (cI, 32, .inl f2)), (as2, .inl (cI, 32, .inl s2))]) hP hD hS hA [0] [1, 2, 3] [3, 0, 1, 2] rfl rfl (by decide) (by decide) (by decide) rfl rfl (va_runV (As := [.int (nI k)]) (rest := []) ⟨hx, hb, hml, hown, hts⟩ (kMo_hasSecond l dC dI cI cJ cZ H.size aR ams ann ak2 af2 as2 ah2 afa afx ald awy alt abg th mv n fc zz lp tl k hk) (cwV 1 hts (wz_gV w_586 w_587 w_13 w_41 w_588) rfl rfl rfl (by decide +kernel) ⟨Nat.le_of_ble_eq_true rfl, Nat.le_of_ble_eq_true rfl⟩) (wz_preV (q := (RMo, TMo, 19)) (ci := 7) hN hK hP hD [0] (by decide) rfl rfl 0 rfl rfl) rfl rfl hl.1 rfl (lv_room (Nat.le_of_ble_eq_true rfl)) dMo_formula_65 ⟨Nat.le_refl _, Nat.le_refl _⟩) (fun H locs hP hD hS => ?_)
                refine wz_ifz (tgt := 83) hx hb dMo_formula_68 (by decide) (fun h68_17 => ?_) (fun h68_17 => ?_)
                · skip
                  refine lv_iconst (v := nI 0) hx hb dMo_formula_83 (by decide) ?_
                  refine lv_istore (lv' := [(4, .int (nI 0)), (0, .ref aR), (1, .int (nI k)), (2, .int y), (3, .int z)]) hx hb dMo_formula_84 hl (by decide) rfl (fun ls hl => ?_)
                  refine lv_aload_n hx hb dMo_formula_86 rfl (lv_at hl 1 rfl) ?_
                  refine lv_iload hx hb dMo_formula_87 (lv_at hl 0 rfl) ?_
                  refine wz_ifN_eq (x := 0) (tgt := 96) hx hb (by omega) dMo_formula_89 (by decide) (fun h89_18 => ?_) (fun h89_18 => ?_)
                  · skip
                    refine lv_aload_n hx hb dMo_formula_96 rfl (lv_at hl 1 rfl) ?_
                    refine va_get (D := (dC, dI)) (ci := 7) (v := .int (nI n)) (C := RMo) (T := TMo) (N := 19) hx hb hw in_Mo hown hK hP 0 rfl rfl 4 (by decide) (hw _ w_504) (fun _ h9 => h9) rfl dMo_formula_97 ?_
                    refine lv_bipush (v := nI 32) hx hb dMo_formula_100 (by decide) ?_
                    refine wz_icmp_ne (x := n) (y := 32) (tgt := 109) hx hb (by omega) (by omega) dMo_formula_102 (by decide) (fun h102_19 => ?_) (fun h102_19 => ?_)
                    · skip
                      exact absurd hn32 h102_19
                    · skip
                      refine lv_iconst (v := nI 2) hx hb dMo_formula_105 (by decide) ?_
                      refine lv_goto (tgt := 110) hx hb dMo_formula_106 (by decide) ?_
                      refine va_put (D := (dC, dI)) (ci := 7) (v := .int (nI 2)) (ty := .int) (C := RMo) (T := TMo) (N := 19) hx hb hw in_Mo tyMo tyMo_ok nmMo hown hK hP hD hS 0 rfl rfl 0 (by decide) (hw _ w_500) (fun _ h9 => h9) rfl (by decide +kernel) rfl rfl (Nat.le_of_ble_eq_true rfl) dMo_formula_110 (fun H locs hP hD hS => ?_)
                      have hP : va_P (dC, dI) vwCl [(aR, .inr (7, [.int (nI 2), .int (nI mv), .ref ams, .ref ann, .int (nI n), .ref ak2, .ref af2, .ref as2, .ref ah2, .int (nI fc), .ref afa, .ref afx, .ref ald, .int (nI zz), .ref awy, .int lp, .ref alt, .ref abg, .int (wz_i tl)])), (ak2, .inl (cI, 32, .inl (wz_n kn))), (af2, .inl (cI, 32, .inl f2)), (as2, .inl (cI, 32, .inl s2))] H := hP
                      have hD : va_D A [(aR, .inr (7, [.int (nI 2), .int (nI mv), .ref ams, .ref ann, .int (nI n), .ref ak2, .ref af2, .ref as2, .ref ah2, .int (nI fc), .ref afa, .ref afx, .ref ald, .int (nI zz), .ref awy, .int lp, .ref alt, .ref abg, .int (wz_i tl)])), (ak2, .inl (cI, 32, .inl (wz_n kn))), (af2, .inl (cI, 32, .inl f2)), (as2, .inl (cI, 32, .inl s2))] := hD
                      refine lv_aload_n hx hb dMo_formula_113 rfl (lv_at hl 1 rfl) ?_
                      refine va_get (D := (dC, dI)) (ci := 7) (v := .int (nI 2)) (C := RMo) (T := TMo) (N := 19) hx hb hw in_Mo hown hK hP 0 rfl rfl 0 (by decide) (hw _ w_500) (fun _ h9 => h9) rfl dMo_formula_114 ?_
                      refine wz_ifN_eq (x := 2) (tgt := 122) hx hb (by omega) dMo_formula_117 (by decide) (fun h117_20 => ?_) (fun h117_20 => ?_)
                      · skip
                        exact absurd h117_20 (by decide)
                      · skip
                        refine lv_iconst (v := nI 0) hx hb dMo_formula_120 (by decide) ?_
                        exact wz_iret hx hb hr hlocks rfl hP hD hK hS dMo_formula_121
                  · skip
                    exact absurd h89_18 (by decide)
                · skip
                  refine lv_aload_n hx hb dMo_formula_71 rfl (lv_at hl 1 rfl) ?_
                  refine lv_iload_n hx hb dMo_formula_72 rfl (lv_at hl 4 rfl) ?_
                  refine wz_calli (wc := [(aR, .inr (7, [.int (nI th), .int (nI mv), .ref ams, .ref ann, .int (nI n), .ref ak2, .ref af2, .ref as2, .ref ah2, .int (nI fc), .ref afa, .ref afx, .ref ald, .int (nI zz), .ref awy, .int lp, .ref alt, .ref abg, .int (wz_i tl)]))]) (wr := [(ak2, .inl (cI, 32, .inl (wz_n kn))), (af2, .inl (cI, 32, .inl f2)), (as2, .inl (cI, 32, .inl s2))]) (w1 := [(aR, .inr (7, [.int (nI th), .int (nI mv), .ref ams, .ref ann, .int (nI n), .ref ak2, .ref af2, .ref as2, .ref ah2, .int (nI fc), .ref afa, .ref afx, .ref ald, .int (nI zz), .ref awy, .int lp, .ref alt, .ref abg, .int (wz_i tl)]))]) (ws' := [(aR, .inr (7, [.int (nI th), .int (nI mv), .ref ams, .ref ann, .int (nI n), .ref ak2, .ref af2, .ref as2, .ref ah2, .int (nI fc), .ref afa, .ref afx, .ref ald, .int (nI zz), .ref awy, .int lp, .ref alt, .ref abg, .int (wz_i tl)])), (ak2, .inl (cI, 32, .inl (wz_n kn))), (af2, .inl (cI, 32, .inl f2)), (as2, .inl (cI, 32, .inl s2))]) hP hD hS hA [0] [1, 2, 3] [3, 0, 1, 2] rfl rfl (by decide) (by decide) (by decide) rfl rfl (va_runV (As := [.int z]) (rest := []) ⟨hx, hb, hml, hown, hts⟩ (kMo_noFormula l dC dI cI cJ cZ H.size aR ams ann ak2 af2 as2 ah2 afa afx ald awy alt abg th mv n fc zz lp tl z) (cwV 1 hts (wz_gV w_583 w_584 w_12 w_41 w_585) rfl rfl rfl (by decide +kernel) ⟨Nat.le_of_ble_eq_true rfl, Nat.le_of_ble_eq_true rfl⟩) (wz_preV (q := (RMo, TMo, 19)) (ci := 7) hN hK hP hD [0] (by decide) rfl rfl 0 rfl rfl) rfl rfl hl.1 rfl (lv_room (Nat.le_of_ble_eq_true rfl)) dMo_formula_73 ⟨Nat.le_refl _, Nat.le_refl _⟩) (fun H locs hP hD hS => ?_)
                  refine wz_ifz (tgt := 83) hx hb dMo_formula_76 (by decide) (fun h76_21 => ?_) (fun h76_21 => ?_)
                  · skip
                    refine lv_iconst (v := nI 0) hx hb dMo_formula_83 (by decide) ?_
                    refine lv_istore (lv' := [(4, .int (nI 0)), (0, .ref aR), (1, .int (nI k)), (2, .int y), (3, .int z)]) hx hb dMo_formula_84 hl (by decide) rfl (fun ls hl => ?_)
                    refine lv_aload_n hx hb dMo_formula_86 rfl (lv_at hl 1 rfl) ?_
                    refine lv_iload hx hb dMo_formula_87 (lv_at hl 0 rfl) ?_
                    refine wz_ifN_eq (x := 0) (tgt := 96) hx hb (by omega) dMo_formula_89 (by decide) (fun h89_22 => ?_) (fun h89_22 => ?_)
                    · skip
                      refine lv_aload_n hx hb dMo_formula_96 rfl (lv_at hl 1 rfl) ?_
                      refine va_get (D := (dC, dI)) (ci := 7) (v := .int (nI n)) (C := RMo) (T := TMo) (N := 19) hx hb hw in_Mo hown hK hP 0 rfl rfl 4 (by decide) (hw _ w_504) (fun _ h9 => h9) rfl dMo_formula_97 ?_
                      refine lv_bipush (v := nI 32) hx hb dMo_formula_100 (by decide) ?_
                      refine wz_icmp_ne (x := n) (y := 32) (tgt := 109) hx hb (by omega) (by omega) dMo_formula_102 (by decide) (fun h102_23 => ?_) (fun h102_23 => ?_)
                      · skip
                        exact absurd hn32 h102_23
                      · skip
                        refine lv_iconst (v := nI 2) hx hb dMo_formula_105 (by decide) ?_
                        refine lv_goto (tgt := 110) hx hb dMo_formula_106 (by decide) ?_
                        refine va_put (D := (dC, dI)) (ci := 7) (v := .int (nI 2)) (ty := .int) (C := RMo) (T := TMo) (N := 19) hx hb hw in_Mo tyMo tyMo_ok nmMo hown hK hP hD hS 0 rfl rfl 0 (by decide) (hw _ w_500) (fun _ h9 => h9) rfl (by decide +kernel) rfl rfl (Nat.le_of_ble_eq_true rfl) dMo_formula_110 (fun H locs hP hD hS => ?_)
                        have hP : va_P (dC, dI) vwCl [(aR, .inr (7, [.int (nI 2), .int (nI mv), .ref ams, .ref ann, .int (nI n), .ref ak2, .ref af2, .ref as2, .ref ah2, .int (nI fc), .ref afa, .ref afx, .ref ald, .int (nI zz), .ref awy, .int lp, .ref alt, .ref abg, .int (wz_i tl)])), (ak2, .inl (cI, 32, .inl (wz_n kn))), (af2, .inl (cI, 32, .inl f2)), (as2, .inl (cI, 32, .inl s2))] H := hP
                        have hD : va_D A [(aR, .inr (7, [.int (nI 2), .int (nI mv), .ref ams, .ref ann, .int (nI n), .ref ak2, .ref af2, .ref as2, .ref ah2, .int (nI fc), .ref afa, .ref afx, .ref ald, .int (nI zz), .ref awy, .int lp, .ref alt, .ref abg, .int (wz_i tl)])), (ak2, .inl (cI, 32, .inl (wz_n kn))), (af2, .inl (cI, 32, .inl f2)), (as2, .inl (cI, 32, .inl s2))] := hD
                        refine lv_aload_n hx hb dMo_formula_113 rfl (lv_at hl 1 rfl) ?_
                        refine va_get (D := (dC, dI)) (ci := 7) (v := .int (nI 2)) (C := RMo) (T := TMo) (N := 19) hx hb hw in_Mo hown hK hP 0 rfl rfl 0 (by decide) (hw _ w_500) (fun _ h9 => h9) rfl dMo_formula_114 ?_
                        refine wz_ifN_eq (x := 2) (tgt := 122) hx hb (by omega) dMo_formula_117 (by decide) (fun h117_24 => ?_) (fun h117_24 => ?_)
                        · skip
                          exact absurd h117_24 (by decide)
                        · skip
                          refine lv_iconst (v := nI 0) hx hb dMo_formula_120 (by decide) ?_
                          exact wz_iret hx hb hr hlocks rfl hP hD hK hS dMo_formula_121
                    · skip
                      exact absurd h89_22 (by decide)
                  · skip
                    simp [ww_cb_second hk hcb h68_17] at h76_21
            · skip
              simp [ww_cb_first hk hcb h23_4 h40_5] at h48_15
        · skip
          refine lv_iload_n hx hb dMo_formula_26 rfl (lv_at hl 3 rfl) ?_
          refine lv_if_lt (tgt := 51) hx hb dMo_formula_27 (by decide) (fun h27_25 => ?_) (fun h27_25 => ?_)
          · skip
            exact absurd h27_25 (ww_cb_var hk hcb h23_4).1
          · skip
            refine lv_iload_n hx hb dMo_formula_30 rfl (lv_at hl 3 rfl) ?_
            refine lv_iconst (v := nI 5) hx hb dMo_formula_31 (by decide) ?_
            refine lv_icmp_le (tgt := 55) hx hb dMo_formula_32 (by decide) (fun h32_26 => ?_) (fun h32_26 => ?_)
            · skip
              refine lv_iconst (v := nI 0) hx hb dMo_formula_55 (by decide) ?_
              refine lv_istore (lv' := [(4, .int (nI 0)), (0, .ref aR), (1, .int (nI k)), (2, .int y), (3, .int z)]) hx hb dMo_formula_56 hl (by decide) rfl (fun ls hl => ?_)
              refine lv_iload hx hb dMo_formula_58 (lv_at hl 0 rfl) ?_
              refine wz_ifN_ne (x := 0) (tgt := 79) hx hb (by omega) dMo_formula_60 (by decide) (fun h60_27 => ?_) (fun h60_27 => ?_)
              · skip
                exact absurd h60_27 (by decide)
              · skip
                refine lv_aload_n hx hb dMo_formula_63 rfl (lv_at hl 1 rfl) ?_
                refine lv_iload_n hx hb dMo_formula_64 rfl (lv_at hl 2 rfl) ?_
                refine wz_calli (wc := [(aR, .inr (7, [.int (nI th), .int (nI mv), .ref ams, .ref ann, .int (nI n), .ref ak2, .ref af2, .ref as2, .ref ah2, .int (nI fc), .ref afa, .ref afx, .ref ald, .int (nI zz), .ref awy, .int lp, .ref alt, .ref abg, .int (wz_i tl)]))]) (wr := [(ak2, .inl (cI, 32, .inl (wz_n kn))), (af2, .inl (cI, 32, .inl f2)), (as2, .inl (cI, 32, .inl s2))]) (w1 := [(aR, .inr (7, [.int (nI th), .int (nI mv), .ref ams, .ref ann, .int (nI n), .ref ak2, .ref af2, .ref as2, .ref ah2, .int (nI fc), .ref afa, .ref afx, .ref ald, .int (nI zz), .ref awy, .int lp, .ref alt, .ref abg, .int (wz_i tl)]))]) (ws' := [(aR, .inr (7, [.int (nI th), .int (nI mv), .ref ams, .ref ann, .int (nI n), .ref ak2, .ref af2, .ref as2, .ref ah2, .int (nI fc), .ref afa, .ref afx, .ref ald, .int (nI zz), .ref awy, .int lp, .ref alt, .ref abg, .int (wz_i tl)])), (ak2, .inl (cI, 32, .inl (wz_n kn))), (af2, .inl (cI, 32, .inl f2)), (as2, .inl (cI, 32, .inl s2))]) hP hD hS hA [0] [1, 2, 3] [3, 0, 1, 2] rfl rfl (by decide) (by decide) (by decide) rfl rfl (va_runV (As := [.int (nI k)]) (rest := []) ⟨hx, hb, hml, hown, hts⟩ (kMo_hasSecond l dC dI cI cJ cZ s.heap.size aR ams ann ak2 af2 as2 ah2 afa afx ald awy alt abg th mv n fc zz lp tl k hk) (cwV 1 hts (wz_gV w_586 w_587 w_13 w_41 w_588) rfl rfl rfl (by decide +kernel) ⟨Nat.le_of_ble_eq_true rfl, Nat.le_of_ble_eq_true rfl⟩) (wz_preV (q := (RMo, TMo, 19)) (ci := 7) hN hK hP hD [0] (by decide) rfl rfl 0 rfl rfl) rfl rfl hl.1 rfl (lv_room (Nat.le_of_ble_eq_true rfl)) dMo_formula_65 ⟨Nat.le_refl _, Nat.le_refl _⟩) (fun H locs hP hD hS => ?_)
                refine wz_ifz (tgt := 83) hx hb dMo_formula_68 (by decide) (fun h68_28 => ?_) (fun h68_28 => ?_)
                · skip
                  refine lv_iconst (v := nI 0) hx hb dMo_formula_83 (by decide) ?_
                  refine lv_istore (lv' := [(4, .int (nI 0)), (0, .ref aR), (1, .int (nI k)), (2, .int y), (3, .int z)]) hx hb dMo_formula_84 hl (by decide) rfl (fun ls hl => ?_)
                  refine lv_aload_n hx hb dMo_formula_86 rfl (lv_at hl 1 rfl) ?_
                  refine lv_iload hx hb dMo_formula_87 (lv_at hl 0 rfl) ?_
                  refine wz_ifN_eq (x := 0) (tgt := 96) hx hb (by omega) dMo_formula_89 (by decide) (fun h89_29 => ?_) (fun h89_29 => ?_)
                  · skip
                    refine lv_aload_n hx hb dMo_formula_96 rfl (lv_at hl 1 rfl) ?_
                    refine va_get (D := (dC, dI)) (ci := 7) (v := .int (nI n)) (C := RMo) (T := TMo) (N := 19) hx hb hw in_Mo hown hK hP 0 rfl rfl 4 (by decide) (hw _ w_504) (fun _ h9 => h9) rfl dMo_formula_97 ?_
                    refine lv_bipush (v := nI 32) hx hb dMo_formula_100 (by decide) ?_
                    refine wz_icmp_ne (x := n) (y := 32) (tgt := 109) hx hb (by omega) (by omega) dMo_formula_102 (by decide) (fun h102_30 => ?_) (fun h102_30 => ?_)
                    · skip
                      exact absurd hn32 h102_30
                    · skip
                      refine lv_iconst (v := nI 2) hx hb dMo_formula_105 (by decide) ?_
                      refine lv_goto (tgt := 110) hx hb dMo_formula_106 (by decide) ?_
                      refine va_put (D := (dC, dI)) (ci := 7) (v := .int (nI 2)) (ty := .int) (C := RMo) (T := TMo) (N := 19) hx hb hw in_Mo tyMo tyMo_ok nmMo hown hK hP hD hS 0 rfl rfl 0 (by decide) (hw _ w_500) (fun _ h9 => h9) rfl (by decide +kernel) rfl rfl (Nat.le_of_ble_eq_true rfl) dMo_formula_110 (fun H locs hP hD hS => ?_)
                      have hP : va_P (dC, dI) vwCl [(aR, .inr (7, [.int (nI 2), .int (nI mv), .ref ams, .ref ann, .int (nI n), .ref ak2, .ref af2, .ref as2, .ref ah2, .int (nI fc), .ref afa, .ref afx, .ref ald, .int (nI zz), .ref awy, .int lp, .ref alt, .ref abg, .int (wz_i tl)])), (ak2, .inl (cI, 32, .inl (wz_n kn))), (af2, .inl (cI, 32, .inl f2)), (as2, .inl (cI, 32, .inl s2))] H := hP
                      have hD : va_D A [(aR, .inr (7, [.int (nI 2), .int (nI mv), .ref ams, .ref ann, .int (nI n), .ref ak2, .ref af2, .ref as2, .ref ah2, .int (nI fc), .ref afa, .ref afx, .ref ald, .int (nI zz), .ref awy, .int lp, .ref alt, .ref abg, .int (wz_i tl)])), (ak2, .inl (cI, 32, .inl (wz_n kn))), (af2, .inl (cI, 32, .inl f2)), (as2, .inl (cI, 32, .inl s2))] := hD
                      refine lv_aload_n hx hb dMo_formula_113 rfl (lv_at hl 1 rfl) ?_
                      refine va_get (D := (dC, dI)) (ci := 7) (v := .int (nI 2)) (C := RMo) (T := TMo) (N := 19) hx hb hw in_Mo hown hK hP 0 rfl rfl 0 (by decide) (hw _ w_500) (fun _ h9 => h9) rfl dMo_formula_114 ?_
                      refine wz_ifN_eq (x := 2) (tgt := 122) hx hb (by omega) dMo_formula_117 (by decide) (fun h117_31 => ?_) (fun h117_31 => ?_)
                      · skip
                        exact absurd h117_31 (by decide)
                      · skip
                        refine lv_iconst (v := nI 0) hx hb dMo_formula_120 (by decide) ?_
                        exact wz_iret hx hb hr hlocks rfl hP hD hK hS dMo_formula_121
                  · skip
                    exact absurd h89_29 (by decide)
                · skip
                  refine lv_aload_n hx hb dMo_formula_71 rfl (lv_at hl 1 rfl) ?_
                  refine lv_iload_n hx hb dMo_formula_72 rfl (lv_at hl 4 rfl) ?_
                  refine wz_calli (wc := [(aR, .inr (7, [.int (nI th), .int (nI mv), .ref ams, .ref ann, .int (nI n), .ref ak2, .ref af2, .ref as2, .ref ah2, .int (nI fc), .ref afa, .ref afx, .ref ald, .int (nI zz), .ref awy, .int lp, .ref alt, .ref abg, .int (wz_i tl)]))]) (wr := [(ak2, .inl (cI, 32, .inl (wz_n kn))), (af2, .inl (cI, 32, .inl f2)), (as2, .inl (cI, 32, .inl s2))]) (w1 := [(aR, .inr (7, [.int (nI th), .int (nI mv), .ref ams, .ref ann, .int (nI n), .ref ak2, .ref af2, .ref as2, .ref ah2, .int (nI fc), .ref afa, .ref afx, .ref ald, .int (nI zz), .ref awy, .int lp, .ref alt, .ref abg, .int (wz_i tl)]))]) (ws' := [(aR, .inr (7, [.int (nI th), .int (nI mv), .ref ams, .ref ann, .int (nI n), .ref ak2, .ref af2, .ref as2, .ref ah2, .int (nI fc), .ref afa, .ref afx, .ref ald, .int (nI zz), .ref awy, .int lp, .ref alt, .ref abg, .int (wz_i tl)])), (ak2, .inl (cI, 32, .inl (wz_n kn))), (af2, .inl (cI, 32, .inl f2)), (as2, .inl (cI, 32, .inl s2))]) hP hD hS hA [0] [1, 2, 3] [3, 0, 1, 2] rfl rfl (by decide) (by decide) (by decide) rfl rfl (va_runV (As := [.int z]) (rest := []) ⟨hx, hb, hml, hown, hts⟩ (kMo_noFormula l dC dI cI cJ cZ H.size aR ams ann ak2 af2 as2 ah2 afa afx ald awy alt abg th mv n fc zz lp tl z) (cwV 1 hts (wz_gV w_583 w_584 w_12 w_41 w_585) rfl rfl rfl (by decide +kernel) ⟨Nat.le_of_ble_eq_true rfl, Nat.le_of_ble_eq_true rfl⟩) (wz_preV (q := (RMo, TMo, 19)) (ci := 7) hN hK hP hD [0] (by decide) rfl rfl 0 rfl rfl) rfl rfl hl.1 rfl (lv_room (Nat.le_of_ble_eq_true rfl)) dMo_formula_73 ⟨Nat.le_refl _, Nat.le_refl _⟩) (fun H locs hP hD hS => ?_)
                  refine wz_ifz (tgt := 83) hx hb dMo_formula_76 (by decide) (fun h76_32 => ?_) (fun h76_32 => ?_)
                  · skip
                    refine lv_iconst (v := nI 0) hx hb dMo_formula_83 (by decide) ?_
                    refine lv_istore (lv' := [(4, .int (nI 0)), (0, .ref aR), (1, .int (nI k)), (2, .int y), (3, .int z)]) hx hb dMo_formula_84 hl (by decide) rfl (fun ls hl => ?_)
                    refine lv_aload_n hx hb dMo_formula_86 rfl (lv_at hl 1 rfl) ?_
                    refine lv_iload hx hb dMo_formula_87 (lv_at hl 0 rfl) ?_
                    refine wz_ifN_eq (x := 0) (tgt := 96) hx hb (by omega) dMo_formula_89 (by decide) (fun h89_33 => ?_) (fun h89_33 => ?_)
                    · skip
                      refine lv_aload_n hx hb dMo_formula_96 rfl (lv_at hl 1 rfl) ?_
                      refine va_get (D := (dC, dI)) (ci := 7) (v := .int (nI n)) (C := RMo) (T := TMo) (N := 19) hx hb hw in_Mo hown hK hP 0 rfl rfl 4 (by decide) (hw _ w_504) (fun _ h9 => h9) rfl dMo_formula_97 ?_
                      refine lv_bipush (v := nI 32) hx hb dMo_formula_100 (by decide) ?_
                      refine wz_icmp_ne (x := n) (y := 32) (tgt := 109) hx hb (by omega) (by omega) dMo_formula_102 (by decide) (fun h102_34 => ?_) (fun h102_34 => ?_)
                      · skip
                        exact absurd hn32 h102_34
                      · skip
                        refine lv_iconst (v := nI 2) hx hb dMo_formula_105 (by decide) ?_
                        refine lv_goto (tgt := 110) hx hb dMo_formula_106 (by decide) ?_
                        refine va_put (D := (dC, dI)) (ci := 7) (v := .int (nI 2)) (ty := .int) (C := RMo) (T := TMo) (N := 19) hx hb hw in_Mo tyMo tyMo_ok nmMo hown hK hP hD hS 0 rfl rfl 0 (by decide) (hw _ w_500) (fun _ h9 => h9) rfl (by decide +kernel) rfl rfl (Nat.le_of_ble_eq_true rfl) dMo_formula_110 (fun H locs hP hD hS => ?_)
                        have hP : va_P (dC, dI) vwCl [(aR, .inr (7, [.int (nI 2), .int (nI mv), .ref ams, .ref ann, .int (nI n), .ref ak2, .ref af2, .ref as2, .ref ah2, .int (nI fc), .ref afa, .ref afx, .ref ald, .int (nI zz), .ref awy, .int lp, .ref alt, .ref abg, .int (wz_i tl)])), (ak2, .inl (cI, 32, .inl (wz_n kn))), (af2, .inl (cI, 32, .inl f2)), (as2, .inl (cI, 32, .inl s2))] H := hP
                        have hD : va_D A [(aR, .inr (7, [.int (nI 2), .int (nI mv), .ref ams, .ref ann, .int (nI n), .ref ak2, .ref af2, .ref as2, .ref ah2, .int (nI fc), .ref afa, .ref afx, .ref ald, .int (nI zz), .ref awy, .int lp, .ref alt, .ref abg, .int (wz_i tl)])), (ak2, .inl (cI, 32, .inl (wz_n kn))), (af2, .inl (cI, 32, .inl f2)), (as2, .inl (cI, 32, .inl s2))] := hD
                        refine lv_aload_n hx hb dMo_formula_113 rfl (lv_at hl 1 rfl) ?_
                        refine va_get (D := (dC, dI)) (ci := 7) (v := .int (nI 2)) (C := RMo) (T := TMo) (N := 19) hx hb hw in_Mo hown hK hP 0 rfl rfl 0 (by decide) (hw _ w_500) (fun _ h9 => h9) rfl dMo_formula_114 ?_
                        refine wz_ifN_eq (x := 2) (tgt := 122) hx hb (by omega) dMo_formula_117 (by decide) (fun h117_35 => ?_) (fun h117_35 => ?_)
                        · skip
                          exact absurd h117_35 (by decide)
                        · skip
                          refine lv_iconst (v := nI 0) hx hb dMo_formula_120 (by decide) ?_
                          exact wz_iret hx hb hr hlocks rfl hP hD hK hS dMo_formula_121
                    · skip
                      exact absurd h89_33 (by decide)
                  · skip
                    simp [ww_cb_second hk hcb h68_28] at h76_32
            · skip
              exact absurd ((ww_5 y).mpr (ww_cb_var hk hcb h23_4).2) h32_26
    · skip
      omega
set_option maxHeartbeats 4000000 in
set_option maxRecDepth 100000 in
theorem kMo_formula_1 (l : Launch) (dC : Nat → ClassId) (dI : Nat → Nat → Nat) (cI cJ cZ : ClassId) (sz : Nat) (aR : Nat) (ams : Nat) (ann : Nat) (ak2 : Nat) (af2 : Nat) (as2 : Nat) (ah2 : Nat) (afa : Nat) (afx : Nat) (ald : Nat) (awy : Nat) (alt : Nat) (abg : Nat) (th : Nat) (mv : Nat) (n : Nat) (fc : Nat) (zz : Nat) (lp : Int32) (tl : Bool) (kn : Nat → Nat) (f2 : Nat → Int32) (s2 : Nat → Int32) (x : Int32) (y : Int32) (z : Int32) (hcb : ww_cb n x y z = false) : Met l yMo_formula (.code yMo_formula cMo_formula 5 (some .int) :: wz_all) ({ frames := 1, cells := 0, slots := 0, locals := 21 }) (wz_Pc (dC, dI) vwCl (wz_T cI cJ cZ) [.ref aR, .int x, .int y, .int z] sz [(aR, .inr (7, [.int (nI th), .int (nI mv), .ref ams, .ref ann, .int (nI n), .ref ak2, .ref af2, .ref as2, .ref ah2, .int (nI fc), .ref afa, .ref afx, .ref ald, .int (nI zz), .ref awy, .int lp, .ref alt, .ref abg, .int (wz_i tl)])), (ak2, .inl (cI, 32, .inl (wz_n kn))), (af2, .inl (cI, 32, .inl f2)), (as2, .inl (cI, 32, .inl s2))]) (va_Qi (fun (r : Int32) (_ : Unit) => r = nI 0) (fun _ t => va_P (dC, dI) vwCl [(aR, .inr (7, [.int (nI 1), .int (nI mv), .ref ams, .ref ann, .int (nI n), .ref ak2, .ref af2, .ref as2, .ref ah2, .int (nI fc), .ref afa, .ref afx, .ref ald, .int (nI zz), .ref awy, .int lp, .ref alt, .ref abg, .int (wz_i tl)])), (ak2, .inl (cI, 32, .inl (wz_n kn))), (af2, .inl (cI, 32, .inl f2)), (as2, .inl (cI, 32, .inl s2))] t.heap ∧ va_K (dC, dI) vwCl (wz_T cI cJ cZ) t ∧ va_D (va_A [(aR, .inr (7, [.int (nI th), .int (nI mv), .ref ams, .ref ann, .int (nI n), .ref ak2, .ref af2, .ref as2, .ref ah2, .int (nI fc), .ref afa, .ref afx, .ref ald, .int (nI zz), .ref awy, .int lp, .ref alt, .ref abg, .int (wz_i tl)])), (ak2, .inl (cI, 32, .inl (wz_n kn))), (af2, .inl (cI, 32, .inl f2)), (as2, .inl (cI, 32, .inl s2))] sz) [(aR, .inr (7, [.int (nI 1), .int (nI mv), .ref ams, .ref ann, .int (nI n), .ref ak2, .ref af2, .ref as2, .ref ah2, .int (nI fc), .ref afa, .ref afx, .ref ald, .int (nI zz), .ref awy, .int lp, .ref alt, .ref abg, .int (wz_i tl)])), (ak2, .inl (cI, 32, .inl (wz_n kn))), (af2, .inl (cI, 32, .inl f2)), (as2, .inl (cI, 32, .inl s2))]) (va_A [(aR, .inr (7, [.int (nI th), .int (nI mv), .ref ams, .ref ann, .int (nI n), .ref ak2, .ref af2, .ref as2, .ref ah2, .int (nI fc), .ref afa, .ref afx, .ref ald, .int (nI zz), .ref awy, .int lp, .ref alt, .ref abg, .int (wz_i tl)])), (ak2, .inl (cI, 32, .inl (wz_n kn))), (af2, .inl (cI, 32, .inl f2)), (as2, .inl (cI, 32, .inl s2))] sz)) 0 0 (va_A [(aR, .inr (7, [.int (nI th), .int (nI mv), .ref ams, .ref ann, .int (nI n), .ref ak2, .ref af2, .ref as2, .ref ah2, .int (nI fc), .ref afa, .ref afx, .ref ald, .int (nI zz), .ref awy, .int lp, .ref alt, .ref abg, .int (wz_i tl)])), (ak2, .inl (cI, 32, .inl (wz_n kn))), (af2, .inl (cI, 32, .inl f2)), (as2, .inl (cI, 32, .inl s2))] sz) := by
  refine Met.ofW (cc := cMo_formula) (maxL := 5) (ret := (some .int)) (by decide) rfl ?_
  intro p e s m args below meth c s₁ B hml hv
  obtain ⟨rfl, hsz, hP, hK, hD0, hN⟩ := hv
  have hx := B.exec
  have hb := B.bytes
  have hr := B.returns
  have hts := atoms_spec (ws := (.code yMo_formula cMo_formula 5 (some .int) :: wz_all)) B.pre
  have hw : ∀ w9 ∈ wz_all, w9.before [.ref aR, .int x, .int y, .int z].toArray s = true := fun w9 h => hts w9 (List.mem_cons_of_mem _ h)
  have hown : s.vm.findClass RMo = some m.cls := findClass_of_methodNamed B.named
  have hlocks := B.notSynchronized
  subst hsz
  have hD := hD0.self (sz := s.heap.size)
  generalize hAe : va_A [(aR, .inr (7, [.int (nI th), .int (nI mv), .ref ams, .ref ann, .int (nI n), .ref ak2, .ref af2, .ref as2, .ref ah2, .int (nI fc), .ref afa, .ref afx, .ref ald, .int (nI zz), .ref awy, .int lp, .ref alt, .ref abg, .int (wz_i tl)])), (ak2, .inl (cI, 32, .inl (wz_n kn))), (af2, .inl (cI, 32, .inl f2)), (as2, .inl (cI, 32, .inl s2))] s.heap.size = A at hD ⊢
  have hA : ∀ q : Nat, s.heap.size ≤ q → A q := fun q h => by rw [← hAe]; exact Or.inr h
  have hS : va_S A s.heap s.heap [] := va_S.rf
  have hP : va_P (dC, dI) vwCl [(aR, .inr (7, [.int (nI th), .int (nI mv), .ref ams, .ref ann, .int (nI n), .ref ak2, .ref af2, .ref as2, .ref ah2, .int (nI fc), .ref afa, .ref afx, .ref ald, .int (nI zz), .ref awy, .int lp, .ref alt, .ref abg, .int (wz_i tl)])), (ak2, .inl (cI, 32, .inl (wz_n kn))), (af2, .inl (cI, 32, .inl f2)), (as2, .inl (cI, 32, .inl s2))] s.heap := hP
  have hl := lv_entry ([.ref aR, .int x, .int y, .int z]) (n := 5) (Nat.le_of_ble_eq_true rfl)
  rw [lg_entry_eq]
  generalize (lg_sl ([.ref aR, .int x, .int y, .int z]) ++ List.replicate (5 - (lg_sl ([.ref aR, .int x, .int y, .int z])).length) Slot.unset).toArray = ls at hl ⊢
  have hl : lv_has ls 5 [(0, .ref aR), (1, .int x), (2, .int y), (3, .int z)] := hl
  refine lv_iload_n hx hb dMo_formula_0 rfl (lv_at hl 1 rfl) ?_
  refine lv_if_lt (tgt := 10) hx hb dMo_formula_1 (by decide) (fun h1_1 => ?_) (fun h1_1 => ?_)
  · skip
    refine lv_iconst (v := nI 1) hx hb dMo_formula_10 (by decide) ?_
    refine lv_goto (tgt := 15) hx hb dMo_formula_11 (by decide) ?_
    refine lv_istore (lv' := [(4, .int (nI 1)), (0, .ref aR), (1, .int x), (2, .int y), (3, .int z)]) hx hb dMo_formula_15 hl (by decide) rfl (fun ls hl => ?_)
    refine lv_iload hx hb dMo_formula_17 (lv_at hl 0 rfl) ?_
    refine wz_ifN_ne (x := 1) (tgt := 51) hx hb (by omega) dMo_formula_19 (by decide) (fun h19_2 => ?_) (fun h19_2 => ?_)
    · skip
      refine lv_iconst (v := nI 1) hx hb dMo_formula_51 (by decide) ?_
      refine lv_goto (tgt := 56) hx hb dMo_formula_52 (by decide) ?_
      refine lv_istore (lv' := [(4, .int (nI 1)), (0, .ref aR), (1, .int x), (2, .int y), (3, .int z)]) hx hb dMo_formula_56 hl (by decide) rfl (fun ls hl => ?_)
      refine lv_iload hx hb dMo_formula_58 (lv_at hl 0 rfl) ?_
      refine wz_ifN_ne (x := 1) (tgt := 79) hx hb (by omega) dMo_formula_60 (by decide) (fun h60_3 => ?_) (fun h60_3 => ?_)
      · skip
        refine lv_iconst (v := nI 1) hx hb dMo_formula_79 (by decide) ?_
        refine lv_goto (tgt := 84) hx hb dMo_formula_80 (by decide) ?_
        refine lv_istore (lv' := [(4, .int (nI 1)), (0, .ref aR), (1, .int x), (2, .int y), (3, .int z)]) hx hb dMo_formula_84 hl (by decide) rfl (fun ls hl => ?_)
        refine lv_aload_n hx hb dMo_formula_86 rfl (lv_at hl 1 rfl) ?_
        refine lv_iload hx hb dMo_formula_87 (lv_at hl 0 rfl) ?_
        refine wz_ifN_eq (x := 1) (tgt := 96) hx hb (by omega) dMo_formula_89 (by decide) (fun h89_4 => ?_) (fun h89_4 => ?_)
        · skip
          exact absurd h89_4 (by decide)
        · skip
          refine lv_iconst (v := nI 1) hx hb dMo_formula_92 (by decide) ?_
          refine lv_goto (tgt := 110) hx hb dMo_formula_93 (by decide) ?_
          refine va_put (D := (dC, dI)) (ci := 7) (v := .int (nI 1)) (ty := .int) (C := RMo) (T := TMo) (N := 19) hx hb hw in_Mo tyMo tyMo_ok nmMo hown hK hP hD hS 0 rfl rfl 0 (by decide) (hw _ w_500) (fun _ h9 => h9) rfl (by decide +kernel) rfl rfl (Nat.le_of_ble_eq_true rfl) dMo_formula_110 (fun H locs hP hD hS => ?_)
          have hP : va_P (dC, dI) vwCl [(aR, .inr (7, [.int (nI 1), .int (nI mv), .ref ams, .ref ann, .int (nI n), .ref ak2, .ref af2, .ref as2, .ref ah2, .int (nI fc), .ref afa, .ref afx, .ref ald, .int (nI zz), .ref awy, .int lp, .ref alt, .ref abg, .int (wz_i tl)])), (ak2, .inl (cI, 32, .inl (wz_n kn))), (af2, .inl (cI, 32, .inl f2)), (as2, .inl (cI, 32, .inl s2))] H := hP
          have hD : va_D A [(aR, .inr (7, [.int (nI 1), .int (nI mv), .ref ams, .ref ann, .int (nI n), .ref ak2, .ref af2, .ref as2, .ref ah2, .int (nI fc), .ref afa, .ref afx, .ref ald, .int (nI zz), .ref awy, .int lp, .ref alt, .ref abg, .int (wz_i tl)])), (ak2, .inl (cI, 32, .inl (wz_n kn))), (af2, .inl (cI, 32, .inl f2)), (as2, .inl (cI, 32, .inl s2))] := hD
          refine lv_aload_n hx hb dMo_formula_113 rfl (lv_at hl 1 rfl) ?_
          refine va_get (D := (dC, dI)) (ci := 7) (v := .int (nI 1)) (C := RMo) (T := TMo) (N := 19) hx hb hw in_Mo hown hK hP 0 rfl rfl 0 (by decide) (hw _ w_500) (fun _ h9 => h9) rfl dMo_formula_114 ?_
          refine wz_ifN_eq (x := 1) (tgt := 122) hx hb (by omega) dMo_formula_117 (by decide) (fun h117_5 => ?_) (fun h117_5 => ?_)
          · skip
            exact absurd h117_5 (by decide)
          · skip
            refine lv_iconst (v := nI 0) hx hb dMo_formula_120 (by decide) ?_
            exact wz_iret hx hb hr hlocks rfl hP hD hK hS dMo_formula_121
      · skip
        exact absurd h60_3 (by decide)
    · skip
      exact absurd h19_2 (by decide)
  · skip
    refine lv_iload_n hx hb dMo_formula_4 rfl (lv_at hl 1 rfl) ?_
    refine lv_bipush (v := nI 12) hx hb dMo_formula_5 (by decide) ?_
    refine lv_icmp_le (tgt := 14) hx hb dMo_formula_7 (by decide) (fun h7_6 => ?_) (fun h7_6 => ?_)
    · skip
      obtain ⟨k, hk, rfl⟩ := nI_of2 (n := 12) (by decide) h1_1 h7_6
      refine lv_iconst (v := nI 0) hx hb dMo_formula_14 (by decide) ?_
      refine lv_istore (lv' := [(4, .int (nI 0)), (0, .ref aR), (1, .int (nI k)), (2, .int y), (3, .int z)]) hx hb dMo_formula_15 hl (by decide) rfl (fun ls hl => ?_)
      refine lv_iload hx hb dMo_formula_17 (lv_at hl 0 rfl) ?_
      refine wz_ifN_ne (x := 0) (tgt := 51) hx hb (by omega) dMo_formula_19 (by decide) (fun h19_7 => ?_) (fun h19_7 => ?_)
      · skip
        exact absurd h19_7 (by decide)
      · skip
        refine lv_iload_n hx hb dMo_formula_22 rfl (lv_at hl 2 rfl) ?_
        refine wz_ifN_ne (x := k) (tgt := 38) hx hb (by omega) dMo_formula_23 (by decide) (fun h23_8 => ?_) (fun h23_8 => ?_)
        · skip
          refine lv_iload_n hx hb dMo_formula_38 rfl (lv_at hl 2 rfl) ?_
          refine lv_iconst (v := nI 1) hx hb dMo_formula_39 (by decide) ?_
          refine wz_icmp_eq (x := k) (y := 1) (tgt := 55) hx hb (by omega) (by omega) dMo_formula_40 (by decide) (fun h40_9 => ?_) (fun h40_9 => ?_)
          · skip
            refine lv_iconst (v := nI 0) hx hb dMo_formula_55 (by decide) ?_
            refine lv_istore (lv' := [(4, .int (nI 0)), (0, .ref aR), (1, .int (nI k)), (2, .int y), (3, .int z)]) hx hb dMo_formula_56 hl (by decide) rfl (fun ls hl => ?_)
            refine lv_iload hx hb dMo_formula_58 (lv_at hl 0 rfl) ?_
            refine wz_ifN_ne (x := 0) (tgt := 79) hx hb (by omega) dMo_formula_60 (by decide) (fun h60_10 => ?_) (fun h60_10 => ?_)
            · skip
              exact absurd h60_10 (by decide)
            · skip
              refine lv_aload_n hx hb dMo_formula_63 rfl (lv_at hl 1 rfl) ?_
              refine lv_iload_n hx hb dMo_formula_64 rfl (lv_at hl 2 rfl) ?_
              refine wz_calli (wc := [(aR, .inr (7, [.int (nI th), .int (nI mv), .ref ams, .ref ann, .int (nI n), .ref ak2, .ref af2, .ref as2, .ref ah2, .int (nI fc), .ref afa, .ref afx, .ref ald, .int (nI zz), .ref awy, .int lp, .ref alt, .ref abg, .int (wz_i tl)]))]) (wr := [(ak2, .inl (cI, 32, .inl (wz_n kn))), (af2, .inl (cI, 32, .inl f2)), (as2, .inl (cI, 32, .inl s2))]) (w1 := [(aR, .inr (7, [.int (nI th), .int (nI mv), .ref ams, .ref ann, .int (nI n), .ref ak2, .ref af2, .ref as2, .ref ah2, .int (nI fc), .ref afa, .ref afx, .ref ald, .int (nI zz), .ref awy, .int lp, .ref alt, .ref abg, .int (wz_i tl)]))]) (ws' := [(aR, .inr (7, [.int (nI th), .int (nI mv), .ref ams, .ref ann, .int (nI n), .ref ak2, .ref af2, .ref as2, .ref ah2, .int (nI fc), .ref afa, .ref afx, .ref ald, .int (nI zz), .ref awy, .int lp, .ref alt, .ref abg, .int (wz_i tl)])), (ak2, .inl (cI, 32, .inl (wz_n kn))), (af2, .inl (cI, 32, .inl f2)), (as2, .inl (cI, 32, .inl s2))]) hP hD hS hA [0] [1, 2, 3] [3, 0, 1, 2] rfl rfl (by decide) (by decide) (by decide) rfl rfl (va_runV (As := [.int (nI k)]) (rest := []) ⟨hx, hb, hml, hown, hts⟩ (kMo_hasSecond l dC dI cI cJ cZ s.heap.size aR ams ann ak2 af2 as2 ah2 afa afx ald awy alt abg th mv n fc zz lp tl k hk) (cwV 1 hts (wz_gV w_586 w_587 w_13 w_41 w_588) rfl rfl rfl (by decide +kernel) ⟨Nat.le_of_ble_eq_true rfl, Nat.le_of_ble_eq_true rfl⟩) (wz_preV (q := (RMo, TMo, 19)) (ci := 7) hN hK hP hD [0] (by decide) rfl rfl 0 rfl rfl) rfl rfl hl.1 rfl (lv_room (Nat.le_of_ble_eq_true rfl)) dMo_formula_65 ⟨Nat.le_refl _, Nat.le_refl _⟩) (fun H locs hP hD hS => ?_)
              refine wz_ifz (tgt := 83) hx hb dMo_formula_68 (by decide) (fun h68_11 => ?_) (fun h68_11 => ?_)
              · skip
                refine lv_iconst (v := nI 0) hx hb dMo_formula_83 (by decide) ?_
                refine lv_istore (lv' := [(4, .int (nI 0)), (0, .ref aR), (1, .int (nI k)), (2, .int y), (3, .int z)]) hx hb dMo_formula_84 hl (by decide) rfl (fun ls hl => ?_)
                refine lv_aload_n hx hb dMo_formula_86 rfl (lv_at hl 1 rfl) ?_
                refine lv_iload hx hb dMo_formula_87 (lv_at hl 0 rfl) ?_
                refine wz_ifN_eq (x := 0) (tgt := 96) hx hb (by omega) dMo_formula_89 (by decide) (fun h89_12 => ?_) (fun h89_12 => ?_)
                · skip
                  exfalso; rw [ww_cb_N hk] at hcb; first | (rw [if_pos h23_8, decide_eq_true ⟨h_none, (ww_5 y).mp h_none⟩] at hcb; cases hcb; done) | (rw [if_neg h23_8, decide_eq_true h40_9, h68_11] at hcb; simp at hcb; done) | (rw [if_neg h23_8, decide_eq_true h40_9, h68_11, ww_nb' h_none] at hcb; simp at hcb; done) | (rw [if_neg h23_8, ww_nb' h_none, h68_11] at hcb; simp at hcb; done) | (rw [if_neg h23_8, ww_nb' h_none, h68_11, ww_nb' h_none] at hcb; simp at hcb; done)
                · skip
                  exact absurd h89_12 (by decide)
              · skip
                refine lv_aload_n hx hb dMo_formula_71 rfl (lv_at hl 1 rfl) ?_
                refine lv_iload_n hx hb dMo_formula_72 rfl (lv_at hl 4 rfl) ?_
                refine wz_calli (wc := [(aR, .inr (7, [.int (nI th), .int (nI mv), .ref ams, .ref ann, .int (nI n), .ref ak2, .ref af2, .ref as2, .ref ah2, .int (nI fc), .ref afa, .ref afx, .ref ald, .int (nI zz), .ref awy, .int lp, .ref alt, .ref abg, .int (wz_i tl)]))]) (wr := [(ak2, .inl (cI, 32, .inl (wz_n kn))), (af2, .inl (cI, 32, .inl f2)), (as2, .inl (cI, 32, .inl s2))]) (w1 := [(aR, .inr (7, [.int (nI th), .int (nI mv), .ref ams, .ref ann, .int (nI n), .ref ak2, .ref af2, .ref as2, .ref ah2, .int (nI fc), .ref afa, .ref afx, .ref ald, .int (nI zz), .ref awy, .int lp, .ref alt, .ref abg, .int (wz_i tl)]))]) (ws' := [(aR, .inr (7, [.int (nI th), .int (nI mv), .ref ams, .ref ann, .int (nI n), .ref ak2, .ref af2, .ref as2, .ref ah2, .int (nI fc), .ref afa, .ref afx, .ref ald, .int (nI zz), .ref awy, .int lp, .ref alt, .ref abg, .int (wz_i tl)])), (ak2, .inl (cI, 32, .inl (wz_n kn))), (af2, .inl (cI, 32, .inl f2)), (as2, .inl (cI, 32, .inl s2))]) hP hD hS hA [0] [1, 2, 3] [3, 0, 1, 2] rfl rfl (by decide) (by decide) (by decide) rfl rfl (va_runV (As := [.int z]) (rest := []) ⟨hx, hb, hml, hown, hts⟩ (kMo_noFormula l dC dI cI cJ cZ H.size aR ams ann ak2 af2 as2 ah2 afa afx ald awy alt abg th mv n fc zz lp tl z) (cwV 1 hts (wz_gV w_583 w_584 w_12 w_41 w_585) rfl rfl rfl (by decide +kernel) ⟨Nat.le_of_ble_eq_true rfl, Nat.le_of_ble_eq_true rfl⟩) (wz_preV (q := (RMo, TMo, 19)) (ci := 7) hN hK hP hD [0] (by decide) rfl rfl 0 rfl rfl) rfl rfl hl.1 rfl (lv_room (Nat.le_of_ble_eq_true rfl)) dMo_formula_73 ⟨Nat.le_refl _, Nat.le_refl _⟩) (fun H locs hP hD hS => ?_)
                refine wz_ifz (tgt := 83) hx hb dMo_formula_76 (by decide) (fun h76_13 => ?_) (fun h76_13 => ?_)
                · skip
                  refine lv_iconst (v := nI 0) hx hb dMo_formula_83 (by decide) ?_
                  refine lv_istore (lv' := [(4, .int (nI 0)), (0, .ref aR), (1, .int (nI k)), (2, .int y), (3, .int z)]) hx hb dMo_formula_84 hl (by decide) rfl (fun ls hl => ?_)
                  refine lv_aload_n hx hb dMo_formula_86 rfl (lv_at hl 1 rfl) ?_
                  refine lv_iload hx hb dMo_formula_87 (lv_at hl 0 rfl) ?_
                  refine wz_ifN_eq (x := 0) (tgt := 96) hx hb (by omega) dMo_formula_89 (by decide) (fun h89_14 => ?_) (fun h89_14 => ?_)
                  · skip
                    exfalso; rw [ww_cb_N hk] at hcb; first | (rw [if_pos h23_8, decide_eq_true ⟨h_none, (ww_5 y).mp h_none⟩] at hcb; cases hcb; done) | (rw [if_neg h23_8, decide_eq_true h40_9, h68_11] at hcb; simp at hcb; done) | (rw [if_neg h23_8, decide_eq_true h40_9, h68_11, ww_nb' h76_13] at hcb; simp at hcb; done) | (rw [if_neg h23_8, ww_nb' h_none, h68_11] at hcb; simp at hcb; done) | (rw [if_neg h23_8, ww_nb' h_none, h68_11, ww_nb' h76_13] at hcb; simp at hcb; done)
                  · skip
                    exact absurd h89_14 (by decide)
                · skip
                  refine lv_iconst (v := nI 1) hx hb dMo_formula_79 (by decide) ?_
                  refine lv_goto (tgt := 84) hx hb dMo_formula_80 (by decide) ?_
                  refine lv_istore (lv' := [(4, .int (nI 1)), (0, .ref aR), (1, .int (nI k)), (2, .int y), (3, .int z)]) hx hb dMo_formula_84 hl (by decide) rfl (fun ls hl => ?_)
                  refine lv_aload_n hx hb dMo_formula_86 rfl (lv_at hl 1 rfl) ?_
                  refine lv_iload hx hb dMo_formula_87 (lv_at hl 0 rfl) ?_
                  refine wz_ifN_eq (x := 1) (tgt := 96) hx hb (by omega) dMo_formula_89 (by decide) (fun h89_15 => ?_) (fun h89_15 => ?_)
                  · skip
                    exact absurd h89_15 (by decide)
                  · skip
                    refine lv_iconst (v := nI 1) hx hb dMo_formula_92 (by decide) ?_
                    refine lv_goto (tgt := 110) hx hb dMo_formula_93 (by decide) ?_
                    refine va_put (D := (dC, dI)) (ci := 7) (v := .int (nI 1)) (ty := .int) (C := RMo) (T := TMo) (N := 19) hx hb hw in_Mo tyMo tyMo_ok nmMo hown hK hP hD hS 0 rfl rfl 0 (by decide) (hw _ w_500) (fun _ h9 => h9) rfl (by decide +kernel) rfl rfl (Nat.le_of_ble_eq_true rfl) dMo_formula_110 (fun H locs hP hD hS => ?_)
                    have hP : va_P (dC, dI) vwCl [(aR, .inr (7, [.int (nI 1), .int (nI mv), .ref ams, .ref ann, .int (nI n), .ref ak2, .ref af2, .ref as2, .ref ah2, .int (nI fc), .ref afa, .ref afx, .ref ald, .int (nI zz), .ref awy, .int lp, .ref alt, .ref abg, .int (wz_i tl)])), (ak2, .inl (cI, 32, .inl (wz_n kn))), (af2, .inl (cI, 32, .inl f2)), (as2, .inl (cI, 32, .inl s2))] H := hP
                    have hD : va_D A [(aR, .inr (7, [.int (nI 1), .int (nI mv), .ref ams, .ref ann, .int (nI n), .ref ak2, .ref af2, .ref as2, .ref ah2, .int (nI fc), .ref afa, .ref afx, .ref ald, .int (nI zz), .ref awy, .int lp, .ref alt, .ref abg, .int (wz_i tl)])), (ak2, .inl (cI, 32, .inl (wz_n kn))), (af2, .inl (cI, 32, .inl f2)), (as2, .inl (cI, 32, .inl s2))] := hD
                    refine lv_aload_n hx hb dMo_formula_113 rfl (lv_at hl 1 rfl) ?_
                    refine va_get (D := (dC, dI)) (ci := 7) (v := .int (nI 1)) (C := RMo) (T := TMo) (N := 19) hx hb hw in_Mo hown hK hP 0 rfl rfl 0 (by decide) (hw _ w_500) (fun _ h9 => h9) rfl dMo_formula_114 ?_
                    refine wz_ifN_eq (x := 1) (tgt := 122) hx hb (by omega) dMo_formula_117 (by decide) (fun h117_16 => ?_) (fun h117_16 => ?_)
                    · skip
                      exact absurd h117_16 (by decide)
                    · skip
                      refine lv_iconst (v := nI 0) hx hb dMo_formula_120 (by decide) ?_
                      exact wz_iret hx hb hr hlocks rfl hP hD hK hS dMo_formula_121
          · skip
            refine lv_aload_n hx hb dMo_formula_43 rfl (lv_at hl 1 rfl) ?_
            refine lv_iload_n hx hb dMo_formula_44 rfl (lv_at hl 3 rfl) ?_
            refine wz_calli (wc := [(aR, .inr (7, [.int (nI th), .int (nI mv), .ref ams, .ref ann, .int (nI n), .ref ak2, .ref af2, .ref as2, .ref ah2, .int (nI fc), .ref afa, .ref afx, .ref ald, .int (nI zz), .ref awy, .int lp, .ref alt, .ref abg, .int (wz_i tl)]))]) (wr := [(ak2, .inl (cI, 32, .inl (wz_n kn))), (af2, .inl (cI, 32, .inl f2)), (as2, .inl (cI, 32, .inl s2))]) (w1 := [(aR, .inr (7, [.int (nI th), .int (nI mv), .ref ams, .ref ann, .int (nI n), .ref ak2, .ref af2, .ref as2, .ref ah2, .int (nI fc), .ref afa, .ref afx, .ref ald, .int (nI zz), .ref awy, .int lp, .ref alt, .ref abg, .int (wz_i tl)]))]) (ws' := [(aR, .inr (7, [.int (nI th), .int (nI mv), .ref ams, .ref ann, .int (nI n), .ref ak2, .ref af2, .ref as2, .ref ah2, .int (nI fc), .ref afa, .ref afx, .ref ald, .int (nI zz), .ref awy, .int lp, .ref alt, .ref abg, .int (wz_i tl)])), (ak2, .inl (cI, 32, .inl (wz_n kn))), (af2, .inl (cI, 32, .inl f2)), (as2, .inl (cI, 32, .inl s2))]) hP hD hS hA [0] [1, 2, 3] [3, 0, 1, 2] rfl rfl (by decide) (by decide) (by decide) rfl rfl (va_runV (As := [.int y]) (rest := []) ⟨hx, hb, hml, hown, hts⟩ (kMo_noFormula l dC dI cI cJ cZ s.heap.size aR ams ann ak2 af2 as2 ah2 afa afx ald awy alt abg th mv n fc zz lp tl y) (cwV 1 hts (wz_gV w_583 w_584 w_12 w_41 w_585) rfl rfl rfl (by decide +kernel) ⟨Nat.le_of_ble_eq_true rfl, Nat.le_of_ble_eq_true rfl⟩) (wz_preV (q := (RMo, TMo, 19)) (ci := 7) hN hK hP hD [0] (by decide) rfl rfl 0 rfl rfl) rfl rfl hl.1 rfl (lv_room (Nat.le_of_ble_eq_true rfl)) dMo_formula_45 ⟨Nat.le_refl _, Nat.le_refl _⟩) (fun H locs hP hD hS => ?_)
            refine wz_ifz (tgt := 55) hx hb dMo_formula_48 (by decide) (fun h48_17 => ?_) (fun h48_17 => ?_)
            · skip
              refine lv_iconst (v := nI 0) hx hb dMo_formula_55 (by decide) ?_
              refine lv_istore (lv' := [(4, .int (nI 0)), (0, .ref aR), (1, .int (nI k)), (2, .int y), (3, .int z)]) hx hb dMo_formula_56 hl (by decide) rfl (fun ls hl => ?_)
              refine lv_iload hx hb dMo_formula_58 (lv_at hl 0 rfl) ?_
              refine wz_ifN_ne (x := 0) (tgt := 79) hx hb (by omega) dMo_formula_60 (by decide) (fun h60_18 => ?_) (fun h60_18 => ?_)
              · skip
                exact absurd h60_18 (by decide)
              · skip
                refine lv_aload_n hx hb dMo_formula_63 rfl (lv_at hl 1 rfl) ?_
                refine lv_iload_n hx hb dMo_formula_64 rfl (lv_at hl 2 rfl) ?_
                refine wz_calli (wc := [(aR, .inr (7, [.int (nI th), .int (nI mv), .ref ams, .ref ann, .int (nI n), .ref ak2, .ref af2, .ref as2, .ref ah2, .int (nI fc), .ref afa, .ref afx, .ref ald, .int (nI zz), .ref awy, .int lp, .ref alt, .ref abg, .int (wz_i tl)]))]) (wr := [(ak2, .inl (cI, 32, .inl (wz_n kn))), (af2, .inl (cI, 32, .inl f2)), (as2, .inl (cI, 32, .inl s2))]) (w1 := [(aR, .inr (7, [.int (nI th), .int (nI mv), .ref ams, .ref ann, .int (nI n), .ref ak2, .ref af2, .ref as2, .ref ah2, .int (nI fc), .ref afa, .ref afx, .ref ald, .int (nI zz), .ref awy, .int lp, .ref alt, .ref abg, .int (wz_i tl)]))]) (ws' := [(aR, .inr (7, [.int (nI th), .int (nI mv), .ref ams, .ref ann, .int (nI n), .ref ak2, .ref af2, .ref as2, .ref ah2, .int (nI fc), .ref afa, .ref afx, .ref ald, .int (nI zz), .ref awy, .int lp, .ref alt, .ref abg, .int (wz_i tl)])), (ak2, .inl (cI, 32, .inl (wz_n kn))), (af2, .inl (cI, 32, .inl f2)), (as2, .inl (cI, 32, .inl s2))]) hP hD hS hA [0] [1, 2, 3] [3, 0, 1, 2] rfl rfl (by decide) (by decide) (by decide) rfl rfl (va_runV (As := [.int (nI k)]) (rest := []) ⟨hx, hb, hml, hown, hts⟩ (kMo_hasSecond l dC dI cI cJ cZ H.size aR ams ann ak2 af2 as2 ah2 afa afx ald awy alt abg th mv n fc zz lp tl k hk) (cwV 1 hts (wz_gV w_586 w_587 w_13 w_41 w_588) rfl rfl rfl (by decide +kernel) ⟨Nat.le_of_ble_eq_true rfl, Nat.le_of_ble_eq_true rfl⟩) (wz_preV (q := (RMo, TMo, 19)) (ci := 7) hN hK hP hD [0] (by decide) rfl rfl 0 rfl rfl) rfl rfl hl.1 rfl (lv_room (Nat.le_of_ble_eq_true rfl)) dMo_formula_65 ⟨Nat.le_refl _, Nat.le_refl _⟩) (fun H locs hP hD hS => ?_)
                refine wz_ifz (tgt := 83) hx hb dMo_formula_68 (by decide) (fun h68_19 => ?_) (fun h68_19 => ?_)
                · skip
                  refine lv_iconst (v := nI 0) hx hb dMo_formula_83 (by decide) ?_
                  refine lv_istore (lv' := [(4, .int (nI 0)), (0, .ref aR), (1, .int (nI k)), (2, .int y), (3, .int z)]) hx hb dMo_formula_84 hl (by decide) rfl (fun ls hl => ?_)
                  refine lv_aload_n hx hb dMo_formula_86 rfl (lv_at hl 1 rfl) ?_
                  refine lv_iload hx hb dMo_formula_87 (lv_at hl 0 rfl) ?_
                  refine wz_ifN_eq (x := 0) (tgt := 96) hx hb (by omega) dMo_formula_89 (by decide) (fun h89_20 => ?_) (fun h89_20 => ?_)
                  · skip
                    exfalso; rw [ww_cb_N hk] at hcb; first | (rw [if_pos h23_8, decide_eq_true ⟨h_none, (ww_5 y).mp h_none⟩] at hcb; cases hcb; done) | (rw [if_neg h23_8, decide_eq_true h40_9, h68_19] at hcb; simp at hcb; done) | (rw [if_neg h23_8, decide_eq_true h40_9, h68_19, ww_nb' h_none] at hcb; simp at hcb; done) | (rw [if_neg h23_8, ww_nb' h48_17, h68_19] at hcb; simp at hcb; done) | (rw [if_neg h23_8, ww_nb' h48_17, h68_19, ww_nb' h_none] at hcb; simp at hcb; done)
                  · skip
                    exact absurd h89_20 (by decide)
                · skip
                  refine lv_aload_n hx hb dMo_formula_71 rfl (lv_at hl 1 rfl) ?_
                  refine lv_iload_n hx hb dMo_formula_72 rfl (lv_at hl 4 rfl) ?_
                  refine wz_calli (wc := [(aR, .inr (7, [.int (nI th), .int (nI mv), .ref ams, .ref ann, .int (nI n), .ref ak2, .ref af2, .ref as2, .ref ah2, .int (nI fc), .ref afa, .ref afx, .ref ald, .int (nI zz), .ref awy, .int lp, .ref alt, .ref abg, .int (wz_i tl)]))]) (wr := [(ak2, .inl (cI, 32, .inl (wz_n kn))), (af2, .inl (cI, 32, .inl f2)), (as2, .inl (cI, 32, .inl s2))]) (w1 := [(aR, .inr (7, [.int (nI th), .int (nI mv), .ref ams, .ref ann, .int (nI n), .ref ak2, .ref af2, .ref as2, .ref ah2, .int (nI fc), .ref afa, .ref afx, .ref ald, .int (nI zz), .ref awy, .int lp, .ref alt, .ref abg, .int (wz_i tl)]))]) (ws' := [(aR, .inr (7, [.int (nI th), .int (nI mv), .ref ams, .ref ann, .int (nI n), .ref ak2, .ref af2, .ref as2, .ref ah2, .int (nI fc), .ref afa, .ref afx, .ref ald, .int (nI zz), .ref awy, .int lp, .ref alt, .ref abg, .int (wz_i tl)])), (ak2, .inl (cI, 32, .inl (wz_n kn))), (af2, .inl (cI, 32, .inl f2)), (as2, .inl (cI, 32, .inl s2))]) hP hD hS hA [0] [1, 2, 3] [3, 0, 1, 2] rfl rfl (by decide) (by decide) (by decide) rfl rfl (va_runV (As := [.int z]) (rest := []) ⟨hx, hb, hml, hown, hts⟩ (kMo_noFormula l dC dI cI cJ cZ H.size aR ams ann ak2 af2 as2 ah2 afa afx ald awy alt abg th mv n fc zz lp tl z) (cwV 1 hts (wz_gV w_583 w_584 w_12 w_41 w_585) rfl rfl rfl (by decide +kernel) ⟨Nat.le_of_ble_eq_true rfl, Nat.le_of_ble_eq_true rfl⟩) (wz_preV (q := (RMo, TMo, 19)) (ci := 7) hN hK hP hD [0] (by decide) rfl rfl 0 rfl rfl) rfl rfl hl.1 rfl (lv_room (Nat.le_of_ble_eq_true rfl)) dMo_formula_73 ⟨Nat.le_refl _, Nat.le_refl _⟩) (fun H locs hP hD hS => ?_)
                  refine wz_ifz (tgt := 83) hx hb dMo_formula_76 (by decide) (fun h76_21 => ?_) (fun h76_21 => ?_)
                  · skip
                    refine lv_iconst (v := nI 0) hx hb dMo_formula_83 (by decide) ?_
                    refine lv_istore (lv' := [(4, .int (nI 0)), (0, .ref aR), (1, .int (nI k)), (2, .int y), (3, .int z)]) hx hb dMo_formula_84 hl (by decide) rfl (fun ls hl => ?_)
                    refine lv_aload_n hx hb dMo_formula_86 rfl (lv_at hl 1 rfl) ?_
                    refine lv_iload hx hb dMo_formula_87 (lv_at hl 0 rfl) ?_
                    refine wz_ifN_eq (x := 0) (tgt := 96) hx hb (by omega) dMo_formula_89 (by decide) (fun h89_22 => ?_) (fun h89_22 => ?_)
                    · skip
                      exfalso; rw [ww_cb_N hk] at hcb; first | (rw [if_pos h23_8, decide_eq_true ⟨h_none, (ww_5 y).mp h_none⟩] at hcb; cases hcb; done) | (rw [if_neg h23_8, decide_eq_true h40_9, h68_19] at hcb; simp at hcb; done) | (rw [if_neg h23_8, decide_eq_true h40_9, h68_19, ww_nb' h76_21] at hcb; simp at hcb; done) | (rw [if_neg h23_8, ww_nb' h48_17, h68_19] at hcb; simp at hcb; done) | (rw [if_neg h23_8, ww_nb' h48_17, h68_19, ww_nb' h76_21] at hcb; simp at hcb; done)
                    · skip
                      exact absurd h89_22 (by decide)
                  · skip
                    refine lv_iconst (v := nI 1) hx hb dMo_formula_79 (by decide) ?_
                    refine lv_goto (tgt := 84) hx hb dMo_formula_80 (by decide) ?_
                    refine lv_istore (lv' := [(4, .int (nI 1)), (0, .ref aR), (1, .int (nI k)), (2, .int y), (3, .int z)]) hx hb dMo_formula_84 hl (by decide) rfl (fun ls hl => ?_)
                    refine lv_aload_n hx hb dMo_formula_86 rfl (lv_at hl 1 rfl) ?_
                    refine lv_iload hx hb dMo_formula_87 (lv_at hl 0 rfl) ?_
                    refine wz_ifN_eq (x := 1) (tgt := 96) hx hb (by omega) dMo_formula_89 (by decide) (fun h89_23 => ?_) (fun h89_23 => ?_)
                    · skip
                      exact absurd h89_23 (by decide)
                    · skip
                      refine lv_iconst (v := nI 1) hx hb dMo_formula_92 (by decide) ?_
                      refine lv_goto (tgt := 110) hx hb dMo_formula_93 (by decide) ?_
                      refine va_put (D := (dC, dI)) (ci := 7) (v := .int (nI 1)) (ty := .int) (C := RMo) (T := TMo) (N := 19) hx hb hw in_Mo tyMo tyMo_ok nmMo hown hK hP hD hS 0 rfl rfl 0 (by decide) (hw _ w_500) (fun _ h9 => h9) rfl (by decide +kernel) rfl rfl (Nat.le_of_ble_eq_true rfl) dMo_formula_110 (fun H locs hP hD hS => ?_)
                      have hP : va_P (dC, dI) vwCl [(aR, .inr (7, [.int (nI 1), .int (nI mv), .ref ams, .ref ann, .int (nI n), .ref ak2, .ref af2, .ref as2, .ref ah2, .int (nI fc), .ref afa, .ref afx, .ref ald, .int (nI zz), .ref awy, .int lp, .ref alt, .ref abg, .int (wz_i tl)])), (ak2, .inl (cI, 32, .inl (wz_n kn))), (af2, .inl (cI, 32, .inl f2)), (as2, .inl (cI, 32, .inl s2))] H := hP
                      have hD : va_D A [(aR, .inr (7, [.int (nI 1), .int (nI mv), .ref ams, .ref ann, .int (nI n), .ref ak2, .ref af2, .ref as2, .ref ah2, .int (nI fc), .ref afa, .ref afx, .ref ald, .int (nI zz), .ref awy, .int lp, .ref alt, .ref abg, .int (wz_i tl)])), (ak2, .inl (cI, 32, .inl (wz_n kn))), (af2, .inl (cI, 32, .inl f2)), (as2, .inl (cI, 32, .inl s2))] := hD
                      refine lv_aload_n hx hb dMo_formula_113 rfl (lv_at hl 1 rfl) ?_
                      refine va_get (D := (dC, dI)) (ci := 7) (v := .int (nI 1)) (C := RMo) (T := TMo) (N := 19) hx hb hw in_Mo hown hK hP 0 rfl rfl 0 (by decide) (hw _ w_500) (fun _ h9 => h9) rfl dMo_formula_114 ?_
                      refine wz_ifN_eq (x := 1) (tgt := 122) hx hb (by omega) dMo_formula_117 (by decide) (fun h117_24 => ?_) (fun h117_24 => ?_)
                      · skip
                        exact absurd h117_24 (by decide)
                      · skip
                        refine lv_iconst (v := nI 0) hx hb dMo_formula_120 (by decide) ?_
                        exact wz_iret hx hb hr hlocks rfl hP hD hK hS dMo_formula_121
            · skip
              refine lv_iconst (v := nI 1) hx hb dMo_formula_51 (by decide) ?_
              refine lv_goto (tgt := 56) hx hb dMo_formula_52 (by decide) ?_
              refine lv_istore (lv' := [(4, .int (nI 1)), (0, .ref aR), (1, .int (nI k)), (2, .int y), (3, .int z)]) hx hb dMo_formula_56 hl (by decide) rfl (fun ls hl => ?_)
              refine lv_iload hx hb dMo_formula_58 (lv_at hl 0 rfl) ?_
              refine wz_ifN_ne (x := 1) (tgt := 79) hx hb (by omega) dMo_formula_60 (by decide) (fun h60_25 => ?_) (fun h60_25 => ?_)
              · skip
                refine lv_iconst (v := nI 1) hx hb dMo_formula_79 (by decide) ?_
                refine lv_goto (tgt := 84) hx hb dMo_formula_80 (by decide) ?_
                refine lv_istore (lv' := [(4, .int (nI 1)), (0, .ref aR), (1, .int (nI k)), (2, .int y), (3, .int z)]) hx hb dMo_formula_84 hl (by decide) rfl (fun ls hl => ?_)
                refine lv_aload_n hx hb dMo_formula_86 rfl (lv_at hl 1 rfl) ?_
                refine lv_iload hx hb dMo_formula_87 (lv_at hl 0 rfl) ?_
                refine wz_ifN_eq (x := 1) (tgt := 96) hx hb (by omega) dMo_formula_89 (by decide) (fun h89_26 => ?_) (fun h89_26 => ?_)
                · skip
                  exact absurd h89_26 (by decide)
                · skip
                  refine lv_iconst (v := nI 1) hx hb dMo_formula_92 (by decide) ?_
                  refine lv_goto (tgt := 110) hx hb dMo_formula_93 (by decide) ?_
                  refine va_put (D := (dC, dI)) (ci := 7) (v := .int (nI 1)) (ty := .int) (C := RMo) (T := TMo) (N := 19) hx hb hw in_Mo tyMo tyMo_ok nmMo hown hK hP hD hS 0 rfl rfl 0 (by decide) (hw _ w_500) (fun _ h9 => h9) rfl (by decide +kernel) rfl rfl (Nat.le_of_ble_eq_true rfl) dMo_formula_110 (fun H locs hP hD hS => ?_)
                  have hP : va_P (dC, dI) vwCl [(aR, .inr (7, [.int (nI 1), .int (nI mv), .ref ams, .ref ann, .int (nI n), .ref ak2, .ref af2, .ref as2, .ref ah2, .int (nI fc), .ref afa, .ref afx, .ref ald, .int (nI zz), .ref awy, .int lp, .ref alt, .ref abg, .int (wz_i tl)])), (ak2, .inl (cI, 32, .inl (wz_n kn))), (af2, .inl (cI, 32, .inl f2)), (as2, .inl (cI, 32, .inl s2))] H := hP
                  have hD : va_D A [(aR, .inr (7, [.int (nI 1), .int (nI mv), .ref ams, .ref ann, .int (nI n), .ref ak2, .ref af2, .ref as2, .ref ah2, .int (nI fc), .ref afa, .ref afx, .ref ald, .int (nI zz), .ref awy, .int lp, .ref alt, .ref abg, .int (wz_i tl)])), (ak2, .inl (cI, 32, .inl (wz_n kn))), (af2, .inl (cI, 32, .inl f2)), (as2, .inl (cI, 32, .inl s2))] := hD
                  refine lv_aload_n hx hb dMo_formula_113 rfl (lv_at hl 1 rfl) ?_
                  refine va_get (D := (dC, dI)) (ci := 7) (v := .int (nI 1)) (C := RMo) (T := TMo) (N := 19) hx hb hw in_Mo hown hK hP 0 rfl rfl 0 (by decide) (hw _ w_500) (fun _ h9 => h9) rfl dMo_formula_114 ?_
                  refine wz_ifN_eq (x := 1) (tgt := 122) hx hb (by omega) dMo_formula_117 (by decide) (fun h117_27 => ?_) (fun h117_27 => ?_)
                  · skip
                    exact absurd h117_27 (by decide)
                  · skip
                    refine lv_iconst (v := nI 0) hx hb dMo_formula_120 (by decide) ?_
                    exact wz_iret hx hb hr hlocks rfl hP hD hK hS dMo_formula_121
              · skip
                exact absurd h60_25 (by decide)
        · skip
          refine lv_iload_n hx hb dMo_formula_26 rfl (lv_at hl 3 rfl) ?_
          refine lv_if_lt (tgt := 51) hx hb dMo_formula_27 (by decide) (fun h27_28 => ?_) (fun h27_28 => ?_)
          · skip
            refine lv_iconst (v := nI 1) hx hb dMo_formula_51 (by decide) ?_
            refine lv_goto (tgt := 56) hx hb dMo_formula_52 (by decide) ?_
            refine lv_istore (lv' := [(4, .int (nI 1)), (0, .ref aR), (1, .int (nI k)), (2, .int y), (3, .int z)]) hx hb dMo_formula_56 hl (by decide) rfl (fun ls hl => ?_)
            refine lv_iload hx hb dMo_formula_58 (lv_at hl 0 rfl) ?_
            refine wz_ifN_ne (x := 1) (tgt := 79) hx hb (by omega) dMo_formula_60 (by decide) (fun h60_29 => ?_) (fun h60_29 => ?_)
            · skip
              refine lv_iconst (v := nI 1) hx hb dMo_formula_79 (by decide) ?_
              refine lv_goto (tgt := 84) hx hb dMo_formula_80 (by decide) ?_
              refine lv_istore (lv' := [(4, .int (nI 1)), (0, .ref aR), (1, .int (nI k)), (2, .int y), (3, .int z)]) hx hb dMo_formula_84 hl (by decide) rfl (fun ls hl => ?_)
              refine lv_aload_n hx hb dMo_formula_86 rfl (lv_at hl 1 rfl) ?_
              refine lv_iload hx hb dMo_formula_87 (lv_at hl 0 rfl) ?_
              refine wz_ifN_eq (x := 1) (tgt := 96) hx hb (by omega) dMo_formula_89 (by decide) (fun h89_30 => ?_) (fun h89_30 => ?_)
              · skip
                exact absurd h89_30 (by decide)
              · skip
                refine lv_iconst (v := nI 1) hx hb dMo_formula_92 (by decide) ?_
                refine lv_goto (tgt := 110) hx hb dMo_formula_93 (by decide) ?_
                refine va_put (D := (dC, dI)) (ci := 7) (v := .int (nI 1)) (ty := .int) (C := RMo) (T := TMo) (N := 19) hx hb hw in_Mo tyMo tyMo_ok nmMo hown hK hP hD hS 0 rfl rfl 0 (by decide) (hw _ w_500) (fun _ h9 => h9) rfl (by decide +kernel) rfl rfl (Nat.le_of_ble_eq_true rfl) dMo_formula_110 (fun H locs hP hD hS => ?_)
                have hP : va_P (dC, dI) vwCl [(aR, .inr (7, [.int (nI 1), .int (nI mv), .ref ams, .ref ann, .int (nI n), .ref ak2, .ref af2, .ref as2, .ref ah2, .int (nI fc), .ref afa, .ref afx, .ref ald, .int (nI zz), .ref awy, .int lp, .ref alt, .ref abg, .int (wz_i tl)])), (ak2, .inl (cI, 32, .inl (wz_n kn))), (af2, .inl (cI, 32, .inl f2)), (as2, .inl (cI, 32, .inl s2))] H := hP
                have hD : va_D A [(aR, .inr (7, [.int (nI 1), .int (nI mv), .ref ams, .ref ann, .int (nI n), .ref ak2, .ref af2, .ref as2, .ref ah2, .int (nI fc), .ref afa, .ref afx, .ref ald, .int (nI zz), .ref awy, .int lp, .ref alt, .ref abg, .int (wz_i tl)])), (ak2, .inl (cI, 32, .inl (wz_n kn))), (af2, .inl (cI, 32, .inl f2)), (as2, .inl (cI, 32, .inl s2))] := hD
                refine lv_aload_n hx hb dMo_formula_113 rfl (lv_at hl 1 rfl) ?_
                refine va_get (D := (dC, dI)) (ci := 7) (v := .int (nI 1)) (C := RMo) (T := TMo) (N := 19) hx hb hw in_Mo hown hK hP 0 rfl rfl 0 (by decide) (hw _ w_500) (fun _ h9 => h9) rfl dMo_formula_114 ?_
                refine wz_ifN_eq (x := 1) (tgt := 122) hx hb (by omega) dMo_formula_117 (by decide) (fun h117_31 => ?_) (fun h117_31 => ?_)
                · skip
                  exact absurd h117_31 (by decide)
                · skip
                  refine lv_iconst (v := nI 0) hx hb dMo_formula_120 (by decide) ?_
                  exact wz_iret hx hb hr hlocks rfl hP hD hK hS dMo_formula_121
            · skip
              exact absurd h60_29 (by decide)
          · skip
            refine lv_iload_n hx hb dMo_formula_30 rfl (lv_at hl 3 rfl) ?_
            refine lv_iconst (v := nI 5) hx hb dMo_formula_31 (by decide) ?_
            refine lv_icmp_le (tgt := 55) hx hb dMo_formula_32 (by decide) (fun h32_32 => ?_) (fun h32_32 => ?_)
            · skip
              refine lv_iconst (v := nI 0) hx hb dMo_formula_55 (by decide) ?_
              refine lv_istore (lv' := [(4, .int (nI 0)), (0, .ref aR), (1, .int (nI k)), (2, .int y), (3, .int z)]) hx hb dMo_formula_56 hl (by decide) rfl (fun ls hl => ?_)
              refine lv_iload hx hb dMo_formula_58 (lv_at hl 0 rfl) ?_
              refine wz_ifN_ne (x := 0) (tgt := 79) hx hb (by omega) dMo_formula_60 (by decide) (fun h60_33 => ?_) (fun h60_33 => ?_)
              · skip
                exact absurd h60_33 (by decide)
              · skip
                refine lv_aload_n hx hb dMo_formula_63 rfl (lv_at hl 1 rfl) ?_
                refine lv_iload_n hx hb dMo_formula_64 rfl (lv_at hl 2 rfl) ?_
                refine wz_calli (wc := [(aR, .inr (7, [.int (nI th), .int (nI mv), .ref ams, .ref ann, .int (nI n), .ref ak2, .ref af2, .ref as2, .ref ah2, .int (nI fc), .ref afa, .ref afx, .ref ald, .int (nI zz), .ref awy, .int lp, .ref alt, .ref abg, .int (wz_i tl)]))]) (wr := [(ak2, .inl (cI, 32, .inl (wz_n kn))), (af2, .inl (cI, 32, .inl f2)), (as2, .inl (cI, 32, .inl s2))]) (w1 := [(aR, .inr (7, [.int (nI th), .int (nI mv), .ref ams, .ref ann, .int (nI n), .ref ak2, .ref af2, .ref as2, .ref ah2, .int (nI fc), .ref afa, .ref afx, .ref ald, .int (nI zz), .ref awy, .int lp, .ref alt, .ref abg, .int (wz_i tl)]))]) (ws' := [(aR, .inr (7, [.int (nI th), .int (nI mv), .ref ams, .ref ann, .int (nI n), .ref ak2, .ref af2, .ref as2, .ref ah2, .int (nI fc), .ref afa, .ref afx, .ref ald, .int (nI zz), .ref awy, .int lp, .ref alt, .ref abg, .int (wz_i tl)])), (ak2, .inl (cI, 32, .inl (wz_n kn))), (af2, .inl (cI, 32, .inl f2)), (as2, .inl (cI, 32, .inl s2))]) hP hD hS hA [0] [1, 2, 3] [3, 0, 1, 2] rfl rfl (by decide) (by decide) (by decide) rfl rfl (va_runV (As := [.int (nI k)]) (rest := []) ⟨hx, hb, hml, hown, hts⟩ (kMo_hasSecond l dC dI cI cJ cZ s.heap.size aR ams ann ak2 af2 as2 ah2 afa afx ald awy alt abg th mv n fc zz lp tl k hk) (cwV 1 hts (wz_gV w_586 w_587 w_13 w_41 w_588) rfl rfl rfl (by decide +kernel) ⟨Nat.le_of_ble_eq_true rfl, Nat.le_of_ble_eq_true rfl⟩) (wz_preV (q := (RMo, TMo, 19)) (ci := 7) hN hK hP hD [0] (by decide) rfl rfl 0 rfl rfl) rfl rfl hl.1 rfl (lv_room (Nat.le_of_ble_eq_true rfl)) dMo_formula_65 ⟨Nat.le_refl _, Nat.le_refl _⟩) (fun H locs hP hD hS => ?_)
                refine wz_ifz (tgt := 83) hx hb dMo_formula_68 (by decide) (fun h68_34 => ?_) (fun h68_34 => ?_)
                · skip
                  refine lv_iconst (v := nI 0) hx hb dMo_formula_83 (by decide) ?_
                  refine lv_istore (lv' := [(4, .int (nI 0)), (0, .ref aR), (1, .int (nI k)), (2, .int y), (3, .int z)]) hx hb dMo_formula_84 hl (by decide) rfl (fun ls hl => ?_)
                  refine lv_aload_n hx hb dMo_formula_86 rfl (lv_at hl 1 rfl) ?_
                  refine lv_iload hx hb dMo_formula_87 (lv_at hl 0 rfl) ?_
                  refine wz_ifN_eq (x := 0) (tgt := 96) hx hb (by omega) dMo_formula_89 (by decide) (fun h89_35 => ?_) (fun h89_35 => ?_)
                  · skip
                    exfalso; rw [ww_cb_N hk] at hcb; first | (rw [if_pos h23_8, decide_eq_true ⟨h27_28, (ww_5 y).mp h32_32⟩] at hcb; cases hcb; done) | (rw [if_neg h23_8, decide_eq_true h_none, h68_34] at hcb; simp at hcb; done) | (rw [if_neg h23_8, decide_eq_true h_none, h68_34, ww_nb' h_none] at hcb; simp at hcb; done) | (rw [if_neg h23_8, ww_nb' h_none, h68_34] at hcb; simp at hcb; done) | (rw [if_neg h23_8, ww_nb' h_none, h68_34, ww_nb' h_none] at hcb; simp at hcb; done)
                  · skip
                    exact absurd h89_35 (by decide)
                · skip
                  refine lv_aload_n hx hb dMo_formula_71 rfl (lv_at hl 1 rfl) ?_
                  refine lv_iload_n hx hb dMo_formula_72 rfl (lv_at hl 4 rfl) ?_
                  refine wz_calli (wc := [(aR, .inr (7, [.int (nI th), .int (nI mv), .ref ams, .ref ann, .int (nI n), .ref ak2, .ref af2, .ref as2, .ref ah2, .int (nI fc), .ref afa, .ref afx, .ref ald, .int (nI zz), .ref awy, .int lp, .ref alt, .ref abg, .int (wz_i tl)]))]) (wr := [(ak2, .inl (cI, 32, .inl (wz_n kn))), (af2, .inl (cI, 32, .inl f2)), (as2, .inl (cI, 32, .inl s2))]) (w1 := [(aR, .inr (7, [.int (nI th), .int (nI mv), .ref ams, .ref ann, .int (nI n), .ref ak2, .ref af2, .ref as2, .ref ah2, .int (nI fc), .ref afa, .ref afx, .ref ald, .int (nI zz), .ref awy, .int lp, .ref alt, .ref abg, .int (wz_i tl)]))]) (ws' := [(aR, .inr (7, [.int (nI th), .int (nI mv), .ref ams, .ref ann, .int (nI n), .ref ak2, .ref af2, .ref as2, .ref ah2, .int (nI fc), .ref afa, .ref afx, .ref ald, .int (nI zz), .ref awy, .int lp, .ref alt, .ref abg, .int (wz_i tl)])), (ak2, .inl (cI, 32, .inl (wz_n kn))), (af2, .inl (cI, 32, .inl f2)), (as2, .inl (cI, 32, .inl s2))]) hP hD hS hA [0] [1, 2, 3] [3, 0, 1, 2] rfl rfl (by decide) (by decide) (by decide) rfl rfl (va_runV (As := [.int z]) (rest := []) ⟨hx, hb, hml, hown, hts⟩ (kMo_noFormula l dC dI cI cJ cZ H.size aR ams ann ak2 af2 as2 ah2 afa afx ald awy alt abg th mv n fc zz lp tl z) (cwV 1 hts (wz_gV w_583 w_584 w_12 w_41 w_585) rfl rfl rfl (by decide +kernel) ⟨Nat.le_of_ble_eq_true rfl, Nat.le_of_ble_eq_true rfl⟩) (wz_preV (q := (RMo, TMo, 19)) (ci := 7) hN hK hP hD [0] (by decide) rfl rfl 0 rfl rfl) rfl rfl hl.1 rfl (lv_room (Nat.le_of_ble_eq_true rfl)) dMo_formula_73 ⟨Nat.le_refl _, Nat.le_refl _⟩) (fun H locs hP hD hS => ?_)
                  refine wz_ifz (tgt := 83) hx hb dMo_formula_76 (by decide) (fun h76_36 => ?_) (fun h76_36 => ?_)
                  · skip
                    refine lv_iconst (v := nI 0) hx hb dMo_formula_83 (by decide) ?_
                    refine lv_istore (lv' := [(4, .int (nI 0)), (0, .ref aR), (1, .int (nI k)), (2, .int y), (3, .int z)]) hx hb dMo_formula_84 hl (by decide) rfl (fun ls hl => ?_)
                    refine lv_aload_n hx hb dMo_formula_86 rfl (lv_at hl 1 rfl) ?_
                    refine lv_iload hx hb dMo_formula_87 (lv_at hl 0 rfl) ?_
                    refine wz_ifN_eq (x := 0) (tgt := 96) hx hb (by omega) dMo_formula_89 (by decide) (fun h89_37 => ?_) (fun h89_37 => ?_)
                    · skip
                      exfalso; rw [ww_cb_N hk] at hcb; first | (rw [if_pos h23_8, decide_eq_true ⟨h27_28, (ww_5 y).mp h32_32⟩] at hcb; cases hcb; done) | (rw [if_neg h23_8, decide_eq_true h_none, h68_34] at hcb; simp at hcb; done) | (rw [if_neg h23_8, decide_eq_true h_none, h68_34, ww_nb' h76_36] at hcb; simp at hcb; done) | (rw [if_neg h23_8, ww_nb' h_none, h68_34] at hcb; simp at hcb; done) | (rw [if_neg h23_8, ww_nb' h_none, h68_34, ww_nb' h76_36] at hcb; simp at hcb; done)
                    · skip
                      exact absurd h89_37 (by decide)
                  · skip
                    refine lv_iconst (v := nI 1) hx hb dMo_formula_79 (by decide) ?_
                    refine lv_goto (tgt := 84) hx hb dMo_formula_80 (by decide) ?_
                    refine lv_istore (lv' := [(4, .int (nI 1)), (0, .ref aR), (1, .int (nI k)), (2, .int y), (3, .int z)]) hx hb dMo_formula_84 hl (by decide) rfl (fun ls hl => ?_)
                    refine lv_aload_n hx hb dMo_formula_86 rfl (lv_at hl 1 rfl) ?_
                    refine lv_iload hx hb dMo_formula_87 (lv_at hl 0 rfl) ?_
                    refine wz_ifN_eq (x := 1) (tgt := 96) hx hb (by omega) dMo_formula_89 (by decide) (fun h89_38 => ?_) (fun h89_38 => ?_)
                    · skip
                      exact absurd h89_38 (by decide)
                    · skip
                      refine lv_iconst (v := nI 1) hx hb dMo_formula_92 (by decide) ?_
                      refine lv_goto (tgt := 110) hx hb dMo_formula_93 (by decide) ?_
                      refine va_put (D := (dC, dI)) (ci := 7) (v := .int (nI 1)) (ty := .int) (C := RMo) (T := TMo) (N := 19) hx hb hw in_Mo tyMo tyMo_ok nmMo hown hK hP hD hS 0 rfl rfl 0 (by decide) (hw _ w_500) (fun _ h9 => h9) rfl (by decide +kernel) rfl rfl (Nat.le_of_ble_eq_true rfl) dMo_formula_110 (fun H locs hP hD hS => ?_)
                      have hP : va_P (dC, dI) vwCl [(aR, .inr (7, [.int (nI 1), .int (nI mv), .ref ams, .ref ann, .int (nI n), .ref ak2, .ref af2, .ref as2, .ref ah2, .int (nI fc), .ref afa, .ref afx, .ref ald, .int (nI zz), .ref awy, .int lp, .ref alt, .ref abg, .int (wz_i tl)])), (ak2, .inl (cI, 32, .inl (wz_n kn))), (af2, .inl (cI, 32, .inl f2)), (as2, .inl (cI, 32, .inl s2))] H := hP
                      have hD : va_D A [(aR, .inr (7, [.int (nI 1), .int (nI mv), .ref ams, .ref ann, .int (nI n), .ref ak2, .ref af2, .ref as2, .ref ah2, .int (nI fc), .ref afa, .ref afx, .ref ald, .int (nI zz), .ref awy, .int lp, .ref alt, .ref abg, .int (wz_i tl)])), (ak2, .inl (cI, 32, .inl (wz_n kn))), (af2, .inl (cI, 32, .inl f2)), (as2, .inl (cI, 32, .inl s2))] := hD
                      refine lv_aload_n hx hb dMo_formula_113 rfl (lv_at hl 1 rfl) ?_
                      refine va_get (D := (dC, dI)) (ci := 7) (v := .int (nI 1)) (C := RMo) (T := TMo) (N := 19) hx hb hw in_Mo hown hK hP 0 rfl rfl 0 (by decide) (hw _ w_500) (fun _ h9 => h9) rfl dMo_formula_114 ?_
                      refine wz_ifN_eq (x := 1) (tgt := 122) hx hb (by omega) dMo_formula_117 (by decide) (fun h117_39 => ?_) (fun h117_39 => ?_)
                      · skip
                        exact absurd h117_39 (by decide)
                      · skip
                        refine lv_iconst (v := nI 0) hx hb dMo_formula_120 (by decide) ?_
                        exact wz_iret hx hb hr hlocks rfl hP hD hK hS dMo_formula_121
            · skip
              refine lv_goto (tgt := 51) hx hb dMo_formula_35 (by decide) ?_
              refine lv_iconst (v := nI 1) hx hb dMo_formula_51 (by decide) ?_
              refine lv_goto (tgt := 56) hx hb dMo_formula_52 (by decide) ?_
              refine lv_istore (lv' := [(4, .int (nI 1)), (0, .ref aR), (1, .int (nI k)), (2, .int y), (3, .int z)]) hx hb dMo_formula_56 hl (by decide) rfl (fun ls hl => ?_)
              refine lv_iload hx hb dMo_formula_58 (lv_at hl 0 rfl) ?_
              refine wz_ifN_ne (x := 1) (tgt := 79) hx hb (by omega) dMo_formula_60 (by decide) (fun h60_40 => ?_) (fun h60_40 => ?_)
              · skip
                refine lv_iconst (v := nI 1) hx hb dMo_formula_79 (by decide) ?_
                refine lv_goto (tgt := 84) hx hb dMo_formula_80 (by decide) ?_
                refine lv_istore (lv' := [(4, .int (nI 1)), (0, .ref aR), (1, .int (nI k)), (2, .int y), (3, .int z)]) hx hb dMo_formula_84 hl (by decide) rfl (fun ls hl => ?_)
                refine lv_aload_n hx hb dMo_formula_86 rfl (lv_at hl 1 rfl) ?_
                refine lv_iload hx hb dMo_formula_87 (lv_at hl 0 rfl) ?_
                refine wz_ifN_eq (x := 1) (tgt := 96) hx hb (by omega) dMo_formula_89 (by decide) (fun h89_41 => ?_) (fun h89_41 => ?_)
                · skip
                  exact absurd h89_41 (by decide)
                · skip
                  refine lv_iconst (v := nI 1) hx hb dMo_formula_92 (by decide) ?_
                  refine lv_goto (tgt := 110) hx hb dMo_formula_93 (by decide) ?_
                  refine va_put (D := (dC, dI)) (ci := 7) (v := .int (nI 1)) (ty := .int) (C := RMo) (T := TMo) (N := 19) hx hb hw in_Mo tyMo tyMo_ok nmMo hown hK hP hD hS 0 rfl rfl 0 (by decide) (hw _ w_500) (fun _ h9 => h9) rfl (by decide +kernel) rfl rfl (Nat.le_of_ble_eq_true rfl) dMo_formula_110 (fun H locs hP hD hS => ?_)
                  have hP : va_P (dC, dI) vwCl [(aR, .inr (7, [.int (nI 1), .int (nI mv), .ref ams, .ref ann, .int (nI n), .ref ak2, .ref af2, .ref as2, .ref ah2, .int (nI fc), .ref afa, .ref afx, .ref ald, .int (nI zz), .ref awy, .int lp, .ref alt, .ref abg, .int (wz_i tl)])), (ak2, .inl (cI, 32, .inl (wz_n kn))), (af2, .inl (cI, 32, .inl f2)), (as2, .inl (cI, 32, .inl s2))] H := hP
                  have hD : va_D A [(aR, .inr (7, [.int (nI 1), .int (nI mv), .ref ams, .ref ann, .int (nI n), .ref ak2, .ref af2, .ref as2, .ref ah2, .int (nI fc), .ref afa, .ref afx, .ref ald, .int (nI zz), .ref awy, .int lp, .ref alt, .ref abg, .int (wz_i tl)])), (ak2, .inl (cI, 32, .inl (wz_n kn))), (af2, .inl (cI, 32, .inl f2)), (as2, .inl (cI, 32, .inl s2))] := hD
                  refine lv_aload_n hx hb dMo_formula_113 rfl (lv_at hl 1 rfl) ?_
                  refine va_get (D := (dC, dI)) (ci := 7) (v := .int (nI 1)) (C := RMo) (T := TMo) (N := 19) hx hb hw in_Mo hown hK hP 0 rfl rfl 0 (by decide) (hw _ w_500) (fun _ h9 => h9) rfl dMo_formula_114 ?_
                  refine wz_ifN_eq (x := 1) (tgt := 122) hx hb (by omega) dMo_formula_117 (by decide) (fun h117_42 => ?_) (fun h117_42 => ?_)
                  · skip
                    exact absurd h117_42 (by decide)
                  · skip
                    refine lv_iconst (v := nI 0) hx hb dMo_formula_120 (by decide) ?_
                    exact wz_iret hx hb hr hlocks rfl hP hD hK hS dMo_formula_121
              · skip
                exact absurd h60_40 (by decide)
    · skip
      refine lv_iconst (v := nI 1) hx hb dMo_formula_10 (by decide) ?_
      refine lv_goto (tgt := 15) hx hb dMo_formula_11 (by decide) ?_
      refine lv_istore (lv' := [(4, .int (nI 1)), (0, .ref aR), (1, .int x), (2, .int y), (3, .int z)]) hx hb dMo_formula_15 hl (by decide) rfl (fun ls hl => ?_)
      refine lv_iload hx hb dMo_formula_17 (lv_at hl 0 rfl) ?_
      refine wz_ifN_ne (x := 1) (tgt := 51) hx hb (by omega) dMo_formula_19 (by decide) (fun h19_43 => ?_) (fun h19_43 => ?_)
      · skip
        refine lv_iconst (v := nI 1) hx hb dMo_formula_51 (by decide) ?_
        refine lv_goto (tgt := 56) hx hb dMo_formula_52 (by decide) ?_
        refine lv_istore (lv' := [(4, .int (nI 1)), (0, .ref aR), (1, .int x), (2, .int y), (3, .int z)]) hx hb dMo_formula_56 hl (by decide) rfl (fun ls hl => ?_)
        refine lv_iload hx hb dMo_formula_58 (lv_at hl 0 rfl) ?_
        refine wz_ifN_ne (x := 1) (tgt := 79) hx hb (by omega) dMo_formula_60 (by decide) (fun h60_44 => ?_) (fun h60_44 => ?_)
        · skip
          refine lv_iconst (v := nI 1) hx hb dMo_formula_79 (by decide) ?_
          refine lv_goto (tgt := 84) hx hb dMo_formula_80 (by decide) ?_
          refine lv_istore (lv' := [(4, .int (nI 1)), (0, .ref aR), (1, .int x), (2, .int y), (3, .int z)]) hx hb dMo_formula_84 hl (by decide) rfl (fun ls hl => ?_)
          refine lv_aload_n hx hb dMo_formula_86 rfl (lv_at hl 1 rfl) ?_
          refine lv_iload hx hb dMo_formula_87 (lv_at hl 0 rfl) ?_
          refine wz_ifN_eq (x := 1) (tgt := 96) hx hb (by omega) dMo_formula_89 (by decide) (fun h89_45 => ?_) (fun h89_45 => ?_)
          · skip
            exact absurd h89_45 (by decide)
          · skip
            refine lv_iconst (v := nI 1) hx hb dMo_formula_92 (by decide) ?_
            refine lv_goto (tgt := 110) hx hb dMo_formula_93 (by decide) ?_
            refine va_put (D := (dC, dI)) (ci := 7) (v := .int (nI 1)) (ty := .int) (C := RMo) (T := TMo) (N := 19) hx hb hw in_Mo tyMo tyMo_ok nmMo hown hK hP hD hS 0 rfl rfl 0 (by decide) (hw _ w_500) (fun _ h9 => h9) rfl (by decide +kernel) rfl rfl (Nat.le_of_ble_eq_true rfl) dMo_formula_110 (fun H locs hP hD hS => ?_)
            have hP : va_P (dC, dI) vwCl [(aR, .inr (7, [.int (nI 1), .int (nI mv), .ref ams, .ref ann, .int (nI n), .ref ak2, .ref af2, .ref as2, .ref ah2, .int (nI fc), .ref afa, .ref afx, .ref ald, .int (nI zz), .ref awy, .int lp, .ref alt, .ref abg, .int (wz_i tl)])), (ak2, .inl (cI, 32, .inl (wz_n kn))), (af2, .inl (cI, 32, .inl f2)), (as2, .inl (cI, 32, .inl s2))] H := hP
            have hD : va_D A [(aR, .inr (7, [.int (nI 1), .int (nI mv), .ref ams, .ref ann, .int (nI n), .ref ak2, .ref af2, .ref as2, .ref ah2, .int (nI fc), .ref afa, .ref afx, .ref ald, .int (nI zz), .ref awy, .int lp, .ref alt, .ref abg, .int (wz_i tl)])), (ak2, .inl (cI, 32, .inl (wz_n kn))), (af2, .inl (cI, 32, .inl f2)), (as2, .inl (cI, 32, .inl s2))] := hD
            refine lv_aload_n hx hb dMo_formula_113 rfl (lv_at hl 1 rfl) ?_
            refine va_get (D := (dC, dI)) (ci := 7) (v := .int (nI 1)) (C := RMo) (T := TMo) (N := 19) hx hb hw in_Mo hown hK hP 0 rfl rfl 0 (by decide) (hw _ w_500) (fun _ h9 => h9) rfl dMo_formula_114 ?_
            refine wz_ifN_eq (x := 1) (tgt := 122) hx hb (by omega) dMo_formula_117 (by decide) (fun h117_46 => ?_) (fun h117_46 => ?_)
            · skip
              exact absurd h117_46 (by decide)
            · skip
              refine lv_iconst (v := nI 0) hx hb dMo_formula_120 (by decide) ?_
              exact wz_iret hx hb hr hlocks rfl hP hD hK hS dMo_formula_121
        · skip
          exact absurd h60_44 (by decide)
      · skip
        exact absurd h19_43 (by decide)
set_option maxHeartbeats 4000000 in
set_option maxRecDepth 100000 in
theorem kMo_madeOf (l : Launch) (dC : Nat → ClassId) (dI : Nat → Nat → Nat) (cI cJ cZ : ClassId) (sz : Nat) (aR : Nat) (ams : Nat) (ann : Nat) (ak2 : Nat) (af2 : Nat) (as2 : Nat) (ah2 : Nat) (afa : Nat) (afx : Nat) (ald : Nat) (awy : Nat) (alt : Nat) (abg : Nat) (th : Nat) (mv : Nat) (n : Nat) (fc : Nat) (zz : Nat) (lp : Int32) (tl : Bool) (kn : Nat → Nat) (f2 : Nat → Int32) (s2 : Nat → Int32) (fn : Nat → Nat) (sn : Nat → Nat) (f : Nat) (hf : f < n) (hwf : ww_wf n kn fn sn) (hn : n ≤ 32) (hfi : ∀ i, i < n → ¬ kn i = 1 → f2 i = nI (fn i)) (hse : ∀ i, i < n → ww_h2 (kn i) = true → s2 i = nI (sn i)) : Met l yMo_madeOf (.code yMo_madeOf cMo_madeOf 6 (some .long) :: wz_all) ({ frames := 1, cells := 0, slots := 0, locals := 21 }) (wz_Pc (dC, dI) vwCl (wz_T cI cJ cZ) [.ref aR, .int (nI f)] sz [(aR, .inr (7, [.int (nI th), .int (nI mv), .ref ams, .ref ann, .int (nI n), .ref ak2, .ref af2, .ref as2, .ref ah2, .int (nI fc), .ref afa, .ref afx, .ref ald, .int (nI zz), .ref awy, .int lp, .ref alt, .ref abg, .int (wz_i tl)])), (ak2, .inl (cI, 32, .inl (wz_n kn))), (af2, .inl (cI, 32, .inl f2)), (as2, .inl (cI, 32, .inl s2))]) (va_Ql (fun (r : Int64) (_ : Unit) => r = ww_md kn fn sn f (f + 1)) (fun _ t => va_P (dC, dI) vwCl [(aR, .inr (7, [.int (nI th), .int (nI mv), .ref ams, .ref ann, .int (nI n), .ref ak2, .ref af2, .ref as2, .ref ah2, .int (nI fc), .ref afa, .ref afx, .ref ald, .int (nI zz), .ref awy, .int lp, .ref alt, .ref abg, .int (wz_i tl)])), (ak2, .inl (cI, 32, .inl (wz_n kn))), (af2, .inl (cI, 32, .inl f2)), (as2, .inl (cI, 32, .inl s2))] t.heap ∧ va_K (dC, dI) vwCl (wz_T cI cJ cZ) t ∧ va_D (va_A [(aR, .inr (7, [.int (nI th), .int (nI mv), .ref ams, .ref ann, .int (nI n), .ref ak2, .ref af2, .ref as2, .ref ah2, .int (nI fc), .ref afa, .ref afx, .ref ald, .int (nI zz), .ref awy, .int lp, .ref alt, .ref abg, .int (wz_i tl)])), (ak2, .inl (cI, 32, .inl (wz_n kn))), (af2, .inl (cI, 32, .inl f2)), (as2, .inl (cI, 32, .inl s2))] sz) [(aR, .inr (7, [.int (nI th), .int (nI mv), .ref ams, .ref ann, .int (nI n), .ref ak2, .ref af2, .ref as2, .ref ah2, .int (nI fc), .ref afa, .ref afx, .ref ald, .int (nI zz), .ref awy, .int lp, .ref alt, .ref abg, .int (wz_i tl)])), (ak2, .inl (cI, 32, .inl (wz_n kn))), (af2, .inl (cI, 32, .inl f2)), (as2, .inl (cI, 32, .inl s2))]) (va_A [(aR, .inr (7, [.int (nI th), .int (nI mv), .ref ams, .ref ann, .int (nI n), .ref ak2, .ref af2, .ref as2, .ref ah2, .int (nI fc), .ref afa, .ref afx, .ref ald, .int (nI zz), .ref awy, .int lp, .ref alt, .ref abg, .int (wz_i tl)])), (ak2, .inl (cI, 32, .inl (wz_n kn))), (af2, .inl (cI, 32, .inl f2)), (as2, .inl (cI, 32, .inl s2))] sz)) 0 0 (va_A [(aR, .inr (7, [.int (nI th), .int (nI mv), .ref ams, .ref ann, .int (nI n), .ref ak2, .ref af2, .ref as2, .ref ah2, .int (nI fc), .ref afa, .ref afx, .ref ald, .int (nI zz), .ref awy, .int lp, .ref alt, .ref abg, .int (wz_i tl)])), (ak2, .inl (cI, 32, .inl (wz_n kn))), (af2, .inl (cI, 32, .inl f2)), (as2, .inl (cI, 32, .inl s2))] sz) := by
  refine Met.ofW (cc := cMo_madeOf) (maxL := 6) (ret := (some .long)) (by decide) rfl ?_
  intro p e s m args below meth c s₁ B hml hv
  obtain ⟨rfl, hsz, hP, hK, hD0, hN⟩ := hv
  have hx := B.exec
  have hb := B.bytes
  have hr := B.returns
  have hts := atoms_spec (ws := (.code yMo_madeOf cMo_madeOf 6 (some .long) :: wz_all)) B.pre
  have hw : ∀ w9 ∈ wz_all, w9.before [.ref aR, .int (nI f)].toArray s = true := fun w9 h => hts w9 (List.mem_cons_of_mem _ h)
  have hown : s.vm.findClass RMo = some m.cls := findClass_of_methodNamed B.named
  have hlocks := B.notSynchronized
  subst hsz
  have hD := hD0.self (sz := s.heap.size)
  generalize hAe : va_A [(aR, .inr (7, [.int (nI th), .int (nI mv), .ref ams, .ref ann, .int (nI n), .ref ak2, .ref af2, .ref as2, .ref ah2, .int (nI fc), .ref afa, .ref afx, .ref ald, .int (nI zz), .ref awy, .int lp, .ref alt, .ref abg, .int (wz_i tl)])), (ak2, .inl (cI, 32, .inl (wz_n kn))), (af2, .inl (cI, 32, .inl f2)), (as2, .inl (cI, 32, .inl s2))] s.heap.size = A at hD ⊢
  have hA : ∀ q : Nat, s.heap.size ≤ q → A q := fun q h => by rw [← hAe]; exact Or.inr h
  have hS : va_S A s.heap s.heap [] := va_S.rf
  have hP : va_P (dC, dI) vwCl [(aR, .inr (7, [.int (nI th), .int (nI mv), .ref ams, .ref ann, .int (nI n), .ref ak2, .ref af2, .ref as2, .ref ah2, .int (nI fc), .ref afa, .ref afx, .ref ald, .int (nI zz), .ref awy, .int lp, .ref alt, .ref abg, .int (wz_i tl)])), (ak2, .inl (cI, 32, .inl (wz_n kn))), (af2, .inl (cI, 32, .inl f2)), (as2, .inl (cI, 32, .inl s2))] s.heap := hP
  have hl := lv_entry ([.ref aR, .int (nI f)]) (n := 6) (Nat.le_of_ble_eq_true rfl)
  rw [lg_entry_eq]
  generalize (lg_sl ([.ref aR, .int (nI f)]) ++ List.replicate (6 - (lg_sl ([.ref aR, .int (nI f)])).length) Slot.unset).toArray = ls at hl ⊢
  have hl : lv_has ls 6 [(0, .ref aR), (1, .int (nI f))] := hl
  have cut7 : ∀ (n7 : Nat) (c9 : Nat) (b : Int64) (hc9 : c9 ≤ f + 1) (hbb : b = ww_md kn fn sn f (f + 1 - c9)), c9 = n7 → ∀ (H : Heap) (locs : List Loc), va_P (dC, dI) vwCl [(aR, .inr (7, [.int (nI th), .int (nI mv), .ref ams, .ref ann, .int (nI n), .ref ak2, .ref af2, .ref as2, .ref ah2, .int (nI fc), .ref afa, .ref afx, .ref ald, .int (nI zz), .ref awy, .int lp, .ref alt, .ref abg, .int (wz_i tl)])), (ak2, .inl (cI, 32, .inl (wz_n kn))), (af2, .inl (cI, 32, .inl f2)), (as2, .inl (cI, 32, .inl s2))] H → va_D A [(aR, .inr (7, [.int (nI th), .int (nI mv), .ref ams, .ref ann, .int (nI n), .ref ak2, .ref af2, .ref as2, .ref ah2, .int (nI fc), .ref afa, .ref afx, .ref ald, .int (nI zz), .ref awy, .int lp, .ref alt, .ref abg, .int (wz_i tl)])), (ak2, .inl (cI, 32, .inl (wz_n kn))), (af2, .inl (cI, 32, .inl f2)), (as2, .inl (cI, 32, .inl s2))] → va_S A s.heap H locs → ∀ ls : Array Slot, lv_has ls 6 [(4, .int (nI c9 + (-1))), (2, .long b), (0, .ref aR), (1, .int (nI f))] → W p l e (headSpec (.code yMo_madeOf cMo_madeOf 6 (some .long) :: wz_all) ({ frames := 1, cells := 0, slots := 0, locals := 21 })).room s m [.ref aR, .int (nI f)].toArray below meth c H locs 0 0 (MQ below (va_Ql (fun (r : Int64) (_ : Unit) => r = ww_md kn fn sn f (f + 1)) (fun _ t => va_P (dC, dI) vwCl [(aR, .inr (7, [.int (nI th), .int (nI mv), .ref ams, .ref ann, .int (nI n), .ref ak2, .ref af2, .ref as2, .ref ah2, .int (nI fc), .ref afa, .ref afx, .ref ald, .int (nI zz), .ref awy, .int lp, .ref alt, .ref abg, .int (wz_i tl)])), (ak2, .inl (cI, 32, .inl (wz_n kn))), (af2, .inl (cI, 32, .inl f2)), (as2, .inl (cI, 32, .inl s2))] t.heap ∧ va_K (dC, dI) vwCl (wz_T cI cJ cZ) t ∧ va_D A [(aR, .inr (7, [.int (nI th), .int (nI mv), .ref ams, .ref ann, .int (nI n), .ref ak2, .ref af2, .ref as2, .ref ah2, .int (nI fc), .ref afa, .ref afx, .ref ald, .int (nI zz), .ref awy, .int lp, .ref alt, .ref abg, .int (wz_i tl)])), (ak2, .inl (cI, 32, .inl (wz_n kn))), (af2, .inl (cI, 32, .inl f2)), (as2, .inl (cI, 32, .inl s2))]) A) [.ref aR, .int (nI f)].toArray s 0 0 A) (F0 m 7 ls []) := by
    intro n7
    induction n7 using Nat.strongRecOn with
    | _ n7 ih7 =>
    intro c9 b hc9 hbb hm7 H locs hP hD hS ls hl
    refine lv_iload hx hb dMo_madeOf_7 (lv_at hl 0 rfl) ?_
    refine lv_if_lt (tgt := 103) hx hb dMo_madeOf_9 (by decide) (fun h9_1 => ?_) (fun h9_1 => ?_)
    · skip
      refine lv_lload_n hx hb dMo_madeOf_103 rfl (lv_at hl 1 rfl) ?_
      exact wz_lret hx hb hr hlocks (by rw [hbb, ww_pd_neg (by omega) h9_1]; rfl) hP hD hK hS dMo_madeOf_104
    · skip
      obtain ⟨i, rfl⟩ := ww_pd_pos h9_1
      rw [pk_m1] at hl
      refine lv_lload_n hx hb dMo_madeOf_12 rfl (lv_at hl 1 rfl) ?_
      refine lv_iload hx hb dMo_madeOf_13 (lv_at hl 0 rfl) ?_
      refine lv_lshr hx hb dMo_madeOf_15 rfl ?_
      refine lv_lconst (v := 1) hx hb dMo_madeOf_16 (by decide) ?_
      refine lv_land hx hb dMo_madeOf_17 ?_
      refine W.eq (g2 := F0 m 18 ls [.long (ww_bit (ww_m b i))]) (by rw [show ((b >>> ((nI i).toInt64 &&& 63)) &&& 1 : Int64) = ww_bit (ww_m b i) from (by rw [ww_sshr b (by omega)])]) ?_
      refine lv_lconst (v := 1) hx hb dMo_madeOf_18 (by decide) ?_
      refine wz_lcmp_ne (tgt := 27) hx hb dMo_madeOf_19 dMo_madeOf_20 (by decide) (fun h19_2 => ?_) (fun h19_2 => ?_)
      · skip
        refine lv_iconst (v := nI 0) hx hb dMo_madeOf_27 (by decide) ?_
        refine lv_istore (lv' := [(5, .int (nI 0)), (4, .int (nI i)), (2, .long b), (0, .ref aR), (1, .int (nI f))]) hx hb dMo_madeOf_28 hl (by decide) rfl (fun ls hl => ?_)
        refine lv_iload hx hb dMo_madeOf_30 (lv_at hl 0 rfl) ?_
        refine wz_ifN_eq (x := 0) (tgt := 60) hx hb (by omega) dMo_madeOf_32 (by decide) (fun h32_3 => ?_) (fun h32_3 => ?_)
        · skip
          refine lv_lload_n hx hb dMo_madeOf_60 rfl (lv_at hl 2 rfl) ?_
          refine lv_lstore_n (lv' := [(2, .long b), (5, .int (nI 0)), (4, .int (nI i)), (0, .ref aR), (1, .int (nI f))]) hx hb dMo_madeOf_61 rfl hl (by decide) rfl (fun ls hl => ?_)
          refine lv_iload hx hb dMo_madeOf_62 (lv_at hl 1 rfl) ?_
          refine wz_ifN_eq (x := 0) (tgt := 95) hx hb (by omega) dMo_madeOf_64 (by decide) (fun h64_4 => ?_) (fun h64_4 => ?_)
          · skip
            refine lv_lload_n hx hb dMo_madeOf_95 rfl (lv_at hl 0 rfl) ?_
            refine lv_lstore_n (lv' := [(2, .long b), (5, .int (nI 0)), (4, .int (nI i)), (0, .ref aR), (1, .int (nI f))]) hx hb dMo_madeOf_96 rfl hl (by decide) rfl (fun ls hl => ?_)
            refine lv_iinc (v := nI i + (-1)) (lv' := [(4, .int (nI i + (-1))), (2, .long b), (5, .int (nI 0)), (0, .ref aR), (1, .int (nI f))]) hx hb dMo_madeOf_97 hl (k := 2) rfl (by rw [show Int32.ofInt (-1) = (-1 : Int32) by decide]) (by decide) rfl (fun ls hl => ?_)
            refine lv_goto (tgt := 7) hx hb dMo_madeOf_100 (by decide) ?_
            exact ih7 _ (by omega) i b (by omega) (by have e9 : b = ww_md kn fn sn f (f - i) := (by rw [hbb, show f + 1 - (i + 1) = f - i by omega]); rw [show f + 1 - i = (f - i) + 1 by omega]; show _ = ww_mdk kn fn sn (ww_md kn fn sn f (f - i)) (f - (f - i)); rw [show f - (f - i) = i by omega, ← e9]; unfold ww_mdk; first | (rw [if_neg (by rw [ww_bit_n h19_2]; decide)]; done) | (rw [if_pos ((ww_bit_1 _).mp h19_2), if_pos h_none, if_pos h_none]; done) | (rw [if_pos ((ww_bit_1 _).mp h19_2), if_pos h_none, if_neg (Nat.not_lt.mpr h_none)]; done) | (rw [if_pos ((ww_bit_1 _).mp h19_2), if_neg (by rw [h_none]; decide), if_pos h_none]; done) | (rw [if_pos ((ww_bit_1 _).mp h19_2), if_neg (by rw [h_none]; decide), if_neg (Nat.not_lt.mpr h_none)]; done)) rfl _ _ hP hD hS _ (lv_sub hl [0, 1, 3, 4] rfl)
          · skip
            exact absurd h64_4 (by decide)
        · skip
          exact absurd h32_3 (by decide)
      · skip
        refine lv_iconst (v := nI 1) hx hb dMo_madeOf_23 (by decide) ?_
        refine lv_goto (tgt := 28) hx hb dMo_madeOf_24 (by decide) ?_
        refine lv_istore (lv' := [(5, .int (nI 1)), (4, .int (nI i)), (2, .long b), (0, .ref aR), (1, .int (nI f))]) hx hb dMo_madeOf_28 hl (by decide) rfl (fun ls hl => ?_)
        refine lv_iload hx hb dMo_madeOf_30 (lv_at hl 0 rfl) ?_
        refine wz_ifN_eq (x := 1) (tgt := 60) hx hb (by omega) dMo_madeOf_32 (by decide) (fun h32_5 => ?_) (fun h32_5 => ?_)
        · skip
          exact absurd h32_5 (by decide)
        · skip
          refine lv_aload_n hx hb dMo_madeOf_35 rfl (lv_at hl 3 rfl) ?_
          refine va_get (D := (dC, dI)) (ci := 7) (v := .ref ak2) (C := RMo) (T := TMo) (N := 19) hx hb hw in_Mo hown hK hP 0 rfl rfl 5 (by decide) (hw _ w_505) (fun _ h9 => h9) rfl dMo_madeOf_36 ?_
          refine lv_iload hx hb dMo_madeOf_39 (lv_at hl 1 rfl) ?_
          refine wz_aldN hx hb hK hP 1 0 rfl rfl (i := i) (by omega) (by decide) dMo_madeOf_41 ?_
          refine lv_iconst (v := nI 1) hx hb dMo_madeOf_42 (by decide) ?_
          refine wz_icmp_le (x := kn i) (y := 1) (tgt := 60) hx hb (by have q9 := (ww_wf_ix hwf hn (i := i) (by omega)).2.2; omega) (by omega) dMo_madeOf_43 (by decide) (fun h43_6 => ?_) (fun h43_6 => ?_)
          · skip
            refine lv_lload_n hx hb dMo_madeOf_60 rfl (lv_at hl 2 rfl) ?_
            refine lv_lstore_n (lv' := [(2, .long b), (5, .int (nI 1)), (4, .int (nI i)), (0, .ref aR), (1, .int (nI f))]) hx hb dMo_madeOf_61 rfl hl (by decide) rfl (fun ls hl => ?_)
            refine lv_iload hx hb dMo_madeOf_62 (lv_at hl 1 rfl) ?_
            refine wz_ifN_eq (x := 1) (tgt := 95) hx hb (by omega) dMo_madeOf_64 (by decide) (fun h64_7 => ?_) (fun h64_7 => ?_)
            · skip
              exact absurd h64_7 (by decide)
            · skip
              refine lv_aload_n hx hb dMo_madeOf_67 rfl (lv_at hl 3 rfl) ?_
              refine lv_aload_n hx hb dMo_madeOf_68 rfl (lv_at hl 3 rfl) ?_
              refine va_get (D := (dC, dI)) (ci := 7) (v := .ref ak2) (C := RMo) (T := TMo) (N := 19) hx hb hw in_Mo hown hK hP 0 rfl rfl 5 (by decide) (hw _ w_505) (fun _ h9 => h9) rfl dMo_madeOf_69 ?_
              refine lv_iload hx hb dMo_madeOf_72 (lv_at hl 2 rfl) ?_
              refine wz_aldN hx hb hK hP 1 0 rfl rfl (i := i) (by omega) (by decide) dMo_madeOf_74 ?_
              refine wz_calli (wc := [(aR, .inr (7, [.int (nI th), .int (nI mv), .ref ams, .ref ann, .int (nI n), .ref ak2, .ref af2, .ref as2, .ref ah2, .int (nI fc), .ref afa, .ref afx, .ref ald, .int (nI zz), .ref awy, .int lp, .ref alt, .ref abg, .int (wz_i tl)]))]) (wr := [(ak2, .inl (cI, 32, .inl (wz_n kn))), (af2, .inl (cI, 32, .inl f2)), (as2, .inl (cI, 32, .inl s2))]) (w1 := [(aR, .inr (7, [.int (nI th), .int (nI mv), .ref ams, .ref ann, .int (nI n), .ref ak2, .ref af2, .ref as2, .ref ah2, .int (nI fc), .ref afa, .ref afx, .ref ald, .int (nI zz), .ref awy, .int lp, .ref alt, .ref abg, .int (wz_i tl)]))]) (ws' := [(aR, .inr (7, [.int (nI th), .int (nI mv), .ref ams, .ref ann, .int (nI n), .ref ak2, .ref af2, .ref as2, .ref ah2, .int (nI fc), .ref afa, .ref afx, .ref ald, .int (nI zz), .ref awy, .int lp, .ref alt, .ref abg, .int (wz_i tl)])), (ak2, .inl (cI, 32, .inl (wz_n kn))), (af2, .inl (cI, 32, .inl f2)), (as2, .inl (cI, 32, .inl s2))]) hP hD hS hA [0] [1, 2, 3] [3, 0, 1, 2] rfl rfl (by decide) (by decide) (by decide) rfl rfl (va_runV (As := [.int (nI (kn i))]) (rest := []) ⟨hx, hb, hml, hown, hts⟩ (kMo_hasSecond l dC dI cI cJ cZ H.size aR ams ann ak2 af2 as2 ah2 afa afx ald awy alt abg th mv n fc zz lp tl (kn i) (ww_wf_ix hwf hn (i := i) (by omega)).2.2) (cwV 1 hts (wz_gV w_586 w_587 w_13 w_41 w_588) rfl rfl rfl (by decide +kernel) ⟨Nat.le_of_ble_eq_true rfl, Nat.le_of_ble_eq_true rfl⟩) (wz_preV (q := (RMo, TMo, 19)) (ci := 7) hN hK hP hD [0] (by decide) rfl rfl 0 rfl rfl) rfl rfl hl.1 rfl (lv_room (Nat.le_of_ble_eq_true rfl)) dMo_madeOf_75 ⟨Nat.le_refl _, Nat.le_refl _⟩) (fun H locs hP hD hS => ?_)
              refine wz_ifz (tgt := 95) hx hb dMo_madeOf_78 (by decide) (fun h78_8 => ?_) (fun h78_8 => ?_)
              · skip
                refine lv_lload_n hx hb dMo_madeOf_95 rfl (lv_at hl 0 rfl) ?_
                refine lv_lstore_n (lv' := [(2, .long b), (5, .int (nI 1)), (4, .int (nI i)), (0, .ref aR), (1, .int (nI f))]) hx hb dMo_madeOf_96 rfl hl (by decide) rfl (fun ls hl => ?_)
                refine lv_iinc (v := nI i + (-1)) (lv' := [(4, .int (nI i + (-1))), (2, .long b), (5, .int (nI 1)), (0, .ref aR), (1, .int (nI f))]) hx hb dMo_madeOf_97 hl (k := 2) rfl (by rw [show Int32.ofInt (-1) = (-1 : Int32) by decide]) (by decide) rfl (fun ls hl => ?_)
                refine lv_goto (tgt := 7) hx hb dMo_madeOf_100 (by decide) ?_
                exact ih7 _ (by omega) i b (by omega) (by have e9 : b = ww_md kn fn sn f (f - i) := (by rw [hbb, show f + 1 - (i + 1) = f - i by omega]); rw [show f + 1 - i = (f - i) + 1 by omega]; show _ = ww_mdk kn fn sn (ww_md kn fn sn f (f - i)) (f - (f - i)); rw [show f - (f - i) = i by omega, ← e9]; unfold ww_mdk; first | (rw [if_neg (by rw [ww_bit_n h19_2]; decide)]; done) | (rw [if_pos ((ww_bit_1 _).mp h19_2), if_pos h78_8, if_pos h43_6]; done) | (rw [if_pos ((ww_bit_1 _).mp h19_2), if_pos h78_8, if_neg (Nat.not_lt.mpr h43_6)]; done) | (rw [if_pos ((ww_bit_1 _).mp h19_2), if_neg (by rw [h78_8]; decide), if_pos h43_6]; done) | (rw [if_pos ((ww_bit_1 _).mp h19_2), if_neg (by rw [h78_8]; decide), if_neg (Nat.not_lt.mpr h43_6)]; done)) rfl _ _ hP hD hS _ (lv_sub hl [0, 1, 3, 4] rfl)
              · skip
                refine lv_lload_n hx hb dMo_madeOf_81 rfl (lv_at hl 0 rfl) ?_
                refine lv_lconst (v := 1) hx hb dMo_madeOf_82 (by decide) ?_
                refine lv_aload_n hx hb dMo_madeOf_83 rfl (lv_at hl 3 rfl) ?_
                refine va_get (D := (dC, dI)) (ci := 7) (v := .ref as2) (C := RMo) (T := TMo) (N := 19) hx hb hw in_Mo hown hK hP 0 rfl rfl 7 (by decide) (hw _ w_507) (fun _ h9 => h9) rfl dMo_madeOf_84 ?_
                refine lv_iload hx hb dMo_madeOf_87 (lv_at hl 2 rfl) ?_
                refine wz_iald hx hb hK hP 3 0 rfl rfl (i := i) (by omega) (by decide) dMo_madeOf_89 ?_
                refine W.eq (g2 := F0 m 90 ls [.int (nI (sn i)), .long 1, .long b]) (by rw [show (s2 i : Int32) = nI (sn i) from (by rw [hse i (by omega) h78_8])]) ?_
                refine wz_lshl1 hx hb (by have q9 := (ww_wf_ix hwf hn (i := i) (by omega)).2.1; omega) dMo_madeOf_90 ?_
                refine lv_lor hx hb dMo_madeOf_91 ?_
                refine lv_goto (tgt := 96) hx hb dMo_madeOf_92 (by decide) ?_
                refine lv_lstore_n (lv' := [(2, .long (b ||| (ww_b (sn i)))), (5, .int (nI 1)), (4, .int (nI i)), (0, .ref aR), (1, .int (nI f))]) hx hb dMo_madeOf_96 rfl hl (by decide) rfl (fun ls hl => ?_)
                refine lv_iinc (v := nI i + (-1)) (lv' := [(4, .int (nI i + (-1))), (2, .long (b ||| (ww_b (sn i)))), (5, .int (nI 1)), (0, .ref aR), (1, .int (nI f))]) hx hb dMo_madeOf_97 hl (k := 2) rfl (by rw [show Int32.ofInt (-1) = (-1 : Int32) by decide]) (by decide) rfl (fun ls hl => ?_)
                refine lv_goto (tgt := 7) hx hb dMo_madeOf_100 (by decide) ?_
                exact ih7 _ (by omega) i (b ||| (ww_b (sn i))) (by omega) (by have e9 : b = ww_md kn fn sn f (f - i) := (by rw [hbb, show f + 1 - (i + 1) = f - i by omega]); rw [show f + 1 - i = (f - i) + 1 by omega]; show _ = ww_mdk kn fn sn (ww_md kn fn sn f (f - i)) (f - (f - i)); rw [show f - (f - i) = i by omega, ← e9]; unfold ww_mdk; first | (rw [if_neg (by rw [ww_bit_n h19_2]; decide)]; done) | (rw [if_pos ((ww_bit_1 _).mp h19_2), if_pos h78_8, if_pos h43_6]; done) | (rw [if_pos ((ww_bit_1 _).mp h19_2), if_pos h78_8, if_neg (Nat.not_lt.mpr h43_6)]; done) | (rw [if_pos ((ww_bit_1 _).mp h19_2), if_neg (by rw [h78_8]; decide), if_pos h43_6]; done) | (rw [if_pos ((ww_bit_1 _).mp h19_2), if_neg (by rw [h78_8]; decide), if_neg (Nat.not_lt.mpr h43_6)]; done)) rfl _ _ hP hD hS _ (lv_sub hl [0, 1, 3, 4] rfl)
          · skip
            refine lv_lload_n hx hb dMo_madeOf_46 rfl (lv_at hl 2 rfl) ?_
            refine lv_lconst (v := 1) hx hb dMo_madeOf_47 (by decide) ?_
            refine lv_aload_n hx hb dMo_madeOf_48 rfl (lv_at hl 3 rfl) ?_
            refine va_get (D := (dC, dI)) (ci := 7) (v := .ref af2) (C := RMo) (T := TMo) (N := 19) hx hb hw in_Mo hown hK hP 0 rfl rfl 6 (by decide) (hw _ w_506) (fun _ h9 => h9) rfl dMo_madeOf_49 ?_
            refine lv_iload hx hb dMo_madeOf_52 (lv_at hl 1 rfl) ?_
            refine wz_iald hx hb hK hP 2 0 rfl rfl (i := i) (by omega) (by decide) dMo_madeOf_54 ?_
            refine W.eq (g2 := F0 m 55 ls [.int (nI (fn i)), .long 1, .long b]) (by rw [show (f2 i : Int32) = nI (fn i) from (by rw [hfi i (by omega) (by omega)])]) ?_
            refine wz_lshl1 hx hb (by have q9 := (ww_wf_ix hwf hn (i := i) (by omega)).1; omega) dMo_madeOf_55 ?_
            refine lv_lor hx hb dMo_madeOf_56 ?_
            refine lv_goto (tgt := 61) hx hb dMo_madeOf_57 (by decide) ?_
            refine lv_lstore_n (lv' := [(2, .long (b ||| (ww_b (fn i)))), (5, .int (nI 1)), (4, .int (nI i)), (0, .ref aR), (1, .int (nI f))]) hx hb dMo_madeOf_61 rfl hl (by decide) rfl (fun ls hl => ?_)
            refine lv_iload hx hb dMo_madeOf_62 (lv_at hl 1 rfl) ?_
            refine wz_ifN_eq (x := 1) (tgt := 95) hx hb (by omega) dMo_madeOf_64 (by decide) (fun h64_9 => ?_) (fun h64_9 => ?_)
            · skip
              exact absurd h64_9 (by decide)
            · skip
              refine lv_aload_n hx hb dMo_madeOf_67 rfl (lv_at hl 3 rfl) ?_
              refine lv_aload_n hx hb dMo_madeOf_68 rfl (lv_at hl 3 rfl) ?_
              refine va_get (D := (dC, dI)) (ci := 7) (v := .ref ak2) (C := RMo) (T := TMo) (N := 19) hx hb hw in_Mo hown hK hP 0 rfl rfl 5 (by decide) (hw _ w_505) (fun _ h9 => h9) rfl dMo_madeOf_69 ?_
              refine lv_iload hx hb dMo_madeOf_72 (lv_at hl 2 rfl) ?_
              refine wz_aldN hx hb hK hP 1 0 rfl rfl (i := i) (by omega) (by decide) dMo_madeOf_74 ?_
              refine wz_calli (wc := [(aR, .inr (7, [.int (nI th), .int (nI mv), .ref ams, .ref ann, .int (nI n), .ref ak2, .ref af2, .ref as2, .ref ah2, .int (nI fc), .ref afa, .ref afx, .ref ald, .int (nI zz), .ref awy, .int lp, .ref alt, .ref abg, .int (wz_i tl)]))]) (wr := [(ak2, .inl (cI, 32, .inl (wz_n kn))), (af2, .inl (cI, 32, .inl f2)), (as2, .inl (cI, 32, .inl s2))]) (w1 := [(aR, .inr (7, [.int (nI th), .int (nI mv), .ref ams, .ref ann, .int (nI n), .ref ak2, .ref af2, .ref as2, .ref ah2, .int (nI fc), .ref afa, .ref afx, .ref ald, .int (nI zz), .ref awy, .int lp, .ref alt, .ref abg, .int (wz_i tl)]))]) (ws' := [(aR, .inr (7, [.int (nI th), .int (nI mv), .ref ams, .ref ann, .int (nI n), .ref ak2, .ref af2, .ref as2, .ref ah2, .int (nI fc), .ref afa, .ref afx, .ref ald, .int (nI zz), .ref awy, .int lp, .ref alt, .ref abg, .int (wz_i tl)])), (ak2, .inl (cI, 32, .inl (wz_n kn))), (af2, .inl (cI, 32, .inl f2)), (as2, .inl (cI, 32, .inl s2))]) hP hD hS hA [0] [1, 2, 3] [3, 0, 1, 2] rfl rfl (by decide) (by decide) (by decide) rfl rfl (va_runV (As := [.int (nI (kn i))]) (rest := []) ⟨hx, hb, hml, hown, hts⟩ (kMo_hasSecond l dC dI cI cJ cZ H.size aR ams ann ak2 af2 as2 ah2 afa afx ald awy alt abg th mv n fc zz lp tl (kn i) (ww_wf_ix hwf hn (i := i) (by omega)).2.2) (cwV 1 hts (wz_gV w_586 w_587 w_13 w_41 w_588) rfl rfl rfl (by decide +kernel) ⟨Nat.le_of_ble_eq_true rfl, Nat.le_of_ble_eq_true rfl⟩) (wz_preV (q := (RMo, TMo, 19)) (ci := 7) hN hK hP hD [0] (by decide) rfl rfl 0 rfl rfl) rfl rfl hl.1 rfl (lv_room (Nat.le_of_ble_eq_true rfl)) dMo_madeOf_75 ⟨Nat.le_refl _, Nat.le_refl _⟩) (fun H locs hP hD hS => ?_)
              refine wz_ifz (tgt := 95) hx hb dMo_madeOf_78 (by decide) (fun h78_10 => ?_) (fun h78_10 => ?_)
              · skip
                refine lv_lload_n hx hb dMo_madeOf_95 rfl (lv_at hl 0 rfl) ?_
                refine lv_lstore_n (lv' := [(2, .long (b ||| (ww_b (fn i)))), (5, .int (nI 1)), (4, .int (nI i)), (0, .ref aR), (1, .int (nI f))]) hx hb dMo_madeOf_96 rfl hl (by decide) rfl (fun ls hl => ?_)
                refine lv_iinc (v := nI i + (-1)) (lv' := [(4, .int (nI i + (-1))), (2, .long (b ||| (ww_b (fn i)))), (5, .int (nI 1)), (0, .ref aR), (1, .int (nI f))]) hx hb dMo_madeOf_97 hl (k := 2) rfl (by rw [show Int32.ofInt (-1) = (-1 : Int32) by decide]) (by decide) rfl (fun ls hl => ?_)
                refine lv_goto (tgt := 7) hx hb dMo_madeOf_100 (by decide) ?_
                exact ih7 _ (by omega) i (b ||| (ww_b (fn i))) (by omega) (by have e9 : b = ww_md kn fn sn f (f - i) := (by rw [hbb, show f + 1 - (i + 1) = f - i by omega]); rw [show f + 1 - i = (f - i) + 1 by omega]; show _ = ww_mdk kn fn sn (ww_md kn fn sn f (f - i)) (f - (f - i)); rw [show f - (f - i) = i by omega, ← e9]; unfold ww_mdk; first | (rw [if_neg (by rw [ww_bit_n h19_2]; decide)]; done) | (rw [if_pos ((ww_bit_1 _).mp h19_2), if_pos h78_10, if_pos h43_6]; done) | (rw [if_pos ((ww_bit_1 _).mp h19_2), if_pos h78_10, if_neg (Nat.not_lt.mpr h43_6)]; done) | (rw [if_pos ((ww_bit_1 _).mp h19_2), if_neg (by rw [h78_10]; decide), if_pos h43_6]; done) | (rw [if_pos ((ww_bit_1 _).mp h19_2), if_neg (by rw [h78_10]; decide), if_neg (Nat.not_lt.mpr h43_6)]; done)) rfl _ _ hP hD hS _ (lv_sub hl [0, 1, 3, 4] rfl)
              · skip
                refine lv_lload_n hx hb dMo_madeOf_81 rfl (lv_at hl 0 rfl) ?_
                refine lv_lconst (v := 1) hx hb dMo_madeOf_82 (by decide) ?_
                refine lv_aload_n hx hb dMo_madeOf_83 rfl (lv_at hl 3 rfl) ?_
                refine va_get (D := (dC, dI)) (ci := 7) (v := .ref as2) (C := RMo) (T := TMo) (N := 19) hx hb hw in_Mo hown hK hP 0 rfl rfl 7 (by decide) (hw _ w_507) (fun _ h9 => h9) rfl dMo_madeOf_84 ?_
                refine lv_iload hx hb dMo_madeOf_87 (lv_at hl 2 rfl) ?_
                refine wz_iald hx hb hK hP 3 0 rfl rfl (i := i) (by omega) (by decide) dMo_madeOf_89 ?_
                refine W.eq (g2 := F0 m 90 ls [.int (nI (sn i)), .long 1, .long (b ||| (ww_b (fn i)))]) (by rw [show (s2 i : Int32) = nI (sn i) from (by rw [hse i (by omega) h78_10])]) ?_
                refine wz_lshl1 hx hb (by have q9 := (ww_wf_ix hwf hn (i := i) (by omega)).2.1; omega) dMo_madeOf_90 ?_
                refine lv_lor hx hb dMo_madeOf_91 ?_
                refine lv_goto (tgt := 96) hx hb dMo_madeOf_92 (by decide) ?_
                refine lv_lstore_n (lv' := [(2, .long ((b ||| (ww_b (fn i))) ||| (ww_b (sn i)))), (5, .int (nI 1)), (4, .int (nI i)), (0, .ref aR), (1, .int (nI f))]) hx hb dMo_madeOf_96 rfl hl (by decide) rfl (fun ls hl => ?_)
                refine lv_iinc (v := nI i + (-1)) (lv' := [(4, .int (nI i + (-1))), (2, .long ((b ||| (ww_b (fn i))) ||| (ww_b (sn i)))), (5, .int (nI 1)), (0, .ref aR), (1, .int (nI f))]) hx hb dMo_madeOf_97 hl (k := 2) rfl (by rw [show Int32.ofInt (-1) = (-1 : Int32) by decide]) (by decide) rfl (fun ls hl => ?_)
                refine lv_goto (tgt := 7) hx hb dMo_madeOf_100 (by decide) ?_
                exact ih7 _ (by omega) i ((b ||| (ww_b (fn i))) ||| (ww_b (sn i))) (by omega) (by have e9 : b = ww_md kn fn sn f (f - i) := (by rw [hbb, show f + 1 - (i + 1) = f - i by omega]); rw [show f + 1 - i = (f - i) + 1 by omega]; show _ = ww_mdk kn fn sn (ww_md kn fn sn f (f - i)) (f - (f - i)); rw [show f - (f - i) = i by omega, ← e9]; unfold ww_mdk; first | (rw [if_neg (by rw [ww_bit_n h19_2]; decide)]; done) | (rw [if_pos ((ww_bit_1 _).mp h19_2), if_pos h78_10, if_pos h43_6]; done) | (rw [if_pos ((ww_bit_1 _).mp h19_2), if_pos h78_10, if_neg (Nat.not_lt.mpr h43_6)]; done) | (rw [if_pos ((ww_bit_1 _).mp h19_2), if_neg (by rw [h78_10]; decide), if_pos h43_6]; done) | (rw [if_pos ((ww_bit_1 _).mp h19_2), if_neg (by rw [h78_10]; decide), if_neg (Nat.not_lt.mpr h43_6)]; done)) rfl _ _ hP hD hS _ (lv_sub hl [0, 1, 3, 4] rfl)
  refine lv_lconst (v := 1) hx hb dMo_madeOf_0 (by decide) ?_
  refine lv_iload_n hx hb dMo_madeOf_1 rfl (lv_at hl 1 rfl) ?_
  refine wz_lshl1 hx hb (by omega) dMo_madeOf_2 ?_
  refine lv_lstore_n (lv' := [(2, .long (ww_b f)), (0, .ref aR), (1, .int (nI f))]) hx hb dMo_madeOf_3 rfl hl (by decide) rfl (fun ls hl => ?_)
  refine lv_iload_n hx hb dMo_madeOf_4 rfl (lv_at hl 2 rfl) ?_
  refine lv_istore (lv' := [(4, .int (nI f)), (2, .long (ww_b f)), (0, .ref aR), (1, .int (nI f))]) hx hb dMo_madeOf_5 hl (by decide) rfl (fun ls hl => ?_)
  have hl : lv_has ls 6 [(4, .int (nI (f + 1) + (-1))), (2, .long (ww_b f)), (0, .ref aR), (1, .int (nI f))] := by rw [pk_m1]; exact hl
  exact cut7 _ (f + 1) (ww_b f) (by omega) (by rw [Nat.sub_self]; rfl) rfl _ _ hP hD hS _ hl
set_option maxHeartbeats 4000000 in
set_option maxRecDepth 100000 in
theorem kMo_fair_1 (l : Launch) (dC : Nat → ClassId) (dI : Nat → Nat → Nat) (cI cJ cZ : ClassId) (sz : Nat) (aR : Nat) (ams : Nat) (ann : Nat) (ak2 : Nat) (af2 : Nat) (as2 : Nat) (ah2 : Nat) (afa : Nat) (afx : Nat) (ald : Nat) (awy : Nat) (alt : Nat) (abg : Nat) (th : Nat) (mv : Nat) (n : Nat) (fc : Nat) (zz : Nat) (lp : Int32) (tl : Bool) (kn : Nat → Nat) (f2 : Nat → Int32) (s2 : Nat → Int32) (fa : Nat → Nat) (x : Int32) (hbad : ww_hs n x = false) : Met l yMo_fair (.code yMo_fair cMo_fair 4 (some .int) :: wz_all) ({ frames := 1, cells := 0, slots := 0, locals := 21 }) (wz_Pc (dC, dI) vwCl (wz_T cI cJ cZ) [.ref aR, .int x] sz [(aR, .inr (7, [.int (nI th), .int (nI mv), .ref ams, .ref ann, .int (nI n), .ref ak2, .ref af2, .ref as2, .ref ah2, .int (nI fc), .ref afa, .ref afx, .ref ald, .int (nI zz), .ref awy, .int lp, .ref alt, .ref abg, .int (wz_i tl)])), (ak2, .inl (cI, 32, .inl (wz_n kn))), (af2, .inl (cI, 32, .inl f2)), (as2, .inl (cI, 32, .inl s2)), (afa, .inl (cI, 3, .inl (wz_n fa)))]) (va_Qi (fun (r : Int32) (_ : Unit) => r = nI 0) (fun _ t => va_P (dC, dI) vwCl [(aR, .inr (7, [.int (nI 1), .int (nI mv), .ref ams, .ref ann, .int (nI n), .ref ak2, .ref af2, .ref as2, .ref ah2, .int (nI fc), .ref afa, .ref afx, .ref ald, .int (nI zz), .ref awy, .int lp, .ref alt, .ref abg, .int (wz_i tl)])), (ak2, .inl (cI, 32, .inl (wz_n kn))), (af2, .inl (cI, 32, .inl f2)), (as2, .inl (cI, 32, .inl s2)), (afa, .inl (cI, 3, .inl (wz_n fa)))] t.heap ∧ va_K (dC, dI) vwCl (wz_T cI cJ cZ) t ∧ va_D (va_A [(aR, .inr (7, [.int (nI th), .int (nI mv), .ref ams, .ref ann, .int (nI n), .ref ak2, .ref af2, .ref as2, .ref ah2, .int (nI fc), .ref afa, .ref afx, .ref ald, .int (nI zz), .ref awy, .int lp, .ref alt, .ref abg, .int (wz_i tl)])), (ak2, .inl (cI, 32, .inl (wz_n kn))), (af2, .inl (cI, 32, .inl f2)), (as2, .inl (cI, 32, .inl s2)), (afa, .inl (cI, 3, .inl (wz_n fa)))] sz) [(aR, .inr (7, [.int (nI 1), .int (nI mv), .ref ams, .ref ann, .int (nI n), .ref ak2, .ref af2, .ref as2, .ref ah2, .int (nI fc), .ref afa, .ref afx, .ref ald, .int (nI zz), .ref awy, .int lp, .ref alt, .ref abg, .int (wz_i tl)])), (ak2, .inl (cI, 32, .inl (wz_n kn))), (af2, .inl (cI, 32, .inl f2)), (as2, .inl (cI, 32, .inl s2)), (afa, .inl (cI, 3, .inl (wz_n fa)))]) (va_A [(aR, .inr (7, [.int (nI th), .int (nI mv), .ref ams, .ref ann, .int (nI n), .ref ak2, .ref af2, .ref as2, .ref ah2, .int (nI fc), .ref afa, .ref afx, .ref ald, .int (nI zz), .ref awy, .int lp, .ref alt, .ref abg, .int (wz_i tl)])), (ak2, .inl (cI, 32, .inl (wz_n kn))), (af2, .inl (cI, 32, .inl f2)), (as2, .inl (cI, 32, .inl s2)), (afa, .inl (cI, 3, .inl (wz_n fa)))] sz)) 0 0 (va_A [(aR, .inr (7, [.int (nI th), .int (nI mv), .ref ams, .ref ann, .int (nI n), .ref ak2, .ref af2, .ref as2, .ref ah2, .int (nI fc), .ref afa, .ref afx, .ref ald, .int (nI zz), .ref awy, .int lp, .ref alt, .ref abg, .int (wz_i tl)])), (ak2, .inl (cI, 32, .inl (wz_n kn))), (af2, .inl (cI, 32, .inl f2)), (as2, .inl (cI, 32, .inl s2)), (afa, .inl (cI, 3, .inl (wz_n fa)))] sz) := by
  refine Met.ofW (cc := cMo_fair) (maxL := 4) (ret := (some .int)) (by decide) rfl ?_
  intro p e s m args below meth c s₁ B hml hv
  obtain ⟨rfl, hsz, hP, hK, hD0, hN⟩ := hv
  have hx := B.exec
  have hb := B.bytes
  have hr := B.returns
  have hts := atoms_spec (ws := (.code yMo_fair cMo_fair 4 (some .int) :: wz_all)) B.pre
  have hw : ∀ w9 ∈ wz_all, w9.before [.ref aR, .int x].toArray s = true := fun w9 h => hts w9 (List.mem_cons_of_mem _ h)
  have hown : s.vm.findClass RMo = some m.cls := findClass_of_methodNamed B.named
  have hlocks := B.notSynchronized
  subst hsz
  have hD := hD0.self (sz := s.heap.size)
  generalize hAe : va_A [(aR, .inr (7, [.int (nI th), .int (nI mv), .ref ams, .ref ann, .int (nI n), .ref ak2, .ref af2, .ref as2, .ref ah2, .int (nI fc), .ref afa, .ref afx, .ref ald, .int (nI zz), .ref awy, .int lp, .ref alt, .ref abg, .int (wz_i tl)])), (ak2, .inl (cI, 32, .inl (wz_n kn))), (af2, .inl (cI, 32, .inl f2)), (as2, .inl (cI, 32, .inl s2)), (afa, .inl (cI, 3, .inl (wz_n fa)))] s.heap.size = A at hD ⊢
  have hA : ∀ q : Nat, s.heap.size ≤ q → A q := fun q h => by rw [← hAe]; exact Or.inr h
  have hS : va_S A s.heap s.heap [] := va_S.rf
  have hP : va_P (dC, dI) vwCl [(aR, .inr (7, [.int (nI th), .int (nI mv), .ref ams, .ref ann, .int (nI n), .ref ak2, .ref af2, .ref as2, .ref ah2, .int (nI fc), .ref afa, .ref afx, .ref ald, .int (nI zz), .ref awy, .int lp, .ref alt, .ref abg, .int (wz_i tl)])), (ak2, .inl (cI, 32, .inl (wz_n kn))), (af2, .inl (cI, 32, .inl f2)), (as2, .inl (cI, 32, .inl s2)), (afa, .inl (cI, 3, .inl (wz_n fa)))] s.heap := hP
  have hl := lv_entry ([.ref aR, .int x]) (n := 4) (Nat.le_of_ble_eq_true rfl)
  rw [lg_entry_eq]
  generalize (lg_sl ([.ref aR, .int x]) ++ List.replicate (4 - (lg_sl ([.ref aR, .int x])).length) Slot.unset).toArray = ls at hl ⊢
  have hl : lv_has ls 4 [(0, .ref aR), (1, .int x)] := hl
  refine lv_aload_n hx hb dMo_fair_0 rfl (lv_at hl 0 rfl) ?_
  refine lv_iload_n hx hb dMo_fair_1 rfl (lv_at hl 1 rfl) ?_
  refine wz_calli (wc := [(aR, .inr (7, [.int (nI th), .int (nI mv), .ref ams, .ref ann, .int (nI n), .ref ak2, .ref af2, .ref as2, .ref ah2, .int (nI fc), .ref afa, .ref afx, .ref ald, .int (nI zz), .ref awy, .int lp, .ref alt, .ref abg, .int (wz_i tl)]))]) (wr := [(ak2, .inl (cI, 32, .inl (wz_n kn))), (af2, .inl (cI, 32, .inl f2)), (as2, .inl (cI, 32, .inl s2)), (afa, .inl (cI, 3, .inl (wz_n fa)))]) (w1 := [(aR, .inr (7, [.int (nI th), .int (nI mv), .ref ams, .ref ann, .int (nI n), .ref ak2, .ref af2, .ref as2, .ref ah2, .int (nI fc), .ref afa, .ref afx, .ref ald, .int (nI zz), .ref awy, .int lp, .ref alt, .ref abg, .int (wz_i tl)]))]) (ws' := [(aR, .inr (7, [.int (nI th), .int (nI mv), .ref ams, .ref ann, .int (nI n), .ref ak2, .ref af2, .ref as2, .ref ah2, .int (nI fc), .ref afa, .ref afx, .ref ald, .int (nI zz), .ref awy, .int lp, .ref alt, .ref abg, .int (wz_i tl)])), (ak2, .inl (cI, 32, .inl (wz_n kn))), (af2, .inl (cI, 32, .inl f2)), (as2, .inl (cI, 32, .inl s2)), (afa, .inl (cI, 3, .inl (wz_n fa)))]) hP hD hS hA [0] [1, 2, 3, 4] [4, 0, 1, 2, 3] rfl rfl (by decide) (by decide) (by decide) rfl rfl (va_runV (As := [.int x]) (rest := []) ⟨hx, hb, hml, hown, hts⟩ (kMo_noFormula l dC dI cI cJ cZ s.heap.size aR ams ann ak2 af2 as2 ah2 afa afx ald awy alt abg th mv n fc zz lp tl x) (cwV 1 hts (wz_gV w_583 w_584 w_12 w_41 w_585) rfl rfl rfl (by decide +kernel) ⟨Nat.le_of_ble_eq_true rfl, Nat.le_of_ble_eq_true rfl⟩) (wz_preV (q := (RMo, TMo, 19)) (ci := 7) hN hK hP hD [0] (by decide) rfl rfl 0 rfl rfl) rfl rfl hl.1 rfl (lv_room (Nat.le_of_ble_eq_true rfl)) dMo_fair_2 ⟨Nat.le_refl _, Nat.le_refl _⟩) (fun H locs hP hD hS => ?_)
  refine lv_istore_n (lv' := [(2, .int (wz_i (!ww_hs n x))), (0, .ref aR), (1, .int x)]) hx hb dMo_fair_5 rfl hl (by decide) rfl (fun ls hl => ?_)
  refine lv_iconst (v := nI 0) hx hb dMo_fair_6 (by decide) ?_
  refine lv_istore_n (lv' := [(3, .int (nI 0)), (2, .int (wz_i (!ww_hs n x))), (0, .ref aR), (1, .int x)]) hx hb dMo_fair_7 rfl hl (by decide) rfl (fun ls hl => ?_)
  refine lv_iload_n hx hb dMo_fair_8 rfl (lv_at hl 0 rfl) ?_
  refine lv_iload_n hx hb dMo_fair_9 rfl (lv_at hl 3 rfl) ?_
  refine lv_icmp_gt (tgt := 53) hx hb dMo_fair_10 (by decide) (fun h10_1 => ?_) (fun h10_1 => ?_)
  · skip
    refine lv_aload_n hx hb dMo_fair_53 rfl (lv_at hl 2 rfl) ?_
    refine lv_iload_n hx hb dMo_fair_54 rfl (lv_at hl 1 rfl) ?_
    refine wz_ifz (tgt := 62) hx hb dMo_fair_55 (by decide) (fun h55_2 => ?_) (fun h55_2 => ?_)
    · skip
      rw [hbad] at h55_2; cases h55_2
    · skip
      refine lv_iconst (v := nI 1) hx hb dMo_fair_58 (by decide) ?_
      refine lv_goto (tgt := 75) hx hb dMo_fair_59 (by decide) ?_
      refine va_put (D := (dC, dI)) (ci := 7) (v := .int (nI 1)) (ty := .int) (C := RMo) (T := TMo) (N := 19) hx hb hw in_Mo tyMo tyMo_ok nmMo hown hK hP hD hS 0 rfl rfl 0 (by decide) (hw _ w_500) (fun _ h9 => h9) rfl (by decide +kernel) rfl rfl (Nat.le_of_ble_eq_true rfl) dMo_fair_75 (fun H locs hP hD hS => ?_)
      have hP : va_P (dC, dI) vwCl [(aR, .inr (7, [.int (nI 1), .int (nI mv), .ref ams, .ref ann, .int (nI n), .ref ak2, .ref af2, .ref as2, .ref ah2, .int (nI fc), .ref afa, .ref afx, .ref ald, .int (nI zz), .ref awy, .int lp, .ref alt, .ref abg, .int (wz_i tl)])), (ak2, .inl (cI, 32, .inl (wz_n kn))), (af2, .inl (cI, 32, .inl f2)), (as2, .inl (cI, 32, .inl s2)), (afa, .inl (cI, 3, .inl (wz_n fa)))] H := hP
      have hD : va_D A [(aR, .inr (7, [.int (nI 1), .int (nI mv), .ref ams, .ref ann, .int (nI n), .ref ak2, .ref af2, .ref as2, .ref ah2, .int (nI fc), .ref afa, .ref afx, .ref ald, .int (nI zz), .ref awy, .int lp, .ref alt, .ref abg, .int (wz_i tl)])), (ak2, .inl (cI, 32, .inl (wz_n kn))), (af2, .inl (cI, 32, .inl f2)), (as2, .inl (cI, 32, .inl s2)), (afa, .inl (cI, 3, .inl (wz_n fa)))] := hD
      refine lv_aload_n hx hb dMo_fair_78 rfl (lv_at hl 2 rfl) ?_
      refine va_get (D := (dC, dI)) (ci := 7) (v := .int (nI 1)) (C := RMo) (T := TMo) (N := 19) hx hb hw in_Mo hown hK hP 0 rfl rfl 0 (by decide) (hw _ w_500) (fun _ h9 => h9) rfl dMo_fair_79 ?_
      refine wz_ifN_eq (x := 1) (tgt := 87) hx hb (by omega) dMo_fair_82 (by decide) (fun h82_3 => ?_) (fun h82_3 => ?_)
      · skip
        exact absurd h82_3 (by decide)
      · skip
        refine lv_iconst (v := nI 0) hx hb dMo_fair_85 (by decide) ?_
        exact wz_iret hx hb hr hlocks rfl hP hD hK hS dMo_fair_86
  · skip
    refine lv_iload_n hx hb dMo_fair_13 rfl (lv_at hl 1 rfl) ?_
    refine wz_ifnz (tgt := 53) hx hb dMo_fair_14 (by decide) (fun h14_4 => ?_) (fun h14_4 => ?_)
    · skip
      refine lv_aload_n hx hb dMo_fair_53 rfl (lv_at hl 2 rfl) ?_
      refine lv_iload_n hx hb dMo_fair_54 rfl (lv_at hl 1 rfl) ?_
      refine wz_ifz (tgt := 62) hx hb dMo_fair_55 (by decide) (fun h55_5 => ?_) (fun h55_5 => ?_)
      · skip
        rw [hbad] at h55_5; cases h55_5
      · skip
        refine lv_iconst (v := nI 1) hx hb dMo_fair_58 (by decide) ?_
        refine lv_goto (tgt := 75) hx hb dMo_fair_59 (by decide) ?_
        refine va_put (D := (dC, dI)) (ci := 7) (v := .int (nI 1)) (ty := .int) (C := RMo) (T := TMo) (N := 19) hx hb hw in_Mo tyMo tyMo_ok nmMo hown hK hP hD hS 0 rfl rfl 0 (by decide) (hw _ w_500) (fun _ h9 => h9) rfl (by decide +kernel) rfl rfl (Nat.le_of_ble_eq_true rfl) dMo_fair_75 (fun H locs hP hD hS => ?_)
        have hP : va_P (dC, dI) vwCl [(aR, .inr (7, [.int (nI 1), .int (nI mv), .ref ams, .ref ann, .int (nI n), .ref ak2, .ref af2, .ref as2, .ref ah2, .int (nI fc), .ref afa, .ref afx, .ref ald, .int (nI zz), .ref awy, .int lp, .ref alt, .ref abg, .int (wz_i tl)])), (ak2, .inl (cI, 32, .inl (wz_n kn))), (af2, .inl (cI, 32, .inl f2)), (as2, .inl (cI, 32, .inl s2)), (afa, .inl (cI, 3, .inl (wz_n fa)))] H := hP
        have hD : va_D A [(aR, .inr (7, [.int (nI 1), .int (nI mv), .ref ams, .ref ann, .int (nI n), .ref ak2, .ref af2, .ref as2, .ref ah2, .int (nI fc), .ref afa, .ref afx, .ref ald, .int (nI zz), .ref awy, .int lp, .ref alt, .ref abg, .int (wz_i tl)])), (ak2, .inl (cI, 32, .inl (wz_n kn))), (af2, .inl (cI, 32, .inl f2)), (as2, .inl (cI, 32, .inl s2)), (afa, .inl (cI, 3, .inl (wz_n fa)))] := hD
        refine lv_aload_n hx hb dMo_fair_78 rfl (lv_at hl 2 rfl) ?_
        refine va_get (D := (dC, dI)) (ci := 7) (v := .int (nI 1)) (C := RMo) (T := TMo) (N := 19) hx hb hw in_Mo hown hK hP 0 rfl rfl 0 (by decide) (hw _ w_500) (fun _ h9 => h9) rfl dMo_fair_79 ?_
        refine wz_ifN_eq (x := 1) (tgt := 87) hx hb (by omega) dMo_fair_82 (by decide) (fun h82_6 => ?_) (fun h82_6 => ?_)
        · skip
          exact absurd h82_6 (by decide)
        · skip
          refine lv_iconst (v := nI 0) hx hb dMo_fair_85 (by decide) ?_
          exact wz_iret hx hb hr hlocks rfl hP hD hK hS dMo_fair_86
    · skip
      rw [hbad] at h14_4; cases h14_4
set_option maxHeartbeats 4000000 in
set_option maxRecDepth 100000 in
theorem kMo_fair_1b (l : Launch) (dC : Nat → ClassId) (dI : Nat → Nat → Nat) (cI cJ cZ : ClassId) (sz : Nat) (aR : Nat) (ams : Nat) (ann : Nat) (ak2 : Nat) (af2 : Nat) (as2 : Nat) (ah2 : Nat) (afa : Nat) (afx : Nat) (ald : Nat) (awy : Nat) (alt : Nat) (abg : Nat) (th : Nat) (mv : Nat) (n : Nat) (fc : Nat) (zz : Nat) (lp : Int32) (tl : Bool) (kn : Nat → Nat) (f2 : Nat → Int32) (s2 : Nat → Int32) (fa : Nat → Nat) (fn : Nat → Nat) (sn : Nat → Nat) (pb : Nat → Bool) (f : Nat) (hf : f < n) (hwf : ww_wf n kn fn sn) (hn : n ≤ 32) (hfi : ∀ i, i < n → ¬ kn i = 1 → f2 i = nI (fn i)) (hse : ∀ i, i < n → ww_h2 (kn i) = true → s2 i = nI (sn i)) (hpb : ww_pb n kn fn sn pb) (hpf : pb f = false) : Met l yMo_fair (.code yMo_fair cMo_fair 4 (some .int) :: wz_all) ({ frames := 2, cells := 0, slots := 0, locals := 46 }) (wz_Pc (dC, dI) vwCl (wz_T cI cJ cZ) [.ref aR, .int (nI f)] sz [(aR, .inr (7, [.int (nI th), .int (nI mv), .ref ams, .ref ann, .int (nI n), .ref ak2, .ref af2, .ref as2, .ref ah2, .int (nI fc), .ref afa, .ref afx, .ref ald, .int (nI zz), .ref awy, .int lp, .ref alt, .ref abg, .int (wz_i tl)])), (ak2, .inl (cI, 32, .inl (wz_n kn))), (af2, .inl (cI, 32, .inl f2)), (as2, .inl (cI, 32, .inl s2)), (afa, .inl (cI, 3, .inl (wz_n fa)))]) (va_Qi (fun (r : Int32) (_ : Unit) => r = nI 0) (fun _ t => va_P (dC, dI) vwCl [(aR, .inr (7, [.int (nI 1), .int (nI mv), .ref ams, .ref ann, .int (nI n), .ref ak2, .ref af2, .ref as2, .ref ah2, .int (nI fc), .ref afa, .ref afx, .ref ald, .int (nI zz), .ref awy, .int lp, .ref alt, .ref abg, .int (wz_i tl)])), (ak2, .inl (cI, 32, .inl (wz_n kn))), (af2, .inl (cI, 32, .inl f2)), (as2, .inl (cI, 32, .inl s2)), (afa, .inl (cI, 3, .inl (wz_n fa)))] t.heap ∧ va_K (dC, dI) vwCl (wz_T cI cJ cZ) t ∧ va_D (va_A [(aR, .inr (7, [.int (nI th), .int (nI mv), .ref ams, .ref ann, .int (nI n), .ref ak2, .ref af2, .ref as2, .ref ah2, .int (nI fc), .ref afa, .ref afx, .ref ald, .int (nI zz), .ref awy, .int lp, .ref alt, .ref abg, .int (wz_i tl)])), (ak2, .inl (cI, 32, .inl (wz_n kn))), (af2, .inl (cI, 32, .inl f2)), (as2, .inl (cI, 32, .inl s2)), (afa, .inl (cI, 3, .inl (wz_n fa)))] sz) [(aR, .inr (7, [.int (nI 1), .int (nI mv), .ref ams, .ref ann, .int (nI n), .ref ak2, .ref af2, .ref as2, .ref ah2, .int (nI fc), .ref afa, .ref afx, .ref ald, .int (nI zz), .ref awy, .int lp, .ref alt, .ref abg, .int (wz_i tl)])), (ak2, .inl (cI, 32, .inl (wz_n kn))), (af2, .inl (cI, 32, .inl f2)), (as2, .inl (cI, 32, .inl s2)), (afa, .inl (cI, 3, .inl (wz_n fa)))]) (va_A [(aR, .inr (7, [.int (nI th), .int (nI mv), .ref ams, .ref ann, .int (nI n), .ref ak2, .ref af2, .ref as2, .ref ah2, .int (nI fc), .ref afa, .ref afx, .ref ald, .int (nI zz), .ref awy, .int lp, .ref alt, .ref abg, .int (wz_i tl)])), (ak2, .inl (cI, 32, .inl (wz_n kn))), (af2, .inl (cI, 32, .inl f2)), (as2, .inl (cI, 32, .inl s2)), (afa, .inl (cI, 3, .inl (wz_n fa)))] sz)) 0 0 (va_A [(aR, .inr (7, [.int (nI th), .int (nI mv), .ref ams, .ref ann, .int (nI n), .ref ak2, .ref af2, .ref as2, .ref ah2, .int (nI fc), .ref afa, .ref afx, .ref ald, .int (nI zz), .ref awy, .int lp, .ref alt, .ref abg, .int (wz_i tl)])), (ak2, .inl (cI, 32, .inl (wz_n kn))), (af2, .inl (cI, 32, .inl f2)), (as2, .inl (cI, 32, .inl s2)), (afa, .inl (cI, 3, .inl (wz_n fa)))] sz) := by
  refine Met.ofW (cc := cMo_fair) (maxL := 4) (ret := (some .int)) (by decide) rfl ?_
  intro p e s m args below meth c s₁ B hml hv
  obtain ⟨rfl, hsz, hP, hK, hD0, hN⟩ := hv
  have hx := B.exec
  have hb := B.bytes
  have hr := B.returns
  have hts := atoms_spec (ws := (.code yMo_fair cMo_fair 4 (some .int) :: wz_all)) B.pre
  have hw : ∀ w9 ∈ wz_all, w9.before [.ref aR, .int (nI f)].toArray s = true := fun w9 h => hts w9 (List.mem_cons_of_mem _ h)
  have hown : s.vm.findClass RMo = some m.cls := findClass_of_methodNamed B.named
  have hlocks := B.notSynchronized
  subst hsz
  have hD := hD0.self (sz := s.heap.size)
  generalize hAe : va_A [(aR, .inr (7, [.int (nI th), .int (nI mv), .ref ams, .ref ann, .int (nI n), .ref ak2, .ref af2, .ref as2, .ref ah2, .int (nI fc), .ref afa, .ref afx, .ref ald, .int (nI zz), .ref awy, .int lp, .ref alt, .ref abg, .int (wz_i tl)])), (ak2, .inl (cI, 32, .inl (wz_n kn))), (af2, .inl (cI, 32, .inl f2)), (as2, .inl (cI, 32, .inl s2)), (afa, .inl (cI, 3, .inl (wz_n fa)))] s.heap.size = A at hD ⊢
  have hA : ∀ q : Nat, s.heap.size ≤ q → A q := fun q h => by rw [← hAe]; exact Or.inr h
  have hS : va_S A s.heap s.heap [] := va_S.rf
  have hP : va_P (dC, dI) vwCl [(aR, .inr (7, [.int (nI th), .int (nI mv), .ref ams, .ref ann, .int (nI n), .ref ak2, .ref af2, .ref as2, .ref ah2, .int (nI fc), .ref afa, .ref afx, .ref ald, .int (nI zz), .ref awy, .int lp, .ref alt, .ref abg, .int (wz_i tl)])), (ak2, .inl (cI, 32, .inl (wz_n kn))), (af2, .inl (cI, 32, .inl f2)), (as2, .inl (cI, 32, .inl s2)), (afa, .inl (cI, 3, .inl (wz_n fa)))] s.heap := hP
  have hl := lv_entry ([.ref aR, .int (nI f)]) (n := 4) (Nat.le_of_ble_eq_true rfl)
  rw [lg_entry_eq]
  generalize (lg_sl ([.ref aR, .int (nI f)]) ++ List.replicate (4 - (lg_sl ([.ref aR, .int (nI f)])).length) Slot.unset).toArray = ls at hl ⊢
  have hl : lv_has ls 4 [(0, .ref aR), (1, .int (nI f))] := hl
  have cut53 : ∀ (bd : Bool) (hbd2 : bd = !pb f), ∀ (H : Heap) (locs : List Loc), va_P (dC, dI) vwCl [(aR, .inr (7, [.int (nI th), .int (nI mv), .ref ams, .ref ann, .int (nI n), .ref ak2, .ref af2, .ref as2, .ref ah2, .int (nI fc), .ref afa, .ref afx, .ref ald, .int (nI zz), .ref awy, .int lp, .ref alt, .ref abg, .int (wz_i tl)])), (ak2, .inl (cI, 32, .inl (wz_n kn))), (af2, .inl (cI, 32, .inl f2)), (as2, .inl (cI, 32, .inl s2)), (afa, .inl (cI, 3, .inl (wz_n fa)))] H → va_D A [(aR, .inr (7, [.int (nI th), .int (nI mv), .ref ams, .ref ann, .int (nI n), .ref ak2, .ref af2, .ref as2, .ref ah2, .int (nI fc), .ref afa, .ref afx, .ref ald, .int (nI zz), .ref awy, .int lp, .ref alt, .ref abg, .int (wz_i tl)])), (ak2, .inl (cI, 32, .inl (wz_n kn))), (af2, .inl (cI, 32, .inl f2)), (as2, .inl (cI, 32, .inl s2)), (afa, .inl (cI, 3, .inl (wz_n fa)))] → va_S A s.heap H locs → ∀ ls : Array Slot, lv_has ls 4 [(2, .int (wz_i bd)), (0, .ref aR), (1, .int (nI f))] → W p l e (headSpec (.code yMo_fair cMo_fair 4 (some .int) :: wz_all) ({ frames := 2, cells := 0, slots := 0, locals := 46 })).room s m [.ref aR, .int (nI f)].toArray below meth c H locs 0 0 (MQ below (va_Qi (fun (r : Int32) (_ : Unit) => r = nI 0) (fun _ t => va_P (dC, dI) vwCl [(aR, .inr (7, [.int (nI 1), .int (nI mv), .ref ams, .ref ann, .int (nI n), .ref ak2, .ref af2, .ref as2, .ref ah2, .int (nI fc), .ref afa, .ref afx, .ref ald, .int (nI zz), .ref awy, .int lp, .ref alt, .ref abg, .int (wz_i tl)])), (ak2, .inl (cI, 32, .inl (wz_n kn))), (af2, .inl (cI, 32, .inl f2)), (as2, .inl (cI, 32, .inl s2)), (afa, .inl (cI, 3, .inl (wz_n fa)))] t.heap ∧ va_K (dC, dI) vwCl (wz_T cI cJ cZ) t ∧ va_D A [(aR, .inr (7, [.int (nI 1), .int (nI mv), .ref ams, .ref ann, .int (nI n), .ref ak2, .ref af2, .ref as2, .ref ah2, .int (nI fc), .ref afa, .ref afx, .ref ald, .int (nI zz), .ref awy, .int lp, .ref alt, .ref abg, .int (wz_i tl)])), (ak2, .inl (cI, 32, .inl (wz_n kn))), (af2, .inl (cI, 32, .inl f2)), (as2, .inl (cI, 32, .inl s2)), (afa, .inl (cI, 3, .inl (wz_n fa)))]) A) [.ref aR, .int (nI f)].toArray s 0 0 A) (F0 m 53 ls []) := by
    intro bd hbd2 H locs hP hD hS ls hl
    refine lv_aload_n hx hb dMo_fair_53 rfl (lv_at hl 1 rfl) ?_
    refine lv_iload_n hx hb dMo_fair_54 rfl (lv_at hl 0 rfl) ?_
    refine wz_ifz (tgt := 62) hx hb dMo_fair_55 (by decide) (fun h55_1 => ?_) (fun h55_1 => ?_)
    · skip
      rw [hbd2, hpf] at h55_1; cases h55_1
    · skip
      refine lv_iconst (v := nI 1) hx hb dMo_fair_58 (by decide) ?_
      refine lv_goto (tgt := 75) hx hb dMo_fair_59 (by decide) ?_
      refine va_put (D := (dC, dI)) (ci := 7) (v := .int (nI 1)) (ty := .int) (C := RMo) (T := TMo) (N := 19) hx hb hw in_Mo tyMo tyMo_ok nmMo hown hK hP hD hS 0 rfl rfl 0 (by decide) (hw _ w_500) (fun _ h9 => h9) rfl (by decide +kernel) rfl rfl (Nat.le_of_ble_eq_true rfl) dMo_fair_75 (fun H locs hP hD hS => ?_)
      have hP : va_P (dC, dI) vwCl [(aR, .inr (7, [.int (nI 1), .int (nI mv), .ref ams, .ref ann, .int (nI n), .ref ak2, .ref af2, .ref as2, .ref ah2, .int (nI fc), .ref afa, .ref afx, .ref ald, .int (nI zz), .ref awy, .int lp, .ref alt, .ref abg, .int (wz_i tl)])), (ak2, .inl (cI, 32, .inl (wz_n kn))), (af2, .inl (cI, 32, .inl f2)), (as2, .inl (cI, 32, .inl s2)), (afa, .inl (cI, 3, .inl (wz_n fa)))] H := hP
      have hD : va_D A [(aR, .inr (7, [.int (nI 1), .int (nI mv), .ref ams, .ref ann, .int (nI n), .ref ak2, .ref af2, .ref as2, .ref ah2, .int (nI fc), .ref afa, .ref afx, .ref ald, .int (nI zz), .ref awy, .int lp, .ref alt, .ref abg, .int (wz_i tl)])), (ak2, .inl (cI, 32, .inl (wz_n kn))), (af2, .inl (cI, 32, .inl f2)), (as2, .inl (cI, 32, .inl s2)), (afa, .inl (cI, 3, .inl (wz_n fa)))] := hD
      refine lv_aload_n hx hb dMo_fair_78 rfl (lv_at hl 1 rfl) ?_
      refine va_get (D := (dC, dI)) (ci := 7) (v := .int (nI 1)) (C := RMo) (T := TMo) (N := 19) hx hb hw in_Mo hown hK hP 0 rfl rfl 0 (by decide) (hw _ w_500) (fun _ h9 => h9) rfl dMo_fair_79 ?_
      refine wz_ifN_eq (x := 1) (tgt := 87) hx hb (by omega) dMo_fair_82 (by decide) (fun h82_2 => ?_) (fun h82_2 => ?_)
      · skip
        exact absurd h82_2 (by decide)
      · skip
        refine lv_iconst (v := nI 0) hx hb dMo_fair_85 (by decide) ?_
        exact wz_iret hx hb hr hlocks rfl hP hD hK hS dMo_fair_86
  have cut8 : ∀ (n8 : Nat) (i : Nat) (bd : Bool) (hi : i ≤ f + 1) (hbd : bd = ww_bd kn (ww_md kn fn sn f (f + 1)) i), f + 1 - i = n8 → ∀ (H : Heap) (locs : List Loc), va_P (dC, dI) vwCl [(aR, .inr (7, [.int (nI th), .int (nI mv), .ref ams, .ref ann, .int (nI n), .ref ak2, .ref af2, .ref as2, .ref ah2, .int (nI fc), .ref afa, .ref afx, .ref ald, .int (nI zz), .ref awy, .int lp, .ref alt, .ref abg, .int (wz_i tl)])), (ak2, .inl (cI, 32, .inl (wz_n kn))), (af2, .inl (cI, 32, .inl f2)), (as2, .inl (cI, 32, .inl s2)), (afa, .inl (cI, 3, .inl (wz_n fa)))] H → va_D A [(aR, .inr (7, [.int (nI th), .int (nI mv), .ref ams, .ref ann, .int (nI n), .ref ak2, .ref af2, .ref as2, .ref ah2, .int (nI fc), .ref afa, .ref afx, .ref ald, .int (nI zz), .ref awy, .int lp, .ref alt, .ref abg, .int (wz_i tl)])), (ak2, .inl (cI, 32, .inl (wz_n kn))), (af2, .inl (cI, 32, .inl f2)), (as2, .inl (cI, 32, .inl s2)), (afa, .inl (cI, 3, .inl (wz_n fa)))] → va_S A s.heap H locs → ∀ ls : Array Slot, lv_has ls 4 [(3, .int (nI i)), (2, .int (wz_i bd)), (0, .ref aR), (1, .int (nI f))] → W p l e (headSpec (.code yMo_fair cMo_fair 4 (some .int) :: wz_all) ({ frames := 2, cells := 0, slots := 0, locals := 46 })).room s m [.ref aR, .int (nI f)].toArray below meth c H locs 0 0 (MQ below (va_Qi (fun (r : Int32) (_ : Unit) => r = nI 0) (fun _ t => va_P (dC, dI) vwCl [(aR, .inr (7, [.int (nI 1), .int (nI mv), .ref ams, .ref ann, .int (nI n), .ref ak2, .ref af2, .ref as2, .ref ah2, .int (nI fc), .ref afa, .ref afx, .ref ald, .int (nI zz), .ref awy, .int lp, .ref alt, .ref abg, .int (wz_i tl)])), (ak2, .inl (cI, 32, .inl (wz_n kn))), (af2, .inl (cI, 32, .inl f2)), (as2, .inl (cI, 32, .inl s2)), (afa, .inl (cI, 3, .inl (wz_n fa)))] t.heap ∧ va_K (dC, dI) vwCl (wz_T cI cJ cZ) t ∧ va_D A [(aR, .inr (7, [.int (nI 1), .int (nI mv), .ref ams, .ref ann, .int (nI n), .ref ak2, .ref af2, .ref as2, .ref ah2, .int (nI fc), .ref afa, .ref afx, .ref ald, .int (nI zz), .ref awy, .int lp, .ref alt, .ref abg, .int (wz_i tl)])), (ak2, .inl (cI, 32, .inl (wz_n kn))), (af2, .inl (cI, 32, .inl f2)), (as2, .inl (cI, 32, .inl s2)), (afa, .inl (cI, 3, .inl (wz_n fa)))]) A) [.ref aR, .int (nI f)].toArray s 0 0 A) (F0 m 8 ls []) := by
    intro n8
    induction n8 using Nat.strongRecOn with
    | _ n8 ih8 =>
    intro i bd hi hbd hm8 H locs hP hD hS ls hl
    refine lv_iload_n hx hb dMo_fair_8 rfl (lv_at hl 0 rfl) ?_
    refine lv_iload_n hx hb dMo_fair_9 rfl (lv_at hl 3 rfl) ?_
    refine wz_icmp_gt (x := i) (y := f) (tgt := 53) hx hb (by omega) (by omega) dMo_fair_10 (by decide) (fun h10_3 => ?_) (fun h10_3 => ?_)
    · skip
      exact cut53 bd (by rw [← ww_bd_pb hwf hn hpb hf, hbd]; first | rw [show i = f + 1 by omega] | (have q9 := ww_bd_stop (hbd ▸ h_none) (f + 1 - i); rw [show i + (f + 1 - i) = f + 1 by omega] at q9; rw [q9, ← hbd, h_none])) _ _ hP hD hS _ (lv_sub hl [1, 2, 3] rfl)
    · skip
      refine lv_iload_n hx hb dMo_fair_13 rfl (lv_at hl 1 rfl) ?_
      refine wz_ifnz (tgt := 53) hx hb dMo_fair_14 (by decide) (fun h14_4 => ?_) (fun h14_4 => ?_)
      · skip
        exact cut53 bd (by rw [← ww_bd_pb hwf hn hpb hf, hbd]; first | rw [show i = f + 1 by omega] | (have q9 := ww_bd_stop (hbd ▸ h14_4) (f + 1 - i); rw [show i + (f + 1 - i) = f + 1 by omega] at q9; rw [q9, ← hbd, h14_4])) _ _ hP hD hS _ (lv_sub hl [1, 2, 3] rfl)
      · skip
        refine lv_aload_n hx hb dMo_fair_17 rfl (lv_at hl 2 rfl) ?_
        refine lv_iload_n hx hb dMo_fair_18 rfl (lv_at hl 3 rfl) ?_
        refine wz_calll (wc := [(aR, .inr (7, [.int (nI th), .int (nI mv), .ref ams, .ref ann, .int (nI n), .ref ak2, .ref af2, .ref as2, .ref ah2, .int (nI fc), .ref afa, .ref afx, .ref ald, .int (nI zz), .ref awy, .int lp, .ref alt, .ref abg, .int (wz_i tl)])), (ak2, .inl (cI, 32, .inl (wz_n kn))), (af2, .inl (cI, 32, .inl f2)), (as2, .inl (cI, 32, .inl s2))]) (wr := [(afa, .inl (cI, 3, .inl (wz_n fa)))]) (w1 := [(aR, .inr (7, [.int (nI th), .int (nI mv), .ref ams, .ref ann, .int (nI n), .ref ak2, .ref af2, .ref as2, .ref ah2, .int (nI fc), .ref afa, .ref afx, .ref ald, .int (nI zz), .ref awy, .int lp, .ref alt, .ref abg, .int (wz_i tl)])), (ak2, .inl (cI, 32, .inl (wz_n kn))), (af2, .inl (cI, 32, .inl f2)), (as2, .inl (cI, 32, .inl s2))]) (ws' := [(aR, .inr (7, [.int (nI th), .int (nI mv), .ref ams, .ref ann, .int (nI n), .ref ak2, .ref af2, .ref as2, .ref ah2, .int (nI fc), .ref afa, .ref afx, .ref ald, .int (nI zz), .ref awy, .int lp, .ref alt, .ref abg, .int (wz_i tl)])), (ak2, .inl (cI, 32, .inl (wz_n kn))), (af2, .inl (cI, 32, .inl f2)), (as2, .inl (cI, 32, .inl s2)), (afa, .inl (cI, 3, .inl (wz_n fa)))]) hP hD hS hA [0, 1, 2, 3] [4] [1, 2, 3, 4, 0] rfl rfl (by decide) (by decide) (by decide) rfl rfl (va_runV (As := [.int (nI f)]) (rest := []) ⟨hx, hb, hml, hown, hts⟩ (kMo_madeOf l dC dI cI cJ cZ H.size aR ams ann ak2 af2 as2 ah2 afa afx ald awy alt abg th mv n fc zz lp tl kn f2 s2 fn sn f hf hwf hn hfi hse) (cwV 1 hts (wz_gV w_593 w_594 w_14 w_41 w_595) rfl rfl rfl (by decide +kernel) ⟨Nat.le_of_ble_eq_true rfl, Nat.le_of_ble_eq_true rfl⟩) (wz_preV (q := (RMo, TMo, 19)) (ci := 7) hN hK hP hD [0, 1, 2, 3] (by decide) rfl rfl 0 rfl rfl) rfl rfl hl.1 rfl (lv_room (Nat.le_of_ble_eq_true rfl)) dMo_fair_19 ⟨Nat.le_refl _, Nat.le_refl _⟩) (fun H locs hP hD hS => ?_)
        refine lv_iload_n hx hb dMo_fair_22 rfl (lv_at hl 0 rfl) ?_
        refine lv_lshr hx hb dMo_fair_23 rfl ?_
        refine lv_lconst (v := 1) hx hb dMo_fair_24 (by decide) ?_
        refine lv_land hx hb dMo_fair_25 ?_
        refine W.eq (g2 := F0 m 26 ls [.long (ww_bit (ww_m (ww_md kn fn sn f (f + 1)) i))]) (by rw [show (((ww_md kn fn sn f (f + 1)) >>> ((nI i).toInt64 &&& 63)) &&& 1 : Int64) = ww_bit (ww_m (ww_md kn fn sn f (f + 1)) i) from (by rw [ww_sshr _ (by omega)])]) ?_
        refine lv_lconst (v := 1) hx hb dMo_fair_26 (by decide) ?_
        refine wz_lcmp_ne (tgt := 45) hx hb dMo_fair_27 dMo_fair_28 (by decide) (fun h27_5 => ?_) (fun h27_5 => ?_)
        · skip
          refine lv_iconst (v := nI 0) hx hb dMo_fair_45 (by decide) ?_
          refine lv_istore_n (lv' := [(2, .int (nI 0)), (3, .int (nI i)), (0, .ref aR), (1, .int (nI f))]) hx hb dMo_fair_46 rfl hl (by decide) rfl (fun ls hl => ?_)
          refine lv_iinc (v := nI (i + 1)) (lv' := [(3, .int (nI (i + 1))), (2, .int (nI 0)), (0, .ref aR), (1, .int (nI f))]) hx hb dMo_fair_47 hl (k := 1) rfl ((nI_succ _).symm) (by decide) rfl (fun ls hl => ?_)
          refine lv_goto (tgt := 8) hx hb dMo_fair_50 (by decide) ?_
          exact ih8 _ (by omega) (i + 1) false (by omega) (by first | (show true = (ww_bd kn (ww_md kn fn sn f (f + 1)) i || (ww_m (ww_md kn fn sn f (f + 1)) i && decide (4 < kn i))); rw [← hbd, h14_4, (ww_bit_1 _).mp h27_5, decide_eq_true h_none]; rfl) | (show false = (ww_bd kn (ww_md kn fn sn f (f + 1)) i || (ww_m (ww_md kn fn sn f (f + 1)) i && decide (4 < kn i))); rw [← hbd, h14_4, decide_eq_false (Nat.not_lt.mpr h_none), Bool.and_false]; rfl) | (show false = (ww_bd kn (ww_md kn fn sn f (f + 1)) i || (ww_m (ww_md kn fn sn f (f + 1)) i && decide (4 < kn i))); rw [← hbd, h14_4, ww_bit_n h27_5]; rfl)) rfl _ _ hP hD hS _ hl
        · skip
          refine lv_aload_n hx hb dMo_fair_31 rfl (lv_at hl 2 rfl) ?_
          refine va_get (D := (dC, dI)) (ci := 7) (v := .ref ak2) (C := RMo) (T := TMo) (N := 19) hx hb hw in_Mo hown hK hP 0 rfl rfl 5 (by decide) (hw _ w_505) (fun _ h9 => h9) rfl dMo_fair_32 ?_
          refine lv_iload_n hx hb dMo_fair_35 rfl (lv_at hl 0 rfl) ?_
          refine wz_aldN hx hb hK hP 1 0 rfl rfl (i := i) (by omega) (by decide) dMo_fair_36 ?_
          refine lv_iconst (v := nI 4) hx hb dMo_fair_37 (by decide) ?_
          refine wz_icmp_le (x := kn i) (y := 4) (tgt := 45) hx hb (by have q9 := (ww_wf_ix hwf hn (i := i) (by omega)).2.2; omega) (by omega) dMo_fair_38 (by decide) (fun h38_6 => ?_) (fun h38_6 => ?_)
          · skip
            refine lv_iconst (v := nI 0) hx hb dMo_fair_45 (by decide) ?_
            refine lv_istore_n (lv' := [(2, .int (nI 0)), (3, .int (nI i)), (0, .ref aR), (1, .int (nI f))]) hx hb dMo_fair_46 rfl hl (by decide) rfl (fun ls hl => ?_)
            refine lv_iinc (v := nI (i + 1)) (lv' := [(3, .int (nI (i + 1))), (2, .int (nI 0)), (0, .ref aR), (1, .int (nI f))]) hx hb dMo_fair_47 hl (k := 1) rfl ((nI_succ _).symm) (by decide) rfl (fun ls hl => ?_)
            refine lv_goto (tgt := 8) hx hb dMo_fair_50 (by decide) ?_
            exact ih8 _ (by omega) (i + 1) false (by omega) (by first | (show true = (ww_bd kn (ww_md kn fn sn f (f + 1)) i || (ww_m (ww_md kn fn sn f (f + 1)) i && decide (4 < kn i))); rw [← hbd, h14_4, (ww_bit_1 _).mp h27_5, decide_eq_true h38_6]; rfl) | (show false = (ww_bd kn (ww_md kn fn sn f (f + 1)) i || (ww_m (ww_md kn fn sn f (f + 1)) i && decide (4 < kn i))); rw [← hbd, h14_4, decide_eq_false (Nat.not_lt.mpr h38_6), Bool.and_false]; rfl) | (show false = (ww_bd kn (ww_md kn fn sn f (f + 1)) i || (ww_m (ww_md kn fn sn f (f + 1)) i && decide (4 < kn i))); rw [← hbd, h14_4, ww_bit_n h27_5]; rfl)) rfl _ _ hP hD hS _ hl
          · skip
            refine lv_iconst (v := nI 1) hx hb dMo_fair_41 (by decide) ?_
            refine lv_goto (tgt := 46) hx hb dMo_fair_42 (by decide) ?_
            refine lv_istore_n (lv' := [(2, .int (nI 1)), (3, .int (nI i)), (0, .ref aR), (1, .int (nI f))]) hx hb dMo_fair_46 rfl hl (by decide) rfl (fun ls hl => ?_)
            refine lv_iinc (v := nI (i + 1)) (lv' := [(3, .int (nI (i + 1))), (2, .int (nI 1)), (0, .ref aR), (1, .int (nI f))]) hx hb dMo_fair_47 hl (k := 1) rfl ((nI_succ _).symm) (by decide) rfl (fun ls hl => ?_)
            refine lv_goto (tgt := 8) hx hb dMo_fair_50 (by decide) ?_
            exact ih8 _ (by omega) (i + 1) true (by omega) (by first | (show true = (ww_bd kn (ww_md kn fn sn f (f + 1)) i || (ww_m (ww_md kn fn sn f (f + 1)) i && decide (4 < kn i))); rw [← hbd, h14_4, (ww_bit_1 _).mp h27_5, decide_eq_true h38_6]; rfl) | (show false = (ww_bd kn (ww_md kn fn sn f (f + 1)) i || (ww_m (ww_md kn fn sn f (f + 1)) i && decide (4 < kn i))); rw [← hbd, h14_4, decide_eq_false (Nat.not_lt.mpr h38_6), Bool.and_false]; rfl) | (show false = (ww_bd kn (ww_md kn fn sn f (f + 1)) i || (ww_m (ww_md kn fn sn f (f + 1)) i && decide (4 < kn i))); rw [← hbd, h14_4, ww_bit_n h27_5]; rfl)) rfl _ _ hP hD hS _ hl
  refine lv_aload_n hx hb dMo_fair_0 rfl (lv_at hl 0 rfl) ?_
  refine lv_iload_n hx hb dMo_fair_1 rfl (lv_at hl 1 rfl) ?_
  refine wz_calli (wc := [(aR, .inr (7, [.int (nI th), .int (nI mv), .ref ams, .ref ann, .int (nI n), .ref ak2, .ref af2, .ref as2, .ref ah2, .int (nI fc), .ref afa, .ref afx, .ref ald, .int (nI zz), .ref awy, .int lp, .ref alt, .ref abg, .int (wz_i tl)]))]) (wr := [(ak2, .inl (cI, 32, .inl (wz_n kn))), (af2, .inl (cI, 32, .inl f2)), (as2, .inl (cI, 32, .inl s2)), (afa, .inl (cI, 3, .inl (wz_n fa)))]) (w1 := [(aR, .inr (7, [.int (nI th), .int (nI mv), .ref ams, .ref ann, .int (nI n), .ref ak2, .ref af2, .ref as2, .ref ah2, .int (nI fc), .ref afa, .ref afx, .ref ald, .int (nI zz), .ref awy, .int lp, .ref alt, .ref abg, .int (wz_i tl)]))]) (ws' := [(aR, .inr (7, [.int (nI th), .int (nI mv), .ref ams, .ref ann, .int (nI n), .ref ak2, .ref af2, .ref as2, .ref ah2, .int (nI fc), .ref afa, .ref afx, .ref ald, .int (nI zz), .ref awy, .int lp, .ref alt, .ref abg, .int (wz_i tl)])), (ak2, .inl (cI, 32, .inl (wz_n kn))), (af2, .inl (cI, 32, .inl f2)), (as2, .inl (cI, 32, .inl s2)), (afa, .inl (cI, 3, .inl (wz_n fa)))]) hP hD hS hA [0] [1, 2, 3, 4] [4, 0, 1, 2, 3] rfl rfl (by decide) (by decide) (by decide) rfl rfl (va_runV (As := [.int (nI f)]) (rest := []) ⟨hx, hb, hml, hown, hts⟩ (kMo_noFormula l dC dI cI cJ cZ s.heap.size aR ams ann ak2 af2 as2 ah2 afa afx ald awy alt abg th mv n fc zz lp tl (nI f)) (cwV 1 hts (wz_gV w_583 w_584 w_12 w_41 w_585) rfl rfl rfl (by decide +kernel) ⟨Nat.le_of_ble_eq_true rfl, Nat.le_of_ble_eq_true rfl⟩) (wz_preV (q := (RMo, TMo, 19)) (ci := 7) hN hK hP hD [0] (by decide) rfl rfl 0 rfl rfl) rfl rfl hl.1 rfl (lv_room (Nat.le_of_ble_eq_true rfl)) dMo_fair_2 ⟨Nat.le_refl _, Nat.le_refl _⟩) (fun H locs hP hD hS => ?_)
  refine lv_istore_n (lv' := [(2, .int (wz_i (!ww_hs n (nI f)))), (0, .ref aR), (1, .int (nI f))]) hx hb dMo_fair_5 rfl hl (by decide) rfl (fun ls hl => ?_)
  refine lv_iconst (v := nI 0) hx hb dMo_fair_6 (by decide) ?_
  refine lv_istore_n (lv' := [(3, .int (nI 0)), (2, .int (wz_i (!ww_hs n (nI f)))), (0, .ref aR), (1, .int (nI f))]) hx hb dMo_fair_7 rfl hl (by decide) rfl (fun ls hl => ?_)
  exact cut8 _ 0 (!ww_hs n (nI f)) (by omega) (by rw [ww_hs_N hf (by omega)]; rfl) rfl _ _ hP hD hS _ hl
set_option maxHeartbeats 4000000 in
set_option maxRecDepth 100000 in
theorem kMo_fair_2 (l : Launch) (dC : Nat → ClassId) (dI : Nat → Nat → Nat) (cI cJ cZ : ClassId) (sz : Nat) (aR : Nat) (ams : Nat) (ann : Nat) (ak2 : Nat) (af2 : Nat) (as2 : Nat) (ah2 : Nat) (afa : Nat) (afx : Nat) (ald : Nat) (awy : Nat) (alt : Nat) (abg : Nat) (th : Nat) (mv : Nat) (n : Nat) (fc : Nat) (zz : Nat) (lp : Int32) (tl : Bool) (kn : Nat → Nat) (f2 : Nat → Int32) (s2 : Nat → Int32) (fa : Nat → Nat) (fn : Nat → Nat) (sn : Nat → Nat) (pb : Nat → Bool) (f : Nat) (hf : f < n) (hwf : ww_wf n kn fn sn) (hn : n ≤ 32) (hfi : ∀ i, i < n → ¬ kn i = 1 → f2 i = nI (fn i)) (hse : ∀ i, i < n → ww_h2 (kn i) = true → s2 i = nI (sn i)) (hpb : ww_pb n kn fn sn pb) (hpf : pb f = true) (hfc3 : fc = 3) : Met l yMo_fair (.code yMo_fair cMo_fair 4 (some .int) :: wz_all) ({ frames := 2, cells := 0, slots := 0, locals := 46 }) (wz_Pc (dC, dI) vwCl (wz_T cI cJ cZ) [.ref aR, .int (nI f)] sz [(aR, .inr (7, [.int (nI th), .int (nI mv), .ref ams, .ref ann, .int (nI n), .ref ak2, .ref af2, .ref as2, .ref ah2, .int (nI fc), .ref afa, .ref afx, .ref ald, .int (nI zz), .ref awy, .int lp, .ref alt, .ref abg, .int (wz_i tl)])), (ak2, .inl (cI, 32, .inl (wz_n kn))), (af2, .inl (cI, 32, .inl f2)), (as2, .inl (cI, 32, .inl s2)), (afa, .inl (cI, 3, .inl (wz_n fa)))]) (va_Qi (fun (r : Int32) (_ : Unit) => r = nI 0) (fun _ t => va_P (dC, dI) vwCl [(aR, .inr (7, [.int (nI 2), .int (nI mv), .ref ams, .ref ann, .int (nI n), .ref ak2, .ref af2, .ref as2, .ref ah2, .int (nI fc), .ref afa, .ref afx, .ref ald, .int (nI zz), .ref awy, .int lp, .ref alt, .ref abg, .int (wz_i tl)])), (ak2, .inl (cI, 32, .inl (wz_n kn))), (af2, .inl (cI, 32, .inl f2)), (as2, .inl (cI, 32, .inl s2)), (afa, .inl (cI, 3, .inl (wz_n fa)))] t.heap ∧ va_K (dC, dI) vwCl (wz_T cI cJ cZ) t ∧ va_D (va_A [(aR, .inr (7, [.int (nI th), .int (nI mv), .ref ams, .ref ann, .int (nI n), .ref ak2, .ref af2, .ref as2, .ref ah2, .int (nI fc), .ref afa, .ref afx, .ref ald, .int (nI zz), .ref awy, .int lp, .ref alt, .ref abg, .int (wz_i tl)])), (ak2, .inl (cI, 32, .inl (wz_n kn))), (af2, .inl (cI, 32, .inl f2)), (as2, .inl (cI, 32, .inl s2)), (afa, .inl (cI, 3, .inl (wz_n fa)))] sz) [(aR, .inr (7, [.int (nI 2), .int (nI mv), .ref ams, .ref ann, .int (nI n), .ref ak2, .ref af2, .ref as2, .ref ah2, .int (nI fc), .ref afa, .ref afx, .ref ald, .int (nI zz), .ref awy, .int lp, .ref alt, .ref abg, .int (wz_i tl)])), (ak2, .inl (cI, 32, .inl (wz_n kn))), (af2, .inl (cI, 32, .inl f2)), (as2, .inl (cI, 32, .inl s2)), (afa, .inl (cI, 3, .inl (wz_n fa)))]) (va_A [(aR, .inr (7, [.int (nI th), .int (nI mv), .ref ams, .ref ann, .int (nI n), .ref ak2, .ref af2, .ref as2, .ref ah2, .int (nI fc), .ref afa, .ref afx, .ref ald, .int (nI zz), .ref awy, .int lp, .ref alt, .ref abg, .int (wz_i tl)])), (ak2, .inl (cI, 32, .inl (wz_n kn))), (af2, .inl (cI, 32, .inl f2)), (as2, .inl (cI, 32, .inl s2)), (afa, .inl (cI, 3, .inl (wz_n fa)))] sz)) 0 0 (va_A [(aR, .inr (7, [.int (nI th), .int (nI mv), .ref ams, .ref ann, .int (nI n), .ref ak2, .ref af2, .ref as2, .ref ah2, .int (nI fc), .ref afa, .ref afx, .ref ald, .int (nI zz), .ref awy, .int lp, .ref alt, .ref abg, .int (wz_i tl)])), (ak2, .inl (cI, 32, .inl (wz_n kn))), (af2, .inl (cI, 32, .inl f2)), (as2, .inl (cI, 32, .inl s2)), (afa, .inl (cI, 3, .inl (wz_n fa)))] sz) := by
  refine Met.ofW (cc := cMo_fair) (maxL := 4) (ret := (some .int)) (by decide) rfl ?_
  intro p e s m args below meth c s₁ B hml hv
  obtain ⟨rfl, hsz, hP, hK, hD0, hN⟩ := hv
  have hx := B.exec
  have hb := B.bytes
  have hr := B.returns
  have hts := atoms_spec (ws := (.code yMo_fair cMo_fair 4 (some .int) :: wz_all)) B.pre
  have hw : ∀ w9 ∈ wz_all, w9.before [.ref aR, .int (nI f)].toArray s = true := fun w9 h => hts w9 (List.mem_cons_of_mem _ h)
  have hown : s.vm.findClass RMo = some m.cls := findClass_of_methodNamed B.named
  have hlocks := B.notSynchronized
  subst hsz
  have hD := hD0.self (sz := s.heap.size)
  generalize hAe : va_A [(aR, .inr (7, [.int (nI th), .int (nI mv), .ref ams, .ref ann, .int (nI n), .ref ak2, .ref af2, .ref as2, .ref ah2, .int (nI fc), .ref afa, .ref afx, .ref ald, .int (nI zz), .ref awy, .int lp, .ref alt, .ref abg, .int (wz_i tl)])), (ak2, .inl (cI, 32, .inl (wz_n kn))), (af2, .inl (cI, 32, .inl f2)), (as2, .inl (cI, 32, .inl s2)), (afa, .inl (cI, 3, .inl (wz_n fa)))] s.heap.size = A at hD ⊢
  have hA : ∀ q : Nat, s.heap.size ≤ q → A q := fun q h => by rw [← hAe]; exact Or.inr h
  have hS : va_S A s.heap s.heap [] := va_S.rf
  have hP : va_P (dC, dI) vwCl [(aR, .inr (7, [.int (nI th), .int (nI mv), .ref ams, .ref ann, .int (nI n), .ref ak2, .ref af2, .ref as2, .ref ah2, .int (nI fc), .ref afa, .ref afx, .ref ald, .int (nI zz), .ref awy, .int lp, .ref alt, .ref abg, .int (wz_i tl)])), (ak2, .inl (cI, 32, .inl (wz_n kn))), (af2, .inl (cI, 32, .inl f2)), (as2, .inl (cI, 32, .inl s2)), (afa, .inl (cI, 3, .inl (wz_n fa)))] s.heap := hP
  have hl := lv_entry ([.ref aR, .int (nI f)]) (n := 4) (Nat.le_of_ble_eq_true rfl)
  rw [lg_entry_eq]
  generalize (lg_sl ([.ref aR, .int (nI f)]) ++ List.replicate (4 - (lg_sl ([.ref aR, .int (nI f)])).length) Slot.unset).toArray = ls at hl ⊢
  have hl : lv_has ls 4 [(0, .ref aR), (1, .int (nI f))] := hl
  have cut53 : ∀ (bd : Bool) (hbd2 : bd = !pb f), ∀ (H : Heap) (locs : List Loc), va_P (dC, dI) vwCl [(aR, .inr (7, [.int (nI th), .int (nI mv), .ref ams, .ref ann, .int (nI n), .ref ak2, .ref af2, .ref as2, .ref ah2, .int (nI fc), .ref afa, .ref afx, .ref ald, .int (nI zz), .ref awy, .int lp, .ref alt, .ref abg, .int (wz_i tl)])), (ak2, .inl (cI, 32, .inl (wz_n kn))), (af2, .inl (cI, 32, .inl f2)), (as2, .inl (cI, 32, .inl s2)), (afa, .inl (cI, 3, .inl (wz_n fa)))] H → va_D A [(aR, .inr (7, [.int (nI th), .int (nI mv), .ref ams, .ref ann, .int (nI n), .ref ak2, .ref af2, .ref as2, .ref ah2, .int (nI fc), .ref afa, .ref afx, .ref ald, .int (nI zz), .ref awy, .int lp, .ref alt, .ref abg, .int (wz_i tl)])), (ak2, .inl (cI, 32, .inl (wz_n kn))), (af2, .inl (cI, 32, .inl f2)), (as2, .inl (cI, 32, .inl s2)), (afa, .inl (cI, 3, .inl (wz_n fa)))] → va_S A s.heap H locs → ∀ ls : Array Slot, lv_has ls 4 [(2, .int (wz_i bd)), (0, .ref aR), (1, .int (nI f))] → W p l e (headSpec (.code yMo_fair cMo_fair 4 (some .int) :: wz_all) ({ frames := 2, cells := 0, slots := 0, locals := 46 })).room s m [.ref aR, .int (nI f)].toArray below meth c H locs 0 0 (MQ below (va_Qi (fun (r : Int32) (_ : Unit) => r = nI 0) (fun _ t => va_P (dC, dI) vwCl [(aR, .inr (7, [.int (nI 2), .int (nI mv), .ref ams, .ref ann, .int (nI n), .ref ak2, .ref af2, .ref as2, .ref ah2, .int (nI fc), .ref afa, .ref afx, .ref ald, .int (nI zz), .ref awy, .int lp, .ref alt, .ref abg, .int (wz_i tl)])), (ak2, .inl (cI, 32, .inl (wz_n kn))), (af2, .inl (cI, 32, .inl f2)), (as2, .inl (cI, 32, .inl s2)), (afa, .inl (cI, 3, .inl (wz_n fa)))] t.heap ∧ va_K (dC, dI) vwCl (wz_T cI cJ cZ) t ∧ va_D A [(aR, .inr (7, [.int (nI 2), .int (nI mv), .ref ams, .ref ann, .int (nI n), .ref ak2, .ref af2, .ref as2, .ref ah2, .int (nI fc), .ref afa, .ref afx, .ref ald, .int (nI zz), .ref awy, .int lp, .ref alt, .ref abg, .int (wz_i tl)])), (ak2, .inl (cI, 32, .inl (wz_n kn))), (af2, .inl (cI, 32, .inl f2)), (as2, .inl (cI, 32, .inl s2)), (afa, .inl (cI, 3, .inl (wz_n fa)))]) A) [.ref aR, .int (nI f)].toArray s 0 0 A) (F0 m 53 ls []) := by
    intro bd hbd2 H locs hP hD hS ls hl
    refine lv_aload_n hx hb dMo_fair_53 rfl (lv_at hl 1 rfl) ?_
    refine lv_iload_n hx hb dMo_fair_54 rfl (lv_at hl 0 rfl) ?_
    refine wz_ifz (tgt := 62) hx hb dMo_fair_55 (by decide) (fun h55_1 => ?_) (fun h55_1 => ?_)
    · skip
      refine lv_aload_n hx hb dMo_fair_62 rfl (lv_at hl 1 rfl) ?_
      refine va_get (D := (dC, dI)) (ci := 7) (v := .int (nI fc)) (C := RMo) (T := TMo) (N := 19) hx hb hw in_Mo hown hK hP 0 rfl rfl 9 (by decide) (hw _ w_509) (fun _ h9 => h9) rfl dMo_fair_63 ?_
      refine lv_iconst (v := nI 3) hx hb dMo_fair_66 (by decide) ?_
      refine wz_icmp_ne (x := fc) (y := 3) (tgt := 74) hx hb (by omega) (by omega) dMo_fair_67 (by decide) (fun h67_2 => ?_) (fun h67_2 => ?_)
      · skip
        exact absurd hfc3 h67_2
      · skip
        refine lv_iconst (v := nI 2) hx hb dMo_fair_70 (by decide) ?_
        refine lv_goto (tgt := 75) hx hb dMo_fair_71 (by decide) ?_
        refine va_put (D := (dC, dI)) (ci := 7) (v := .int (nI 2)) (ty := .int) (C := RMo) (T := TMo) (N := 19) hx hb hw in_Mo tyMo tyMo_ok nmMo hown hK hP hD hS 0 rfl rfl 0 (by decide) (hw _ w_500) (fun _ h9 => h9) rfl (by decide +kernel) rfl rfl (Nat.le_of_ble_eq_true rfl) dMo_fair_75 (fun H locs hP hD hS => ?_)
        have hP : va_P (dC, dI) vwCl [(aR, .inr (7, [.int (nI 2), .int (nI mv), .ref ams, .ref ann, .int (nI n), .ref ak2, .ref af2, .ref as2, .ref ah2, .int (nI fc), .ref afa, .ref afx, .ref ald, .int (nI zz), .ref awy, .int lp, .ref alt, .ref abg, .int (wz_i tl)])), (ak2, .inl (cI, 32, .inl (wz_n kn))), (af2, .inl (cI, 32, .inl f2)), (as2, .inl (cI, 32, .inl s2)), (afa, .inl (cI, 3, .inl (wz_n fa)))] H := hP
        have hD : va_D A [(aR, .inr (7, [.int (nI 2), .int (nI mv), .ref ams, .ref ann, .int (nI n), .ref ak2, .ref af2, .ref as2, .ref ah2, .int (nI fc), .ref afa, .ref afx, .ref ald, .int (nI zz), .ref awy, .int lp, .ref alt, .ref abg, .int (wz_i tl)])), (ak2, .inl (cI, 32, .inl (wz_n kn))), (af2, .inl (cI, 32, .inl f2)), (as2, .inl (cI, 32, .inl s2)), (afa, .inl (cI, 3, .inl (wz_n fa)))] := hD
        refine lv_aload_n hx hb dMo_fair_78 rfl (lv_at hl 1 rfl) ?_
        refine va_get (D := (dC, dI)) (ci := 7) (v := .int (nI 2)) (C := RMo) (T := TMo) (N := 19) hx hb hw in_Mo hown hK hP 0 rfl rfl 0 (by decide) (hw _ w_500) (fun _ h9 => h9) rfl dMo_fair_79 ?_
        refine wz_ifN_eq (x := 2) (tgt := 87) hx hb (by omega) dMo_fair_82 (by decide) (fun h82_3 => ?_) (fun h82_3 => ?_)
        · skip
          exact absurd h82_3 (by decide)
        · skip
          refine lv_iconst (v := nI 0) hx hb dMo_fair_85 (by decide) ?_
          exact wz_iret hx hb hr hlocks rfl hP hD hK hS dMo_fair_86
    · skip
      rw [hbd2, hpf] at h55_1; cases h55_1
  have cut8 : ∀ (n8 : Nat) (i : Nat) (bd : Bool) (hi : i ≤ f + 1) (hbd : bd = ww_bd kn (ww_md kn fn sn f (f + 1)) i), f + 1 - i = n8 → ∀ (H : Heap) (locs : List Loc), va_P (dC, dI) vwCl [(aR, .inr (7, [.int (nI th), .int (nI mv), .ref ams, .ref ann, .int (nI n), .ref ak2, .ref af2, .ref as2, .ref ah2, .int (nI fc), .ref afa, .ref afx, .ref ald, .int (nI zz), .ref awy, .int lp, .ref alt, .ref abg, .int (wz_i tl)])), (ak2, .inl (cI, 32, .inl (wz_n kn))), (af2, .inl (cI, 32, .inl f2)), (as2, .inl (cI, 32, .inl s2)), (afa, .inl (cI, 3, .inl (wz_n fa)))] H → va_D A [(aR, .inr (7, [.int (nI th), .int (nI mv), .ref ams, .ref ann, .int (nI n), .ref ak2, .ref af2, .ref as2, .ref ah2, .int (nI fc), .ref afa, .ref afx, .ref ald, .int (nI zz), .ref awy, .int lp, .ref alt, .ref abg, .int (wz_i tl)])), (ak2, .inl (cI, 32, .inl (wz_n kn))), (af2, .inl (cI, 32, .inl f2)), (as2, .inl (cI, 32, .inl s2)), (afa, .inl (cI, 3, .inl (wz_n fa)))] → va_S A s.heap H locs → ∀ ls : Array Slot, lv_has ls 4 [(3, .int (nI i)), (2, .int (wz_i bd)), (0, .ref aR), (1, .int (nI f))] → W p l e (headSpec (.code yMo_fair cMo_fair 4 (some .int) :: wz_all) ({ frames := 2, cells := 0, slots := 0, locals := 46 })).room s m [.ref aR, .int (nI f)].toArray below meth c H locs 0 0 (MQ below (va_Qi (fun (r : Int32) (_ : Unit) => r = nI 0) (fun _ t => va_P (dC, dI) vwCl [(aR, .inr (7, [.int (nI 2), .int (nI mv), .ref ams, .ref ann, .int (nI n), .ref ak2, .ref af2, .ref as2, .ref ah2, .int (nI fc), .ref afa, .ref afx, .ref ald, .int (nI zz), .ref awy, .int lp, .ref alt, .ref abg, .int (wz_i tl)])), (ak2, .inl (cI, 32, .inl (wz_n kn))), (af2, .inl (cI, 32, .inl f2)), (as2, .inl (cI, 32, .inl s2)), (afa, .inl (cI, 3, .inl (wz_n fa)))] t.heap ∧ va_K (dC, dI) vwCl (wz_T cI cJ cZ) t ∧ va_D A [(aR, .inr (7, [.int (nI 2), .int (nI mv), .ref ams, .ref ann, .int (nI n), .ref ak2, .ref af2, .ref as2, .ref ah2, .int (nI fc), .ref afa, .ref afx, .ref ald, .int (nI zz), .ref awy, .int lp, .ref alt, .ref abg, .int (wz_i tl)])), (ak2, .inl (cI, 32, .inl (wz_n kn))), (af2, .inl (cI, 32, .inl f2)), (as2, .inl (cI, 32, .inl s2)), (afa, .inl (cI, 3, .inl (wz_n fa)))]) A) [.ref aR, .int (nI f)].toArray s 0 0 A) (F0 m 8 ls []) := by
    intro n8
    induction n8 using Nat.strongRecOn with
    | _ n8 ih8 =>
    intro i bd hi hbd hm8 H locs hP hD hS ls hl
    refine lv_iload_n hx hb dMo_fair_8 rfl (lv_at hl 0 rfl) ?_
    refine lv_iload_n hx hb dMo_fair_9 rfl (lv_at hl 3 rfl) ?_
    refine wz_icmp_gt (x := i) (y := f) (tgt := 53) hx hb (by omega) (by omega) dMo_fair_10 (by decide) (fun h10_4 => ?_) (fun h10_4 => ?_)
    · skip
      exact cut53 bd (by rw [← ww_bd_pb hwf hn hpb hf, hbd]; first | rw [show i = f + 1 by omega] | (have q9 := ww_bd_stop (hbd ▸ h_none) (f + 1 - i); rw [show i + (f + 1 - i) = f + 1 by omega] at q9; rw [q9, ← hbd, h_none])) _ _ hP hD hS _ (lv_sub hl [1, 2, 3] rfl)
    · skip
      refine lv_iload_n hx hb dMo_fair_13 rfl (lv_at hl 1 rfl) ?_
      refine wz_ifnz (tgt := 53) hx hb dMo_fair_14 (by decide) (fun h14_5 => ?_) (fun h14_5 => ?_)
      · skip
        exact cut53 bd (by rw [← ww_bd_pb hwf hn hpb hf, hbd]; first | rw [show i = f + 1 by omega] | (have q9 := ww_bd_stop (hbd ▸ h14_5) (f + 1 - i); rw [show i + (f + 1 - i) = f + 1 by omega] at q9; rw [q9, ← hbd, h14_5])) _ _ hP hD hS _ (lv_sub hl [1, 2, 3] rfl)
      · skip
        refine lv_aload_n hx hb dMo_fair_17 rfl (lv_at hl 2 rfl) ?_
        refine lv_iload_n hx hb dMo_fair_18 rfl (lv_at hl 3 rfl) ?_
        refine wz_calll (wc := [(aR, .inr (7, [.int (nI th), .int (nI mv), .ref ams, .ref ann, .int (nI n), .ref ak2, .ref af2, .ref as2, .ref ah2, .int (nI fc), .ref afa, .ref afx, .ref ald, .int (nI zz), .ref awy, .int lp, .ref alt, .ref abg, .int (wz_i tl)])), (ak2, .inl (cI, 32, .inl (wz_n kn))), (af2, .inl (cI, 32, .inl f2)), (as2, .inl (cI, 32, .inl s2))]) (wr := [(afa, .inl (cI, 3, .inl (wz_n fa)))]) (w1 := [(aR, .inr (7, [.int (nI th), .int (nI mv), .ref ams, .ref ann, .int (nI n), .ref ak2, .ref af2, .ref as2, .ref ah2, .int (nI fc), .ref afa, .ref afx, .ref ald, .int (nI zz), .ref awy, .int lp, .ref alt, .ref abg, .int (wz_i tl)])), (ak2, .inl (cI, 32, .inl (wz_n kn))), (af2, .inl (cI, 32, .inl f2)), (as2, .inl (cI, 32, .inl s2))]) (ws' := [(aR, .inr (7, [.int (nI th), .int (nI mv), .ref ams, .ref ann, .int (nI n), .ref ak2, .ref af2, .ref as2, .ref ah2, .int (nI fc), .ref afa, .ref afx, .ref ald, .int (nI zz), .ref awy, .int lp, .ref alt, .ref abg, .int (wz_i tl)])), (ak2, .inl (cI, 32, .inl (wz_n kn))), (af2, .inl (cI, 32, .inl f2)), (as2, .inl (cI, 32, .inl s2)), (afa, .inl (cI, 3, .inl (wz_n fa)))]) hP hD hS hA [0, 1, 2, 3] [4] [1, 2, 3, 4, 0] rfl rfl (by decide) (by decide) (by decide) rfl rfl (va_runV (As := [.int (nI f)]) (rest := []) ⟨hx, hb, hml, hown, hts⟩ (kMo_madeOf l dC dI cI cJ cZ H.size aR ams ann ak2 af2 as2 ah2 afa afx ald awy alt abg th mv n fc zz lp tl kn f2 s2 fn sn f hf hwf hn hfi hse) (cwV 1 hts (wz_gV w_593 w_594 w_14 w_41 w_595) rfl rfl rfl (by decide +kernel) ⟨Nat.le_of_ble_eq_true rfl, Nat.le_of_ble_eq_true rfl⟩) (wz_preV (q := (RMo, TMo, 19)) (ci := 7) hN hK hP hD [0, 1, 2, 3] (by decide) rfl rfl 0 rfl rfl) rfl rfl hl.1 rfl (lv_room (Nat.le_of_ble_eq_true rfl)) dMo_fair_19 ⟨Nat.le_refl _, Nat.le_refl _⟩) (fun H locs hP hD hS => ?_)
        refine lv_iload_n hx hb dMo_fair_22 rfl (lv_at hl 0 rfl) ?_
        refine lv_lshr hx hb dMo_fair_23 rfl ?_
        refine lv_lconst (v := 1) hx hb dMo_fair_24 (by decide) ?_
        refine lv_land hx hb dMo_fair_25 ?_
        refine W.eq (g2 := F0 m 26 ls [.long (ww_bit (ww_m (ww_md kn fn sn f (f + 1)) i))]) (by rw [show (((ww_md kn fn sn f (f + 1)) >>> ((nI i).toInt64 &&& 63)) &&& 1 : Int64) = ww_bit (ww_m (ww_md kn fn sn f (f + 1)) i) from (by rw [ww_sshr _ (by omega)])]) ?_
        refine lv_lconst (v := 1) hx hb dMo_fair_26 (by decide) ?_
        refine wz_lcmp_ne (tgt := 45) hx hb dMo_fair_27 dMo_fair_28 (by decide) (fun h27_6 => ?_) (fun h27_6 => ?_)
        · skip
          refine lv_iconst (v := nI 0) hx hb dMo_fair_45 (by decide) ?_
          refine lv_istore_n (lv' := [(2, .int (nI 0)), (3, .int (nI i)), (0, .ref aR), (1, .int (nI f))]) hx hb dMo_fair_46 rfl hl (by decide) rfl (fun ls hl => ?_)
          refine lv_iinc (v := nI (i + 1)) (lv' := [(3, .int (nI (i + 1))), (2, .int (nI 0)), (0, .ref aR), (1, .int (nI f))]) hx hb dMo_fair_47 hl (k := 1) rfl ((nI_succ _).symm) (by decide) rfl (fun ls hl => ?_)
          refine lv_goto (tgt := 8) hx hb dMo_fair_50 (by decide) ?_
          exact ih8 _ (by omega) (i + 1) false (by omega) (by first | (show true = (ww_bd kn (ww_md kn fn sn f (f + 1)) i || (ww_m (ww_md kn fn sn f (f + 1)) i && decide (4 < kn i))); rw [← hbd, h14_5, (ww_bit_1 _).mp h27_6, decide_eq_true h_none]; rfl) | (show false = (ww_bd kn (ww_md kn fn sn f (f + 1)) i || (ww_m (ww_md kn fn sn f (f + 1)) i && decide (4 < kn i))); rw [← hbd, h14_5, decide_eq_false (Nat.not_lt.mpr h_none), Bool.and_false]; rfl) | (show false = (ww_bd kn (ww_md kn fn sn f (f + 1)) i || (ww_m (ww_md kn fn sn f (f + 1)) i && decide (4 < kn i))); rw [← hbd, h14_5, ww_bit_n h27_6]; rfl)) rfl _ _ hP hD hS _ hl
        · skip
          refine lv_aload_n hx hb dMo_fair_31 rfl (lv_at hl 2 rfl) ?_
          refine va_get (D := (dC, dI)) (ci := 7) (v := .ref ak2) (C := RMo) (T := TMo) (N := 19) hx hb hw in_Mo hown hK hP 0 rfl rfl 5 (by decide) (hw _ w_505) (fun _ h9 => h9) rfl dMo_fair_32 ?_
          refine lv_iload_n hx hb dMo_fair_35 rfl (lv_at hl 0 rfl) ?_
          refine wz_aldN hx hb hK hP 1 0 rfl rfl (i := i) (by omega) (by decide) dMo_fair_36 ?_
          refine lv_iconst (v := nI 4) hx hb dMo_fair_37 (by decide) ?_
          refine wz_icmp_le (x := kn i) (y := 4) (tgt := 45) hx hb (by have q9 := (ww_wf_ix hwf hn (i := i) (by omega)).2.2; omega) (by omega) dMo_fair_38 (by decide) (fun h38_7 => ?_) (fun h38_7 => ?_)
          · skip
            refine lv_iconst (v := nI 0) hx hb dMo_fair_45 (by decide) ?_
            refine lv_istore_n (lv' := [(2, .int (nI 0)), (3, .int (nI i)), (0, .ref aR), (1, .int (nI f))]) hx hb dMo_fair_46 rfl hl (by decide) rfl (fun ls hl => ?_)
            refine lv_iinc (v := nI (i + 1)) (lv' := [(3, .int (nI (i + 1))), (2, .int (nI 0)), (0, .ref aR), (1, .int (nI f))]) hx hb dMo_fair_47 hl (k := 1) rfl ((nI_succ _).symm) (by decide) rfl (fun ls hl => ?_)
            refine lv_goto (tgt := 8) hx hb dMo_fair_50 (by decide) ?_
            exact ih8 _ (by omega) (i + 1) false (by omega) (by first | (show true = (ww_bd kn (ww_md kn fn sn f (f + 1)) i || (ww_m (ww_md kn fn sn f (f + 1)) i && decide (4 < kn i))); rw [← hbd, h14_5, (ww_bit_1 _).mp h27_6, decide_eq_true h38_7]; rfl) | (show false = (ww_bd kn (ww_md kn fn sn f (f + 1)) i || (ww_m (ww_md kn fn sn f (f + 1)) i && decide (4 < kn i))); rw [← hbd, h14_5, decide_eq_false (Nat.not_lt.mpr h38_7), Bool.and_false]; rfl) | (show false = (ww_bd kn (ww_md kn fn sn f (f + 1)) i || (ww_m (ww_md kn fn sn f (f + 1)) i && decide (4 < kn i))); rw [← hbd, h14_5, ww_bit_n h27_6]; rfl)) rfl _ _ hP hD hS _ hl
          · skip
            refine lv_iconst (v := nI 1) hx hb dMo_fair_41 (by decide) ?_
            refine lv_goto (tgt := 46) hx hb dMo_fair_42 (by decide) ?_
            refine lv_istore_n (lv' := [(2, .int (nI 1)), (3, .int (nI i)), (0, .ref aR), (1, .int (nI f))]) hx hb dMo_fair_46 rfl hl (by decide) rfl (fun ls hl => ?_)
            refine lv_iinc (v := nI (i + 1)) (lv' := [(3, .int (nI (i + 1))), (2, .int (nI 1)), (0, .ref aR), (1, .int (nI f))]) hx hb dMo_fair_47 hl (k := 1) rfl ((nI_succ _).symm) (by decide) rfl (fun ls hl => ?_)
            refine lv_goto (tgt := 8) hx hb dMo_fair_50 (by decide) ?_
            exact ih8 _ (by omega) (i + 1) true (by omega) (by first | (show true = (ww_bd kn (ww_md kn fn sn f (f + 1)) i || (ww_m (ww_md kn fn sn f (f + 1)) i && decide (4 < kn i))); rw [← hbd, h14_5, (ww_bit_1 _).mp h27_6, decide_eq_true h38_7]; rfl) | (show false = (ww_bd kn (ww_md kn fn sn f (f + 1)) i || (ww_m (ww_md kn fn sn f (f + 1)) i && decide (4 < kn i))); rw [← hbd, h14_5, decide_eq_false (Nat.not_lt.mpr h38_7), Bool.and_false]; rfl) | (show false = (ww_bd kn (ww_md kn fn sn f (f + 1)) i || (ww_m (ww_md kn fn sn f (f + 1)) i && decide (4 < kn i))); rw [← hbd, h14_5, ww_bit_n h27_6]; rfl)) rfl _ _ hP hD hS _ hl
  refine lv_aload_n hx hb dMo_fair_0 rfl (lv_at hl 0 rfl) ?_
  refine lv_iload_n hx hb dMo_fair_1 rfl (lv_at hl 1 rfl) ?_
  refine wz_calli (wc := [(aR, .inr (7, [.int (nI th), .int (nI mv), .ref ams, .ref ann, .int (nI n), .ref ak2, .ref af2, .ref as2, .ref ah2, .int (nI fc), .ref afa, .ref afx, .ref ald, .int (nI zz), .ref awy, .int lp, .ref alt, .ref abg, .int (wz_i tl)]))]) (wr := [(ak2, .inl (cI, 32, .inl (wz_n kn))), (af2, .inl (cI, 32, .inl f2)), (as2, .inl (cI, 32, .inl s2)), (afa, .inl (cI, 3, .inl (wz_n fa)))]) (w1 := [(aR, .inr (7, [.int (nI th), .int (nI mv), .ref ams, .ref ann, .int (nI n), .ref ak2, .ref af2, .ref as2, .ref ah2, .int (nI fc), .ref afa, .ref afx, .ref ald, .int (nI zz), .ref awy, .int lp, .ref alt, .ref abg, .int (wz_i tl)]))]) (ws' := [(aR, .inr (7, [.int (nI th), .int (nI mv), .ref ams, .ref ann, .int (nI n), .ref ak2, .ref af2, .ref as2, .ref ah2, .int (nI fc), .ref afa, .ref afx, .ref ald, .int (nI zz), .ref awy, .int lp, .ref alt, .ref abg, .int (wz_i tl)])), (ak2, .inl (cI, 32, .inl (wz_n kn))), (af2, .inl (cI, 32, .inl f2)), (as2, .inl (cI, 32, .inl s2)), (afa, .inl (cI, 3, .inl (wz_n fa)))]) hP hD hS hA [0] [1, 2, 3, 4] [4, 0, 1, 2, 3] rfl rfl (by decide) (by decide) (by decide) rfl rfl (va_runV (As := [.int (nI f)]) (rest := []) ⟨hx, hb, hml, hown, hts⟩ (kMo_noFormula l dC dI cI cJ cZ s.heap.size aR ams ann ak2 af2 as2 ah2 afa afx ald awy alt abg th mv n fc zz lp tl (nI f)) (cwV 1 hts (wz_gV w_583 w_584 w_12 w_41 w_585) rfl rfl rfl (by decide +kernel) ⟨Nat.le_of_ble_eq_true rfl, Nat.le_of_ble_eq_true rfl⟩) (wz_preV (q := (RMo, TMo, 19)) (ci := 7) hN hK hP hD [0] (by decide) rfl rfl 0 rfl rfl) rfl rfl hl.1 rfl (lv_room (Nat.le_of_ble_eq_true rfl)) dMo_fair_2 ⟨Nat.le_refl _, Nat.le_refl _⟩) (fun H locs hP hD hS => ?_)
  refine lv_istore_n (lv' := [(2, .int (wz_i (!ww_hs n (nI f)))), (0, .ref aR), (1, .int (nI f))]) hx hb dMo_fair_5 rfl hl (by decide) rfl (fun ls hl => ?_)
  refine lv_iconst (v := nI 0) hx hb dMo_fair_6 (by decide) ?_
  refine lv_istore_n (lv' := [(3, .int (nI 0)), (2, .int (wz_i (!ww_hs n (nI f)))), (0, .ref aR), (1, .int (nI f))]) hx hb dMo_fair_7 rfl hl (by decide) rfl (fun ls hl => ?_)
  exact cut8 _ 0 (!ww_hs n (nI f)) (by omega) (by rw [ww_hs_N hf (by omega)]; rfl) rfl _ _ hP hD hS _ hl
set_option maxHeartbeats 4000000 in
set_option maxRecDepth 100000 in
theorem kMo_fair_0 (l : Launch) (dC : Nat → ClassId) (dI : Nat → Nat → Nat) (cI cJ cZ : ClassId) (sz : Nat) (aR : Nat) (ams : Nat) (ann : Nat) (ak2 : Nat) (af2 : Nat) (as2 : Nat) (ah2 : Nat) (afa : Nat) (afx : Nat) (ald : Nat) (awy : Nat) (alt : Nat) (abg : Nat) (th : Nat) (mv : Nat) (n : Nat) (fc : Nat) (zz : Nat) (lp : Int32) (tl : Bool) (kn : Nat → Nat) (f2 : Nat → Int32) (s2 : Nat → Int32) (fa : Nat → Nat) (fn : Nat → Nat) (sn : Nat → Nat) (pb : Nat → Bool) (f : Nat) (hf : f < n) (hwf : ww_wf n kn fn sn) (hn : n ≤ 32) (hfi : ∀ i, i < n → ¬ kn i = 1 → f2 i = nI (fn i)) (hse : ∀ i, i < n → ww_h2 (kn i) = true → s2 i = nI (sn i)) (hpb : ww_pb n kn fn sn pb) (hpf : pb f = true) (hfc3 : fc < 3) : Met l yMo_fair (.code yMo_fair cMo_fair 4 (some .int) :: wz_all) ({ frames := 2, cells := 0, slots := 0, locals := 46 }) (wz_Pc (dC, dI) vwCl (wz_T cI cJ cZ) [.ref aR, .int (nI f)] sz [(aR, .inr (7, [.int (nI th), .int (nI mv), .ref ams, .ref ann, .int (nI n), .ref ak2, .ref af2, .ref as2, .ref ah2, .int (nI fc), .ref afa, .ref afx, .ref ald, .int (nI zz), .ref awy, .int lp, .ref alt, .ref abg, .int (wz_i tl)])), (ak2, .inl (cI, 32, .inl (wz_n kn))), (af2, .inl (cI, 32, .inl f2)), (as2, .inl (cI, 32, .inl s2)), (afa, .inl (cI, 3, .inl (wz_n fa)))]) (va_Qi (fun (r : Int32) (_ : Unit) => r = nI (fc + 1)) (fun _ t => va_P (dC, dI) vwCl [(aR, .inr (7, [.int (nI 0), .int (nI mv), .ref ams, .ref ann, .int (nI n), .ref ak2, .ref af2, .ref as2, .ref ah2, .int (nI (fc + 1)), .ref afa, .ref afx, .ref ald, .int (nI zz), .ref awy, .int lp, .ref alt, .ref abg, .int (wz_i tl)])), (ak2, .inl (cI, 32, .inl (wz_n kn))), (af2, .inl (cI, 32, .inl f2)), (as2, .inl (cI, 32, .inl s2)), (afa, .inl (cI, 3, .inl (wz_n (wz_un fa fc f))))] t.heap ∧ va_K (dC, dI) vwCl (wz_T cI cJ cZ) t ∧ va_D (va_A [(aR, .inr (7, [.int (nI th), .int (nI mv), .ref ams, .ref ann, .int (nI n), .ref ak2, .ref af2, .ref as2, .ref ah2, .int (nI fc), .ref afa, .ref afx, .ref ald, .int (nI zz), .ref awy, .int lp, .ref alt, .ref abg, .int (wz_i tl)])), (ak2, .inl (cI, 32, .inl (wz_n kn))), (af2, .inl (cI, 32, .inl f2)), (as2, .inl (cI, 32, .inl s2)), (afa, .inl (cI, 3, .inl (wz_n fa)))] sz) [(aR, .inr (7, [.int (nI 0), .int (nI mv), .ref ams, .ref ann, .int (nI n), .ref ak2, .ref af2, .ref as2, .ref ah2, .int (nI (fc + 1)), .ref afa, .ref afx, .ref ald, .int (nI zz), .ref awy, .int lp, .ref alt, .ref abg, .int (wz_i tl)])), (ak2, .inl (cI, 32, .inl (wz_n kn))), (af2, .inl (cI, 32, .inl f2)), (as2, .inl (cI, 32, .inl s2)), (afa, .inl (cI, 3, .inl (wz_n (wz_un fa fc f))))]) (va_A [(aR, .inr (7, [.int (nI th), .int (nI mv), .ref ams, .ref ann, .int (nI n), .ref ak2, .ref af2, .ref as2, .ref ah2, .int (nI fc), .ref afa, .ref afx, .ref ald, .int (nI zz), .ref awy, .int lp, .ref alt, .ref abg, .int (wz_i tl)])), (ak2, .inl (cI, 32, .inl (wz_n kn))), (af2, .inl (cI, 32, .inl f2)), (as2, .inl (cI, 32, .inl s2)), (afa, .inl (cI, 3, .inl (wz_n fa)))] sz)) 0 0 (va_A [(aR, .inr (7, [.int (nI th), .int (nI mv), .ref ams, .ref ann, .int (nI n), .ref ak2, .ref af2, .ref as2, .ref ah2, .int (nI fc), .ref afa, .ref afx, .ref ald, .int (nI zz), .ref awy, .int lp, .ref alt, .ref abg, .int (wz_i tl)])), (ak2, .inl (cI, 32, .inl (wz_n kn))), (af2, .inl (cI, 32, .inl f2)), (as2, .inl (cI, 32, .inl s2)), (afa, .inl (cI, 3, .inl (wz_n fa)))] sz) := by
  refine Met.ofW (cc := cMo_fair) (maxL := 4) (ret := (some .int)) (by decide) rfl ?_
  intro p e s m args below meth c s₁ B hml hv
  obtain ⟨rfl, hsz, hP, hK, hD0, hN⟩ := hv
  have hx := B.exec
  have hb := B.bytes
  have hr := B.returns
  have hts := atoms_spec (ws := (.code yMo_fair cMo_fair 4 (some .int) :: wz_all)) B.pre
  have hw : ∀ w9 ∈ wz_all, w9.before [.ref aR, .int (nI f)].toArray s = true := fun w9 h => hts w9 (List.mem_cons_of_mem _ h)
  have hown : s.vm.findClass RMo = some m.cls := findClass_of_methodNamed B.named
  have hlocks := B.notSynchronized
  subst hsz
  have hD := hD0.self (sz := s.heap.size)
  generalize hAe : va_A [(aR, .inr (7, [.int (nI th), .int (nI mv), .ref ams, .ref ann, .int (nI n), .ref ak2, .ref af2, .ref as2, .ref ah2, .int (nI fc), .ref afa, .ref afx, .ref ald, .int (nI zz), .ref awy, .int lp, .ref alt, .ref abg, .int (wz_i tl)])), (ak2, .inl (cI, 32, .inl (wz_n kn))), (af2, .inl (cI, 32, .inl f2)), (as2, .inl (cI, 32, .inl s2)), (afa, .inl (cI, 3, .inl (wz_n fa)))] s.heap.size = A at hD ⊢
  have hA : ∀ q : Nat, s.heap.size ≤ q → A q := fun q h => by rw [← hAe]; exact Or.inr h
  have hS : va_S A s.heap s.heap [] := va_S.rf
  have hP : va_P (dC, dI) vwCl [(aR, .inr (7, [.int (nI th), .int (nI mv), .ref ams, .ref ann, .int (nI n), .ref ak2, .ref af2, .ref as2, .ref ah2, .int (nI fc), .ref afa, .ref afx, .ref ald, .int (nI zz), .ref awy, .int lp, .ref alt, .ref abg, .int (wz_i tl)])), (ak2, .inl (cI, 32, .inl (wz_n kn))), (af2, .inl (cI, 32, .inl f2)), (as2, .inl (cI, 32, .inl s2)), (afa, .inl (cI, 3, .inl (wz_n fa)))] s.heap := hP
  have hl := lv_entry ([.ref aR, .int (nI f)]) (n := 4) (Nat.le_of_ble_eq_true rfl)
  rw [lg_entry_eq]
  generalize (lg_sl ([.ref aR, .int (nI f)]) ++ List.replicate (4 - (lg_sl ([.ref aR, .int (nI f)])).length) Slot.unset).toArray = ls at hl ⊢
  have hl : lv_has ls 4 [(0, .ref aR), (1, .int (nI f))] := hl
  have cut53 : ∀ (bd : Bool) (hbd2 : bd = !pb f), ∀ (H : Heap) (locs : List Loc), va_P (dC, dI) vwCl [(aR, .inr (7, [.int (nI th), .int (nI mv), .ref ams, .ref ann, .int (nI n), .ref ak2, .ref af2, .ref as2, .ref ah2, .int (nI fc), .ref afa, .ref afx, .ref ald, .int (nI zz), .ref awy, .int lp, .ref alt, .ref abg, .int (wz_i tl)])), (ak2, .inl (cI, 32, .inl (wz_n kn))), (af2, .inl (cI, 32, .inl f2)), (as2, .inl (cI, 32, .inl s2)), (afa, .inl (cI, 3, .inl (wz_n fa)))] H → va_D A [(aR, .inr (7, [.int (nI th), .int (nI mv), .ref ams, .ref ann, .int (nI n), .ref ak2, .ref af2, .ref as2, .ref ah2, .int (nI fc), .ref afa, .ref afx, .ref ald, .int (nI zz), .ref awy, .int lp, .ref alt, .ref abg, .int (wz_i tl)])), (ak2, .inl (cI, 32, .inl (wz_n kn))), (af2, .inl (cI, 32, .inl f2)), (as2, .inl (cI, 32, .inl s2)), (afa, .inl (cI, 3, .inl (wz_n fa)))] → va_S A s.heap H locs → ∀ ls : Array Slot, lv_has ls 4 [(2, .int (wz_i bd)), (0, .ref aR), (1, .int (nI f))] → W p l e (headSpec (.code yMo_fair cMo_fair 4 (some .int) :: wz_all) ({ frames := 2, cells := 0, slots := 0, locals := 46 })).room s m [.ref aR, .int (nI f)].toArray below meth c H locs 0 0 (MQ below (va_Qi (fun (r : Int32) (_ : Unit) => r = nI (fc + 1)) (fun _ t => va_P (dC, dI) vwCl [(aR, .inr (7, [.int (nI 0), .int (nI mv), .ref ams, .ref ann, .int (nI n), .ref ak2, .ref af2, .ref as2, .ref ah2, .int (nI (fc + 1)), .ref afa, .ref afx, .ref ald, .int (nI zz), .ref awy, .int lp, .ref alt, .ref abg, .int (wz_i tl)])), (ak2, .inl (cI, 32, .inl (wz_n kn))), (af2, .inl (cI, 32, .inl f2)), (as2, .inl (cI, 32, .inl s2)), (afa, .inl (cI, 3, .inl (wz_n (wz_un fa fc f))))] t.heap ∧ va_K (dC, dI) vwCl (wz_T cI cJ cZ) t ∧ va_D A [(aR, .inr (7, [.int (nI 0), .int (nI mv), .ref ams, .ref ann, .int (nI n), .ref ak2, .ref af2, .ref as2, .ref ah2, .int (nI (fc + 1)), .ref afa, .ref afx, .ref ald, .int (nI zz), .ref awy, .int lp, .ref alt, .ref abg, .int (wz_i tl)])), (ak2, .inl (cI, 32, .inl (wz_n kn))), (af2, .inl (cI, 32, .inl f2)), (as2, .inl (cI, 32, .inl s2)), (afa, .inl (cI, 3, .inl (wz_n (wz_un fa fc f))))]) A) [.ref aR, .int (nI f)].toArray s 0 0 A) (F0 m 53 ls []) := by
    intro bd hbd2 H locs hP hD hS ls hl
    refine lv_aload_n hx hb dMo_fair_53 rfl (lv_at hl 1 rfl) ?_
    refine lv_iload_n hx hb dMo_fair_54 rfl (lv_at hl 0 rfl) ?_
    refine wz_ifz (tgt := 62) hx hb dMo_fair_55 (by decide) (fun h55_1 => ?_) (fun h55_1 => ?_)
    · skip
      refine lv_aload_n hx hb dMo_fair_62 rfl (lv_at hl 1 rfl) ?_
      refine va_get (D := (dC, dI)) (ci := 7) (v := .int (nI fc)) (C := RMo) (T := TMo) (N := 19) hx hb hw in_Mo hown hK hP 0 rfl rfl 9 (by decide) (hw _ w_509) (fun _ h9 => h9) rfl dMo_fair_63 ?_
      refine lv_iconst (v := nI 3) hx hb dMo_fair_66 (by decide) ?_
      refine wz_icmp_ne (x := fc) (y := 3) (tgt := 74) hx hb (by omega) (by omega) dMo_fair_67 (by decide) (fun h67_2 => ?_) (fun h67_2 => ?_)
      · skip
        refine lv_iconst (v := nI 0) hx hb dMo_fair_74 (by decide) ?_
        refine va_put (D := (dC, dI)) (ci := 7) (v := .int (nI 0)) (ty := .int) (C := RMo) (T := TMo) (N := 19) hx hb hw in_Mo tyMo tyMo_ok nmMo hown hK hP hD hS 0 rfl rfl 0 (by decide) (hw _ w_500) (fun _ h9 => h9) rfl (by decide +kernel) rfl rfl (Nat.le_of_ble_eq_true rfl) dMo_fair_75 (fun H locs hP hD hS => ?_)
        have hP : va_P (dC, dI) vwCl [(aR, .inr (7, [.int (nI 0), .int (nI mv), .ref ams, .ref ann, .int (nI n), .ref ak2, .ref af2, .ref as2, .ref ah2, .int (nI fc), .ref afa, .ref afx, .ref ald, .int (nI zz), .ref awy, .int lp, .ref alt, .ref abg, .int (wz_i tl)])), (ak2, .inl (cI, 32, .inl (wz_n kn))), (af2, .inl (cI, 32, .inl f2)), (as2, .inl (cI, 32, .inl s2)), (afa, .inl (cI, 3, .inl (wz_n fa)))] H := hP
        have hD : va_D A [(aR, .inr (7, [.int (nI 0), .int (nI mv), .ref ams, .ref ann, .int (nI n), .ref ak2, .ref af2, .ref as2, .ref ah2, .int (nI fc), .ref afa, .ref afx, .ref ald, .int (nI zz), .ref awy, .int lp, .ref alt, .ref abg, .int (wz_i tl)])), (ak2, .inl (cI, 32, .inl (wz_n kn))), (af2, .inl (cI, 32, .inl f2)), (as2, .inl (cI, 32, .inl s2)), (afa, .inl (cI, 3, .inl (wz_n fa)))] := hD
        refine lv_aload_n hx hb dMo_fair_78 rfl (lv_at hl 1 rfl) ?_
        refine va_get (D := (dC, dI)) (ci := 7) (v := .int (nI 0)) (C := RMo) (T := TMo) (N := 19) hx hb hw in_Mo hown hK hP 0 rfl rfl 0 (by decide) (hw _ w_500) (fun _ h9 => h9) rfl dMo_fair_79 ?_
        refine wz_ifN_eq (x := 0) (tgt := 87) hx hb (by omega) dMo_fair_82 (by decide) (fun h82_3 => ?_) (fun h82_3 => ?_)
        · skip
          refine lv_aload_n hx hb dMo_fair_87 rfl (lv_at hl 1 rfl) ?_
          refine va_get (D := (dC, dI)) (ci := 7) (v := .ref afa) (C := RMo) (T := TMo) (N := 19) hx hb hw in_Mo hown hK hP 0 rfl rfl 10 (by decide) (hw _ w_510) (fun _ h9 => h9) rfl dMo_fair_88 ?_
          refine lv_aload_n hx hb dMo_fair_91 rfl (lv_at hl 1 rfl) ?_
          refine va_get (D := (dC, dI)) (ci := 7) (v := .int (nI fc)) (C := RMo) (T := TMo) (N := 19) hx hb hw in_Mo hown hK hP 0 rfl rfl 9 (by decide) (hw _ w_509) (fun _ h9 => h9) rfl dMo_fair_92 ?_
          refine lv_iload_n hx hb dMo_fair_95 rfl (lv_at hl 2 rfl) ?_
          refine wz_astN (ws' := [(aR, .inr (7, [.int (nI 0), .int (nI mv), .ref ams, .ref ann, .int (nI n), .ref ak2, .ref af2, .ref as2, .ref ah2, .int (nI fc), .ref afa, .ref afx, .ref ald, .int (nI zz), .ref awy, .int lp, .ref alt, .ref abg, .int (wz_i tl)])), (ak2, .inl (cI, 32, .inl (wz_n kn))), (af2, .inl (cI, 32, .inl f2)), (as2, .inl (cI, 32, .inl s2)), (afa, .inl (cI, 3, .inl (wz_n (wz_un fa fc f))))]) hx hb hK hP hD hS 4 0 rfl rfl (i := fc) (by omega) (by decide) dMo_fair_96 rfl (fun H locs hP hD hS => ?_)
          refine lv_aload_n hx hb dMo_fair_97 rfl (lv_at hl 1 rfl) ?_
          refine lv_dup hx hb dMo_fair_98 rfl ?_
          refine va_get (D := (dC, dI)) (ci := 7) (v := .int (nI fc)) (C := RMo) (T := TMo) (N := 19) hx hb hw in_Mo hown hK hP 0 rfl rfl 9 (by decide) (hw _ w_509) (fun _ h9 => h9) rfl dMo_fair_99 ?_
          refine lv_iconst (v := nI 1) hx hb dMo_fair_102 (by decide) ?_
          refine wz_iadd hx hb dMo_fair_103 ?_
          refine va_put (D := (dC, dI)) (ci := 7) (v := .int (nI (fc + 1))) (ty := .int) (C := RMo) (T := TMo) (N := 19) hx hb hw in_Mo tyMo tyMo_ok nmMo hown hK hP hD hS 0 rfl rfl 9 (by decide) (hw _ w_509) (fun _ h9 => h9) rfl (by decide +kernel) rfl rfl (Nat.le_of_ble_eq_true rfl) dMo_fair_104 (fun H locs hP hD hS => ?_)
          have hP : va_P (dC, dI) vwCl [(aR, .inr (7, [.int (nI 0), .int (nI mv), .ref ams, .ref ann, .int (nI n), .ref ak2, .ref af2, .ref as2, .ref ah2, .int (nI (fc + 1)), .ref afa, .ref afx, .ref ald, .int (nI zz), .ref awy, .int lp, .ref alt, .ref abg, .int (wz_i tl)])), (ak2, .inl (cI, 32, .inl (wz_n kn))), (af2, .inl (cI, 32, .inl f2)), (as2, .inl (cI, 32, .inl s2)), (afa, .inl (cI, 3, .inl (wz_n (wz_un fa fc f))))] H := hP
          have hD : va_D A [(aR, .inr (7, [.int (nI 0), .int (nI mv), .ref ams, .ref ann, .int (nI n), .ref ak2, .ref af2, .ref as2, .ref ah2, .int (nI (fc + 1)), .ref afa, .ref afx, .ref ald, .int (nI zz), .ref awy, .int lp, .ref alt, .ref abg, .int (wz_i tl)])), (ak2, .inl (cI, 32, .inl (wz_n kn))), (af2, .inl (cI, 32, .inl f2)), (as2, .inl (cI, 32, .inl s2)), (afa, .inl (cI, 3, .inl (wz_n (wz_un fa fc f))))] := hD
          refine lv_aload_n hx hb dMo_fair_107 rfl (lv_at hl 1 rfl) ?_
          refine va_get (D := (dC, dI)) (ci := 7) (v := .int (nI (fc + 1))) (C := RMo) (T := TMo) (N := 19) hx hb hw in_Mo hown hK hP 0 rfl rfl 9 (by decide) (hw _ w_509) (fun _ h9 => h9) rfl dMo_fair_108 ?_
          exact wz_iret hx hb hr hlocks rfl hP hD hK hS dMo_fair_111
        · skip
          exact absurd h82_3 (by decide)
      · skip
        omega
    · skip
      rw [hbd2, hpf] at h55_1; cases h55_1
  have cut8 : ∀ (n8 : Nat) (i : Nat) (bd : Bool) (hi : i ≤ f + 1) (hbd : bd = ww_bd kn (ww_md kn fn sn f (f + 1)) i), f + 1 - i = n8 → ∀ (H : Heap) (locs : List Loc), va_P (dC, dI) vwCl [(aR, .inr (7, [.int (nI th), .int (nI mv), .ref ams, .ref ann, .int (nI n), .ref ak2, .ref af2, .ref as2, .ref ah2, .int (nI fc), .ref afa, .ref afx, .ref ald, .int (nI zz), .ref awy, .int lp, .ref alt, .ref abg, .int (wz_i tl)])), (ak2, .inl (cI, 32, .inl (wz_n kn))), (af2, .inl (cI, 32, .inl f2)), (as2, .inl (cI, 32, .inl s2)), (afa, .inl (cI, 3, .inl (wz_n fa)))] H → va_D A [(aR, .inr (7, [.int (nI th), .int (nI mv), .ref ams, .ref ann, .int (nI n), .ref ak2, .ref af2, .ref as2, .ref ah2, .int (nI fc), .ref afa, .ref afx, .ref ald, .int (nI zz), .ref awy, .int lp, .ref alt, .ref abg, .int (wz_i tl)])), (ak2, .inl (cI, 32, .inl (wz_n kn))), (af2, .inl (cI, 32, .inl f2)), (as2, .inl (cI, 32, .inl s2)), (afa, .inl (cI, 3, .inl (wz_n fa)))] → va_S A s.heap H locs → ∀ ls : Array Slot, lv_has ls 4 [(3, .int (nI i)), (2, .int (wz_i bd)), (0, .ref aR), (1, .int (nI f))] → W p l e (headSpec (.code yMo_fair cMo_fair 4 (some .int) :: wz_all) ({ frames := 2, cells := 0, slots := 0, locals := 46 })).room s m [.ref aR, .int (nI f)].toArray below meth c H locs 0 0 (MQ below (va_Qi (fun (r : Int32) (_ : Unit) => r = nI (fc + 1)) (fun _ t => va_P (dC, dI) vwCl [(aR, .inr (7, [.int (nI 0), .int (nI mv), .ref ams, .ref ann, .int (nI n), .ref ak2, .ref af2, .ref as2, .ref ah2, .int (nI (fc + 1)), .ref afa, .ref afx, .ref ald, .int (nI zz), .ref awy, .int lp, .ref alt, .ref abg, .int (wz_i tl)])), (ak2, .inl (cI, 32, .inl (wz_n kn))), (af2, .inl (cI, 32, .inl f2)), (as2, .inl (cI, 32, .inl s2)), (afa, .inl (cI, 3, .inl (wz_n (wz_un fa fc f))))] t.heap ∧ va_K (dC, dI) vwCl (wz_T cI cJ cZ) t ∧ va_D A [(aR, .inr (7, [.int (nI 0), .int (nI mv), .ref ams, .ref ann, .int (nI n), .ref ak2, .ref af2, .ref as2, .ref ah2, .int (nI (fc + 1)), .ref afa, .ref afx, .ref ald, .int (nI zz), .ref awy, .int lp, .ref alt, .ref abg, .int (wz_i tl)])), (ak2, .inl (cI, 32, .inl (wz_n kn))), (af2, .inl (cI, 32, .inl f2)), (as2, .inl (cI, 32, .inl s2)), (afa, .inl (cI, 3, .inl (wz_n (wz_un fa fc f))))]) A) [.ref aR, .int (nI f)].toArray s 0 0 A) (F0 m 8 ls []) := by
    intro n8
    induction n8 using Nat.strongRecOn with
    | _ n8 ih8 =>
    intro i bd hi hbd hm8 H locs hP hD hS ls hl
    refine lv_iload_n hx hb dMo_fair_8 rfl (lv_at hl 0 rfl) ?_
    refine lv_iload_n hx hb dMo_fair_9 rfl (lv_at hl 3 rfl) ?_
    refine wz_icmp_gt (x := i) (y := f) (tgt := 53) hx hb (by omega) (by omega) dMo_fair_10 (by decide) (fun h10_4 => ?_) (fun h10_4 => ?_)
    · skip
      exact cut53 bd (by rw [← ww_bd_pb hwf hn hpb hf, hbd]; first | rw [show i = f + 1 by omega] | (have q9 := ww_bd_stop (hbd ▸ h_none) (f + 1 - i); rw [show i + (f + 1 - i) = f + 1 by omega] at q9; rw [q9, ← hbd, h_none])) _ _ hP hD hS _ (lv_sub hl [1, 2, 3] rfl)
    · skip
      refine lv_iload_n hx hb dMo_fair_13 rfl (lv_at hl 1 rfl) ?_
      refine wz_ifnz (tgt := 53) hx hb dMo_fair_14 (by decide) (fun h14_5 => ?_) (fun h14_5 => ?_)
      · skip
        exact cut53 bd (by rw [← ww_bd_pb hwf hn hpb hf, hbd]; first | rw [show i = f + 1 by omega] | (have q9 := ww_bd_stop (hbd ▸ h14_5) (f + 1 - i); rw [show i + (f + 1 - i) = f + 1 by omega] at q9; rw [q9, ← hbd, h14_5])) _ _ hP hD hS _ (lv_sub hl [1, 2, 3] rfl)
      · skip
        refine lv_aload_n hx hb dMo_fair_17 rfl (lv_at hl 2 rfl) ?_
        refine lv_iload_n hx hb dMo_fair_18 rfl (lv_at hl 3 rfl) ?_
        refine wz_calll (wc := [(aR, .inr (7, [.int (nI th), .int (nI mv), .ref ams, .ref ann, .int (nI n), .ref ak2, .ref af2, .ref as2, .ref ah2, .int (nI fc), .ref afa, .ref afx, .ref ald, .int (nI zz), .ref awy, .int lp, .ref alt, .ref abg, .int (wz_i tl)])), (ak2, .inl (cI, 32, .inl (wz_n kn))), (af2, .inl (cI, 32, .inl f2)), (as2, .inl (cI, 32, .inl s2))]) (wr := [(afa, .inl (cI, 3, .inl (wz_n fa)))]) (w1 := [(aR, .inr (7, [.int (nI th), .int (nI mv), .ref ams, .ref ann, .int (nI n), .ref ak2, .ref af2, .ref as2, .ref ah2, .int (nI fc), .ref afa, .ref afx, .ref ald, .int (nI zz), .ref awy, .int lp, .ref alt, .ref abg, .int (wz_i tl)])), (ak2, .inl (cI, 32, .inl (wz_n kn))), (af2, .inl (cI, 32, .inl f2)), (as2, .inl (cI, 32, .inl s2))]) (ws' := [(aR, .inr (7, [.int (nI th), .int (nI mv), .ref ams, .ref ann, .int (nI n), .ref ak2, .ref af2, .ref as2, .ref ah2, .int (nI fc), .ref afa, .ref afx, .ref ald, .int (nI zz), .ref awy, .int lp, .ref alt, .ref abg, .int (wz_i tl)])), (ak2, .inl (cI, 32, .inl (wz_n kn))), (af2, .inl (cI, 32, .inl f2)), (as2, .inl (cI, 32, .inl s2)), (afa, .inl (cI, 3, .inl (wz_n fa)))]) hP hD hS hA [0, 1, 2, 3] [4] [1, 2, 3, 4, 0] rfl rfl (by decide) (by decide) (by decide) rfl rfl (va_runV (As := [.int (nI f)]) (rest := []) ⟨hx, hb, hml, hown, hts⟩ (kMo_madeOf l dC dI cI cJ cZ H.size aR ams ann ak2 af2 as2 ah2 afa afx ald awy alt abg th mv n fc zz lp tl kn f2 s2 fn sn f hf hwf hn hfi hse) (cwV 1 hts (wz_gV w_593 w_594 w_14 w_41 w_595) rfl rfl rfl (by decide +kernel) ⟨Nat.le_of_ble_eq_true rfl, Nat.le_of_ble_eq_true rfl⟩) (wz_preV (q := (RMo, TMo, 19)) (ci := 7) hN hK hP hD [0, 1, 2, 3] (by decide) rfl rfl 0 rfl rfl) rfl rfl hl.1 rfl (lv_room (Nat.le_of_ble_eq_true rfl)) dMo_fair_19 ⟨Nat.le_refl _, Nat.le_refl _⟩) (fun H locs hP hD hS => ?_)
        refine lv_iload_n hx hb dMo_fair_22 rfl (lv_at hl 0 rfl) ?_
        refine lv_lshr hx hb dMo_fair_23 rfl ?_
        refine lv_lconst (v := 1) hx hb dMo_fair_24 (by decide) ?_
        refine lv_land hx hb dMo_fair_25 ?_
        refine W.eq (g2 := F0 m 26 ls [.long (ww_bit (ww_m (ww_md kn fn sn f (f + 1)) i))]) (by rw [show (((ww_md kn fn sn f (f + 1)) >>> ((nI i).toInt64 &&& 63)) &&& 1 : Int64) = ww_bit (ww_m (ww_md kn fn sn f (f + 1)) i) from (by rw [ww_sshr _ (by omega)])]) ?_
        refine lv_lconst (v := 1) hx hb dMo_fair_26 (by decide) ?_
        refine wz_lcmp_ne (tgt := 45) hx hb dMo_fair_27 dMo_fair_28 (by decide) (fun h27_6 => ?_) (fun h27_6 => ?_)
        · skip
          refine lv_iconst (v := nI 0) hx hb dMo_fair_45 (by decide) ?_
          refine lv_istore_n (lv' := [(2, .int (nI 0)), (3, .int (nI i)), (0, .ref aR), (1, .int (nI f))]) hx hb dMo_fair_46 rfl hl (by decide) rfl (fun ls hl => ?_)
          refine lv_iinc (v := nI (i + 1)) (lv' := [(3, .int (nI (i + 1))), (2, .int (nI 0)), (0, .ref aR), (1, .int (nI f))]) hx hb dMo_fair_47 hl (k := 1) rfl ((nI_succ _).symm) (by decide) rfl (fun ls hl => ?_)
          refine lv_goto (tgt := 8) hx hb dMo_fair_50 (by decide) ?_
          exact ih8 _ (by omega) (i + 1) false (by omega) (by first | (show true = (ww_bd kn (ww_md kn fn sn f (f + 1)) i || (ww_m (ww_md kn fn sn f (f + 1)) i && decide (4 < kn i))); rw [← hbd, h14_5, (ww_bit_1 _).mp h27_6, decide_eq_true h_none]; rfl) | (show false = (ww_bd kn (ww_md kn fn sn f (f + 1)) i || (ww_m (ww_md kn fn sn f (f + 1)) i && decide (4 < kn i))); rw [← hbd, h14_5, decide_eq_false (Nat.not_lt.mpr h_none), Bool.and_false]; rfl) | (show false = (ww_bd kn (ww_md kn fn sn f (f + 1)) i || (ww_m (ww_md kn fn sn f (f + 1)) i && decide (4 < kn i))); rw [← hbd, h14_5, ww_bit_n h27_6]; rfl)) rfl _ _ hP hD hS _ hl
        · skip
          refine lv_aload_n hx hb dMo_fair_31 rfl (lv_at hl 2 rfl) ?_
          refine va_get (D := (dC, dI)) (ci := 7) (v := .ref ak2) (C := RMo) (T := TMo) (N := 19) hx hb hw in_Mo hown hK hP 0 rfl rfl 5 (by decide) (hw _ w_505) (fun _ h9 => h9) rfl dMo_fair_32 ?_
          refine lv_iload_n hx hb dMo_fair_35 rfl (lv_at hl 0 rfl) ?_
          refine wz_aldN hx hb hK hP 1 0 rfl rfl (i := i) (by omega) (by decide) dMo_fair_36 ?_
          refine lv_iconst (v := nI 4) hx hb dMo_fair_37 (by decide) ?_
          refine wz_icmp_le (x := kn i) (y := 4) (tgt := 45) hx hb (by have q9 := (ww_wf_ix hwf hn (i := i) (by omega)).2.2; omega) (by omega) dMo_fair_38 (by decide) (fun h38_7 => ?_) (fun h38_7 => ?_)
          · skip
            refine lv_iconst (v := nI 0) hx hb dMo_fair_45 (by decide) ?_
            refine lv_istore_n (lv' := [(2, .int (nI 0)), (3, .int (nI i)), (0, .ref aR), (1, .int (nI f))]) hx hb dMo_fair_46 rfl hl (by decide) rfl (fun ls hl => ?_)
            refine lv_iinc (v := nI (i + 1)) (lv' := [(3, .int (nI (i + 1))), (2, .int (nI 0)), (0, .ref aR), (1, .int (nI f))]) hx hb dMo_fair_47 hl (k := 1) rfl ((nI_succ _).symm) (by decide) rfl (fun ls hl => ?_)
            refine lv_goto (tgt := 8) hx hb dMo_fair_50 (by decide) ?_
            exact ih8 _ (by omega) (i + 1) false (by omega) (by first | (show true = (ww_bd kn (ww_md kn fn sn f (f + 1)) i || (ww_m (ww_md kn fn sn f (f + 1)) i && decide (4 < kn i))); rw [← hbd, h14_5, (ww_bit_1 _).mp h27_6, decide_eq_true h38_7]; rfl) | (show false = (ww_bd kn (ww_md kn fn sn f (f + 1)) i || (ww_m (ww_md kn fn sn f (f + 1)) i && decide (4 < kn i))); rw [← hbd, h14_5, decide_eq_false (Nat.not_lt.mpr h38_7), Bool.and_false]; rfl) | (show false = (ww_bd kn (ww_md kn fn sn f (f + 1)) i || (ww_m (ww_md kn fn sn f (f + 1)) i && decide (4 < kn i))); rw [← hbd, h14_5, ww_bit_n h27_6]; rfl)) rfl _ _ hP hD hS _ hl
          · skip
            refine lv_iconst (v := nI 1) hx hb dMo_fair_41 (by decide) ?_
            refine lv_goto (tgt := 46) hx hb dMo_fair_42 (by decide) ?_
            refine lv_istore_n (lv' := [(2, .int (nI 1)), (3, .int (nI i)), (0, .ref aR), (1, .int (nI f))]) hx hb dMo_fair_46 rfl hl (by decide) rfl (fun ls hl => ?_)
            refine lv_iinc (v := nI (i + 1)) (lv' := [(3, .int (nI (i + 1))), (2, .int (nI 1)), (0, .ref aR), (1, .int (nI f))]) hx hb dMo_fair_47 hl (k := 1) rfl ((nI_succ _).symm) (by decide) rfl (fun ls hl => ?_)
            refine lv_goto (tgt := 8) hx hb dMo_fair_50 (by decide) ?_
            exact ih8 _ (by omega) (i + 1) true (by omega) (by first | (show true = (ww_bd kn (ww_md kn fn sn f (f + 1)) i || (ww_m (ww_md kn fn sn f (f + 1)) i && decide (4 < kn i))); rw [← hbd, h14_5, (ww_bit_1 _).mp h27_6, decide_eq_true h38_7]; rfl) | (show false = (ww_bd kn (ww_md kn fn sn f (f + 1)) i || (ww_m (ww_md kn fn sn f (f + 1)) i && decide (4 < kn i))); rw [← hbd, h14_5, decide_eq_false (Nat.not_lt.mpr h38_7), Bool.and_false]; rfl) | (show false = (ww_bd kn (ww_md kn fn sn f (f + 1)) i || (ww_m (ww_md kn fn sn f (f + 1)) i && decide (4 < kn i))); rw [← hbd, h14_5, ww_bit_n h27_6]; rfl)) rfl _ _ hP hD hS _ hl
  refine lv_aload_n hx hb dMo_fair_0 rfl (lv_at hl 0 rfl) ?_
  refine lv_iload_n hx hb dMo_fair_1 rfl (lv_at hl 1 rfl) ?_
  refine wz_calli (wc := [(aR, .inr (7, [.int (nI th), .int (nI mv), .ref ams, .ref ann, .int (nI n), .ref ak2, .ref af2, .ref as2, .ref ah2, .int (nI fc), .ref afa, .ref afx, .ref ald, .int (nI zz), .ref awy, .int lp, .ref alt, .ref abg, .int (wz_i tl)]))]) (wr := [(ak2, .inl (cI, 32, .inl (wz_n kn))), (af2, .inl (cI, 32, .inl f2)), (as2, .inl (cI, 32, .inl s2)), (afa, .inl (cI, 3, .inl (wz_n fa)))]) (w1 := [(aR, .inr (7, [.int (nI th), .int (nI mv), .ref ams, .ref ann, .int (nI n), .ref ak2, .ref af2, .ref as2, .ref ah2, .int (nI fc), .ref afa, .ref afx, .ref ald, .int (nI zz), .ref awy, .int lp, .ref alt, .ref abg, .int (wz_i tl)]))]) (ws' := [(aR, .inr (7, [.int (nI th), .int (nI mv), .ref ams, .ref ann, .int (nI n), .ref ak2, .ref af2, .ref as2, .ref ah2, .int (nI fc), .ref afa, .ref afx, .ref ald, .int (nI zz), .ref awy, .int lp, .ref alt, .ref abg, .int (wz_i tl)])), (ak2, .inl (cI, 32, .inl (wz_n kn))), (af2, .inl (cI, 32, .inl f2)), (as2, .inl (cI, 32, .inl s2)), (afa, .inl (cI, 3, .inl (wz_n fa)))]) hP hD hS hA [0] [1, 2, 3, 4] [4, 0, 1, 2, 3] rfl rfl (by decide) (by decide) (by decide) rfl rfl (va_runV (As := [.int (nI f)]) (rest := []) ⟨hx, hb, hml, hown, hts⟩ (kMo_noFormula l dC dI cI cJ cZ s.heap.size aR ams ann ak2 af2 as2 ah2 afa afx ald awy alt abg th mv n fc zz lp tl (nI f)) (cwV 1 hts (wz_gV w_583 w_584 w_12 w_41 w_585) rfl rfl rfl (by decide +kernel) ⟨Nat.le_of_ble_eq_true rfl, Nat.le_of_ble_eq_true rfl⟩) (wz_preV (q := (RMo, TMo, 19)) (ci := 7) hN hK hP hD [0] (by decide) rfl rfl 0 rfl rfl) rfl rfl hl.1 rfl (lv_room (Nat.le_of_ble_eq_true rfl)) dMo_fair_2 ⟨Nat.le_refl _, Nat.le_refl _⟩) (fun H locs hP hD hS => ?_)
  refine lv_istore_n (lv' := [(2, .int (wz_i (!ww_hs n (nI f)))), (0, .ref aR), (1, .int (nI f))]) hx hb dMo_fair_5 rfl hl (by decide) rfl (fun ls hl => ?_)
  refine lv_iconst (v := nI 0) hx hb dMo_fair_6 (by decide) ?_
  refine lv_istore_n (lv' := [(3, .int (nI 0)), (2, .int (wz_i (!ww_hs n (nI f)))), (0, .ref aR), (1, .int (nI f))]) hx hb dMo_fair_7 rfl hl (by decide) rfl (fun ls hl => ?_)
  exact cut8 _ 0 (!ww_hs n (nI f)) (by omega) (by rw [ww_hs_N hf (by omega)]; rfl) rfl _ _ hP hD hS _ hl
