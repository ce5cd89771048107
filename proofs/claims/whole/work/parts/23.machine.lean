/-! contracts, laid by a program of mine. -/
set_option maxHeartbeats 4000000 in
set_option maxRecDepth 100000 in
theorem kMa_isFull (l : Launch) (dC : Nat → ClassId) (dI : Nat → Nat → Nat) (cI cJ cZ : ClassId) (sz : Nat) (aM : Nat) (abm : Nat) (aso : Nat) (mv : Nat) (hmv : mv ≤ 16) : Met l yMa_isFull (.code yMa_isFull cMa_isFull 1 (some .boolean) :: wz_all) ({ frames := 0, cells := 0, slots := 0, locals := 0 }) (wz_Pc (dC, dI) vwCl (wz_T cI cJ cZ) [.ref aM] sz [(aM, .inr (1, [.ref abm, .ref aso, .int (nI mv)]))]) (va_Qi (fun (r : Int32) (_ : Unit) => r = wz_i (decide (16 ≤ mv))) (fun _ t => va_P (dC, dI) vwCl [(aM, .inr (1, [.ref abm, .ref aso, .int (nI mv)]))] t.heap ∧ va_K (dC, dI) vwCl (wz_T cI cJ cZ) t ∧ va_D (va_A [(aM, .inr (1, [.ref abm, .ref aso, .int (nI mv)]))] sz) [(aM, .inr (1, [.ref abm, .ref aso, .int (nI mv)]))]) (va_A [(aM, .inr (1, [.ref abm, .ref aso, .int (nI mv)]))] sz)) 0 0 (va_A [(aM, .inr (1, [.ref abm, .ref aso, .int (nI mv)]))] sz) := by
  refine Met.ofW (cc := cMa_isFull) (maxL := 1) (ret := (some .boolean)) (by decide) rfl ?_
  intro p e s m args below meth c s₁ B hml hv
  obtain ⟨rfl, hsz, hP, hK, hD0, hN⟩ := hv
  have hx := B.exec
  have hb := B.bytes
  have hr := B.returns
  have hts := atoms_spec (ws := (.code yMa_isFull cMa_isFull 1 (some .boolean) :: wz_all)) B.pre
  have hw : ∀ w9 ∈ wz_all, w9.before [.ref aM].toArray s = true := fun w9 h => hts w9 (List.mem_cons_of_mem _ h)
  have hown : s.vm.findClass RMa = some m.cls := findClass_of_methodNamed B.named
  have hlocks := B.notSynchronized
  subst hsz
  have hD := hD0.self (sz := s.heap.size)
  generalize hAe : va_A [(aM, .inr (1, [.ref abm, .ref aso, .int (nI mv)]))] s.heap.size = A at hD ⊢
  have hA : ∀ q : Nat, s.heap.size ≤ q → A q := fun q h => by rw [← hAe]; exact Or.inr h
  have hS : va_S A s.heap s.heap [] := va_S.rf
  have hP : va_P (dC, dI) vwCl [(aM, .inr (1, [.ref abm, .ref aso, .int (nI mv)]))] s.heap := hP
  have hl := lv_entry ([.ref aM]) (n := 1) (Nat.le_of_ble_eq_true rfl)
  rw [lg_entry_eq]
  generalize (lg_sl ([.ref aM]) ++ List.replicate (1 - (lg_sl ([.ref aM])).length) Slot.unset).toArray = ls at hl ⊢
  have hl : lv_has ls 1 [(0, .ref aM)] := hl
  refine lv_aload_n hx hb dMa_isFull_0 rfl (lv_at hl 0 rfl) ?_
  refine va_get (D := (dC, dI)) (ci := 1) (v := .int (nI mv)) (C := RMa) (T := TMa) (N := 3) hx hb hw in_Ma hown hK hP 0 rfl rfl 2 (by decide) (hw _ w_78) (fun _ h9 => h9) rfl dMa_isFull_1 ?_
  refine lv_bipush (v := nI 16) hx hb dMa_isFull_4 (by decide) ?_
  refine wz_icmp_lt (x := mv) (y := 16) (tgt := 13) hx hb (by omega) (by omega) dMa_isFull_6 (by decide) (fun h6_1 => ?_) (fun h6_1 => ?_)
  · skip
    refine lv_iconst (v := nI 0) hx hb dMa_isFull_13 (by decide) ?_
    exact wz_zret (b := false) hx hb hr hlocks (by first | rw [decide_eq_true (by omega)] | rw [decide_eq_false (by omega)]) hP hD hK hS dMa_isFull_14
  · skip
    refine lv_iconst (v := nI 1) hx hb dMa_isFull_9 (by decide) ?_
    refine lv_goto (tgt := 14) hx hb dMa_isFull_10 (by decide) ?_
    exact wz_zret (b := true) hx hb hr hlocks (by first | rw [decide_eq_true (by omega)] | rw [decide_eq_false (by omega)]) hP hD hK hS dMa_isFull_14
set_option maxHeartbeats 4000000 in
set_option maxRecDepth 100000 in
/-- the followers of k -/
theorem kMa_nextOf (l : Launch) (dC : Nat → ClassId) (dI : Nat → Nat → Nat) (cI cJ cZ : ClassId) (sz : Nat) (aM : Nat) (abm : Nat) (aso : Nat) (mv : Nat) (bm : Nat → Int64) (k : Nat) (hk : k < 64) : Met l yMa_nextOf (.code yMa_nextOf cMa_nextOf 2 (some .long) :: wz_all) ({ frames := 0, cells := 0, slots := 0, locals := 0 }) (wz_Pc (dC, dI) vwCl (wz_T cI cJ cZ) [.ref aM, .int (nI k)] sz [(aM, .inr (1, [.ref abm, .ref aso, .int (nI mv)])), (abm, .inl (cJ, 64, .inr (.inl bm)))]) (va_Ql (fun (r : Int64) (_ : Unit) => r = ww_fo (bm k) k) (fun _ t => va_P (dC, dI) vwCl [(aM, .inr (1, [.ref abm, .ref aso, .int (nI mv)])), (abm, .inl (cJ, 64, .inr (.inl bm)))] t.heap ∧ va_K (dC, dI) vwCl (wz_T cI cJ cZ) t ∧ va_D (va_A [(aM, .inr (1, [.ref abm, .ref aso, .int (nI mv)])), (abm, .inl (cJ, 64, .inr (.inl bm)))] sz) [(aM, .inr (1, [.ref abm, .ref aso, .int (nI mv)])), (abm, .inl (cJ, 64, .inr (.inl bm)))]) (va_A [(aM, .inr (1, [.ref abm, .ref aso, .int (nI mv)])), (abm, .inl (cJ, 64, .inr (.inl bm)))] sz)) 0 0 (va_A [(aM, .inr (1, [.ref abm, .ref aso, .int (nI mv)])), (abm, .inl (cJ, 64, .inr (.inl bm)))] sz) := by
  refine Met.ofW (cc := cMa_nextOf) (maxL := 2) (ret := (some .long)) (by decide) rfl ?_
  intro p e s m args below meth c s₁ B hml hv
  obtain ⟨rfl, hsz, hP, hK, hD0, hN⟩ := hv
  have hx := B.exec
  have hb := B.bytes
  have hr := B.returns
  have hts := atoms_spec (ws := (.code yMa_nextOf cMa_nextOf 2 (some .long) :: wz_all)) B.pre
  have hw : ∀ w9 ∈ wz_all, w9.before [.ref aM, .int (nI k)].toArray s = true := fun w9 h => hts w9 (List.mem_cons_of_mem _ h)
  have hown : s.vm.findClass RMa = some m.cls := findClass_of_methodNamed B.named
  have hlocks := B.notSynchronized
  subst hsz
  have hD := hD0.self (sz := s.heap.size)
  generalize hAe : va_A [(aM, .inr (1, [.ref abm, .ref aso, .int (nI mv)])), (abm, .inl (cJ, 64, .inr (.inl bm)))] s.heap.size = A at hD ⊢
  have hA : ∀ q : Nat, s.heap.size ≤ q → A q := fun q h => by rw [← hAe]; exact Or.inr h
  have hS : va_S A s.heap s.heap [] := va_S.rf
  have hP : va_P (dC, dI) vwCl [(aM, .inr (1, [.ref abm, .ref aso, .int (nI mv)])), (abm, .inl (cJ, 64, .inr (.inl bm)))] s.heap := hP
  have hl := lv_entry ([.ref aM, .int (nI k)]) (n := 2) (Nat.le_of_ble_eq_true rfl)
  rw [lg_entry_eq]
  generalize (lg_sl ([.ref aM, .int (nI k)]) ++ List.replicate (2 - (lg_sl ([.ref aM, .int (nI k)])).length) Slot.unset).toArray = ls at hl ⊢
  have hl : lv_has ls 2 [(0, .ref aM), (1, .int (nI k))] := hl
  refine lv_aload_n hx hb dMa_nextOf_0 rfl (lv_at hl 0 rfl) ?_
  refine va_get (D := (dC, dI)) (ci := 1) (v := .ref abm) (C := RMa) (T := TMa) (N := 3) hx hb hw in_Ma hown hK hP 0 rfl rfl 0 (by decide) (hw _ w_76) (fun _ h9 => h9) rfl dMa_nextOf_1 ?_
  refine lv_iload_n hx hb dMa_nextOf_4 rfl (lv_at hl 1 rfl) ?_
  refine wz_lald hx hb hK hP 1 1 rfl rfl (i := k) (by omega) (by decide) dMa_nextOf_5 ?_
  refine lv_lconst (v := 0) hx hb dMa_nextOf_6 (by decide) ?_
  refine wz_lcmp_ne (tgt := 17) hx hb dMa_nextOf_7 dMa_nextOf_8 (by decide) (fun h7_1 => ?_) (fun h7_1 => ?_)
  · skip
    refine lv_aload_n hx hb dMa_nextOf_17 rfl (lv_at hl 0 rfl) ?_
    refine va_get (D := (dC, dI)) (ci := 1) (v := .ref abm) (C := RMa) (T := TMa) (N := 3) hx hb hw in_Ma hown hK hP 0 rfl rfl 0 (by decide) (hw _ w_76) (fun _ h9 => h9) rfl dMa_nextOf_18 ?_
    refine lv_iload_n hx hb dMa_nextOf_21 rfl (lv_at hl 1 rfl) ?_
    refine wz_lald hx hb hK hP 1 1 rfl rfl (i := k) (by omega) (by decide) dMa_nextOf_22 ?_
    exact wz_lret hx hb hr hlocks (by unfold ww_fo; simp [h7_1]) hP hD hK hS dMa_nextOf_23
  · skip
    refine lv_lconst (v := 1) hx hb dMa_nextOf_11 (by decide) ?_
    refine lv_iload_n hx hb dMa_nextOf_12 rfl (lv_at hl 1 rfl) ?_
    refine wz_lshl1 hx hb (by omega) dMa_nextOf_13 ?_
    refine lv_goto (tgt := 23) hx hb dMa_nextOf_14 (by decide) ?_
    exact wz_lret hx hb hr hlocks (by unfold ww_fo; simp [h7_1]) hP hD hK hS dMa_nextOf_23
set_option maxHeartbeats 4000000 in
set_option maxRecDepth 100000 in
/-- the states with some follower in x -/
theorem kMa_sourcesOf (l : Launch) (dC : Nat → ClassId) (dI : Nat → Nat → Nat) (cI cJ cZ : ClassId) (sz : Nat) (aM : Nat) (abm : Nat) (aso : Nat) (mv : Nat) (so : Nat → Int64) (x : Int64) (nx : Nat → Int64) (hSo : ww_So nx so) : Met l yMa_sourcesOf (.code yMa_sourcesOf cMa_sourcesOf 8 (some .long) :: wz_all) ({ frames := 3, cells := 0, slots := 0, locals := 64 }) (wz_Pc (dC, dI) vwCl (wz_T cI cJ cZ) [.ref aM, .long x] sz [(aM, .inr (1, [.ref abm, .ref aso, .int (nI mv)])), (aso, .inl (cJ, 64, .inr (.inl so)))]) (va_Ql (fun (r : Int64) (_ : Unit) => r = ww_bf nx x) (fun _ t => va_P (dC, dI) vwCl [(aM, .inr (1, [.ref abm, .ref aso, .int (nI mv)])), (aso, .inl (cJ, 64, .inr (.inl so)))] t.heap ∧ va_K (dC, dI) vwCl (wz_T cI cJ cZ) t ∧ va_D (va_A [(aM, .inr (1, [.ref abm, .ref aso, .int (nI mv)])), (aso, .inl (cJ, 64, .inr (.inl so)))] sz) [(aM, .inr (1, [.ref abm, .ref aso, .int (nI mv)])), (aso, .inl (cJ, 64, .inr (.inl so)))]) (va_A [(aM, .inr (1, [.ref abm, .ref aso, .int (nI mv)])), (aso, .inl (cJ, 64, .inr (.inl so)))] sz)) 0 0 (va_A [(aM, .inr (1, [.ref abm, .ref aso, .int (nI mv)])), (aso, .inl (cJ, 64, .inr (.inl so)))] sz) := by
  refine Met.ofW (cc := cMa_sourcesOf) (maxL := 8) (ret := (some .long)) (by decide) rfl ?_
  intro p e s m args below meth c s₁ B hml hv
  obtain ⟨rfl, hsz, hP, hK, hD0, hN⟩ := hv
  have hx := B.exec
  have hb := B.bytes
  have hr := B.returns
  have hts := atoms_spec (ws := (.code yMa_sourcesOf cMa_sourcesOf 8 (some .long) :: wz_all)) B.pre
  have hw : ∀ w9 ∈ wz_all, w9.before [.ref aM, .long x].toArray s = true := fun w9 h => hts w9 (List.mem_cons_of_mem _ h)
  have hown : s.vm.findClass RMa = some m.cls := findClass_of_methodNamed B.named
  have hlocks := B.notSynchronized
  subst hsz
  have hD := hD0.self (sz := s.heap.size)
  generalize hAe : va_A [(aM, .inr (1, [.ref abm, .ref aso, .int (nI mv)])), (aso, .inl (cJ, 64, .inr (.inl so)))] s.heap.size = A at hD ⊢
  have hA : ∀ q : Nat, s.heap.size ≤ q → A q := fun q h => by rw [← hAe]; exact Or.inr h
  have hS : va_S A s.heap s.heap [] := va_S.rf
  have hP : va_P (dC, dI) vwCl [(aM, .inr (1, [.ref abm, .ref aso, .int (nI mv)])), (aso, .inl (cJ, 64, .inr (.inl so)))] s.heap := hP
  have hl := lv_entry ([.ref aM, .long x]) (n := 8) (Nat.le_of_ble_eq_true rfl)
  rw [lg_entry_eq]
  generalize (lg_sl ([.ref aM, .long x]) ++ List.replicate (8 - (lg_sl ([.ref aM, .long x])).length) Slot.unset).toArray = ls at hl ⊢
  have hl : lv_has ls 8 [(0, .ref aM), (1, .long x)] := hl
  have cut8 : ∀ (n8 : Nat) (k : Nat) (fo : Int64) (re : Int64) (hk : k ≤ 64) (hfo : fo = (ww_gi so k x).1) (hre : re = (ww_gi so k x).2), 64 - k = n8 → ∀ (H : Heap) (locs : List Loc), va_P (dC, dI) vwCl [(aM, .inr (1, [.ref abm, .ref aso, .int (nI mv)])), (aso, .inl (cJ, 64, .inr (.inl so)))] H → va_D A [(aM, .inr (1, [.ref abm, .ref aso, .int (nI mv)])), (aso, .inl (cJ, 64, .inr (.inl so)))] → va_S A s.heap H locs → ∀ ls : Array Slot, lv_has ls 8 [(7, .int (nI k)), (5, .long re), (3, .long fo), (0, .ref aM), (1, .long x)] → W p l e (headSpec (.code yMa_sourcesOf cMa_sourcesOf 8 (some .long) :: wz_all) ({ frames := 3, cells := 0, slots := 0, locals := 64 })).room s m [.ref aM, .long x].toArray below meth c H locs 0 0 (MQ below (va_Ql (fun (r : Int64) (_ : Unit) => r = ww_bf nx x) (fun _ t => va_P (dC, dI) vwCl [(aM, .inr (1, [.ref abm, .ref aso, .int (nI mv)])), (aso, .inl (cJ, 64, .inr (.inl so)))] t.heap ∧ va_K (dC, dI) vwCl (wz_T cI cJ cZ) t ∧ va_D A [(aM, .inr (1, [.ref abm, .ref aso, .int (nI mv)])), (aso, .inl (cJ, 64, .inr (.inl so)))]) A) [.ref aM, .long x].toArray s 0 0 A) (F0 m 8 ls []) := by
    intro n8
    induction n8 using Nat.strongRecOn with
    | _ n8 ih8 =>
    intro k fo re hk hfo hre hm8 H locs hP hD hS ls hl
    refine lv_iload hx hb dMa_sourcesOf_8 (lv_at hl 0 rfl) ?_
    refine lv_bipush (v := nI 64) hx hb dMa_sourcesOf_10 (by decide) ?_
    refine wz_icmp_ge (x := k) (y := 64) (tgt := 50) hx hb (by omega) (by omega) dMa_sourcesOf_12 (by decide) (fun h12_1 => ?_) (fun h12_1 => ?_)
    · skip
      refine lv_lload_n hx hb dMa_sourcesOf_50 rfl (lv_at hl 2 rfl) ?_
      exact wz_lret hx hb hr hlocks (by rw [hfo]; first | exact ww_gi_end hSo x (Or.inl (by omega)) | exact ww_gi_end hSo x (Or.inr (by rw [← hre]; exact h12_1))) hP hD hK hS dMa_sourcesOf_51
    · skip
      refine lv_lload hx hb dMa_sourcesOf_15 (lv_at hl 1 rfl) ?_
      refine lv_lconst (v := 0) hx hb dMa_sourcesOf_17 (by decide) ?_
      refine wz_lcmp_eq (tgt := 50) hx hb dMa_sourcesOf_18 dMa_sourcesOf_19 (by decide) (fun h18_2 => ?_) (fun h18_2 => ?_)
      · skip
        refine lv_lload_n hx hb dMa_sourcesOf_50 rfl (lv_at hl 2 rfl) ?_
        exact wz_lret hx hb hr hlocks (by rw [hfo]; first | exact ww_gi_end hSo x (Or.inl (by omega)) | exact ww_gi_end hSo x (Or.inr (by rw [← hre]; exact h18_2))) hP hD hK hS dMa_sourcesOf_51
      · skip
        refine lv_lload_n hx hb dMa_sourcesOf_22 rfl (lv_at hl 2 rfl) ?_
        refine lv_aload_n hx hb dMa_sourcesOf_23 rfl (lv_at hl 3 rfl) ?_
        refine va_get (D := (dC, dI)) (ci := 1) (v := .ref aso) (C := RMa) (T := TMa) (N := 3) hx hb hw in_Ma hown hK hP 0 rfl rfl 1 (by decide) (hw _ w_77) (fun _ h9 => h9) rfl dMa_sourcesOf_24 ?_
        refine lv_lload hx hb dMa_sourcesOf_27 (lv_at hl 1 rfl) ?_
        refine wz_calli (wc := []) (wr := [(aM, .inr (1, [.ref abm, .ref aso, .int (nI mv)])), (aso, .inl (cJ, 64, .inr (.inl so)))]) (w1 := []) (ws' := [(aM, .inr (1, [.ref abm, .ref aso, .int (nI mv)])), (aso, .inl (cJ, 64, .inr (.inl so)))]) hP hD hS hA [] [0, 1] [0, 1] rfl rfl (by decide) (by decide) (by decide) rfl rfl (va_runSN (As := [.long re]) (rest := [.ref aso, .long fo]) ⟨hx, hb, hml, hown, hts⟩ (kWw_least l dC dI cI cJ cZ H.size re) ⟨va_cnB 1 hts (wz_gC w_68) rfl rfl rfl (hN (.methodLinkNest RMa 39 yWw_least RWw) (by decide +kernel)) (hw _ w_31) (by decide +kernel) ⟨Nat.le_of_ble_eq_true rfl, Nat.le_of_ble_eq_true rfl⟩, hw _ w_67, trivial⟩ (wz_preS hN hK hP hD [] (by decide) rfl rfl) rfl rfl hl.1 rfl (lv_room (Nat.le_of_ble_eq_true rfl)) dMa_sourcesOf_29 ⟨Nat.le_refl _, Nat.le_refl _⟩) (fun H locs hP hD hS => ?_)
        refine wz_lald hx hb hK hP 1 1 rfl rfl (i := ww_ls re) (ww_ls_lt _) (by decide) dMa_sourcesOf_32 ?_
        refine lv_lor hx hb dMa_sourcesOf_33 ?_
        refine lv_lstore_n (lv' := [(3, .long (fo ||| (so (ww_ls re)))), (7, .int (nI k)), (5, .long re), (0, .ref aM), (1, .long x)]) hx hb dMa_sourcesOf_34 rfl hl (by decide) rfl (fun ls hl => ?_)
        refine lv_lload hx hb dMa_sourcesOf_35 (lv_at hl 2 rfl) ?_
        refine lv_lload hx hb dMa_sourcesOf_37 (lv_at hl 2 rfl) ?_
        refine lv_lconst (v := 1) hx hb dMa_sourcesOf_39 (by decide) ?_
        refine lv_lsub hx hb dMa_sourcesOf_40 ?_
        refine lv_land hx hb dMa_sourcesOf_41 ?_
        refine lv_lstore (lv' := [(5, .long (re &&& (re - 1))), (3, .long (fo ||| (so (ww_ls re)))), (7, .int (nI k)), (0, .ref aM), (1, .long x)]) hx hb dMa_sourcesOf_42 hl (by decide) rfl (fun ls hl => ?_)
        refine lv_iinc (v := nI (k + 1)) (lv' := [(7, .int (nI (k + 1))), (5, .long (re &&& (re - 1))), (3, .long (fo ||| (so (ww_ls re)))), (0, .ref aM), (1, .long x)]) hx hb dMa_sourcesOf_44 hl (k := 2) rfl ((nI_succ _).symm) (by decide) rfl (fun ls hl => ?_)
        refine lv_goto (tgt := 8) hx hb dMa_sourcesOf_47 (by decide) ?_
        exact ih8 _ (by omega) (k + 1) (fo ||| (so (ww_ls re))) (re &&& (re - 1)) (by omega) (by rw [ww_gi_S1 (by rw [← hre]; exact h18_2), ← hre, ← hfo]) (by rw [ww_gi_S2 (by rw [← hre]; exact h18_2), ← hre]) rfl _ _ hP hD hS _ hl
  refine lv_lconst (v := 0) hx hb dMa_sourcesOf_0 (by decide) ?_
  refine lv_lstore_n (lv' := [(3, .long 0), (0, .ref aM), (1, .long x)]) hx hb dMa_sourcesOf_1 rfl hl (by decide) rfl (fun ls hl => ?_)
  refine lv_lload_n hx hb dMa_sourcesOf_2 rfl (lv_at hl 2 rfl) ?_
  refine lv_lstore (lv' := [(5, .long x), (3, .long 0), (0, .ref aM), (1, .long x)]) hx hb dMa_sourcesOf_3 hl (by decide) rfl (fun ls hl => ?_)
  refine lv_iconst (v := nI 0) hx hb dMa_sourcesOf_5 (by decide) ?_
  refine lv_istore (lv' := [(7, .int (nI 0)), (5, .long x), (3, .long 0), (0, .ref aM), (1, .long x)]) hx hb dMa_sourcesOf_6 hl (by decide) rfl (fun ls hl => ?_)
  exact cut8 _ 0 0 x (by omega) rfl rfl rfl _ _ hP hD hS _ hl
set_option maxHeartbeats 4000000 in
set_option maxRecDepth 100000 in
/-- the states from which some steps through w lead to g -/
theorem kMa_reaching (l : Launch) (dC : Nat → ClassId) (dI : Nat → Nat → Nat) (cI cJ cZ : ClassId) (sz : Nat) (aM : Nat) (abm : Nat) (aso : Nat) (mv : Nat) (so : Nat → Int64) (g : Int64) (w : Int64) (nx : Nat → Int64) (hSo : ww_So nx so) : Met l yMa_reaching (.code yMa_reaching cMa_reaching 10 (some .long) :: wz_all) ({ frames := 4, cells := 0, slots := 0, locals := 91 }) (wz_Pc (dC, dI) vwCl (wz_T cI cJ cZ) [.ref aM, .long g, .long w] sz [(aM, .inr (1, [.ref abm, .ref aso, .int (nI mv)])), (aso, .inl (cJ, 64, .inr (.inl so)))]) (va_Ql (fun (r : Int64) (_ : Unit) => r = ww_rc nx g w) (fun _ t => va_P (dC, dI) vwCl [(aM, .inr (1, [.ref abm, .ref aso, .int (nI mv)])), (aso, .inl (cJ, 64, .inr (.inl so)))] t.heap ∧ va_K (dC, dI) vwCl (wz_T cI cJ cZ) t ∧ va_D (va_A [(aM, .inr (1, [.ref abm, .ref aso, .int (nI mv)])), (aso, .inl (cJ, 64, .inr (.inl so)))] sz) [(aM, .inr (1, [.ref abm, .ref aso, .int (nI mv)])), (aso, .inl (cJ, 64, .inr (.inl so)))]) (va_A [(aM, .inr (1, [.ref abm, .ref aso, .int (nI mv)])), (aso, .inl (cJ, 64, .inr (.inl so)))] sz)) 0 0 (va_A [(aM, .inr (1, [.ref abm, .ref aso, .int (nI mv)])), (aso, .inl (cJ, 64, .inr (.inl so)))] sz) := by
  refine Met.ofW (cc := cMa_reaching) (maxL := 10) (ret := (some .long)) (by decide) rfl ?_
  intro p e s m args below meth c s₁ B hml hv
  obtain ⟨rfl, hsz, hP, hK, hD0, hN⟩ := hv
  have hx := B.exec
  have hb := B.bytes
  have hr := B.returns
  have hts := atoms_spec (ws := (.code yMa_reaching cMa_reaching 10 (some .long) :: wz_all)) B.pre
  have hw : ∀ w9 ∈ wz_all, w9.before [.ref aM, .long g, .long w].toArray s = true := fun w9 h => hts w9 (List.mem_cons_of_mem _ h)
  have hown : s.vm.findClass RMa = some m.cls := findClass_of_methodNamed B.named
  have hlocks := B.notSynchronized
  subst hsz
  have hD := hD0.self (sz := s.heap.size)
  generalize hAe : va_A [(aM, .inr (1, [.ref abm, .ref aso, .int (nI mv)])), (aso, .inl (cJ, 64, .inr (.inl so)))] s.heap.size = A at hD ⊢
  have hA : ∀ q : Nat, s.heap.size ≤ q → A q := fun q h => by rw [← hAe]; exact Or.inr h
  have hS : va_S A s.heap s.heap [] := va_S.rf
  have hP : va_P (dC, dI) vwCl [(aM, .inr (1, [.ref abm, .ref aso, .int (nI mv)])), (aso, .inl (cJ, 64, .inr (.inl so)))] s.heap := hP
  have hl := lv_entry ([.ref aM, .long g, .long w]) (n := 10) (Nat.le_of_ble_eq_true rfl)
  rw [lg_entry_eq]
  generalize (lg_sl ([.ref aM, .long g, .long w]) ++ List.replicate (10 - (lg_sl ([.ref aM, .long g, .long w])).length) Slot.unset).toArray = ls at hl ⊢
  have hl : lv_has ls 10 [(0, .ref aM), (1, .long g), (3, .long w)] := hl
  have cut9 : ∀ (n9 : Nat) (k : Nat) (fo : Int64) (ne : Int64) (hk : k ≤ 64) (hfo : fo = (ww_la nx w k g).1) (hne : ne = (ww_la nx w k g).2), 64 - k = n9 → ∀ (H : Heap) (locs : List Loc), va_P (dC, dI) vwCl [(aM, .inr (1, [.ref abm, .ref aso, .int (nI mv)])), (aso, .inl (cJ, 64, .inr (.inl so)))] H → va_D A [(aM, .inr (1, [.ref abm, .ref aso, .int (nI mv)])), (aso, .inl (cJ, 64, .inr (.inl so)))] → va_S A s.heap H locs → ∀ ls : Array Slot, lv_has ls 10 [(9, .int (nI k)), (7, .long ne), (5, .long fo), (0, .ref aM), (1, .long g), (3, .long w)] → W p l e (headSpec (.code yMa_reaching cMa_reaching 10 (some .long) :: wz_all) ({ frames := 4, cells := 0, slots := 0, locals := 91 })).room s m [.ref aM, .long g, .long w].toArray below meth c H locs 0 0 (MQ below (va_Ql (fun (r : Int64) (_ : Unit) => r = ww_rc nx g w) (fun _ t => va_P (dC, dI) vwCl [(aM, .inr (1, [.ref abm, .ref aso, .int (nI mv)])), (aso, .inl (cJ, 64, .inr (.inl so)))] t.heap ∧ va_K (dC, dI) vwCl (wz_T cI cJ cZ) t ∧ va_D A [(aM, .inr (1, [.ref abm, .ref aso, .int (nI mv)])), (aso, .inl (cJ, 64, .inr (.inl so)))]) A) [.ref aM, .long g, .long w].toArray s 0 0 A) (F0 m 9 ls []) := by
    intro n9
    induction n9 using Nat.strongRecOn with
    | _ n9 ih9 =>
    intro k fo ne hk hfo hne hm9 H locs hP hD hS ls hl
    refine lv_iload hx hb dMa_reaching_9 (lv_at hl 0 rfl) ?_
    refine lv_bipush (v := nI 64) hx hb dMa_reaching_11 (by decide) ?_
    refine wz_icmp_ge (x := k) (y := 64) (tgt := 53) hx hb (by omega) (by omega) dMa_reaching_13 (by decide) (fun h13_1 => ?_) (fun h13_1 => ?_)
    · skip
      refine lv_lload hx hb dMa_reaching_53 (lv_at hl 2 rfl) ?_
      exact wz_lret hx hb hr hlocks (by rw [hfo]; first | exact ww_la_end nx w g (by omega) (Or.inl (by omega)) | exact ww_la_end nx w g (by omega) (Or.inr (by rw [← hne]; exact h13_1))) hP hD hK hS dMa_reaching_55
    · skip
      refine lv_lload hx hb dMa_reaching_16 (lv_at hl 1 rfl) ?_
      refine lv_lconst (v := 0) hx hb dMa_reaching_18 (by decide) ?_
      refine wz_lcmp_eq (tgt := 53) hx hb dMa_reaching_19 dMa_reaching_20 (by decide) (fun h19_2 => ?_) (fun h19_2 => ?_)
      · skip
        refine lv_lload hx hb dMa_reaching_53 (lv_at hl 2 rfl) ?_
        exact wz_lret hx hb hr hlocks (by rw [hfo]; first | exact ww_la_end nx w g (by omega) (Or.inl (by omega)) | exact ww_la_end nx w g (by omega) (Or.inr (by rw [← hne]; exact h19_2))) hP hD hK hS dMa_reaching_55
      · skip
        refine lv_aload_n hx hb dMa_reaching_23 rfl (lv_at hl 3 rfl) ?_
        refine lv_lload hx hb dMa_reaching_24 (lv_at hl 1 rfl) ?_
        refine wz_calll (wc := [(aM, .inr (1, [.ref abm, .ref aso, .int (nI mv)])), (aso, .inl (cJ, 64, .inr (.inl so)))]) (wr := []) (w1 := [(aM, .inr (1, [.ref abm, .ref aso, .int (nI mv)])), (aso, .inl (cJ, 64, .inr (.inl so)))]) (ws' := [(aM, .inr (1, [.ref abm, .ref aso, .int (nI mv)])), (aso, .inl (cJ, 64, .inr (.inl so)))]) hP hD hS hA [0, 1] [] [0, 1] rfl rfl (by decide) (by decide) (by decide) rfl rfl (va_runV (As := [.long ne]) (rest := []) ⟨hx, hb, hml, hown, hts⟩ (kMa_sourcesOf l dC dI cI cJ cZ H.size aM abm aso mv so ne nx hSo) (cwV 1 hts (wz_gV w_259 w_244 w_245 w_32 w_246) rfl rfl rfl (by decide +kernel) ⟨Nat.le_of_ble_eq_true rfl, Nat.le_of_ble_eq_true rfl⟩) (wz_preV (q := (RMa, TMa, 3)) (ci := 1) hN hK hP hD [0, 1] (by decide) rfl rfl 0 rfl rfl) rfl rfl hl.1 rfl (lv_room (Nat.le_of_ble_eq_true rfl)) dMa_reaching_26 ⟨Nat.le_refl _, Nat.le_refl _⟩) (fun H locs hP hD hS => ?_)
        refine lv_lload_n hx hb dMa_reaching_29 rfl (lv_at hl 5 rfl) ?_
        refine lv_land hx hb dMa_reaching_30 ?_
        refine lv_lload hx hb dMa_reaching_31 (lv_at hl 2 rfl) ?_
        refine lv_ldc2 hx hb hown (hw _ w_260) dMa_reaching_33 ?_
        refine lv_lxor hx hb dMa_reaching_36 ?_
        refine lv_land hx hb dMa_reaching_37 ?_
        refine lv_lstore (lv' := [(7, .long (((ww_bf nx ne) &&& w) &&& (fo ^^^ (-1)))), (9, .int (nI k)), (5, .long fo), (0, .ref aM), (1, .long g), (3, .long w)]) hx hb dMa_reaching_38 hl (by decide) rfl (fun ls hl => ?_)
        refine lv_lload hx hb dMa_reaching_40 (lv_at hl 2 rfl) ?_
        refine lv_lload hx hb dMa_reaching_42 (lv_at hl 0 rfl) ?_
        refine lv_lor hx hb dMa_reaching_44 ?_
        refine lv_lstore (lv' := [(5, .long (fo ||| (((ww_bf nx ne) &&& w) &&& (fo ^^^ (-1))))), (7, .long (((ww_bf nx ne) &&& w) &&& (fo ^^^ (-1)))), (9, .int (nI k)), (0, .ref aM), (1, .long g), (3, .long w)]) hx hb dMa_reaching_45 hl (by decide) rfl (fun ls hl => ?_)
        refine lv_iinc (v := nI (k + 1)) (lv' := [(9, .int (nI (k + 1))), (5, .long (fo ||| (((ww_bf nx ne) &&& w) &&& (fo ^^^ (-1))))), (7, .long (((ww_bf nx ne) &&& w) &&& (fo ^^^ (-1)))), (0, .ref aM), (1, .long g), (3, .long w)]) hx hb dMa_reaching_47 hl (k := 2) rfl ((nI_succ _).symm) (by decide) rfl (fun ls hl => ?_)
        refine lv_goto (tgt := 9) hx hb dMa_reaching_50 (by decide) ?_
        exact ih9 _ (by omega) (k + 1) (fo ||| (((ww_bf nx ne) &&& w) &&& (fo ^^^ (-1)))) (((ww_bf nx ne) &&& w) &&& (fo ^^^ (-1))) (by omega) (by rw [hfo, hne]; rfl) (by rw [hfo, hne]; rfl) rfl _ _ hP hD hS _ (lv_sub hl [0, 2, 1, 3, 4, 5] rfl)
  refine lv_lload_n hx hb dMa_reaching_0 rfl (lv_at hl 1 rfl) ?_
  refine lv_lstore (lv' := [(5, .long g), (0, .ref aM), (1, .long g), (3, .long w)]) hx hb dMa_reaching_1 hl (by decide) rfl (fun ls hl => ?_)
  refine lv_lload_n hx hb dMa_reaching_3 rfl (lv_at hl 2 rfl) ?_
  refine lv_lstore (lv' := [(7, .long g), (5, .long g), (0, .ref aM), (1, .long g), (3, .long w)]) hx hb dMa_reaching_4 hl (by decide) rfl (fun ls hl => ?_)
  refine lv_iconst (v := nI 0) hx hb dMa_reaching_6 (by decide) ?_
  refine lv_istore (lv' := [(9, .int (nI 0)), (7, .long g), (5, .long g), (0, .ref aM), (1, .long g), (3, .long w)]) hx hb dMa_reaching_7 hl (by decide) rfl (fun ls hl => ?_)
  exact cut9 _ 0 g g (by omega) rfl rfl rfl _ _ hP hD hS _ hl
