/-! contracts, laid by a program of mine. -/
set_option maxHeartbeats 4000000 in
set_option maxRecDepth 100000 in
/-- all states that are as b but for the bits of an -/
theorem kMa_spread (l : Launch) (dC : Nat → ClassId) (dI : Nat → Nat → Nat) (cI cJ cZ : ClassId) (sz : Nat) (b : Nat) (an : Nat) (hb64 : b < 64) (han : an < 64) : Met l yMa_spread (.code yMa_spread cMa_spread 6 (some .long) :: wz_all) ({ frames := 0, cells := 0, slots := 0, locals := 0 }) (wz_Pc (dC, dI) vwCl (wz_T cI cJ cZ) [.int (nI b), .int (nI an)] sz []) (va_Ql (fun (r : Int64) (_ : Unit) => r = ww_sp b an) (fun _ t => va_P (dC, dI) vwCl [] t.heap ∧ va_K (dC, dI) vwCl (wz_T cI cJ cZ) t ∧ va_D (va_A [] sz) []) (va_A [] sz)) 0 0 (va_A [] sz) := by
  refine Met.ofW (cc := cMa_spread) (maxL := 6) (ret := (some .long)) (by decide) rfl ?_
  intro p e s m args below meth c s₁ B hml hv
  obtain ⟨rfl, hsz, hP, hK, hD0, hN⟩ := hv
  have hx := B.exec
  have hb := B.bytes
  have hr := B.returns
  have hts := atoms_spec (ws := (.code yMa_spread cMa_spread 6 (some .long) :: wz_all)) B.pre
  have hw : ∀ w9 ∈ wz_all, w9.before [.int (nI b), .int (nI an)].toArray s = true := fun w9 h => hts w9 (List.mem_cons_of_mem _ h)
  have hown : s.vm.findClass RMa = some m.cls := findClass_of_methodNamed B.named
  have hlocks := B.notSynchronized
  subst hsz
  have hD := hD0.self (sz := s.heap.size)
  generalize hAe : va_A [] s.heap.size = A at hD ⊢
  have hA : ∀ q : Nat, s.heap.size ≤ q → A q := fun q h => by rw [← hAe]; exact Or.inr h
  have hS : va_S A s.heap s.heap [] := va_S.rf
  have hP : va_P (dC, dI) vwCl [] s.heap := hP
  have hl := lv_entry ([.int (nI b), .int (nI an)]) (n := 6) (Nat.le_of_ble_eq_true rfl)
  rw [lg_entry_eq]
  generalize (lg_sl ([.int (nI b), .int (nI an)]) ++ List.replicate (6 - (lg_sl ([.int (nI b), .int (nI an)])).length) Slot.unset).toArray = ls at hl ⊢
  have hl : lv_has ls 6 [(0, .int (nI b)), (1, .int (nI an))] := hl
  have cut7 : ∀ (n7 : Nat) (k : Nat) (x : Int64) (hk : k ≤ 6) (hxx : x = ww_spn b an k), 6 - k = n7 → ∀ (H : Heap) (locs : List Loc), va_P (dC, dI) vwCl [] H → va_D A [] → va_S A s.heap H locs → ∀ ls : Array Slot, lv_has ls 6 [(4, .int (nI k)), (2, .long x), (0, .int (nI b)), (1, .int (nI an))] → W p l e (headSpec (.code yMa_spread cMa_spread 6 (some .long) :: wz_all) ({ frames := 0, cells := 0, slots := 0, locals := 0 })).room s m [.int (nI b), .int (nI an)].toArray below meth c H locs 0 0 (MQ below (va_Ql (fun (r : Int64) (_ : Unit) => r = ww_sp b an) (fun _ t => va_P (dC, dI) vwCl [] t.heap ∧ va_K (dC, dI) vwCl (wz_T cI cJ cZ) t ∧ va_D A []) A) [.int (nI b), .int (nI an)].toArray s 0 0 A) (F0 m 7 ls []) := by
    intro n7
    induction n7 using Nat.strongRecOn with
    | _ n7 ih7 =>
    intro k x hk hxx hm7 H locs hP hD hS ls hl
    refine lv_iload hx hb dMa_spread_7 (lv_at hl 0 rfl) ?_
    refine lv_bipush (v := nI 6) hx hb dMa_spread_9 (by decide) ?_
    refine wz_icmp_ge (x := k) (y := 6) (tgt := 40) hx hb (by omega) (by omega) dMa_spread_11 (by decide) (fun h11_1 => ?_) (fun h11_1 => ?_)
    · skip
      refine lv_lload_n hx hb dMa_spread_40 rfl (lv_at hl 1 rfl) ?_
      exact wz_lret hx hb hr hlocks (by rw [hxx, show k = 6 by omega]; rfl) hP hD hK hS dMa_spread_41
    · skip
      refine lv_iconst (v := nI 1) hx hb dMa_spread_14 (by decide) ?_
      refine lv_iload hx hb dMa_spread_15 (lv_at hl 0 rfl) ?_
      refine lv_ishl hx hb dMa_spread_17 ?_
      refine W.eq (g2 := F0 m 18 ls [.int (nI (2 ^ k))]) (by rw [show ((nI 1) <<< ((nI k) &&& 31) : Int32) = nI (2 ^ k) from (by rw [ww_shl6 k (by omega)])]) ?_
      refine lv_istore (lv' := [(5, .int (nI (2 ^ k))), (4, .int (nI k)), (2, .long x), (0, .int (nI b)), (1, .int (nI an))]) hx hb dMa_spread_18 hl (by decide) rfl (fun ls hl => ?_)
      refine lv_iload_n hx hb dMa_spread_20 rfl (lv_at hl 4 rfl) ?_
      refine lv_iload hx hb dMa_spread_21 (lv_at hl 0 rfl) ?_
      refine lv_iand hx hb dMa_spread_23 ?_
      refine W.eq (g2 := F0 m 24 ls [.int (nI (an &&& 2 ^ k))]) (by rw [show ((nI an) &&& (nI (2 ^ k)) : Int32) = nI (an &&& 2 ^ k) from (by rw [ww_na an han (2 ^ k) (ww_2k (by omega))])]) ?_
      refine wz_ifN_eq (x := an &&& 2 ^ k) (tgt := 34) hx hb (ww_a31 (ww_2k (by omega))) dMa_spread_24 (by decide) (fun h24_2 => ?_) (fun h24_2 => ?_)
      · skip
        refine lv_iinc (v := nI (k + 1)) (lv' := [(4, .int (nI (k + 1))), (5, .int (nI (2 ^ k))), (2, .long x), (0, .int (nI b)), (1, .int (nI an))]) hx hb dMa_spread_34 hl (k := 1) rfl ((nI_succ _).symm) (by decide) rfl (fun ls hl => ?_)
        refine lv_goto (tgt := 7) hx hb dMa_spread_37 (by decide) ?_
        exact ih7 _ (by omega) (k + 1) x (by omega) (by subst hxx; first | exact (if_pos h24_2).symm | exact (if_neg h24_2).symm) rfl _ _ hP hD hS _ (lv_sub hl [0, 2, 3, 4] rfl)
      · skip
        refine lv_lload_n hx hb dMa_spread_27 rfl (lv_at hl 2 rfl) ?_
        refine lv_lload_n hx hb dMa_spread_28 rfl (lv_at hl 2 rfl) ?_
        refine lv_iload hx hb dMa_spread_29 (lv_at hl 0 rfl) ?_
        refine lv_lshl hx hb dMa_spread_31 rfl ?_
        refine lv_lor hx hb dMa_spread_32 ?_
        refine lv_lstore_n (lv' := [(2, .long (x ||| (x <<< ((nI (2 ^ k)).toInt64 &&& 63)))), (5, .int (nI (2 ^ k))), (4, .int (nI k)), (0, .int (nI b)), (1, .int (nI an))]) hx hb dMa_spread_33 rfl hl (by decide) rfl (fun ls hl => ?_)
        refine lv_iinc (v := nI (k + 1)) (lv' := [(4, .int (nI (k + 1))), (2, .long (x ||| (x <<< ((nI (2 ^ k)).toInt64 &&& 63)))), (5, .int (nI (2 ^ k))), (0, .int (nI b)), (1, .int (nI an))]) hx hb dMa_spread_34 hl (k := 2) rfl ((nI_succ _).symm) (by decide) rfl (fun ls hl => ?_)
        refine lv_goto (tgt := 7) hx hb dMa_spread_37 (by decide) ?_
        exact ih7 _ (by omega) (k + 1) (x ||| (x <<< ((nI (2 ^ k)).toInt64 &&& 63))) (by omega) (by subst hxx; first | exact (if_pos h24_2).symm | exact (if_neg h24_2).symm) rfl _ _ hP hD hS _ (lv_sub hl [0, 1, 3, 4] rfl)
  refine lv_lconst (v := 1) hx hb dMa_spread_0 (by decide) ?_
  refine lv_iload_n hx hb dMa_spread_1 rfl (lv_at hl 0 rfl) ?_
  refine wz_lshl1 hx hb (by omega) dMa_spread_2 ?_
  refine lv_lstore_n (lv' := [(2, .long (ww_b b)), (0, .int (nI b)), (1, .int (nI an))]) hx hb dMa_spread_3 rfl hl (by decide) rfl (fun ls hl => ?_)
  refine lv_iconst (v := nI 0) hx hb dMa_spread_4 (by decide) ?_
  refine lv_istore (lv' := [(4, .int (nI 0)), (2, .long (ww_b b)), (0, .int (nI b)), (1, .int (nI an))]) hx hb dMa_spread_5 hl (by decide) rfl (fun ls hl => ?_)
  exact cut7 _ 0 (ww_b b) (by omega) rfl rfl _ _ hP hD hS _ hl
set_option maxHeartbeats 4000000 in
set_option maxRecDepth 100000 in
/-- the sources, out of the followers -/
theorem kMa_linkSources (l : Launch) (dC : Nat → ClassId) (dI : Nat → Nat → Nat) (cI cJ cZ : ClassId) (sz : Nat) (aM : Nat) (abm : Nat) (aso : Nat) (mv : Nat) (bm : Nat → Int64) (so : Nat → Int64) : Met l yMa_linkSources (.code yMa_linkSources cMa_linkSources 5 none :: wz_all) ({ frames := 3, cells := 0, slots := 0, locals := 64 }) (wz_Pc (dC, dI) vwCl (wz_T cI cJ cZ) [.ref aM] sz [(aM, .inr (1, [.ref abm, .ref aso, .int (nI mv)])), (abm, .inl (cJ, 64, .inr (.inl bm))), (aso, .inl (cJ, 64, .inr (.inl so)))]) (va_Qv (fun (_ : Unit) => True) (fun _ t => va_P (dC, dI) vwCl [(aM, .inr (1, [.ref abm, .ref aso, .int (nI mv)])), (abm, .inl (cJ, 64, .inr (.inl bm))), (aso, .inl (cJ, 64, .inr (.inl (ww_lo bm ww_k64 (ww_fl (fun _ => 0) ww_k64 so)))))] t.heap ∧ va_K (dC, dI) vwCl (wz_T cI cJ cZ) t ∧ va_D (va_A [(aM, .inr (1, [.ref abm, .ref aso, .int (nI mv)])), (abm, .inl (cJ, 64, .inr (.inl bm))), (aso, .inl (cJ, 64, .inr (.inl so)))] sz) [(aM, .inr (1, [.ref abm, .ref aso, .int (nI mv)])), (abm, .inl (cJ, 64, .inr (.inl bm))), (aso, .inl (cJ, 64, .inr (.inl (ww_lo bm ww_k64 (ww_fl (fun _ => 0) ww_k64 so)))))]) (va_A [(aM, .inr (1, [.ref abm, .ref aso, .int (nI mv)])), (abm, .inl (cJ, 64, .inr (.inl bm))), (aso, .inl (cJ, 64, .inr (.inl so)))] sz)) 0 0 (va_A [(aM, .inr (1, [.ref abm, .ref aso, .int (nI mv)])), (abm, .inl (cJ, 64, .inr (.inl bm))), (aso, .inl (cJ, 64, .inr (.inl so)))] sz) := by
  refine Met.ofW (cc := cMa_linkSources) (maxL := 5) (ret := none) (by decide) rfl ?_
  intro p e s m args below meth c s₁ B hml hv
  obtain ⟨rfl, hsz, hP, hK, hD0, hN⟩ := hv
  have hx := B.exec
  have hb := B.bytes
  have hr := B.returns
  have hts := atoms_spec (ws := (.code yMa_linkSources cMa_linkSources 5 none :: wz_all)) B.pre
  have hw : ∀ w9 ∈ wz_all, w9.before [.ref aM].toArray s = true := fun w9 h => hts w9 (List.mem_cons_of_mem _ h)
  have hown : s.vm.findClass RMa = some m.cls := findClass_of_methodNamed B.named
  have hlocks := B.notSynchronized
  subst hsz
  have hD := hD0.self (sz := s.heap.size)
  generalize hAe : va_A [(aM, .inr (1, [.ref abm, .ref aso, .int (nI mv)])), (abm, .inl (cJ, 64, .inr (.inl bm))), (aso, .inl (cJ, 64, .inr (.inl so)))] s.heap.size = A at hD ⊢
  have hA : ∀ q : Nat, s.heap.size ≤ q → A q := fun q h => by rw [← hAe]; exact Or.inr h
  have hS : va_S A s.heap s.heap [] := va_S.rf
  have hP : va_P (dC, dI) vwCl [(aM, .inr (1, [.ref abm, .ref aso, .int (nI mv)])), (abm, .inl (cJ, 64, .inr (.inl bm))), (aso, .inl (cJ, 64, .inr (.inl so)))] s.heap := hP
  have hl := lv_entry ([.ref aM]) (n := 5) (Nat.le_of_ble_eq_true rfl)
  rw [lg_entry_eq]
  generalize (lg_sl ([.ref aM]) ++ List.replicate (5 - (lg_sl ([.ref aM])).length) Slot.unset).toArray = ls at hl ⊢
  have hl : lv_has ls 5 [(0, .ref aM)] := hl
  have cut10 : ∀ (n10 : Nat) (s1 : Nat) (so1 : Nat → Int64) (hs : s1 ≤ 64) (hso1 : so1 = ww_lo bm s1 (ww_fl (fun _ => 0) ww_k64 so)), 64 - s1 = n10 → ∀ (H : Heap) (locs : List Loc), va_P (dC, dI) vwCl [(aM, .inr (1, [.ref abm, .ref aso, .int (nI mv)])), (abm, .inl (cJ, 64, .inr (.inl bm))), (aso, .inl (cJ, 64, .inr (.inl so1)))] H → va_D A [(aM, .inr (1, [.ref abm, .ref aso, .int (nI mv)])), (abm, .inl (cJ, 64, .inr (.inl bm))), (aso, .inl (cJ, 64, .inr (.inl so1)))] → va_S A s.heap H locs → ∀ ls : Array Slot, lv_has ls 5 [(1, .int (nI s1)), (0, .ref aM)] → W p l e (headSpec (.code yMa_linkSources cMa_linkSources 5 none :: wz_all) ({ frames := 3, cells := 0, slots := 0, locals := 64 })).room s m [.ref aM].toArray below meth c H locs 0 0 (MQ below (va_Qv (fun (_ : Unit) => True) (fun _ t => va_P (dC, dI) vwCl [(aM, .inr (1, [.ref abm, .ref aso, .int (nI mv)])), (abm, .inl (cJ, 64, .inr (.inl bm))), (aso, .inl (cJ, 64, .inr (.inl (ww_lo bm ww_k64 (ww_fl (fun _ => 0) ww_k64 so)))))] t.heap ∧ va_K (dC, dI) vwCl (wz_T cI cJ cZ) t ∧ va_D A [(aM, .inr (1, [.ref abm, .ref aso, .int (nI mv)])), (abm, .inl (cJ, 64, .inr (.inl bm))), (aso, .inl (cJ, 64, .inr (.inl (ww_lo bm ww_k64 (ww_fl (fun _ => 0) ww_k64 so)))))]) A) [.ref aM].toArray s 0 0 A) (F0 m 10 ls []) := by
    intro n10
    induction n10 using Nat.strongRecOn with
    | _ n10 ih10 =>
    intro s1 so1 hs hso1 hm10 H locs hP hD hS ls hl
    have cut25 : ∀ (n25 : Nat) (k : Nat) (re : Int64) (so2 : Nat → Int64) (hs1 : s1 < 64) (hk : k ≤ 64) (hso2 : so2 = (ww_li s1 k (so1, ww_fo (bm s1) s1)).1) (hre : re = (ww_li s1 k (so1, ww_fo (bm s1) s1)).2), 64 - k = n25 → ∀ (H : Heap) (locs : List Loc), va_P (dC, dI) vwCl [(aM, .inr (1, [.ref abm, .ref aso, .int (nI mv)])), (abm, .inl (cJ, 64, .inr (.inl bm))), (aso, .inl (cJ, 64, .inr (.inl so2)))] H → va_D A [(aM, .inr (1, [.ref abm, .ref aso, .int (nI mv)])), (abm, .inl (cJ, 64, .inr (.inl bm))), (aso, .inl (cJ, 64, .inr (.inl so2)))] → va_S A s.heap H locs → ∀ ls : Array Slot, lv_has ls 5 [(4, .int (nI k)), (2, .long re), (1, .int (nI s1)), (0, .ref aM)] → W p l e (headSpec (.code yMa_linkSources cMa_linkSources 5 none :: wz_all) ({ frames := 3, cells := 0, slots := 0, locals := 64 })).room s m [.ref aM].toArray below meth c H locs 0 0 (MQ below (va_Qv (fun (_ : Unit) => True) (fun _ t => va_P (dC, dI) vwCl [(aM, .inr (1, [.ref abm, .ref aso, .int (nI mv)])), (abm, .inl (cJ, 64, .inr (.inl bm))), (aso, .inl (cJ, 64, .inr (.inl (ww_lo bm ww_k64 (ww_fl (fun _ => 0) ww_k64 so)))))] t.heap ∧ va_K (dC, dI) vwCl (wz_T cI cJ cZ) t ∧ va_D A [(aM, .inr (1, [.ref abm, .ref aso, .int (nI mv)])), (abm, .inl (cJ, 64, .inr (.inl bm))), (aso, .inl (cJ, 64, .inr (.inl (ww_lo bm ww_k64 (ww_fl (fun _ => 0) ww_k64 so)))))]) A) [.ref aM].toArray s 0 0 A) (F0 m 25 ls []) := by
      intro n25
      induction n25 using Nat.strongRecOn with
      | _ n25 ih25 =>
      intro k re so2 hs1 hk hso2 hre hm25 H locs hP hD hS ls hl
      refine lv_iload hx hb dMa_linkSources_25 (lv_at hl 0 rfl) ?_
      refine lv_bipush (v := nI 64) hx hb dMa_linkSources_27 (by decide) ?_
      refine wz_icmp_ge (x := k) (y := 64) (tgt := 65) hx hb (by omega) (by omega) dMa_linkSources_29 (by decide) (fun h29_1 => ?_) (fun h29_1 => ?_)
      · skip
        refine lv_iinc (v := nI (s1 + 1)) (lv' := [(1, .int (nI (s1 + 1))), (4, .int (nI k)), (2, .long re), (0, .ref aM)]) hx hb dMa_linkSources_65 hl (k := 2) rfl ((nI_succ _).symm) (by decide) rfl (fun ls hl => ?_)
        refine lv_goto (tgt := 10) hx hb dMa_linkSources_68 (by decide) ?_
        exact ih10 _ (by omega) (s1 + 1) so2 (by omega) (by subst hso1; rw [hso2]; first | exact ww_li_end (by omega) (Or.inl (by omega)) | exact ww_li_end (by omega) (Or.inr (by rw [← hre]; exact h29_1))) rfl _ _ hP hD hS _ (lv_sub hl [0, 3] rfl)
      · skip
        refine lv_lload_n hx hb dMa_linkSources_32 rfl (lv_at hl 1 rfl) ?_
        refine lv_lconst (v := 0) hx hb dMa_linkSources_33 (by decide) ?_
        refine wz_lcmp_eq (tgt := 65) hx hb dMa_linkSources_34 dMa_linkSources_35 (by decide) (fun h34_2 => ?_) (fun h34_2 => ?_)
        · skip
          refine lv_iinc (v := nI (s1 + 1)) (lv' := [(1, .int (nI (s1 + 1))), (4, .int (nI k)), (2, .long re), (0, .ref aM)]) hx hb dMa_linkSources_65 hl (k := 2) rfl ((nI_succ _).symm) (by decide) rfl (fun ls hl => ?_)
          refine lv_goto (tgt := 10) hx hb dMa_linkSources_68 (by decide) ?_
          exact ih10 _ (by omega) (s1 + 1) so2 (by omega) (by subst hso1; rw [hso2]; first | exact ww_li_end (by omega) (Or.inl (by omega)) | exact ww_li_end (by omega) (Or.inr (by rw [← hre]; exact h34_2))) rfl _ _ hP hD hS _ (lv_sub hl [0, 3] rfl)
        · skip
          refine lv_aload_n hx hb dMa_linkSources_38 rfl (lv_at hl 3 rfl) ?_
          refine va_get (D := (dC, dI)) (ci := 1) (v := .ref aso) (C := RMa) (T := TMa) (N := 3) hx hb hw in_Ma hown hK hP 0 rfl rfl 1 (by decide) (hw _ w_77) (fun _ h9 => h9) rfl dMa_linkSources_39 ?_
          refine lv_lload_n hx hb dMa_linkSources_42 rfl (lv_at hl 1 rfl) ?_
          refine wz_calli (wc := []) (wr := [(aM, .inr (1, [.ref abm, .ref aso, .int (nI mv)])), (abm, .inl (cJ, 64, .inr (.inl bm))), (aso, .inl (cJ, 64, .inr (.inl so2)))]) (w1 := []) (ws' := [(aM, .inr (1, [.ref abm, .ref aso, .int (nI mv)])), (abm, .inl (cJ, 64, .inr (.inl bm))), (aso, .inl (cJ, 64, .inr (.inl so2)))]) hP hD hS hA [] [0, 1, 2] [0, 1, 2] rfl rfl (by decide) (by decide) (by decide) rfl rfl (va_runSN (As := [.long re]) (rest := [.ref aso]) ⟨hx, hb, hml, hown, hts⟩ (kWw_least l dC dI cI cJ cZ H.size re) ⟨va_cnB 1 hts (wz_gC w_68) rfl rfl rfl (hN (.methodLinkNest RMa 39 yWw_least RWw) (by decide +kernel)) (hw _ w_31) (by decide +kernel) ⟨Nat.le_of_ble_eq_true rfl, Nat.le_of_ble_eq_true rfl⟩, hw _ w_67, trivial⟩ (wz_preS hN hK hP hD [] (by decide) rfl rfl) rfl rfl hl.1 rfl (lv_room (Nat.le_of_ble_eq_true rfl)) dMa_linkSources_43 ⟨Nat.le_refl _, Nat.le_refl _⟩) (fun H locs hP hD hS => ?_)
          refine lv_dup2_11 hx hb dMa_linkSources_46 rfl rfl ?_
          refine wz_lald hx hb hK hP 2 1 rfl rfl (i := ww_ls re) (ww_ls_lt _) (by decide) dMa_linkSources_47 ?_
          refine lv_lconst (v := 1) hx hb dMa_linkSources_48 (by decide) ?_
          refine lv_iload_n hx hb dMa_linkSources_49 rfl (lv_at hl 2 rfl) ?_
          refine wz_lshl1 hx hb (by omega) dMa_linkSources_50 ?_
          refine lv_lor hx hb dMa_linkSources_51 ?_
          refine wz_last (ws' := [(aM, .inr (1, [.ref abm, .ref aso, .int (nI mv)])), (abm, .inl (cJ, 64, .inr (.inl bm))), (aso, .inl (cJ, 64, .inr (.inl (vp_updL so2 (ww_ls re) ((so2 (ww_ls re)) ||| (ww_b s1))))))]) hx hb hK hP hD hS 2 1 rfl rfl (i := ww_ls re) (ww_ls_lt _) (by decide) dMa_linkSources_52 rfl (fun H locs hP hD hS => ?_)
          refine lv_lload_n hx hb dMa_linkSources_53 rfl (lv_at hl 1 rfl) ?_
          refine lv_lload_n hx hb dMa_linkSources_54 rfl (lv_at hl 1 rfl) ?_
          refine lv_lconst (v := 1) hx hb dMa_linkSources_55 (by decide) ?_
          refine lv_lsub hx hb dMa_linkSources_56 ?_
          refine lv_land hx hb dMa_linkSources_57 ?_
          refine lv_lstore_n (lv' := [(2, .long (re &&& (re - 1))), (4, .int (nI k)), (1, .int (nI s1)), (0, .ref aM)]) hx hb dMa_linkSources_58 rfl hl (by decide) rfl (fun ls hl => ?_)
          refine lv_iinc (v := nI (k + 1)) (lv' := [(4, .int (nI (k + 1))), (2, .long (re &&& (re - 1))), (1, .int (nI s1)), (0, .ref aM)]) hx hb dMa_linkSources_59 hl (k := 1) rfl ((nI_succ _).symm) (by decide) rfl (fun ls hl => ?_)
          refine lv_goto (tgt := 25) hx hb dMa_linkSources_62 (by decide) ?_
          exact ih25 _ (by omega) (k + 1) (re &&& (re - 1)) (vp_updL so2 (ww_ls re) ((so2 (ww_ls re)) ||| (ww_b s1))) (by omega) (by omega) (by rw [ww_li_S1 (by rw [← hre]; exact h34_2), ← hre, ← hso2]) (by rw [ww_li_S2 (by rw [← hre]; exact h34_2), ← hre]) rfl _ _ hP hD hS _ hl
    refine lv_iload_n hx hb dMa_linkSources_10 rfl (lv_at hl 0 rfl) ?_
    refine lv_bipush (v := nI 64) hx hb dMa_linkSources_11 (by decide) ?_
    refine wz_icmp_ge (x := s1) (y := 64) (tgt := 71) hx hb (by omega) (by omega) dMa_linkSources_13 (by decide) (fun h13_3 => ?_) (fun h13_3 => ?_)
    · skip
      obtain rfl : s1 = ww_k64 := by rw [ww_k64_eq]; omega
      subst hso1
      exact wz_vret hx hb hr hlocks hP hD hK hS dMa_linkSources_71
    · skip
      refine lv_aload_n hx hb dMa_linkSources_16 rfl (lv_at hl 1 rfl) ?_
      refine lv_iload_n hx hb dMa_linkSources_17 rfl (lv_at hl 0 rfl) ?_
      refine wz_calll (wc := [(aM, .inr (1, [.ref abm, .ref aso, .int (nI mv)])), (abm, .inl (cJ, 64, .inr (.inl bm)))]) (wr := [(aso, .inl (cJ, 64, .inr (.inl so1)))]) (w1 := [(aM, .inr (1, [.ref abm, .ref aso, .int (nI mv)])), (abm, .inl (cJ, 64, .inr (.inl bm)))]) (ws' := [(aM, .inr (1, [.ref abm, .ref aso, .int (nI mv)])), (abm, .inl (cJ, 64, .inr (.inl bm))), (aso, .inl (cJ, 64, .inr (.inl so1)))]) hP hD hS hA [0, 1] [2] [1, 2, 0] rfl rfl (by decide) (by decide) (by decide) rfl rfl (va_runV (As := [.int (nI s1)]) (rest := []) ⟨hx, hb, hml, hown, hts⟩ (kMa_nextOf l dC dI cI cJ cZ H.size aM abm aso mv bm s1 (by omega)) (cwV 1 hts (wz_gV w_63 w_64 w_65 w_32 w_66) rfl rfl rfl (by decide +kernel) ⟨Nat.le_of_ble_eq_true rfl, Nat.le_of_ble_eq_true rfl⟩) (wz_preV (q := (RMa, TMa, 3)) (ci := 1) hN hK hP hD [0, 1] (by decide) rfl rfl 0 rfl rfl) rfl rfl hl.1 rfl (lv_room (Nat.le_of_ble_eq_true rfl)) dMa_linkSources_18 ⟨Nat.le_refl _, Nat.le_refl _⟩) (fun H locs hP hD hS => ?_)
      refine lv_lstore_n (lv' := [(2, .long (ww_fo (bm s1) s1)), (1, .int (nI s1)), (0, .ref aM)]) hx hb dMa_linkSources_21 rfl hl (by decide) rfl (fun ls hl => ?_)
      refine lv_iconst (v := nI 0) hx hb dMa_linkSources_22 (by decide) ?_
      refine lv_istore (lv' := [(4, .int (nI 0)), (2, .long (ww_fo (bm s1) s1)), (1, .int (nI s1)), (0, .ref aM)]) hx hb dMa_linkSources_23 hl (by decide) rfl (fun ls hl => ?_)
      exact cut25 _ 0 (ww_fo (bm s1) s1) so1 (by omega) (by omega) rfl rfl rfl _ _ hP hD hS _ hl
  refine lv_aload_n hx hb dMa_linkSources_0 rfl (lv_at hl 0 rfl) ?_
  refine va_get (D := (dC, dI)) (ci := 1) (v := .ref aso) (C := RMa) (T := TMa) (N := 3) hx hb hw in_Ma hown hK hP 0 rfl rfl 1 (by decide) (hw _ w_77) (fun _ h9 => h9) rfl dMa_linkSources_1 ?_
  refine lv_lconst (v := 0) hx hb dMa_linkSources_4 (by decide) ?_
  refine wz_callv (wc := [(aso, .inl (cJ, 64, .inr (.inl so)))]) (wr := [(aM, .inr (1, [.ref abm, .ref aso, .int (nI mv)])), (abm, .inl (cJ, 64, .inr (.inl bm)))]) (w1 := [(aso, .inl (cJ, 64, .inr (.inl (ww_fl (fun _ => 0) ww_k64 so))))]) (ws' := [(aM, .inr (1, [.ref abm, .ref aso, .int (nI mv)])), (abm, .inl (cJ, 64, .inr (.inl bm))), (aso, .inl (cJ, 64, .inr (.inl (ww_fl (fun _ => 0) ww_k64 so))))]) hP hD hS hA [2] [0, 1] [0, 1, 2] rfl rfl (by decide) (by decide) (by decide) rfl rfl (va_runS (As := [.ref aso, .long 0]) (rest := []) ⟨hx, hb, hml, hown, hts⟩ (kAr_fill l dC dI cI cJ cZ s.heap.size aso 0 so) (va_cwS 2 hts (wz_gS w_60 w_61 w_33 w_62) rfl rfl rfl (by decide +kernel) ⟨Nat.le_of_ble_eq_true rfl, Nat.le_of_ble_eq_true rfl⟩) (wz_preS hN hK hP hD [2] (by decide) rfl rfl) rfl rfl hl.1 rfl (lv_room (Nat.le_of_ble_eq_true rfl)) dMa_linkSources_5 ⟨Nat.le_refl _, Nat.le_refl _⟩) (fun H locs hP hD hS => ?_)
  refine lv_iconst (v := nI 0) hx hb dMa_linkSources_8 (by decide) ?_
  refine lv_istore_n (lv' := [(1, .int (nI 0)), (0, .ref aM)]) hx hb dMa_linkSources_9 rfl hl (by decide) rfl (fun ls hl => ?_)
  exact cut10 _ 0 (ww_fl (fun _ => 0) ww_k64 so) (by omega) rfl rfl _ _ hP hD hS _ hl
set_option maxHeartbeats 4000000 in
set_option maxRecDepth 100000 in
/-- one more move -/
theorem kMa_add (l : Launch) (dC : Nat → ClassId) (dI : Nat → Nat → Nat) (cI cJ cZ : ClassId) (sz : Nat) (aM : Nat) (abm : Nat) (aso : Nat) (mv : Nat) (bm : Nat → Int64) (so : Nat → Int64) (on : Nat) (off : Nat) (se : Nat) (cl : Nat) (an : Nat) (hon : on < 64) (hoff : off < 64) (hse : se < 64) (hcl : cl < 64) (han : an < 64) (hmv : mv < 16) : Met l yMa_add (.code yMa_add cMa_add 7 (some .int) :: wz_all) ({ frames := 4, cells := 0, slots := 0, locals := 88 }) (wz_Pc (dC, dI) vwCl (wz_T cI cJ cZ) [.ref aM, .int (nI on), .int (nI off), .int (nI se), .int (nI cl), .int (nI an)] sz [(aM, .inr (1, [.ref abm, .ref aso, .int (nI mv)])), (abm, .inl (cJ, 64, .inr (.inl bm))), (aso, .inl (cJ, 64, .inr (.inl so)))]) (va_Qi (fun (r : Int32) (_ : Unit) => r = nI (mv + 1)) (fun _ t => va_P (dC, dI) vwCl [(aM, .inr (1, [.ref abm, .ref aso, .int (nI (mv + 1))])), (abm, .inl (cJ, 64, .inr (.inl (ww_ad on off se cl an bm ww_k64)))), (aso, .inl (cJ, 64, .inr (.inl (ww_lo (ww_ad on off se cl an bm ww_k64) ww_k64 (ww_fl (fun _ => 0) ww_k64 so)))))] t.heap ∧ va_K (dC, dI) vwCl (wz_T cI cJ cZ) t ∧ va_D (va_A [(aM, .inr (1, [.ref abm, .ref aso, .int (nI mv)])), (abm, .inl (cJ, 64, .inr (.inl bm))), (aso, .inl (cJ, 64, .inr (.inl so)))] sz) [(aM, .inr (1, [.ref abm, .ref aso, .int (nI (mv + 1))])), (abm, .inl (cJ, 64, .inr (.inl (ww_ad on off se cl an bm ww_k64)))), (aso, .inl (cJ, 64, .inr (.inl (ww_lo (ww_ad on off se cl an bm ww_k64) ww_k64 (ww_fl (fun _ => 0) ww_k64 so)))))]) (va_A [(aM, .inr (1, [.ref abm, .ref aso, .int (nI mv)])), (abm, .inl (cJ, 64, .inr (.inl bm))), (aso, .inl (cJ, 64, .inr (.inl so)))] sz)) 0 0 (va_A [(aM, .inr (1, [.ref abm, .ref aso, .int (nI mv)])), (abm, .inl (cJ, 64, .inr (.inl bm))), (aso, .inl (cJ, 64, .inr (.inl so)))] sz) := by
  refine Met.ofW (cc := cMa_add) (maxL := 7) (ret := (some .int)) (by decide) rfl ?_
  intro p e s m args below meth c s₁ B hml hv
  obtain ⟨rfl, hsz, hP, hK, hD0, hN⟩ := hv
  have hx := B.exec
  have hb := B.bytes
  have hr := B.returns
  have hts := atoms_spec (ws := (.code yMa_add cMa_add 7 (some .int) :: wz_all)) B.pre
  have hw : ∀ w9 ∈ wz_all, w9.before [.ref aM, .int (nI on), .int (nI off), .int (nI se), .int (nI cl), .int (nI an)].toArray s = true := fun w9 h => hts w9 (List.mem_cons_of_mem _ h)
  have hown : s.vm.findClass RMa = some m.cls := findClass_of_methodNamed B.named
  have hlocks := B.notSynchronized
  subst hsz
  have hD := hD0.self (sz := s.heap.size)
  generalize hAe : va_A [(aM, .inr (1, [.ref abm, .ref aso, .int (nI mv)])), (abm, .inl (cJ, 64, .inr (.inl bm))), (aso, .inl (cJ, 64, .inr (.inl so)))] s.heap.size = A at hD ⊢
  have hA : ∀ q : Nat, s.heap.size ≤ q → A q := fun q h => by rw [← hAe]; exact Or.inr h
  have hS : va_S A s.heap s.heap [] := va_S.rf
  have hP : va_P (dC, dI) vwCl [(aM, .inr (1, [.ref abm, .ref aso, .int (nI mv)])), (abm, .inl (cJ, 64, .inr (.inl bm))), (aso, .inl (cJ, 64, .inr (.inl so)))] s.heap := hP
  have hl := lv_entry ([.ref aM, .int (nI on), .int (nI off), .int (nI se), .int (nI cl), .int (nI an)]) (n := 7) (Nat.le_of_ble_eq_true rfl)
  rw [lg_entry_eq]
  generalize (lg_sl ([.ref aM, .int (nI on), .int (nI off), .int (nI se), .int (nI cl), .int (nI an)]) ++ List.replicate (7 - (lg_sl ([.ref aM, .int (nI on), .int (nI off), .int (nI se), .int (nI cl), .int (nI an)])).length) Slot.unset).toArray = ls at hl ⊢
  have hl : lv_has ls 7 [(0, .ref aM), (1, .int (nI on)), (2, .int (nI off)), (3, .int (nI se)), (4, .int (nI cl)), (5, .int (nI an))] := hl
  have cut3 : ∀ (n3 : Nat) (s1 : Nat) (bm1 : Nat → Int64) (hs : s1 ≤ 64) (hbm : bm1 = ww_ad on off se cl an bm s1), 64 - s1 = n3 → ∀ (H : Heap) (locs : List Loc), va_P (dC, dI) vwCl [(aM, .inr (1, [.ref abm, .ref aso, .int (nI mv)])), (abm, .inl (cJ, 64, .inr (.inl bm1))), (aso, .inl (cJ, 64, .inr (.inl so)))] H → va_D A [(aM, .inr (1, [.ref abm, .ref aso, .int (nI mv)])), (abm, .inl (cJ, 64, .inr (.inl bm1))), (aso, .inl (cJ, 64, .inr (.inl so)))] → va_S A s.heap H locs → ∀ ls : Array Slot, lv_has ls 7 [(6, .int (nI s1)), (0, .ref aM), (1, .int (nI on)), (2, .int (nI off)), (3, .int (nI se)), (4, .int (nI cl)), (5, .int (nI an))] → W p l e (headSpec (.code yMa_add cMa_add 7 (some .int) :: wz_all) ({ frames := 4, cells := 0, slots := 0, locals := 88 })).room s m [.ref aM, .int (nI on), .int (nI off), .int (nI se), .int (nI cl), .int (nI an)].toArray below meth c H locs 0 0 (MQ below (va_Qi (fun (r : Int32) (_ : Unit) => r = nI (mv + 1)) (fun _ t => va_P (dC, dI) vwCl [(aM, .inr (1, [.ref abm, .ref aso, .int (nI (mv + 1))])), (abm, .inl (cJ, 64, .inr (.inl (ww_ad on off se cl an bm ww_k64)))), (aso, .inl (cJ, 64, .inr (.inl (ww_lo (ww_ad on off se cl an bm ww_k64) ww_k64 (ww_fl (fun _ => 0) ww_k64 so)))))] t.heap ∧ va_K (dC, dI) vwCl (wz_T cI cJ cZ) t ∧ va_D A [(aM, .inr (1, [.ref abm, .ref aso, .int (nI (mv + 1))])), (abm, .inl (cJ, 64, .inr (.inl (ww_ad on off se cl an bm ww_k64)))), (aso, .inl (cJ, 64, .inr (.inl (ww_lo (ww_ad on off se cl an bm ww_k64) ww_k64 (ww_fl (fun _ => 0) ww_k64 so)))))]) A) [.ref aM, .int (nI on), .int (nI off), .int (nI se), .int (nI cl), .int (nI an)].toArray s 0 0 A) (F0 m 3 ls []) := by
    intro n3
    induction n3 using Nat.strongRecOn with
    | _ n3 ih3 =>
    intro s1 bm1 hs hbm hm3 H locs hP hD hS ls hl
    refine lv_iload hx hb dMa_add_3 (lv_at hl 0 rfl) ?_
    refine lv_bipush (v := nI 64) hx hb dMa_add_5 (by decide) ?_
    refine wz_icmp_ge (x := s1) (y := 64) (tgt := 60) hx hb (by omega) (by omega) dMa_add_7 (by decide) (fun h7_1 => ?_) (fun h7_1 => ?_)
    · skip
      refine lv_aload_n hx hb dMa_add_60 rfl (lv_at hl 1 rfl) ?_
      refine wz_callv (wc := [(aM, .inr (1, [.ref abm, .ref aso, .int (nI mv)])), (abm, .inl (cJ, 64, .inr (.inl bm1))), (aso, .inl (cJ, 64, .inr (.inl so)))]) (wr := []) (w1 := [(aM, .inr (1, [.ref abm, .ref aso, .int (nI mv)])), (abm, .inl (cJ, 64, .inr (.inl bm1))), (aso, .inl (cJ, 64, .inr (.inl (ww_lo bm1 ww_k64 (ww_fl (fun _ => 0) ww_k64 so)))))]) (ws' := [(aM, .inr (1, [.ref abm, .ref aso, .int (nI mv)])), (abm, .inl (cJ, 64, .inr (.inl bm1))), (aso, .inl (cJ, 64, .inr (.inl (ww_lo bm1 ww_k64 (ww_fl (fun _ => 0) ww_k64 so)))))]) hP hD hS hA [0, 1, 2] [] [0, 1, 2] rfl rfl (by decide) (by decide) (by decide) rfl rfl (va_runV (As := []) (rest := []) ⟨hx, hb, hml, hown, hts⟩ (kMa_linkSources l dC dI cI cJ cZ H.size aM abm aso mv bm1 so) (cwV 0 hts (wz_gV w_57 w_58 w_0 w_32 w_59) rfl rfl rfl (by decide +kernel) ⟨Nat.le_of_ble_eq_true rfl, Nat.le_of_ble_eq_true rfl⟩) (wz_preV (q := (RMa, TMa, 3)) (ci := 1) hN hK hP hD [0, 1, 2] (by decide) rfl rfl 0 rfl rfl) rfl rfl hl.1 rfl (lv_room (Nat.le_of_ble_eq_true rfl)) dMa_add_61 ⟨Nat.le_refl _, Nat.le_refl _⟩) (fun H locs hP hD hS => ?_)
      refine lv_aload_n hx hb dMa_add_64 rfl (lv_at hl 1 rfl) ?_
      refine lv_dup hx hb dMa_add_65 rfl ?_
      refine va_get (D := (dC, dI)) (ci := 1) (v := .int (nI mv)) (C := RMa) (T := TMa) (N := 3) hx hb hw in_Ma hown hK hP 0 rfl rfl 2 (by decide) (hw _ w_78) (fun _ h9 => h9) rfl dMa_add_66 ?_
      refine lv_iconst (v := nI 1) hx hb dMa_add_69 (by decide) ?_
      refine wz_iadd hx hb dMa_add_70 ?_
      refine va_put (D := (dC, dI)) (ci := 1) (v := .int (nI (mv + 1))) (ty := .int) (C := RMa) (T := TMa) (N := 3) hx hb hw in_Ma tyMa tyMa_ok nmMa hown hK hP hD hS 0 rfl rfl 2 (by decide) (hw _ w_78) (fun _ h9 => h9) rfl (by decide +kernel) rfl rfl (Nat.le_of_ble_eq_true rfl) dMa_add_71 (fun H locs hP hD hS => ?_)
      have hP : va_P (dC, dI) vwCl [(aM, .inr (1, [.ref abm, .ref aso, .int (nI (mv + 1))])), (abm, .inl (cJ, 64, .inr (.inl bm1))), (aso, .inl (cJ, 64, .inr (.inl (ww_lo bm1 ww_k64 (ww_fl (fun _ => 0) ww_k64 so)))))] H := hP
      have hD : va_D A [(aM, .inr (1, [.ref abm, .ref aso, .int (nI (mv + 1))])), (abm, .inl (cJ, 64, .inr (.inl bm1))), (aso, .inl (cJ, 64, .inr (.inl (ww_lo bm1 ww_k64 (ww_fl (fun _ => 0) ww_k64 so)))))] := hD
      refine lv_aload_n hx hb dMa_add_74 rfl (lv_at hl 1 rfl) ?_
      refine va_get (D := (dC, dI)) (ci := 1) (v := .int (nI (mv + 1))) (C := RMa) (T := TMa) (N := 3) hx hb hw in_Ma hown hK hP 0 rfl rfl 2 (by decide) (hw _ w_78) (fun _ h9 => h9) rfl dMa_add_75 ?_
      obtain rfl : s1 = ww_k64 := by rw [ww_k64_eq]; omega
      subst hbm
      exact wz_iret hx hb hr hlocks rfl hP hD hK hS dMa_add_78
    · skip
      refine lv_iload hx hb dMa_add_10 (lv_at hl 0 rfl) ?_
      refine lv_iload_n hx hb dMa_add_12 rfl (lv_at hl 2 rfl) ?_
      refine lv_iand hx hb dMa_add_13 ?_
      refine W.eq (g2 := F0 m 14 ls [.int (nI (s1 &&& on))]) (by rw [show ((nI s1) &&& (nI on) : Int32) = nI (s1 &&& on) from (by rw [ww_na s1 (by omega) on hon])]) ?_
      refine lv_iload_n hx hb dMa_add_14 rfl (lv_at hl 2 rfl) ?_
      refine wz_icmp_ne (x := s1 &&& on) (y := on) (tgt := 54) hx hb (ww_a31 hon) (by omega) dMa_add_15 (by decide) (fun h15_2 => ?_) (fun h15_2 => ?_)
      · skip
        refine lv_iinc (v := nI (s1 + 1)) (lv' := [(6, .int (nI (s1 + 1))), (0, .ref aM), (1, .int (nI on)), (2, .int (nI off)), (3, .int (nI se)), (4, .int (nI cl)), (5, .int (nI an))]) hx hb dMa_add_54 hl (k := 0) rfl ((nI_succ _).symm) (by decide) rfl (fun ls hl => ?_)
        refine lv_goto (tgt := 3) hx hb dMa_add_57 (by decide) ?_
        exact ih3 _ (by omega) (s1 + 1) bm1 (by omega) (by subst hbm; first | exact (if_neg h15_2).symm | exact ((if_pos h15_2).trans (if_neg h_none)).symm | exact ((if_pos h15_2).trans (if_pos h_none)).symm) rfl _ _ hP hD hS _ hl
      · skip
        refine lv_iload hx hb dMa_add_18 (lv_at hl 0 rfl) ?_
        refine lv_iload_n hx hb dMa_add_20 rfl (lv_at hl 3 rfl) ?_
        refine lv_iand hx hb dMa_add_21 ?_
        refine W.eq (g2 := F0 m 22 ls [.int (nI (s1 &&& off))]) (by rw [show ((nI s1) &&& (nI off) : Int32) = nI (s1 &&& off) from (by rw [ww_na s1 (by omega) off hoff])]) ?_
        refine wz_ifN_ne (x := s1 &&& off) (tgt := 54) hx hb (ww_a31 hoff) dMa_add_22 (by decide) (fun h22_3 => ?_) (fun h22_3 => ?_)
        · skip
          refine lv_iinc (v := nI (s1 + 1)) (lv' := [(6, .int (nI (s1 + 1))), (0, .ref aM), (1, .int (nI on)), (2, .int (nI off)), (3, .int (nI se)), (4, .int (nI cl)), (5, .int (nI an))]) hx hb dMa_add_54 hl (k := 0) rfl ((nI_succ _).symm) (by decide) rfl (fun ls hl => ?_)
          refine lv_goto (tgt := 3) hx hb dMa_add_57 (by decide) ?_
          exact ih3 _ (by omega) (s1 + 1) bm1 (by omega) (by subst hbm; first | exact (if_neg h15_2).symm | exact ((if_pos h15_2).trans (if_neg h22_3)).symm | exact ((if_pos h15_2).trans (if_pos h22_3)).symm) rfl _ _ hP hD hS _ hl
        · skip
          refine lv_aload_n hx hb dMa_add_25 rfl (lv_at hl 1 rfl) ?_
          refine va_get (D := (dC, dI)) (ci := 1) (v := .ref abm) (C := RMa) (T := TMa) (N := 3) hx hb hw in_Ma hown hK hP 0 rfl rfl 0 (by decide) (hw _ w_76) (fun _ h9 => h9) rfl dMa_add_26 ?_
          refine lv_iload hx hb dMa_add_29 (lv_at hl 0 rfl) ?_
          refine lv_dup2_11 hx hb dMa_add_31 rfl rfl ?_
          refine wz_lald hx hb hK hP 1 1 rfl rfl (i := s1) (by omega) (by decide) dMa_add_32 ?_
          refine lv_iload hx hb dMa_add_33 (lv_at hl 0 rfl) ?_
          refine lv_iload_n hx hb dMa_add_35 rfl (lv_at hl 4 rfl) ?_
          refine lv_ior hx hb dMa_add_36 ?_
          refine W.eq (g2 := F0 m 37 ls [.int (nI (s1 ||| se)), .long (bm1 s1), .int (nI s1), .ref abm]) (by rw [show ((nI s1) ||| (nI se) : Int32) = nI (s1 ||| se) from (by rw [ww_no s1 (by omega) se hse])]) ?_
          refine lv_iload hx hb dMa_add_37 (lv_at hl 5 rfl) ?_
          refine lv_iconst (v := (-1)) hx hb dMa_add_39 (by decide) ?_
          refine lv_ixor hx hb dMa_add_40 ?_
          refine lv_iand hx hb dMa_add_41 ?_
          refine W.eq (g2 := F0 m 42 ls [.int (nI ((s1 ||| se) &&& (63 ^^^ cl))), .long (bm1 s1), .int (nI s1), .ref abm]) (by rw [show ((nI (s1 ||| se)) &&& ((nI cl) ^^^ (-1)) : Int32) = nI ((s1 ||| se) &&& (63 ^^^ cl)) from (by rw [ww_nn _ (ww_o64 (by omega) hse) cl hcl])]) ?_
          refine lv_iload hx hb dMa_add_42 (lv_at hl 6 rfl) ?_
          refine lv_iconst (v := (-1)) hx hb dMa_add_44 (by decide) ?_
          refine lv_ixor hx hb dMa_add_45 ?_
          refine lv_iand hx hb dMa_add_46 ?_
          refine W.eq (g2 := F0 m 47 ls [.int (nI (((s1 ||| se) &&& (63 ^^^ cl)) &&& (63 ^^^ an))), .long (bm1 s1), .int (nI s1), .ref abm]) (by rw [show ((nI ((s1 ||| se) &&& (63 ^^^ cl))) &&& ((nI an) ^^^ (-1)) : Int32) = nI (((s1 ||| se) &&& (63 ^^^ cl)) &&& (63 ^^^ an)) from (by rw [ww_nn _ (ww_a64 (ww_x64' hcl)) an han])]) ?_
          refine lv_iload hx hb dMa_add_47 (lv_at hl 6 rfl) ?_
          refine wz_calll (wc := []) (wr := [(aM, .inr (1, [.ref abm, .ref aso, .int (nI mv)])), (abm, .inl (cJ, 64, .inr (.inl bm1))), (aso, .inl (cJ, 64, .inr (.inl so)))]) (w1 := []) (ws' := [(aM, .inr (1, [.ref abm, .ref aso, .int (nI mv)])), (abm, .inl (cJ, 64, .inr (.inl bm1))), (aso, .inl (cJ, 64, .inr (.inl so)))]) hP hD hS hA [] [0, 1, 2] [0, 1, 2] rfl rfl (by decide) (by decide) (by decide) rfl rfl (va_runS (As := [.int (nI (((s1 ||| se) &&& (63 ^^^ cl)) &&& (63 ^^^ an))), .int (nI an)]) (rest := [.long (bm1 s1), .int (nI s1), .ref abm]) ⟨hx, hb, hml, hown, hts⟩ (kMa_spread l dC dI cI cJ cZ H.size (((s1 ||| se) &&& (63 ^^^ cl)) &&& (63 ^^^ an)) an (ww_a64 (ww_x64' han)) han) (va_cwS 2 hts (wz_gS w_304 w_305 w_32 w_306) rfl rfl rfl (by decide +kernel) ⟨Nat.le_of_ble_eq_true rfl, Nat.le_of_ble_eq_true rfl⟩) (wz_preS hN hK hP hD [] (by decide) rfl rfl) rfl rfl hl.1 rfl (lv_room (Nat.le_of_ble_eq_true rfl)) dMa_add_49 ⟨Nat.le_refl _, Nat.le_refl _⟩) (fun H locs hP hD hS => ?_)
          refine lv_lor hx hb dMa_add_52 ?_
          refine wz_last (ws' := [(aM, .inr (1, [.ref abm, .ref aso, .int (nI mv)])), (abm, .inl (cJ, 64, .inr (.inl (vp_updL bm1 s1 ((bm1 s1) ||| (ww_sp (((s1 ||| se) &&& (63 ^^^ cl)) &&& (63 ^^^ an)) an)))))), (aso, .inl (cJ, 64, .inr (.inl so)))]) hx hb hK hP hD hS 1 1 rfl rfl (i := s1) (by omega) (by decide) dMa_add_53 rfl (fun H locs hP hD hS => ?_)
          refine lv_iinc (v := nI (s1 + 1)) (lv' := [(6, .int (nI (s1 + 1))), (0, .ref aM), (1, .int (nI on)), (2, .int (nI off)), (3, .int (nI se)), (4, .int (nI cl)), (5, .int (nI an))]) hx hb dMa_add_54 hl (k := 0) rfl ((nI_succ _).symm) (by decide) rfl (fun ls hl => ?_)
          refine lv_goto (tgt := 3) hx hb dMa_add_57 (by decide) ?_
          exact ih3 _ (by omega) (s1 + 1) (vp_updL bm1 s1 ((bm1 s1) ||| (ww_sp (((s1 ||| se) &&& (63 ^^^ cl)) &&& (63 ^^^ an)) an))) (by omega) (by subst hbm; first | exact (if_neg h15_2).symm | exact ((if_pos h15_2).trans (if_neg h22_3)).symm | exact ((if_pos h15_2).trans (if_pos h22_3)).symm) rfl _ _ hP hD hS _ hl
  refine lv_iconst (v := nI 0) hx hb dMa_add_0 (by decide) ?_
  refine lv_istore (lv' := [(6, .int (nI 0)), (0, .ref aM), (1, .int (nI on)), (2, .int (nI off)), (3, .int (nI se)), (4, .int (nI cl)), (5, .int (nI an))]) hx hb dMa_add_1 hl (by decide) rfl (fun ls hl => ?_)
  exact cut3 _ 0 bm (by omega) rfl rfl _ _ hP hD hS _ hl
