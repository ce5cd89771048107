/-! contracts, laid by a program of mine. -/
set_option maxHeartbeats 4000000 in
set_option maxRecDepth 100000 in
theorem kMo_followersOf (l : Launch) (dC : Nat → ClassId) (dI : Nat → Nat → Nat) (cI cJ cZ : ClassId) (sz : Nat) (aR : Nat) (ams : Nat) (ann : Nat) (ak2 : Nat) (af2 : Nat) (as2 : Nat) (ah2 : Nat) (afa : Nat) (afx : Nat) (ald : Nat) (awy : Nat) (alt : Nat) (abg : Nat) (th : Nat) (mv : Nat) (n : Nat) (fc : Nat) (zz : Nat) (lp : Int32) (tl : Bool) (mn : Nat → Nat) (k : Nat) (hk64 : k < 64) (hmv : mv ≤ 16) (hmn : ∀ j, j < 5 * mv → mn j < 64) : Met l yMo_followersOf (.code yMo_followersOf cMo_followersOf 8 (some .long) :: wz_all) ({ frames := 0, cells := 0, slots := 0, locals := 0 }) (wz_Pc (dC, dI) vwCl (wz_T cI cJ cZ) [.ref aR, .int (nI k)] sz [(aR, .inr (7, [.int (nI th), .int (nI mv), .ref ams, .ref ann, .int (nI n), .ref ak2, .ref af2, .ref as2, .ref ah2, .int (nI fc), .ref afa, .ref afx, .ref ald, .int (nI zz), .ref awy, .int lp, .ref alt, .ref abg, .int (wz_i tl)])), (ams, .inl (cI, 80, .inl (wz_n mn)))]) (va_Ql (fun (r : Int64) (_ : Unit) => r = ww_nxt mn mv k) (fun _ t => va_P (dC, dI) vwCl [(aR, .inr (7, [.int (nI th), .int (nI mv), .ref ams, .ref ann, .int (nI n), .ref ak2, .ref af2, .ref as2, .ref ah2, .int (nI fc), .ref afa, .ref afx, .ref ald, .int (nI zz), .ref awy, .int lp, .ref alt, .ref abg, .int (wz_i tl)])), (ams, .inl (cI, 80, .inl (wz_n mn)))] t.heap ∧ va_K (dC, dI) vwCl (wz_T cI cJ cZ) t ∧ va_D (va_A [(aR, .inr (7, [.int (nI th), .int (nI mv), .ref ams, .ref ann, .int (nI n), .ref ak2, .ref af2, .ref as2, .ref ah2, .int (nI fc), .ref afa, .ref afx, .ref ald, .int (nI zz), .ref awy, .int lp, .ref alt, .ref abg, .int (wz_i tl)])), (ams, .inl (cI, 80, .inl (wz_n mn)))] sz) [(aR, .inr (7, [.int (nI th), .int (nI mv), .ref ams, .ref ann, .int (nI n), .ref ak2, .ref af2, .ref as2, .ref ah2, .int (nI fc), .ref afa, .ref afx, .ref ald, .int (nI zz), .ref awy, .int lp, .ref alt, .ref abg, .int (wz_i tl)])), (ams, .inl (cI, 80, .inl (wz_n mn)))]) (va_A [(aR, .inr (7, [.int (nI th), .int (nI mv), .ref ams, .ref ann, .int (nI n), .ref ak2, .ref af2, .ref as2, .ref ah2, .int (nI fc), .ref afa, .ref afx, .ref ald, .int (nI zz), .ref awy, .int lp, .ref alt, .ref abg, .int (wz_i tl)])), (ams, .inl (cI, 80, .inl (wz_n mn)))] sz)) 0 0 (va_A [(aR, .inr (7, [.int (nI th), .int (nI mv), .ref ams, .ref ann, .int (nI n), .ref ak2, .ref af2, .ref as2, .ref ah2, .int (nI fc), .ref afa, .ref afx, .ref ald, .int (nI zz), .ref awy, .int lp, .ref alt, .ref abg, .int (wz_i tl)])), (ams, .inl (cI, 80, .inl (wz_n mn)))] sz) := by
  refine Met.ofW (cc := cMo_followersOf) (maxL := 8) (ret := (some .long)) (by decide) rfl ?_
  intro p e s m args below meth c s₁ B hml hv
  obtain ⟨rfl, hsz, hP, hK, hD0, hN⟩ := hv
  have hx := B.exec
  have hb := B.bytes
  have hr := B.returns
  have hts := atoms_spec (ws := (.code yMo_followersOf cMo_followersOf 8 (some .long) :: wz_all)) B.pre
  have hw : ∀ w9 ∈ wz_all, w9.before [.ref aR, .int (nI k)].toArray s = true := fun w9 h => hts w9 (List.mem_cons_of_mem _ h)
  have hown : s.vm.findClass RMo = some m.cls := findClass_of_methodNamed B.named
  have hlocks := B.notSynchronized
  subst hsz
  have hD := hD0.self (sz := s.heap.size)
  generalize hAe : va_A [(aR, .inr (7, [.int (nI th), .int (nI mv), .ref ams, .ref ann, .int (nI n), .ref ak2, .ref af2, .ref as2, .ref ah2, .int (nI fc), .ref afa, .ref afx, .ref ald, .int (nI zz), .ref awy, .int lp, .ref alt, .ref abg, .int (wz_i tl)])), (ams, .inl (cI, 80, .inl (wz_n mn)))] s.heap.size = A at hD ⊢
  have hA : ∀ q : Nat, s.heap.size ≤ q → A q := fun q h => by rw [← hAe]; exact Or.inr h
  have hS : va_S A s.heap s.heap [] := va_S.rf
  have hP : va_P (dC, dI) vwCl [(aR, .inr (7, [.int (nI th), .int (nI mv), .ref ams, .ref ann, .int (nI n), .ref ak2, .ref af2, .ref as2, .ref ah2, .int (nI fc), .ref afa, .ref afx, .ref ald, .int (nI zz), .ref awy, .int lp, .ref alt, .ref abg, .int (wz_i tl)])), (ams, .inl (cI, 80, .inl (wz_n mn)))] s.heap := hP
  have hl := lv_entry ([.ref aR, .int (nI k)]) (n := 8) (Nat.le_of_ble_eq_true rfl)
  rw [lg_entry_eq]
  generalize (lg_sl ([.ref aR, .int (nI k)]) ++ List.replicate (8 - (lg_sl ([.ref aR, .int (nI k)])).length) Slot.unset).toArray = ls at hl ⊢
  have hl : lv_has ls 8 [(0, .ref aR), (1, .int (nI k))] := hl
  have cut5 : ∀ (n5 : Nat) (j : Nat) (x : Int64) (hj : j ≤ mv) (hxx : x = ww_fb mn k j), mv - j = n5 → ∀ (H : Heap) (locs : List Loc), va_P (dC, dI) vwCl [(aR, .inr (7, [.int (nI th), .int (nI mv), .ref ams, .ref ann, .int (nI n), .ref ak2, .ref af2, .ref as2, .ref ah2, .int (nI fc), .ref afa, .ref afx, .ref ald, .int (nI zz), .ref awy, .int lp, .ref alt, .ref abg, .int (wz_i tl)])), (ams, .inl (cI, 80, .inl (wz_n mn)))] H → va_D A [(aR, .inr (7, [.int (nI th), .int (nI mv), .ref ams, .ref ann, .int (nI n), .ref ak2, .ref af2, .ref as2, .ref ah2, .int (nI fc), .ref afa, .ref afx, .ref ald, .int (nI zz), .ref awy, .int lp, .ref alt, .ref abg, .int (wz_i tl)])), (ams, .inl (cI, 80, .inl (wz_n mn)))] → va_S A s.heap H locs → ∀ ls : Array Slot, lv_has ls 8 [(4, .int (nI (5 * j))), (2, .long x), (0, .ref aR), (1, .int (nI k))] → W p l e (headSpec (.code yMo_followersOf cMo_followersOf 8 (some .long) :: wz_all) ({ frames := 0, cells := 0, slots := 0, locals := 0 })).room s m [.ref aR, .int (nI k)].toArray below meth c H locs 0 0 (MQ below (va_Ql (fun (r : Int64) (_ : Unit) => r = ww_nxt mn mv k) (fun _ t => va_P (dC, dI) vwCl [(aR, .inr (7, [.int (nI th), .int (nI mv), .ref ams, .ref ann, .int (nI n), .ref ak2, .ref af2, .ref as2, .ref ah2, .int (nI fc), .ref afa, .ref afx, .ref ald, .int (nI zz), .ref awy, .int lp, .ref alt, .ref abg, .int (wz_i tl)])), (ams, .inl (cI, 80, .inl (wz_n mn)))] t.heap ∧ va_K (dC, dI) vwCl (wz_T cI cJ cZ) t ∧ va_D A [(aR, .inr (7, [.int (nI th), .int (nI mv), .ref ams, .ref ann, .int (nI n), .ref ak2, .ref af2, .ref as2, .ref ah2, .int (nI fc), .ref afa, .ref afx, .ref ald, .int (nI zz), .ref awy, .int lp, .ref alt, .ref abg, .int (wz_i tl)])), (ams, .inl (cI, 80, .inl (wz_n mn)))]) A) [.ref aR, .int (nI k)].toArray s 0 0 A) (F0 m 5 ls []) := by
    intro n5
    induction n5 using Nat.strongRecOn with
    | _ n5 ih5 =>
    intro j x hj hxx hm5 H locs hP hD hS ls hl
    have cut51 : ∀ (po : Bool) (hj1 : j < mv) (hpo : po = ww_ok (mn (5 * j)) (mn (5 * j + 1)) k), ∀ (H : Heap) (locs : List Loc), va_P (dC, dI) vwCl [(aR, .inr (7, [.int (nI th), .int (nI mv), .ref ams, .ref ann, .int (nI n), .ref ak2, .ref af2, .ref as2, .ref ah2, .int (nI fc), .ref afa, .ref afx, .ref ald, .int (nI zz), .ref awy, .int lp, .ref alt, .ref abg, .int (wz_i tl)])), (ams, .inl (cI, 80, .inl (wz_n mn)))] H → va_D A [(aR, .inr (7, [.int (nI th), .int (nI mv), .ref ams, .ref ann, .int (nI n), .ref ak2, .ref af2, .ref as2, .ref ah2, .int (nI fc), .ref afa, .ref afx, .ref ald, .int (nI zz), .ref awy, .int lp, .ref alt, .ref abg, .int (wz_i tl)])), (ams, .inl (cI, 80, .inl (wz_n mn)))] → va_S A s.heap H locs → ∀ ls : Array Slot, lv_has ls 8 [(5, .int (wz_i po)), (4, .int (nI (5 * j))), (2, .long x), (0, .ref aR), (1, .int (nI k))] → W p l e (headSpec (.code yMo_followersOf cMo_followersOf 8 (some .long) :: wz_all) ({ frames := 0, cells := 0, slots := 0, locals := 0 })).room s m [.ref aR, .int (nI k)].toArray below meth c H locs 0 0 (MQ below (va_Ql (fun (r : Int64) (_ : Unit) => r = ww_nxt mn mv k) (fun _ t => va_P (dC, dI) vwCl [(aR, .inr (7, [.int (nI th), .int (nI mv), .ref ams, .ref ann, .int (nI n), .ref ak2, .ref af2, .ref as2, .ref ah2, .int (nI fc), .ref afa, .ref afx, .ref ald, .int (nI zz), .ref awy, .int lp, .ref alt, .ref abg, .int (wz_i tl)])), (ams, .inl (cI, 80, .inl (wz_n mn)))] t.heap ∧ va_K (dC, dI) vwCl (wz_T cI cJ cZ) t ∧ va_D A [(aR, .inr (7, [.int (nI th), .int (nI mv), .ref ams, .ref ann, .int (nI n), .ref ak2, .ref af2, .ref as2, .ref ah2, .int (nI fc), .ref afa, .ref afx, .ref ald, .int (nI zz), .ref awy, .int lp, .ref alt, .ref abg, .int (wz_i tl)])), (ams, .inl (cI, 80, .inl (wz_n mn)))]) A) [.ref aR, .int (nI k)].toArray s 0 0 A) (F0 m 51 ls []) := by
      intro po hj1 hpo H locs hP hD hS ls hl
      have cut79 : ∀ (n79 : Nat) (t : Nat) (x2 : Int64) (ht : t ≤ 64) (hx2 : x2 = ww_acc (ww_ti (mn (5 * j + 4)) ((k ||| mn (5 * j + 2)) &&& (63 ^^^ mn (5 * j + 3)))) x po t), 64 - t = n79 → ∀ (H : Heap) (locs : List Loc), va_P (dC, dI) vwCl [(aR, .inr (7, [.int (nI th), .int (nI mv), .ref ams, .ref ann, .int (nI n), .ref ak2, .ref af2, .ref as2, .ref ah2, .int (nI fc), .ref afa, .ref afx, .ref ald, .int (nI zz), .ref awy, .int lp, .ref alt, .ref abg, .int (wz_i tl)])), (ams, .inl (cI, 80, .inl (wz_n mn)))] H → va_D A [(aR, .inr (7, [.int (nI th), .int (nI mv), .ref ams, .ref ann, .int (nI n), .ref ak2, .ref af2, .ref as2, .ref ah2, .int (nI fc), .ref afa, .ref afx, .ref ald, .int (nI zz), .ref awy, .int lp, .ref alt, .ref abg, .int (wz_i tl)])), (ams, .inl (cI, 80, .inl (wz_n mn)))] → va_S A s.heap H locs → ∀ ls : Array Slot, lv_has ls 8 [(7, .int (nI t)), (6, .int (nI ((k ||| mn (5 * j + 2)) &&& (63 ^^^ mn (5 * j + 3))))), (5, .int (wz_i po)), (4, .int (nI (5 * j))), (2, .long x2), (0, .ref aR), (1, .int (nI k))] → W p l e (headSpec (.code yMo_followersOf cMo_followersOf 8 (some .long) :: wz_all) ({ frames := 0, cells := 0, slots := 0, locals := 0 })).room s m [.ref aR, .int (nI k)].toArray below meth c H locs 0 0 (MQ below (va_Ql (fun (r : Int64) (_ : Unit) => r = ww_nxt mn mv k) (fun _ t => va_P (dC, dI) vwCl [(aR, .inr (7, [.int (nI th), .int (nI mv), .ref ams, .ref ann, .int (nI n), .ref ak2, .ref af2, .ref as2, .ref ah2, .int (nI fc), .ref afa, .ref afx, .ref ald, .int (nI zz), .ref awy, .int lp, .ref alt, .ref abg, .int (wz_i tl)])), (ams, .inl (cI, 80, .inl (wz_n mn)))] t.heap ∧ va_K (dC, dI) vwCl (wz_T cI cJ cZ) t ∧ va_D A [(aR, .inr (7, [.int (nI th), .int (nI mv), .ref ams, .ref ann, .int (nI n), .ref ak2, .ref af2, .ref as2, .ref ah2, .int (nI fc), .ref afa, .ref afx, .ref ald, .int (nI zz), .ref awy, .int lp, .ref alt, .ref abg, .int (wz_i tl)])), (ams, .inl (cI, 80, .inl (wz_n mn)))]) A) [.ref aR, .int (nI k)].toArray s 0 0 A) (F0 m 79 ls []) := by
        intro n79
        induction n79 using Nat.strongRecOn with
        | _ n79 ih79 =>
        intro t x2 ht hx2 hm79 H locs hP hD hS ls hl
        refine lv_iload hx hb dMo_followersOf_79 (lv_at hl 0 rfl) ?_
        refine lv_bipush (v := nI 64) hx hb dMo_followersOf_81 (by decide) ?_
        refine wz_icmp_ge (x := t) (y := 64) (tgt := 128) hx hb (by omega) (by omega) dMo_followersOf_83 (by decide) (fun h83_1 => ?_) (fun h83_1 => ?_)
        · skip
          refine lv_iinc (v := nI (5 * j + 5)) (lv' := [(4, .int (nI (5 * j + 5))), (7, .int (nI t)), (6, .int (nI ((k ||| mn (5 * j + 2)) &&& (63 ^^^ mn (5 * j + 3))))), (5, .int (wz_i po)), (2, .long x2), (0, .ref aR), (1, .int (nI k))]) hx hb dMo_followersOf_128 hl (k := 3) rfl (by rw [← nI_add]; rfl) (by decide) rfl (fun ls hl => ?_)
          refine lv_goto (tgt := 5) hx hb dMo_followersOf_131 (by decide) ?_
          exact ih5 _ (by omega) (j + 1) x2 (by omega) (by subst hxx; rw [hx2]; first | exact ww_acc_end hpo (Or.inl (by omega)) | exact ww_acc_end hpo (Or.inr h_none)) rfl _ _ hP hD hS _ (lv_sub hl [0, 4, 5, 6] rfl)
        · skip
          refine lv_iload hx hb dMo_followersOf_86 (lv_at hl 2 rfl) ?_
          refine wz_ifz (tgt := 128) hx hb dMo_followersOf_88 (by decide) (fun h88_2 => ?_) (fun h88_2 => ?_)
          · skip
            refine lv_iinc (v := nI (5 * j + 5)) (lv' := [(4, .int (nI (5 * j + 5))), (7, .int (nI t)), (6, .int (nI ((k ||| mn (5 * j + 2)) &&& (63 ^^^ mn (5 * j + 3))))), (5, .int (wz_i po)), (2, .long x2), (0, .ref aR), (1, .int (nI k))]) hx hb dMo_followersOf_128 hl (k := 3) rfl (by rw [← nI_add]; rfl) (by decide) rfl (fun ls hl => ?_)
            refine lv_goto (tgt := 5) hx hb dMo_followersOf_131 (by decide) ?_
            exact ih5 _ (by omega) (j + 1) x2 (by omega) (by subst hxx; rw [hx2]; first | exact ww_acc_end hpo (Or.inl (by omega)) | exact ww_acc_end hpo (Or.inr h88_2)) rfl _ _ hP hD hS _ (lv_sub hl [0, 4, 5, 6] rfl)
          · skip
            refine lv_iload hx hb dMo_followersOf_91 (lv_at hl 0 rfl) ?_
            refine lv_iload hx hb dMo_followersOf_93 (lv_at hl 1 rfl) ?_
            refine lv_ixor hx hb dMo_followersOf_95 ?_
            refine W.eq (g2 := F0 m 96 ls [.int (nI (t ^^^ ((k ||| mn (5 * j + 2)) &&& (63 ^^^ mn (5 * j + 3)))))]) (by rw [show ((nI t) ^^^ (nI ((k ||| mn (5 * j + 2)) &&& (63 ^^^ mn (5 * j + 3)))) : Int32) = nI (t ^^^ ((k ||| mn (5 * j + 2)) &&& (63 ^^^ mn (5 * j + 3)))) from (by rw [ww_nx t (by omega) _ (ww_a64 (ww_x64' (hmn _ (by omega))))])]) ?_
            refine lv_aload_n hx hb dMo_followersOf_96 rfl (lv_at hl 5 rfl) ?_
            refine va_get (D := (dC, dI)) (ci := 7) (v := .ref ams) (C := RMo) (T := TMo) (N := 19) hx hb hw in_Mo hown hK hP 0 rfl rfl 2 (by decide) (hw _ w_502) (fun _ h9 => h9) rfl dMo_followersOf_97 ?_
            refine lv_iload hx hb dMo_followersOf_100 (lv_at hl 3 rfl) ?_
            refine lv_iconst (v := nI 4) hx hb dMo_followersOf_102 (by decide) ?_
            refine wz_iadd hx hb dMo_followersOf_103 ?_
            refine wz_aldN hx hb hK hP 1 0 rfl rfl (i := (5 * j) + 4) (by omega) (by decide) dMo_followersOf_104 ?_
            refine lv_iconst (v := (-1)) hx hb dMo_followersOf_105 (by decide) ?_
            refine lv_ixor hx hb dMo_followersOf_106 ?_
            refine lv_iand hx hb dMo_followersOf_107 ?_
            refine W.eq (g2 := F0 m 108 ls [.int (nI ((t ^^^ ((k ||| mn (5 * j + 2)) &&& (63 ^^^ mn (5 * j + 3)))) &&& (63 ^^^ mn (5 * j + 4))))]) (by rw [show ((nI (t ^^^ ((k ||| mn (5 * j + 2)) &&& (63 ^^^ mn (5 * j + 3))))) &&& ((nI (mn ((5 * j) + 4))) ^^^ (-1)) : Int32) = nI ((t ^^^ ((k ||| mn (5 * j + 2)) &&& (63 ^^^ mn (5 * j + 3)))) &&& (63 ^^^ mn (5 * j + 4))) from (by rw [ww_nn _ (ww_tn (by omega) (ww_a64 (ww_x64' (hmn _ (by omega))))).1 _ (hmn _ (by omega))])]) ?_
            refine wz_ifN_ne (x := (t ^^^ ((k ||| mn (5 * j + 2)) &&& (63 ^^^ mn (5 * j + 3)))) &&& (63 ^^^ mn (5 * j + 4))) (tgt := 120) hx hb (ww_a31 (ww_x64' (hmn _ (by omega)))) dMo_followersOf_108 (by decide) (fun h108_3 => ?_) (fun h108_3 => ?_)
            · skip
              refine lv_lload_n hx hb dMo_followersOf_120 rfl (lv_at hl 4 rfl) ?_
              refine lv_lstore_n (lv' := [(2, .long x2), (7, .int (nI t)), (6, .int (nI ((k ||| mn (5 * j + 2)) &&& (63 ^^^ mn (5 * j + 3))))), (5, .int (wz_i po)), (4, .int (nI (5 * j))), (0, .ref aR), (1, .int (nI k))]) hx hb dMo_followersOf_121 rfl hl (by decide) rfl (fun ls hl => ?_)
              refine lv_iinc (v := nI (t + 1)) (lv' := [(7, .int (nI (t + 1))), (2, .long x2), (6, .int (nI ((k ||| mn (5 * j + 2)) &&& (63 ^^^ mn (5 * j + 3))))), (5, .int (wz_i po)), (4, .int (nI (5 * j))), (0, .ref aR), (1, .int (nI k))]) hx hb dMo_followersOf_122 hl (k := 1) rfl ((nI_succ _).symm) (by decide) rfl (fun ls hl => ?_)
              refine lv_goto (tgt := 79) hx hb dMo_followersOf_125 (by decide) ?_
              exact ih79 _ (by omega) (t + 1) x2 (by omega) (by subst hx2; first | exact ww_acc_y h88_2 (by unfold ww_ti; simp [h108_3]) | exact ww_acc_n h88_2 (by unfold ww_ti; simp [h108_3])) rfl _ _ hP hD hS _ (lv_sub hl [0, 2, 3, 4, 1, 5, 6] rfl)
            · skip
              refine lv_lload_n hx hb dMo_followersOf_111 rfl (lv_at hl 4 rfl) ?_
              refine lv_lconst (v := 1) hx hb dMo_followersOf_112 (by decide) ?_
              refine lv_iload hx hb dMo_followersOf_113 (lv_at hl 0 rfl) ?_
              refine wz_lshl1 hx hb (by omega) dMo_followersOf_115 ?_
              refine lv_lor hx hb dMo_followersOf_116 ?_
              refine lv_goto (tgt := 121) hx hb dMo_followersOf_117 (by decide) ?_
              refine lv_lstore_n (lv' := [(2, .long (x2 ||| (ww_b t))), (7, .int (nI t)), (6, .int (nI ((k ||| mn (5 * j + 2)) &&& (63 ^^^ mn (5 * j + 3))))), (5, .int (wz_i po)), (4, .int (nI (5 * j))), (0, .ref aR), (1, .int (nI k))]) hx hb dMo_followersOf_121 rfl hl (by decide) rfl (fun ls hl => ?_)
              refine lv_iinc (v := nI (t + 1)) (lv' := [(7, .int (nI (t + 1))), (2, .long (x2 ||| (ww_b t))), (6, .int (nI ((k ||| mn (5 * j + 2)) &&& (63 ^^^ mn (5 * j + 3))))), (5, .int (wz_i po)), (4, .int (nI (5 * j))), (0, .ref aR), (1, .int (nI k))]) hx hb dMo_followersOf_122 hl (k := 1) rfl ((nI_succ _).symm) (by decide) rfl (fun ls hl => ?_)
              refine lv_goto (tgt := 79) hx hb dMo_followersOf_125 (by decide) ?_
              exact ih79 _ (by omega) (t + 1) (x2 ||| (ww_b t)) (by omega) (by subst hx2; first | exact ww_acc_y h88_2 (by unfold ww_ti; simp [h108_3]) | exact ww_acc_n h88_2 (by unfold ww_ti; simp [h108_3])) rfl _ _ hP hD hS _ (lv_sub hl [0, 2, 3, 4, 1, 5, 6] rfl)
      refine lv_iload_n hx hb dMo_followersOf_51 rfl (lv_at hl 4 rfl) ?_
      refine lv_aload_n hx hb dMo_followersOf_52 rfl (lv_at hl 3 rfl) ?_
      refine va_get (D := (dC, dI)) (ci := 7) (v := .ref ams) (C := RMo) (T := TMo) (N := 19) hx hb hw in_Mo hown hK hP 0 rfl rfl 2 (by decide) (hw _ w_502) (fun _ h9 => h9) rfl dMo_followersOf_53 ?_
      refine lv_iload hx hb dMo_followersOf_56 (lv_at hl 1 rfl) ?_
      refine lv_iconst (v := nI 2) hx hb dMo_followersOf_58 (by decide) ?_
      refine wz_iadd hx hb dMo_followersOf_59 ?_
      refine wz_aldN hx hb hK hP 1 0 rfl rfl (i := (5 * j) + 2) (by omega) (by decide) dMo_followersOf_60 ?_
      refine lv_ior hx hb dMo_followersOf_61 ?_
      refine W.eq (g2 := F0 m 62 ls [.int (nI (k ||| mn (5 * j + 2)))]) (by rw [show ((nI k) ||| (nI (mn ((5 * j) + 2))) : Int32) = nI (k ||| mn (5 * j + 2)) from (by rw [ww_no k hk64 _ (hmn _ (by omega))])]) ?_
      refine lv_aload_n hx hb dMo_followersOf_62 rfl (lv_at hl 3 rfl) ?_
      refine va_get (D := (dC, dI)) (ci := 7) (v := .ref ams) (C := RMo) (T := TMo) (N := 19) hx hb hw in_Mo hown hK hP 0 rfl rfl 2 (by decide) (hw _ w_502) (fun _ h9 => h9) rfl dMo_followersOf_63 ?_
      refine lv_iload hx hb dMo_followersOf_66 (lv_at hl 1 rfl) ?_
      refine lv_iconst (v := nI 3) hx hb dMo_followersOf_68 (by decide) ?_
      refine wz_iadd hx hb dMo_followersOf_69 ?_
      refine wz_aldN hx hb hK hP 1 0 rfl rfl (i := (5 * j) + 3) (by omega) (by decide) dMo_followersOf_70 ?_
      refine lv_iconst (v := (-1)) hx hb dMo_followersOf_71 (by decide) ?_
      refine lv_ixor hx hb dMo_followersOf_72 ?_
      refine lv_iand hx hb dMo_followersOf_73 ?_
      refine W.eq (g2 := F0 m 74 ls [.int (nI ((k ||| mn (5 * j + 2)) &&& (63 ^^^ mn (5 * j + 3))))]) (by rw [show ((nI (k ||| mn (5 * j + 2))) &&& ((nI (mn ((5 * j) + 3))) ^^^ (-1)) : Int32) = nI ((k ||| mn (5 * j + 2)) &&& (63 ^^^ mn (5 * j + 3))) from (by rw [ww_nn _ (ww_o64 hk64 (hmn _ (by omega))) _ (hmn _ (by omega))])]) ?_
      refine lv_istore (lv' := [(6, .int (nI ((k ||| mn (5 * j + 2)) &&& (63 ^^^ mn (5 * j + 3))))), (5, .int (wz_i po)), (4, .int (nI (5 * j))), (2, .long x), (0, .ref aR), (1, .int (nI k))]) hx hb dMo_followersOf_74 hl (by decide) rfl (fun ls hl => ?_)
      refine lv_iconst (v := nI 0) hx hb dMo_followersOf_76 (by decide) ?_
      refine lv_istore (lv' := [(7, .int (nI 0)), (6, .int (nI ((k ||| mn (5 * j + 2)) &&& (63 ^^^ mn (5 * j + 3))))), (5, .int (wz_i po)), (4, .int (nI (5 * j))), (2, .long x), (0, .ref aR), (1, .int (nI k))]) hx hb dMo_followersOf_77 hl (by decide) rfl (fun ls hl => ?_)
      exact cut79 _ 0 x (by omega) (ww_acc_0 _ _ _) rfl _ _ hP hD hS _ hl
    refine lv_iload hx hb dMo_followersOf_5 (lv_at hl 0 rfl) ?_
    refine lv_iconst (v := nI 5) hx hb dMo_followersOf_7 (by decide) ?_
    refine lv_aload_n hx hb dMo_followersOf_8 rfl (lv_at hl 2 rfl) ?_
    refine va_get (D := (dC, dI)) (ci := 7) (v := .int (nI mv)) (C := RMo) (T := TMo) (N := 19) hx hb hw in_Mo hown hK hP 0 rfl rfl 1 (by decide) (hw _ w_501) (fun _ h9 => h9) rfl dMo_followersOf_9 ?_
    refine wz_imul hx hb dMo_followersOf_12 ?_
    refine wz_icmp_ge (x := 5 * j) (y := 5 * mv) (tgt := 134) hx hb (by omega) (by omega) dMo_followersOf_13 (by decide) (fun h13_4 => ?_) (fun h13_4 => ?_)
    · skip
      refine lv_lload_n hx hb dMo_followersOf_134 rfl (lv_at hl 1 rfl) ?_
      refine lv_lconst (v := 0) hx hb dMo_followersOf_135 (by decide) ?_
      refine wz_lcmp_ne (tgt := 146) hx hb dMo_followersOf_136 dMo_followersOf_137 (by decide) (fun h136_5 => ?_) (fun h136_5 => ?_)
      · skip
        refine lv_lload_n hx hb dMo_followersOf_146 rfl (lv_at hl 1 rfl) ?_
        exact wz_lret hx hb hr hlocks (by have q9 : x = ww_fb mn k mv := (by rw [hxx, show j = mv by omega]); rw [q9] at h136_5; unfold ww_nxt ww_fo; first | (rw [if_pos h136_5]; done) | (rw [if_neg h136_5]; exact q9)) hP hD hK hS dMo_followersOf_147
      · skip
        refine lv_lconst (v := 1) hx hb dMo_followersOf_140 (by decide) ?_
        refine lv_iload_n hx hb dMo_followersOf_141 rfl (lv_at hl 3 rfl) ?_
        refine wz_lshl1 hx hb (by omega) dMo_followersOf_142 ?_
        refine lv_goto (tgt := 147) hx hb dMo_followersOf_143 (by decide) ?_
        exact wz_lret hx hb hr hlocks (by have q9 : x = ww_fb mn k mv := (by rw [hxx, show j = mv by omega]); rw [q9] at h136_5; unfold ww_nxt ww_fo; first | (rw [if_pos h136_5]; done) | (rw [if_neg h136_5]; exact q9)) hP hD hK hS dMo_followersOf_147
    · skip
      refine lv_aload_n hx hb dMo_followersOf_16 rfl (lv_at hl 2 rfl) ?_
      refine va_get (D := (dC, dI)) (ci := 7) (v := .ref ams) (C := RMo) (T := TMo) (N := 19) hx hb hw in_Mo hown hK hP 0 rfl rfl 2 (by decide) (hw _ w_502) (fun _ h9 => h9) rfl dMo_followersOf_17 ?_
      refine lv_iload hx hb dMo_followersOf_20 (lv_at hl 0 rfl) ?_
      refine wz_aldN hx hb hK hP 1 0 rfl rfl (i := 5 * j) (by omega) (by decide) dMo_followersOf_22 ?_
      refine lv_iload_n hx hb dMo_followersOf_23 rfl (lv_at hl 3 rfl) ?_
      refine lv_iconst (v := (-1)) hx hb dMo_followersOf_24 (by decide) ?_
      refine lv_ixor hx hb dMo_followersOf_25 ?_
      refine lv_iand hx hb dMo_followersOf_26 ?_
      refine W.eq (g2 := F0 m 27 ls [.int (nI (mn (5 * j) &&& (63 ^^^ k)))]) (by rw [show ((nI (mn (5 * j))) &&& ((nI k) ^^^ (-1)) : Int32) = nI (mn (5 * j) &&& (63 ^^^ k)) from (by rw [ww_nn _ (hmn _ (by omega)) k hk64])]) ?_
      refine wz_ifN_ne (x := mn (5 * j) &&& (63 ^^^ k)) (tgt := 48) hx hb (ww_a31 (ww_x64' hk64)) dMo_followersOf_27 (by decide) (fun h27_6 => ?_) (fun h27_6 => ?_)
      · skip
        refine lv_iconst (v := nI 0) hx hb dMo_followersOf_48 (by decide) ?_
        refine lv_istore (lv' := [(5, .int (nI 0)), (4, .int (nI (5 * j))), (2, .long x), (0, .ref aR), (1, .int (nI k))]) hx hb dMo_followersOf_49 hl (by decide) rfl (fun ls hl => ?_)
        exact cut51 false (by omega) (by unfold ww_ok; rw [← ww_ok1 _ (hmn _ (by omega)) k hk64, Nat.and_comm k]; simp [hj, hxx, h13_4, h27_6]) _ _ hP hD hS _ hl
      · skip
        refine lv_aload_n hx hb dMo_followersOf_30 rfl (lv_at hl 2 rfl) ?_
        refine va_get (D := (dC, dI)) (ci := 7) (v := .ref ams) (C := RMo) (T := TMo) (N := 19) hx hb hw in_Mo hown hK hP 0 rfl rfl 2 (by decide) (hw _ w_502) (fun _ h9 => h9) rfl dMo_followersOf_31 ?_
        refine lv_iload hx hb dMo_followersOf_34 (lv_at hl 0 rfl) ?_
        refine lv_iconst (v := nI 1) hx hb dMo_followersOf_36 (by decide) ?_
        refine wz_iadd hx hb dMo_followersOf_37 ?_
        refine wz_aldN hx hb hK hP 1 0 rfl rfl (i := (5 * j) + 1) (by omega) (by decide) dMo_followersOf_38 ?_
        refine lv_iload_n hx hb dMo_followersOf_39 rfl (lv_at hl 3 rfl) ?_
        refine lv_iand hx hb dMo_followersOf_40 ?_
        refine W.eq (g2 := F0 m 41 ls [.int (nI (mn (5 * j + 1) &&& k))]) (by rw [show ((nI (mn ((5 * j) + 1))) &&& (nI k) : Int32) = nI (mn (5 * j + 1) &&& k) from (by rw [ww_na _ (hmn _ (by omega)) k hk64])]) ?_
        refine wz_ifN_ne (x := mn (5 * j + 1) &&& k) (tgt := 48) hx hb (ww_a31 hk64) dMo_followersOf_41 (by decide) (fun h41_7 => ?_) (fun h41_7 => ?_)
        · skip
          refine lv_iconst (v := nI 0) hx hb dMo_followersOf_48 (by decide) ?_
          refine lv_istore (lv' := [(5, .int (nI 0)), (4, .int (nI (5 * j))), (2, .long x), (0, .ref aR), (1, .int (nI k))]) hx hb dMo_followersOf_49 hl (by decide) rfl (fun ls hl => ?_)
          exact cut51 false (by omega) (by unfold ww_ok; rw [← ww_ok1 _ (hmn _ (by omega)) k hk64, Nat.and_comm k]; simp [hj, hxx, h13_4, h27_6, h41_7]) _ _ hP hD hS _ hl
        · skip
          refine lv_iconst (v := nI 1) hx hb dMo_followersOf_44 (by decide) ?_
          refine lv_goto (tgt := 49) hx hb dMo_followersOf_45 (by decide) ?_
          refine lv_istore (lv' := [(5, .int (nI 1)), (4, .int (nI (5 * j))), (2, .long x), (0, .ref aR), (1, .int (nI k))]) hx hb dMo_followersOf_49 hl (by decide) rfl (fun ls hl => ?_)
          exact cut51 true (by omega) (by unfold ww_ok; rw [← ww_ok1 _ (hmn _ (by omega)) k hk64, Nat.and_comm k]; simp [hj, hxx, h13_4, h27_6, h41_7]) _ _ hP hD hS _ hl
  refine lv_lconst (v := 0) hx hb dMo_followersOf_0 (by decide) ?_
  refine lv_lstore_n (lv' := [(2, .long 0), (0, .ref aR), (1, .int (nI k))]) hx hb dMo_followersOf_1 rfl hl (by decide) rfl (fun ls hl => ?_)
  refine lv_iconst (v := nI 0) hx hb dMo_followersOf_2 (by decide) ?_
  refine lv_istore (lv' := [(4, .int (nI 0)), (2, .long 0), (0, .ref aR), (1, .int (nI k))]) hx hb dMo_followersOf_3 hl (by decide) rfl (fun ls hl => ?_)
  exact cut5 _ 0 0 (by omega) rfl rfl _ _ hP hD hS _ hl
set_option maxHeartbeats 4000000 in
set_option maxRecDepth 100000 in
theorem kMo_plain (l : Launch) (dC : Nat → ClassId) (dI : Nat → Nat → Nat) (cI cJ cZ : ClassId) (sz : Nat) (aR : Nat) (ams : Nat) (ann : Nat) (ak2 : Nat) (af2 : Nat) (as2 : Nat) (ah2 : Nat) (afa : Nat) (afx : Nat) (ald : Nat) (awy : Nat) (alt : Nat) (abg : Nat) (th : Nat) (mv : Nat) (n : Nat) (fc : Nat) (zz : Nat) (lp : Int32) (tl : Bool) (k : Nat) (a : Int64) (b : Int64) (v : Int32) (vv : Nat) (hk4 : k ≤ 4) (hv : k = 0 → v = nI vv ∧ vv < 6) : Met l yMo_plain (.code yMo_plain cMo_plain 10 (some .long) :: wz_all) ({ frames := 0, cells := 0, slots := 0, locals := 0 }) (wz_Pc (dC, dI) vwCl (wz_T cI cJ cZ) [.ref aR, .int (nI k), .long a, .long b, .int v] sz [(aR, .inr (7, [.int (nI th), .int (nI mv), .ref ams, .ref ann, .int (nI n), .ref ak2, .ref af2, .ref as2, .ref ah2, .int (nI fc), .ref afa, .ref afx, .ref ald, .int (nI zz), .ref awy, .int lp, .ref alt, .ref abg, .int (wz_i tl)]))]) (va_Ql (fun (r : Int64) (_ : Unit) => r = ww_pl k vv a b) (fun _ t => va_P (dC, dI) vwCl [(aR, .inr (7, [.int (nI th), .int (nI mv), .ref ams, .ref ann, .int (nI n), .ref ak2, .ref af2, .ref as2, .ref ah2, .int (nI fc), .ref afa, .ref afx, .ref ald, .int (nI zz), .ref awy, .int lp, .ref alt, .ref abg, .int (wz_i tl)]))] t.heap ∧ va_K (dC, dI) vwCl (wz_T cI cJ cZ) t ∧ va_D (va_A [(aR, .inr (7, [.int (nI th), .int (nI mv), .ref ams, .ref ann, .int (nI n), .ref ak2, .ref af2, .ref as2, .ref ah2, .int (nI fc), .ref afa, .ref afx, .ref ald, .int (nI zz), .ref awy, .int lp, .ref alt, .ref abg, .int (wz_i tl)]))] sz) [(aR, .inr (7, [.int (nI th), .int (nI mv), .ref ams, .ref ann, .int (nI n), .ref ak2, .ref af2, .ref as2, .ref ah2, .int (nI fc), .ref afa, .ref afx, .ref ald, .int (nI zz), .ref awy, .int lp, .ref alt, .ref abg, .int (wz_i tl)]))]) (va_A [(aR, .inr (7, [.int (nI th), .int (nI mv), .ref ams, .ref ann, .int (nI n), .ref ak2, .ref af2, .ref as2, .ref ah2, .int (nI fc), .ref afa, .ref afx, .ref ald, .int (nI zz), .ref awy, .int lp, .ref alt, .ref abg, .int (wz_i tl)]))] sz)) 0 0 (va_A [(aR, .inr (7, [.int (nI th), .int (nI mv), .ref ams, .ref ann, .int (nI n), .ref ak2, .ref af2, .ref as2, .ref ah2, .int (nI fc), .ref afa, .ref afx, .ref ald, .int (nI zz), .ref awy, .int lp, .ref alt, .ref abg, .int (wz_i tl)]))] sz) := by
  refine Met.ofW (cc := cMo_plain) (maxL := 10) (ret := (some .long)) (by decide) rfl ?_
  intro p e s m args below meth c s₁ B hml hv
  obtain ⟨rfl, hsz, hP, hK, hD0, hN⟩ := hv
  have hx := B.exec
  have hb := B.bytes
  have hr := B.returns
  have hts := atoms_spec (ws := (.code yMo_plain cMo_plain 10 (some .long) :: wz_all)) B.pre
  have hw : ∀ w9 ∈ wz_all, w9.before [.ref aR, .int (nI k), .long a, .long b, .int v].toArray s = true := fun w9 h => hts w9 (List.mem_cons_of_mem _ h)
  have hown : s.vm.findClass RMo = some m.cls := findClass_of_methodNamed B.named
  have hlocks := B.notSynchronized
  subst hsz
  have hD := hD0.self (sz := s.heap.size)
  generalize hAe : va_A [(aR, .inr (7, [.int (nI th), .int (nI mv), .ref ams, .ref ann, .int (nI n), .ref ak2, .ref af2, .ref as2, .ref ah2, .int (nI fc), .ref afa, .ref afx, .ref ald, .int (nI zz), .ref awy, .int lp, .ref alt, .ref abg, .int (wz_i tl)]))] s.heap.size = A at hD ⊢
  have hA : ∀ q : Nat, s.heap.size ≤ q → A q := fun q h => by rw [← hAe]; exact Or.inr h
  have hS : va_S A s.heap s.heap [] := va_S.rf
  have hP : va_P (dC, dI) vwCl [(aR, .inr (7, [.int (nI th), .int (nI mv), .ref ams, .ref ann, .int (nI n), .ref ak2, .ref af2, .ref as2, .ref ah2, .int (nI fc), .ref afa, .ref afx, .ref ald, .int (nI zz), .ref awy, .int lp, .ref alt, .ref abg, .int (wz_i tl)]))] s.heap := hP
  have hl := lv_entry ([.ref aR, .int (nI k), .long a, .long b, .int v]) (n := 10) (Nat.le_of_ble_eq_true rfl)
  rw [lg_entry_eq]
  generalize (lg_sl ([.ref aR, .int (nI k), .long a, .long b, .int v]) ++ List.replicate (10 - (lg_sl ([.ref aR, .int (nI k), .long a, .long b, .int v])).length) Slot.unset).toArray = ls at hl ⊢
  have hl : lv_has ls 10 [(0, .ref aR), (1, .int (nI k)), (2, .long a), (4, .long b), (6, .int v)] := hl
  have cut10 : ∀ (n10 : Nat) (s1 : Nat) (b9 : Int64) (hk0 : k = 0) (hvv : vv < 6) (hs : s1 ≤ 64) (hb9 : b9 = ww_mkn (fun s => s / 2 ^ vv % 2 == 1) s1), 64 - s1 = n10 → ∀ (H : Heap) (locs : List Loc), va_P (dC, dI) vwCl [(aR, .inr (7, [.int (nI th), .int (nI mv), .ref ams, .ref ann, .int (nI n), .ref ak2, .ref af2, .ref as2, .ref ah2, .int (nI fc), .ref afa, .ref afx, .ref ald, .int (nI zz), .ref awy, .int lp, .ref alt, .ref abg, .int (wz_i tl)]))] H → va_D A [(aR, .inr (7, [.int (nI th), .int (nI mv), .ref ams, .ref ann, .int (nI n), .ref ak2, .ref af2, .ref as2, .ref ah2, .int (nI fc), .ref afa, .ref afx, .ref ald, .int (nI zz), .ref awy, .int lp, .ref alt, .ref abg, .int (wz_i tl)]))] → va_S A s.heap H locs → ∀ ls : Array Slot, lv_has ls 10 [(9, .int (nI s1)), (7, .long b9), (6, .int (nI vv)), (0, .ref aR), (1, .int (nI k)), (2, .long a), (4, .long b)] → W p l e (headSpec (.code yMo_plain cMo_plain 10 (some .long) :: wz_all) ({ frames := 0, cells := 0, slots := 0, locals := 0 })).room s m [.ref aR, .int (nI k), .long a, .long b, .int v].toArray below meth c H locs 0 0 (MQ below (va_Ql (fun (r : Int64) (_ : Unit) => r = ww_pl k vv a b) (fun _ t => va_P (dC, dI) vwCl [(aR, .inr (7, [.int (nI th), .int (nI mv), .ref ams, .ref ann, .int (nI n), .ref ak2, .ref af2, .ref as2, .ref ah2, .int (nI fc), .ref afa, .ref afx, .ref ald, .int (nI zz), .ref awy, .int lp, .ref alt, .ref abg, .int (wz_i tl)]))] t.heap ∧ va_K (dC, dI) vwCl (wz_T cI cJ cZ) t ∧ va_D A [(aR, .inr (7, [.int (nI th), .int (nI mv), .ref ams, .ref ann, .int (nI n), .ref ak2, .ref af2, .ref as2, .ref ah2, .int (nI fc), .ref afa, .ref afx, .ref ald, .int (nI zz), .ref awy, .int lp, .ref alt, .ref abg, .int (wz_i tl)]))]) A) [.ref aR, .int (nI k), .long a, .long b, .int v].toArray s 0 0 A) (F0 m 10 ls []) := by
    intro n10
    induction n10 using Nat.strongRecOn with
    | _ n10 ih10 =>
    intro s1 b9 hk0 hvv hs hb9 hm10 H locs hP hD hS ls hl
    refine lv_iload hx hb dMo_plain_10 (lv_at hl 0 rfl) ?_
    refine lv_bipush (v := nI 64) hx hb dMo_plain_12 (by decide) ?_
    refine wz_icmp_ge (x := s1) (y := 64) (tgt := 48) hx hb (by omega) (by omega) dMo_plain_14 (by decide) (fun h14_1 => ?_) (fun h14_1 => ?_)
    · skip
      refine lv_lload hx hb dMo_plain_48 (lv_at hl 1 rfl) ?_
      exact wz_lret hx hb hr hlocks (by rw [hb9, show s1 = 64 by omega, hk0]; rfl) hP hD hK hS dMo_plain_50
    · skip
      refine lv_iload hx hb dMo_plain_17 (lv_at hl 0 rfl) ?_
      refine lv_iload hx hb dMo_plain_19 (lv_at hl 2 rfl) ?_
      refine lv_ishr hx hb dMo_plain_21 ?_
      refine lv_iconst (v := nI 1) hx hb dMo_plain_22 (by decide) ?_
      refine lv_iand hx hb dMo_plain_23 ?_
      refine W.eq (g2 := F0 m 24 ls [.int (nI (s1 / 2 ^ vv % 2))]) (by rw [show (((nI s1) >>> ((nI vv) &&& 31)) &&& (nI 1) : Int32) = nI (s1 / 2 ^ vv % 2) from (by rw [ww_var_sh vv hvv s1 (by omega)])]) ?_
      refine lv_iconst (v := nI 1) hx hb dMo_plain_24 (by decide) ?_
      refine wz_icmp_ne (x := s1 / 2 ^ vv % 2) (y := 1) (tgt := 38) hx hb (Nat.lt_trans (Nat.mod_lt _ (by decide)) (by decide)) (by omega) dMo_plain_25 (by decide) (fun h25_2 => ?_) (fun h25_2 => ?_)
      · skip
        refine lv_lload hx hb dMo_plain_38 (lv_at hl 1 rfl) ?_
        refine lv_lstore (lv' := [(7, .long b9), (9, .int (nI s1)), (6, .int (nI vv)), (0, .ref aR), (1, .int (nI k)), (2, .long a), (4, .long b)]) hx hb dMo_plain_40 hl (by decide) rfl (fun ls hl => ?_)
        refine lv_iinc (v := nI (s1 + 1)) (lv' := [(9, .int (nI (s1 + 1))), (7, .long b9), (6, .int (nI vv)), (0, .ref aR), (1, .int (nI k)), (2, .long a), (4, .long b)]) hx hb dMo_plain_42 hl (k := 1) rfl ((nI_succ _).symm) (by decide) rfl (fun ls hl => ?_)
        refine lv_goto (tgt := 10) hx hb dMo_plain_45 (by decide) ?_
        exact ih10 _ (by omega) (s1 + 1) b9 hk0 hvv (by omega) (by subst hb9; first | exact ww_mkn_y (by simp [h25_2]) | exact ww_mkn_n (by simp [h25_2])) rfl _ _ hP hD hS _ hl
      · skip
        refine lv_lload hx hb dMo_plain_28 (lv_at hl 1 rfl) ?_
        refine lv_lconst (v := 1) hx hb dMo_plain_30 (by decide) ?_
        refine lv_iload hx hb dMo_plain_31 (lv_at hl 0 rfl) ?_
        refine wz_lshl1 hx hb (by omega) dMo_plain_33 ?_
        refine lv_lor hx hb dMo_plain_34 ?_
        refine lv_goto (tgt := 40) hx hb dMo_plain_35 (by decide) ?_
        refine lv_lstore (lv' := [(7, .long (b9 ||| (ww_b s1))), (9, .int (nI s1)), (6, .int (nI vv)), (0, .ref aR), (1, .int (nI k)), (2, .long a), (4, .long b)]) hx hb dMo_plain_40 hl (by decide) rfl (fun ls hl => ?_)
        refine lv_iinc (v := nI (s1 + 1)) (lv' := [(9, .int (nI (s1 + 1))), (7, .long (b9 ||| (ww_b s1))), (6, .int (nI vv)), (0, .ref aR), (1, .int (nI k)), (2, .long a), (4, .long b)]) hx hb dMo_plain_42 hl (k := 1) rfl ((nI_succ _).symm) (by decide) rfl (fun ls hl => ?_)
        refine lv_goto (tgt := 10) hx hb dMo_plain_45 (by decide) ?_
        exact ih10 _ (by omega) (s1 + 1) (b9 ||| (ww_b s1)) hk0 hvv (by omega) (by subst hb9; first | exact ww_mkn_y (by simp [h25_2]) | exact ww_mkn_n (by simp [h25_2])) rfl _ _ hP hD hS _ hl
  refine lv_iload_n hx hb dMo_plain_0 rfl (lv_at hl 1 rfl) ?_
  refine wz_ifN_ne (x := k) (tgt := 51) hx hb (by omega) dMo_plain_1 (by decide) (fun h1_3 => ?_) (fun h1_3 => ?_)
  · skip
    refine lv_iload_n hx hb dMo_plain_51 rfl (lv_at hl 1 rfl) ?_
    refine lv_iconst (v := nI 1) hx hb dMo_plain_52 (by decide) ?_
    refine wz_icmp_ne (x := k) (y := 1) (tgt := 62) hx hb (by omega) (by omega) dMo_plain_53 (by decide) (fun h53_4 => ?_) (fun h53_4 => ?_)
    · skip
      refine lv_iload_n hx hb dMo_plain_62 rfl (lv_at hl 1 rfl) ?_
      refine lv_iconst (v := nI 2) hx hb dMo_plain_63 (by decide) ?_
      refine wz_icmp_ne (x := k) (y := 2) (tgt := 75) hx hb (by omega) (by omega) dMo_plain_64 (by decide) (fun h64_5 => ?_) (fun h64_5 => ?_)
      · skip
        refine lv_iload_n hx hb dMo_plain_75 rfl (lv_at hl 1 rfl) ?_
        refine lv_iconst (v := nI 3) hx hb dMo_plain_76 (by decide) ?_
        refine wz_icmp_ne (x := k) (y := 3) (tgt := 87) hx hb (by omega) (by omega) dMo_plain_77 (by decide) (fun h77_6 => ?_) (fun h77_6 => ?_)
        · skip
          refine lv_lload_n hx hb dMo_plain_87 rfl (lv_at hl 2 rfl) ?_
          refine lv_lload hx hb dMo_plain_88 (lv_at hl 3 rfl) ?_
          refine lv_lor hx hb dMo_plain_90 ?_
          exact wz_lret hx hb hr hlocks (by first | (rw [h53_4]; rfl) | (rw [h64_5]; rfl) | (rw [h77_6]; rfl) | (have q9 : k = 4 := (by omega); rw [q9]; rfl)) hP hD hK hS dMo_plain_91
        · skip
          refine lv_lload_n hx hb dMo_plain_80 rfl (lv_at hl 2 rfl) ?_
          refine lv_lload hx hb dMo_plain_81 (lv_at hl 3 rfl) ?_
          refine lv_land hx hb dMo_plain_83 ?_
          refine lv_goto (tgt := 91) hx hb dMo_plain_84 (by decide) ?_
          exact wz_lret hx hb hr hlocks (by first | (rw [h53_4]; rfl) | (rw [h64_5]; rfl) | (rw [h77_6]; rfl) | (have q9 : k = 4 := (by omega); rw [q9]; rfl)) hP hD hK hS dMo_plain_91
      · skip
        refine lv_lload_n hx hb dMo_plain_67 rfl (lv_at hl 2 rfl) ?_
        refine lv_ldc2 hx hb hown (hw _ w_610) dMo_plain_68 ?_
        refine lv_lxor hx hb dMo_plain_71 ?_
        refine lv_goto (tgt := 91) hx hb dMo_plain_72 (by decide) ?_
        exact wz_lret hx hb hr hlocks (by first | (rw [h53_4]; rfl) | (rw [h64_5]; rfl) | (rw [h_none]; rfl) | (have q9 : k = 4 := (by omega); rw [q9]; rfl)) hP hD hK hS dMo_plain_91
    · skip
      refine lv_ldc2 hx hb hown (hw _ w_610) dMo_plain_56 ?_
      refine lv_goto (tgt := 91) hx hb dMo_plain_59 (by decide) ?_
      exact wz_lret hx hb hr hlocks (by first | (rw [h53_4]; rfl) | (rw [h_none]; rfl) | (rw [h_none]; rfl) | (have q9 : k = 4 := (by omega); rw [q9]; rfl)) hP hD hK hS dMo_plain_91
  · skip
    obtain ⟨rfl, hvv0⟩ := hv h1_3
    refine lv_lconst (v := 0) hx hb dMo_plain_4 (by decide) ?_
    refine lv_lstore (lv' := [(7, .long 0), (0, .ref aR), (1, .int (nI k)), (2, .long a), (4, .long b), (6, .int (nI vv))]) hx hb dMo_plain_5 hl (by decide) rfl (fun ls hl => ?_)
    refine lv_iconst (v := nI 0) hx hb dMo_plain_7 (by decide) ?_
    refine lv_istore (lv' := [(9, .int (nI 0)), (7, .long 0), (0, .ref aR), (1, .int (nI k)), (2, .long a), (4, .long b), (6, .int (nI vv))]) hx hb dMo_plain_8 hl (by decide) rfl (fun ls hl => ?_)
    exact cut10 _ 0 0 h1_3 hvv0 (by omega) rfl rfl _ _ hP hD hS _ (lv_sub hl [0, 1, 6, 2, 3, 4, 5] rfl)
set_option maxHeartbeats 4000000 in
set_option maxRecDepth 100000 in
theorem kMo_some (l : Launch) (dC : Nat → ClassId) (dI : Nat → Nat → Nat) (cI cJ cZ : ClassId) (sz : Nat) (aR : Nat) (ams : Nat) (ann : Nat) (ak2 : Nat) (af2 : Nat) (as2 : Nat) (ah2 : Nat) (afa : Nat) (afx : Nat) (ald : Nat) (awy : Nat) (alt : Nat) (abg : Nat) (th : Nat) (mv : Nat) (n : Nat) (fc : Nat) (zz : Nat) (lp : Int32) (tl : Bool) (nx : Nat → Int64) (le2 : Nat → Int64) (gx : Nat → Int64) (k : Nat) (a : Int64) (b : Int64) (fs : Int64) (hk5 : 5 ≤ k) (hk8 : k ≤ 8) (hfc : fc ≤ 3) : Met l yMo_some (.code yMo_some cMo_some 8 (some .long) :: wz_all) ({ frames := 3, cells := 0, slots := 0, locals := 78 }) (wz_Pc (dC, dI) vwCl (wz_T cI cJ cZ) [.ref aR, .int (nI k), .long a, .long b, .long fs] sz [(aR, .inr (7, [.int (nI th), .int (nI mv), .ref ams, .ref ann, .int (nI n), .ref ak2, .ref af2, .ref as2, .ref ah2, .int (nI fc), .ref afa, .ref afx, .ref ald, .int (nI zz), .ref awy, .int lp, .ref alt, .ref abg, .int (wz_i tl)])), (ann, .inl (cJ, 64, .inr (.inl nx))), (ald, .inl (cJ, 64, .inr (.inl le2))), (afx, .inl (cJ, 3, .inr (.inl gx)))]) (va_Ql (fun (r : Int64) (u : Nat → Int64) => r = ww_vs nx gx fc fs k 0 a b ∧ True) (fun (u : Nat → Int64) t => va_P (dC, dI) vwCl [(aR, .inr (7, [.int (nI th), .int (nI mv), .ref ams, .ref ann, .int (nI n), .ref ak2, .ref af2, .ref as2, .ref ah2, .int (nI fc), .ref afa, .ref afx, .ref ald, .int (nI zz), .ref awy, .int lp, .ref alt, .ref abg, .int (wz_i tl)])), (ann, .inl (cJ, 64, .inr (.inl nx))), (ald, .inl (cJ, 64, .inr (.inl u))), (afx, .inl (cJ, 3, .inr (.inl gx)))] t.heap ∧ va_K (dC, dI) vwCl (wz_T cI cJ cZ) t ∧ va_D (va_A [(aR, .inr (7, [.int (nI th), .int (nI mv), .ref ams, .ref ann, .int (nI n), .ref ak2, .ref af2, .ref as2, .ref ah2, .int (nI fc), .ref afa, .ref afx, .ref ald, .int (nI zz), .ref awy, .int lp, .ref alt, .ref abg, .int (wz_i tl)])), (ann, .inl (cJ, 64, .inr (.inl nx))), (ald, .inl (cJ, 64, .inr (.inl le2))), (afx, .inl (cJ, 3, .inr (.inl gx)))] sz) [(aR, .inr (7, [.int (nI th), .int (nI mv), .ref ams, .ref ann, .int (nI n), .ref ak2, .ref af2, .ref as2, .ref ah2, .int (nI fc), .ref afa, .ref afx, .ref ald, .int (nI zz), .ref awy, .int lp, .ref alt, .ref abg, .int (wz_i tl)])), (ann, .inl (cJ, 64, .inr (.inl nx))), (ald, .inl (cJ, 64, .inr (.inl u))), (afx, .inl (cJ, 3, .inr (.inl gx)))]) (va_A [(aR, .inr (7, [.int (nI th), .int (nI mv), .ref ams, .ref ann, .int (nI n), .ref ak2, .ref af2, .ref as2, .ref ah2, .int (nI fc), .ref afa, .ref afx, .ref ald, .int (nI zz), .ref awy, .int lp, .ref alt, .ref abg, .int (wz_i tl)])), (ann, .inl (cJ, 64, .inr (.inl nx))), (ald, .inl (cJ, 64, .inr (.inl le2))), (afx, .inl (cJ, 3, .inr (.inl gx)))] sz)) 0 0 (va_A [(aR, .inr (7, [.int (nI th), .int (nI mv), .ref ams, .ref ann, .int (nI n), .ref ak2, .ref af2, .ref as2, .ref ah2, .int (nI fc), .ref afa, .ref afx, .ref ald, .int (nI zz), .ref awy, .int lp, .ref alt, .ref abg, .int (wz_i tl)])), (ann, .inl (cJ, 64, .inr (.inl nx))), (ald, .inl (cJ, 64, .inr (.inl le2))), (afx, .inl (cJ, 3, .inr (.inl gx)))] sz) := by
  refine Met.ofW (cc := cMo_some) (maxL := 8) (ret := (some .long)) (by decide) rfl ?_
  intro p e s m args below meth c s₁ B hml hv
  obtain ⟨rfl, hsz, hP, hK, hD0, hN⟩ := hv
  have hx := B.exec
  have hb := B.bytes
  have hr := B.returns
  have hts := atoms_spec (ws := (.code yMo_some cMo_some 8 (some .long) :: wz_all)) B.pre
  have hw : ∀ w9 ∈ wz_all, w9.before [.ref aR, .int (nI k), .long a, .long b, .long fs].toArray s = true := fun w9 h => hts w9 (List.mem_cons_of_mem _ h)
  have hown : s.vm.findClass RMo = some m.cls := findClass_of_methodNamed B.named
  have hlocks := B.notSynchronized
  subst hsz
  have hD := hD0.self (sz := s.heap.size)
  generalize hAe : va_A [(aR, .inr (7, [.int (nI th), .int (nI mv), .ref ams, .ref ann, .int (nI n), .ref ak2, .ref af2, .ref as2, .ref ah2, .int (nI fc), .ref afa, .ref afx, .ref ald, .int (nI zz), .ref awy, .int lp, .ref alt, .ref abg, .int (wz_i tl)])), (ann, .inl (cJ, 64, .inr (.inl nx))), (ald, .inl (cJ, 64, .inr (.inl le2))), (afx, .inl (cJ, 3, .inr (.inl gx)))] s.heap.size = A at hD ⊢
  have hA : ∀ q : Nat, s.heap.size ≤ q → A q := fun q h => by rw [← hAe]; exact Or.inr h
  have hS : va_S A s.heap s.heap [] := va_S.rf
  have hP : va_P (dC, dI) vwCl [(aR, .inr (7, [.int (nI th), .int (nI mv), .ref ams, .ref ann, .int (nI n), .ref ak2, .ref af2, .ref as2, .ref ah2, .int (nI fc), .ref afa, .ref afx, .ref ald, .int (nI zz), .ref awy, .int lp, .ref alt, .ref abg, .int (wz_i tl)])), (ann, .inl (cJ, 64, .inr (.inl nx))), (ald, .inl (cJ, 64, .inr (.inl le2))), (afx, .inl (cJ, 3, .inr (.inl gx)))] s.heap := hP
  have hl := lv_entry ([.ref aR, .int (nI k), .long a, .long b, .long fs]) (n := 8) (Nat.le_of_ble_eq_true rfl)
  rw [lg_entry_eq]
  generalize (lg_sl ([.ref aR, .int (nI k), .long a, .long b, .long fs]) ++ List.replicate (8 - (lg_sl ([.ref aR, .int (nI k), .long a, .long b, .long fs])).length) Slot.unset).toArray = ls at hl ⊢
  have hl : lv_has ls 8 [(0, .ref aR), (1, .int (nI k)), (2, .long a), (4, .long b), (6, .long fs)] := hl
  refine lv_iload_n hx hb dMo_some_0 rfl (lv_at hl 1 rfl) ?_
  rcases (show k = 5 ∨ k = 6 ∨ k = 7 ∨ k = 8 by omega) with h1_1 | h1_1 | h1_1 | h1_1
  · skip
    refine W.eq (g2 := F0 m 1 ls [.int (nI 5)]) (by rw [h1_1]) ?_
    refine lv_tableIn (off := 27) (tgt := 28) hx hb dMo_some_1 (by decide) (by decide) (by decide) (by decide) ?_
    refine lv_aload_n hx hb dMo_some_28 rfl (lv_at hl 0 rfl) ?_
    refine lv_lload_n hx hb dMo_some_29 rfl (lv_at hl 2 rfl) ?_
    refine lv_lload hx hb dMo_some_30 (lv_at hl 4 rfl) ?_
    refine lv_land hx hb dMo_some_32 ?_
    refine wz_calll (wc := [(aR, .inr (7, [.int (nI th), .int (nI mv), .ref ams, .ref ann, .int (nI n), .ref ak2, .ref af2, .ref as2, .ref ah2, .int (nI fc), .ref afa, .ref afx, .ref ald, .int (nI zz), .ref awy, .int lp, .ref alt, .ref abg, .int (wz_i tl)])), (ann, .inl (cJ, 64, .inr (.inl nx)))]) (wr := [(ald, .inl (cJ, 64, .inr (.inl le2))), (afx, .inl (cJ, 3, .inr (.inl gx)))]) (w1 := [(aR, .inr (7, [.int (nI th), .int (nI mv), .ref ams, .ref ann, .int (nI n), .ref ak2, .ref af2, .ref as2, .ref ah2, .int (nI fc), .ref afa, .ref afx, .ref ald, .int (nI zz), .ref awy, .int lp, .ref alt, .ref abg, .int (wz_i tl)])), (ann, .inl (cJ, 64, .inr (.inl nx)))]) (ws' := [(aR, .inr (7, [.int (nI th), .int (nI mv), .ref ams, .ref ann, .int (nI n), .ref ak2, .ref af2, .ref as2, .ref ah2, .int (nI fc), .ref afa, .ref afx, .ref ald, .int (nI zz), .ref awy, .int lp, .ref alt, .ref abg, .int (wz_i tl)])), (ann, .inl (cJ, 64, .inr (.inl nx))), (ald, .inl (cJ, 64, .inr (.inl le2))), (afx, .inl (cJ, 3, .inr (.inl gx)))]) hP hD hS hA [0, 1] [2, 3] [2, 3, 0, 1] rfl rfl (by decide) (by decide) (by decide) rfl rfl (va_runV (As := [.long (a &&& fs)]) (rest := []) ⟨hx, hb, hml, hown, hts⟩ (kMo_before l dC dI cI cJ cZ s.heap.size aR ams ann ak2 af2 as2 ah2 afa afx ald awy alt abg th mv n fc zz lp tl nx (a &&& fs)) (cwV 1 hts (wz_gV w_626 w_627 w_22 w_41 w_628) rfl rfl rfl (by decide +kernel) ⟨Nat.le_of_ble_eq_true rfl, Nat.le_of_ble_eq_true rfl⟩) (wz_preV (q := (RMo, TMo, 19)) (ci := 7) hN hK hP hD [0, 1] (by decide) rfl rfl 0 rfl rfl) rfl rfl hl.1 rfl (lv_room (Nat.le_of_ble_eq_true rfl)) dMo_some_33 ⟨Nat.le_refl _, Nat.le_refl _⟩) (fun H locs hP hD hS => ?_)
    exact wz_lretU le2 trivial hx hb hr hlocks (by rw [h1_1]; rfl) hP hD hK hS dMo_some_36
  · skip
    refine W.eq (g2 := F0 m 1 ls [.int (nI 6)]) (by rw [h1_1]) ?_
    refine lv_tableIn (off := 36) (tgt := 37) hx hb dMo_some_1 (by decide) (by decide) (by decide) (by decide) ?_
    refine lv_aload_n hx hb dMo_some_37 rfl (lv_at hl 0 rfl) ?_
    refine lv_lload hx hb dMo_some_38 (lv_at hl 3 rfl) ?_
    refine lv_lload hx hb dMo_some_40 (lv_at hl 4 rfl) ?_
    refine lv_land hx hb dMo_some_42 ?_
    refine lv_lload_n hx hb dMo_some_43 rfl (lv_at hl 2 rfl) ?_
    refine wz_calll (wc := [(aR, .inr (7, [.int (nI th), .int (nI mv), .ref ams, .ref ann, .int (nI n), .ref ak2, .ref af2, .ref as2, .ref ah2, .int (nI fc), .ref afa, .ref afx, .ref ald, .int (nI zz), .ref awy, .int lp, .ref alt, .ref abg, .int (wz_i tl)])), (ann, .inl (cJ, 64, .inr (.inl nx)))]) (wr := [(ald, .inl (cJ, 64, .inr (.inl le2))), (afx, .inl (cJ, 3, .inr (.inl gx)))]) (w1 := [(aR, .inr (7, [.int (nI th), .int (nI mv), .ref ams, .ref ann, .int (nI n), .ref ak2, .ref af2, .ref as2, .ref ah2, .int (nI fc), .ref afa, .ref afx, .ref ald, .int (nI zz), .ref awy, .int lp, .ref alt, .ref abg, .int (wz_i tl)])), (ann, .inl (cJ, 64, .inr (.inl nx)))]) (ws' := [(aR, .inr (7, [.int (nI th), .int (nI mv), .ref ams, .ref ann, .int (nI n), .ref ak2, .ref af2, .ref as2, .ref ah2, .int (nI fc), .ref afa, .ref afx, .ref ald, .int (nI zz), .ref awy, .int lp, .ref alt, .ref abg, .int (wz_i tl)])), (ann, .inl (cJ, 64, .inr (.inl nx))), (ald, .inl (cJ, 64, .inr (.inl le2))), (afx, .inl (cJ, 3, .inr (.inl gx)))]) hP hD hS hA [0, 1] [2, 3] [2, 3, 0, 1] rfl rfl (by decide) (by decide) (by decide) rfl rfl (va_runV (As := [.long (b &&& fs), .long a]) (rest := []) ⟨hx, hb, hml, hown, hts⟩ (kMo_reaching l dC dI cI cJ cZ s.heap.size aR ams ann ak2 af2 as2 ah2 afa afx ald awy alt abg th mv n fc zz lp tl nx (b &&& fs) a) (cwV 2 hts (wz_gV w_623 w_624 w_21 w_41 w_625) rfl rfl rfl (by decide +kernel) ⟨Nat.le_of_ble_eq_true rfl, Nat.le_of_ble_eq_true rfl⟩) (wz_preV (q := (RMo, TMo, 19)) (ci := 7) hN hK hP hD [0, 1] (by decide) rfl rfl 0 rfl rfl) rfl rfl hl.1 rfl (lv_room (Nat.le_of_ble_eq_true rfl)) dMo_some_44 ⟨Nat.le_refl _, Nat.le_refl _⟩) (fun H locs hP hD hS => ?_)
    exact wz_lretU le2 trivial hx hb hr hlocks (by rw [h1_1]; rfl) hP hD hK hS dMo_some_47
  · skip
    refine W.eq (g2 := F0 m 1 ls [.int (nI 7)]) (by rw [h1_1]) ?_
    refine lv_tableIn (off := 47) (tgt := 48) hx hb dMo_some_1 (by decide) (by decide) (by decide) (by decide) ?_
    refine lv_aload_n hx hb dMo_some_48 rfl (lv_at hl 0 rfl) ?_
    refine lv_lload_n hx hb dMo_some_49 rfl (lv_at hl 2 rfl) ?_
    refine wz_calllU (wc := [(aR, .inr (7, [.int (nI th), .int (nI mv), .ref ams, .ref ann, .int (nI n), .ref ak2, .ref af2, .ref as2, .ref ah2, .int (nI fc), .ref afa, .ref afx, .ref ald, .int (nI zz), .ref awy, .int lp, .ref alt, .ref abg, .int (wz_i tl)])), (ann, .inl (cJ, 64, .inr (.inl nx))), (ald, .inl (cJ, 64, .inr (.inl le2))), (afx, .inl (cJ, 3, .inr (.inl gx)))]) (wr := []) (w1 := fun (u : Nat → Int64) => [(aR, .inr (7, [.int (nI th), .int (nI mv), .ref ams, .ref ann, .int (nI n), .ref ak2, .ref af2, .ref as2, .ref ah2, .int (nI fc), .ref afa, .ref afx, .ref ald, .int (nI zz), .ref awy, .int lp, .ref alt, .ref abg, .int (wz_i tl)])), (ann, .inl (cJ, 64, .inr (.inl nx))), (ald, .inl (cJ, 64, .inr (.inl u))), (afx, .inl (cJ, 3, .inr (.inl gx)))]) (ws' := fun (u : Nat → Int64) => [(aR, .inr (7, [.int (nI th), .int (nI mv), .ref ams, .ref ann, .int (nI n), .ref ak2, .ref af2, .ref as2, .ref ah2, .int (nI fc), .ref afa, .ref afx, .ref ald, .int (nI zz), .ref awy, .int lp, .ref alt, .ref abg, .int (wz_i tl)])), (ann, .inl (cJ, 64, .inr (.inl nx))), (ald, .inl (cJ, 64, .inr (.inl u))), (afx, .inl (cJ, 3, .inr (.inl gx)))]) hP hD hS hA [0, 1, 2, 3] [] [0, 1, 2, 3] rfl rfl (by decide) (by decide) (by decide) (fun _ => rfl) (fun _ => rfl) (va_runV (As := [.long a]) (rest := []) ⟨hx, hb, hml, hown, hts⟩ (kMo_staying l dC dI cI cJ cZ s.heap.size aR ams ann ak2 af2 as2 ah2 afa afx ald awy alt abg th mv n fc zz lp tl nx le2 gx a hfc) (cwV 1 hts (wz_gV w_611 w_612 w_17 w_41 w_613) rfl rfl rfl (by decide +kernel) ⟨Nat.le_of_ble_eq_true rfl, Nat.le_of_ble_eq_true rfl⟩) (wz_preV (q := (RMo, TMo, 19)) (ci := 7) hN hK hP hD [0, 1, 2, 3] (by decide) rfl rfl 0 rfl rfl) rfl rfl hl.1 rfl (lv_room (Nat.le_of_ble_eq_true rfl)) dMo_some_50 ⟨Nat.le_refl _, Nat.le_refl _⟩) (fun u2 hqu2 H locs hP hD hS => ?_)
    have hP : va_P (dC, dI) vwCl [(aR, .inr (7, [.int (nI th), .int (nI mv), .ref ams, .ref ann, .int (nI n), .ref ak2, .ref af2, .ref as2, .ref ah2, .int (nI fc), .ref afa, .ref afx, .ref ald, .int (nI zz), .ref awy, .int lp, .ref alt, .ref abg, .int (wz_i tl)])), (ann, .inl (cJ, 64, .inr (.inl nx))), (ald, .inl (cJ, 64, .inr (.inl u2))), (afx, .inl (cJ, 3, .inr (.inl gx)))] H := hP
    have hD : va_D A [(aR, .inr (7, [.int (nI th), .int (nI mv), .ref ams, .ref ann, .int (nI n), .ref ak2, .ref af2, .ref as2, .ref ah2, .int (nI fc), .ref afa, .ref afx, .ref ald, .int (nI zz), .ref awy, .int lp, .ref alt, .ref abg, .int (wz_i tl)])), (ann, .inl (cJ, 64, .inr (.inl nx))), (ald, .inl (cJ, 64, .inr (.inl u2))), (afx, .inl (cJ, 3, .inr (.inl gx)))] := hD
    exact wz_lretU u2 trivial hx hb hr hlocks (by rw [h1_1]; rfl) hP hD hK hS dMo_some_53
  · skip
    refine W.eq (g2 := F0 m 1 ls [.int (nI 8)]) (by rw [h1_1]) ?_
    refine lv_tableOut (tgt := 54) hx hb dMo_some_1 (by decide) (by decide) ?_
    refine lv_aload_n hx hb dMo_some_54 rfl (lv_at hl 0 rfl) ?_
    refine lv_lload_n hx hb dMo_some_55 rfl (lv_at hl 2 rfl) ?_
    refine lv_lload hx hb dMo_some_56 (lv_at hl 4 rfl) ?_
    refine lv_land hx hb dMo_some_58 ?_
    refine lv_ldc2 hx hb hown (hw _ w_610) dMo_some_59 ?_
    refine wz_calll (wc := [(aR, .inr (7, [.int (nI th), .int (nI mv), .ref ams, .ref ann, .int (nI n), .ref ak2, .ref af2, .ref as2, .ref ah2, .int (nI fc), .ref afa, .ref afx, .ref ald, .int (nI zz), .ref awy, .int lp, .ref alt, .ref abg, .int (wz_i tl)])), (ann, .inl (cJ, 64, .inr (.inl nx)))]) (wr := [(ald, .inl (cJ, 64, .inr (.inl le2))), (afx, .inl (cJ, 3, .inr (.inl gx)))]) (w1 := [(aR, .inr (7, [.int (nI th), .int (nI mv), .ref ams, .ref ann, .int (nI n), .ref ak2, .ref af2, .ref as2, .ref ah2, .int (nI fc), .ref afa, .ref afx, .ref ald, .int (nI zz), .ref awy, .int lp, .ref alt, .ref abg, .int (wz_i tl)])), (ann, .inl (cJ, 64, .inr (.inl nx)))]) (ws' := [(aR, .inr (7, [.int (nI th), .int (nI mv), .ref ams, .ref ann, .int (nI n), .ref ak2, .ref af2, .ref as2, .ref ah2, .int (nI fc), .ref afa, .ref afx, .ref ald, .int (nI zz), .ref awy, .int lp, .ref alt, .ref abg, .int (wz_i tl)])), (ann, .inl (cJ, 64, .inr (.inl nx))), (ald, .inl (cJ, 64, .inr (.inl le2))), (afx, .inl (cJ, 3, .inr (.inl gx)))]) hP hD hS hA [0, 1] [2, 3] [2, 3, 0, 1] rfl rfl (by decide) (by decide) (by decide) rfl rfl (va_runV (As := [.long (a &&& fs), .long (-1)]) (rest := []) ⟨hx, hb, hml, hown, hts⟩ (kMo_reaching l dC dI cI cJ cZ s.heap.size aR ams ann ak2 af2 as2 ah2 afa afx ald awy alt abg th mv n fc zz lp tl nx (a &&& fs) (-1)) (cwV 2 hts (wz_gV w_623 w_624 w_21 w_41 w_625) rfl rfl rfl (by decide +kernel) ⟨Nat.le_of_ble_eq_true rfl, Nat.le_of_ble_eq_true rfl⟩) (wz_preV (q := (RMo, TMo, 19)) (ci := 7) hN hK hP hD [0, 1] (by decide) rfl rfl 0 rfl rfl) rfl rfl hl.1 rfl (lv_room (Nat.le_of_ble_eq_true rfl)) dMo_some_62 ⟨Nat.le_refl _, Nat.le_refl _⟩) (fun H locs hP hD hS => ?_)
    exact wz_lretU le2 trivial hx hb hr hlocks (by rw [h1_1]; rfl) hP hD hK hS dMo_some_65
set_option maxHeartbeats 4000000 in
set_option maxRecDepth 100000 in
theorem kMo_each (l : Launch) (dC : Nat → ClassId) (dI : Nat → Nat → Nat) (cI cJ cZ : ClassId) (sz : Nat) (aR : Nat) (ams : Nat) (ann : Nat) (ak2 : Nat) (af2 : Nat) (as2 : Nat) (ah2 : Nat) (afa : Nat) (afx : Nat) (ald : Nat) (awy : Nat) (alt : Nat) (abg : Nat) (th : Nat) (mv : Nat) (n : Nat) (fc : Nat) (zz : Nat) (lp : Int32) (tl : Bool) (nx : Nat → Int64) (le2 : Nat → Int64) (gx : Nat → Int64) (k : Nat) (a : Int64) (b : Int64) (fs : Int64) (hk9 : 9 ≤ k) (hk12 : k ≤ 12) (hfc : fc ≤ 3) : Met l yMo_each (.code yMo_each cMo_each 8 (some .long) :: wz_all) ({ frames := 4, cells := 0, slots := 0, locals := 105 }) (wz_Pc (dC, dI) vwCl (wz_T cI cJ cZ) [.ref aR, .int (nI k), .long a, .long b, .long fs] sz [(aR, .inr (7, [.int (nI th), .int (nI mv), .ref ams, .ref ann, .int (nI n), .ref ak2, .ref af2, .ref as2, .ref ah2, .int (nI fc), .ref afa, .ref afx, .ref ald, .int (nI zz), .ref awy, .int lp, .ref alt, .ref abg, .int (wz_i tl)])), (ann, .inl (cJ, 64, .inr (.inl nx))), (ald, .inl (cJ, 64, .inr (.inl le2))), (afx, .inl (cJ, 3, .inr (.inl gx)))]) (va_Ql (fun (r : Int64) (u : Nat → Int64) => r = ww_vs nx gx fc fs k 0 a b ∧ True) (fun (u : Nat → Int64) t => va_P (dC, dI) vwCl [(aR, .inr (7, [.int (nI th), .int (nI mv), .ref ams, .ref ann, .int (nI n), .ref ak2, .ref af2, .ref as2, .ref ah2, .int (nI fc), .ref afa, .ref afx, .ref ald, .int (nI zz), .ref awy, .int lp, .ref alt, .ref abg, .int (wz_i tl)])), (ann, .inl (cJ, 64, .inr (.inl nx))), (ald, .inl (cJ, 64, .inr (.inl u))), (afx, .inl (cJ, 3, .inr (.inl gx)))] t.heap ∧ va_K (dC, dI) vwCl (wz_T cI cJ cZ) t ∧ va_D (va_A [(aR, .inr (7, [.int (nI th), .int (nI mv), .ref ams, .ref ann, .int (nI n), .ref ak2, .ref af2, .ref as2, .ref ah2, .int (nI fc), .ref afa, .ref afx, .ref ald, .int (nI zz), .ref awy, .int lp, .ref alt, .ref abg, .int (wz_i tl)])), (ann, .inl (cJ, 64, .inr (.inl nx))), (ald, .inl (cJ, 64, .inr (.inl le2))), (afx, .inl (cJ, 3, .inr (.inl gx)))] sz) [(aR, .inr (7, [.int (nI th), .int (nI mv), .ref ams, .ref ann, .int (nI n), .ref ak2, .ref af2, .ref as2, .ref ah2, .int (nI fc), .ref afa, .ref afx, .ref ald, .int (nI zz), .ref awy, .int lp, .ref alt, .ref abg, .int (wz_i tl)])), (ann, .inl (cJ, 64, .inr (.inl nx))), (ald, .inl (cJ, 64, .inr (.inl u))), (afx, .inl (cJ, 3, .inr (.inl gx)))]) (va_A [(aR, .inr (7, [.int (nI th), .int (nI mv), .ref ams, .ref ann, .int (nI n), .ref ak2, .ref af2, .ref as2, .ref ah2, .int (nI fc), .ref afa, .ref afx, .ref ald, .int (nI zz), .ref awy, .int lp, .ref alt, .ref abg, .int (wz_i tl)])), (ann, .inl (cJ, 64, .inr (.inl nx))), (ald, .inl (cJ, 64, .inr (.inl le2))), (afx, .inl (cJ, 3, .inr (.inl gx)))] sz)) 0 0 (va_A [(aR, .inr (7, [.int (nI th), .int (nI mv), .ref ams, .ref ann, .int (nI n), .ref ak2, .ref af2, .ref as2, .ref ah2, .int (nI fc), .ref afa, .ref afx, .ref ald, .int (nI zz), .ref awy, .int lp, .ref alt, .ref abg, .int (wz_i tl)])), (ann, .inl (cJ, 64, .inr (.inl nx))), (ald, .inl (cJ, 64, .inr (.inl le2))), (afx, .inl (cJ, 3, .inr (.inl gx)))] sz) := by
  refine Met.ofW (cc := cMo_each) (maxL := 8) (ret := (some .long)) (by decide) rfl ?_
  intro p e s m args below meth c s₁ B hml hv
  obtain ⟨rfl, hsz, hP, hK, hD0, hN⟩ := hv
  have hx := B.exec
  have hb := B.bytes
  have hr := B.returns
  have hts := atoms_spec (ws := (.code yMo_each cMo_each 8 (some .long) :: wz_all)) B.pre
  have hw : ∀ w9 ∈ wz_all, w9.before [.ref aR, .int (nI k), .long a, .long b, .long fs].toArray s = true := fun w9 h => hts w9 (List.mem_cons_of_mem _ h)
  have hown : s.vm.findClass RMo = some m.cls := findClass_of_methodNamed B.named
  have hlocks := B.notSynchronized
  subst hsz
  have hD := hD0.self (sz := s.heap.size)
  generalize hAe : va_A [(aR, .inr (7, [.int (nI th), .int (nI mv), .ref ams, .ref ann, .int (nI n), .ref ak2, .ref af2, .ref as2, .ref ah2, .int (nI fc), .ref afa, .ref afx, .ref ald, .int (nI zz), .ref awy, .int lp, .ref alt, .ref abg, .int (wz_i tl)])), (ann, .inl (cJ, 64, .inr (.inl nx))), (ald, .inl (cJ, 64, .inr (.inl le2))), (afx, .inl (cJ, 3, .inr (.inl gx)))] s.heap.size = A at hD ⊢
  have hA : ∀ q : Nat, s.heap.size ≤ q → A q := fun q h => by rw [← hAe]; exact Or.inr h
  have hS : va_S A s.heap s.heap [] := va_S.rf
  have hP : va_P (dC, dI) vwCl [(aR, .inr (7, [.int (nI th), .int (nI mv), .ref ams, .ref ann, .int (nI n), .ref ak2, .ref af2, .ref as2, .ref ah2, .int (nI fc), .ref afa, .ref afx, .ref ald, .int (nI zz), .ref awy, .int lp, .ref alt, .ref abg, .int (wz_i tl)])), (ann, .inl (cJ, 64, .inr (.inl nx))), (ald, .inl (cJ, 64, .inr (.inl le2))), (afx, .inl (cJ, 3, .inr (.inl gx)))] s.heap := hP
  have hl := lv_entry ([.ref aR, .int (nI k), .long a, .long b, .long fs]) (n := 8) (Nat.le_of_ble_eq_true rfl)
  rw [lg_entry_eq]
  generalize (lg_sl ([.ref aR, .int (nI k), .long a, .long b, .long fs]) ++ List.replicate (8 - (lg_sl ([.ref aR, .int (nI k), .long a, .long b, .long fs])).length) Slot.unset).toArray = ls at hl ⊢
  have hl : lv_has ls 8 [(0, .ref aR), (1, .int (nI k)), (2, .long a), (4, .long b), (6, .long fs)] := hl
  refine lv_iload_n hx hb dMo_each_0 rfl (lv_at hl 1 rfl) ?_
  rcases (show k = 9 ∨ k = 10 ∨ k = 11 ∨ k = 12 by omega) with h1_1 | h1_1 | h1_1 | h1_1
  · skip
    refine W.eq (g2 := F0 m 1 ls [.int (nI 9)]) (by rw [h1_1]) ?_
    refine lv_tableIn (off := 27) (tgt := 28) hx hb dMo_each_1 (by decide) (by decide) (by decide) (by decide) ?_
    refine lv_aload_n hx hb dMo_each_28 rfl (lv_at hl 0 rfl) ?_
    refine lv_iconst (v := nI 5) hx hb dMo_each_29 (by decide) ?_
    refine lv_lload_n hx hb dMo_each_30 rfl (lv_at hl 2 rfl) ?_
    refine lv_ldc2 hx hb hown (hw _ w_610) dMo_each_31 ?_
    refine lv_lxor hx hb dMo_each_34 ?_
    refine lv_lconst (v := 0) hx hb dMo_each_35 (by decide) ?_
    refine lv_lload hx hb dMo_each_36 (lv_at hl 4 rfl) ?_
    refine wz_calllU (wc := [(aR, .inr (7, [.int (nI th), .int (nI mv), .ref ams, .ref ann, .int (nI n), .ref ak2, .ref af2, .ref as2, .ref ah2, .int (nI fc), .ref afa, .ref afx, .ref ald, .int (nI zz), .ref awy, .int lp, .ref alt, .ref abg, .int (wz_i tl)])), (ann, .inl (cJ, 64, .inr (.inl nx))), (ald, .inl (cJ, 64, .inr (.inl le2))), (afx, .inl (cJ, 3, .inr (.inl gx)))]) (wr := []) (w1 := fun (u : Nat → Int64) => [(aR, .inr (7, [.int (nI th), .int (nI mv), .ref ams, .ref ann, .int (nI n), .ref ak2, .ref af2, .ref as2, .ref ah2, .int (nI fc), .ref afa, .ref afx, .ref ald, .int (nI zz), .ref awy, .int lp, .ref alt, .ref abg, .int (wz_i tl)])), (ann, .inl (cJ, 64, .inr (.inl nx))), (ald, .inl (cJ, 64, .inr (.inl u))), (afx, .inl (cJ, 3, .inr (.inl gx)))]) (ws' := fun (u : Nat → Int64) => [(aR, .inr (7, [.int (nI th), .int (nI mv), .ref ams, .ref ann, .int (nI n), .ref ak2, .ref af2, .ref as2, .ref ah2, .int (nI fc), .ref afa, .ref afx, .ref ald, .int (nI zz), .ref awy, .int lp, .ref alt, .ref abg, .int (wz_i tl)])), (ann, .inl (cJ, 64, .inr (.inl nx))), (ald, .inl (cJ, 64, .inr (.inl u))), (afx, .inl (cJ, 3, .inr (.inl gx)))]) hP hD hS hA [0, 1, 2, 3] [] [0, 1, 2, 3] rfl rfl (by decide) (by decide) (by decide) (fun _ => rfl) (fun _ => rfl) (va_runV (As := [.int (nI 5), .long (a ^^^ (-1)), .long 0, .long fs]) (rest := []) ⟨hx, hb, hml, hown, hts⟩ (kMo_some l dC dI cI cJ cZ s.heap.size aR ams ann ak2 af2 as2 ah2 afa afx ald awy alt abg th mv n fc zz lp tl nx le2 gx 5 (a ^^^ (-1)) 0 fs (by omega) (by omega) hfc) (cwV 4 hts (wz_gV w_629 w_630 w_23 w_41 w_631) rfl rfl rfl (by decide +kernel) ⟨Nat.le_of_ble_eq_true rfl, Nat.le_of_ble_eq_true rfl⟩) (wz_preV (q := (RMo, TMo, 19)) (ci := 7) hN hK hP hD [0, 1, 2, 3] (by decide) rfl rfl 0 rfl rfl) rfl rfl hl.1 rfl (lv_room (Nat.le_of_ble_eq_true rfl)) dMo_each_38 ⟨Nat.le_refl _, Nat.le_refl _⟩) (fun u2 hqu2 H locs hP hD hS => ?_)
    have hP : va_P (dC, dI) vwCl [(aR, .inr (7, [.int (nI th), .int (nI mv), .ref ams, .ref ann, .int (nI n), .ref ak2, .ref af2, .ref as2, .ref ah2, .int (nI fc), .ref afa, .ref afx, .ref ald, .int (nI zz), .ref awy, .int lp, .ref alt, .ref abg, .int (wz_i tl)])), (ann, .inl (cJ, 64, .inr (.inl nx))), (ald, .inl (cJ, 64, .inr (.inl u2))), (afx, .inl (cJ, 3, .inr (.inl gx)))] H := hP
    have hD : va_D A [(aR, .inr (7, [.int (nI th), .int (nI mv), .ref ams, .ref ann, .int (nI n), .ref ak2, .ref af2, .ref as2, .ref ah2, .int (nI fc), .ref afa, .ref afx, .ref ald, .int (nI zz), .ref awy, .int lp, .ref alt, .ref abg, .int (wz_i tl)])), (ann, .inl (cJ, 64, .inr (.inl nx))), (ald, .inl (cJ, 64, .inr (.inl u2))), (afx, .inl (cJ, 3, .inr (.inl gx)))] := hD
    refine lv_ldc2 hx hb hown (hw _ w_610) dMo_each_41 ?_
    refine lv_lxor hx hb dMo_each_44 ?_
    exact wz_lretU u2 trivial hx hb hr hlocks (by rw [h1_1]; rfl) hP hD hK hS dMo_each_45
  · skip
    refine W.eq (g2 := F0 m 1 ls [.int (nI 10)]) (by rw [h1_1]) ?_
    refine lv_tableIn (off := 45) (tgt := 46) hx hb dMo_each_1 (by decide) (by decide) (by decide) (by decide) ?_
    refine lv_aload_n hx hb dMo_each_46 rfl (lv_at hl 0 rfl) ?_
    refine lv_bipush (v := nI 6) hx hb dMo_each_47 (by decide) ?_
    refine lv_lload hx hb dMo_each_49 (lv_at hl 3 rfl) ?_
    refine lv_ldc2 hx hb hown (hw _ w_610) dMo_each_51 ?_
    refine lv_lxor hx hb dMo_each_54 ?_
    refine lv_lload_n hx hb dMo_each_55 rfl (lv_at hl 2 rfl) ?_
    refine lv_ldc2 hx hb hown (hw _ w_610) dMo_each_56 ?_
    refine lv_lxor hx hb dMo_each_59 ?_
    refine lv_lload hx hb dMo_each_60 (lv_at hl 3 rfl) ?_
    refine lv_ldc2 hx hb hown (hw _ w_610) dMo_each_62 ?_
    refine lv_lxor hx hb dMo_each_65 ?_
    refine lv_land hx hb dMo_each_66 ?_
    refine lv_lload hx hb dMo_each_67 (lv_at hl 4 rfl) ?_
    refine wz_calllU (wc := [(aR, .inr (7, [.int (nI th), .int (nI mv), .ref ams, .ref ann, .int (nI n), .ref ak2, .ref af2, .ref as2, .ref ah2, .int (nI fc), .ref afa, .ref afx, .ref ald, .int (nI zz), .ref awy, .int lp, .ref alt, .ref abg, .int (wz_i tl)])), (ann, .inl (cJ, 64, .inr (.inl nx))), (ald, .inl (cJ, 64, .inr (.inl le2))), (afx, .inl (cJ, 3, .inr (.inl gx)))]) (wr := []) (w1 := fun (u : Nat → Int64) => [(aR, .inr (7, [.int (nI th), .int (nI mv), .ref ams, .ref ann, .int (nI n), .ref ak2, .ref af2, .ref as2, .ref ah2, .int (nI fc), .ref afa, .ref afx, .ref ald, .int (nI zz), .ref awy, .int lp, .ref alt, .ref abg, .int (wz_i tl)])), (ann, .inl (cJ, 64, .inr (.inl nx))), (ald, .inl (cJ, 64, .inr (.inl u))), (afx, .inl (cJ, 3, .inr (.inl gx)))]) (ws' := fun (u : Nat → Int64) => [(aR, .inr (7, [.int (nI th), .int (nI mv), .ref ams, .ref ann, .int (nI n), .ref ak2, .ref af2, .ref as2, .ref ah2, .int (nI fc), .ref afa, .ref afx, .ref ald, .int (nI zz), .ref awy, .int lp, .ref alt, .ref abg, .int (wz_i tl)])), (ann, .inl (cJ, 64, .inr (.inl nx))), (ald, .inl (cJ, 64, .inr (.inl u))), (afx, .inl (cJ, 3, .inr (.inl gx)))]) hP hD hS hA [0, 1, 2, 3] [] [0, 1, 2, 3] rfl rfl (by decide) (by decide) (by decide) (fun _ => rfl) (fun _ => rfl) (va_runV (As := [.int (nI 6), .long (b ^^^ (-1)), .long ((a ^^^ (-1)) &&& (b ^^^ (-1))), .long fs]) (rest := []) ⟨hx, hb, hml, hown, hts⟩ (kMo_some l dC dI cI cJ cZ s.heap.size aR ams ann ak2 af2 as2 ah2 afa afx ald awy alt abg th mv n fc zz lp tl nx le2 gx 6 (b ^^^ (-1)) ((a ^^^ (-1)) &&& (b ^^^ (-1))) fs (by omega) (by omega) hfc) (cwV 4 hts (wz_gV w_629 w_630 w_23 w_41 w_631) rfl rfl rfl (by decide +kernel) ⟨Nat.le_of_ble_eq_true rfl, Nat.le_of_ble_eq_true rfl⟩) (wz_preV (q := (RMo, TMo, 19)) (ci := 7) hN hK hP hD [0, 1, 2, 3] (by decide) rfl rfl 0 rfl rfl) rfl rfl hl.1 rfl (lv_room (Nat.le_of_ble_eq_true rfl)) dMo_each_69 ⟨Nat.le_refl _, Nat.le_refl _⟩) (fun u3 hqu3 H locs hP hD hS => ?_)
    have hP : va_P (dC, dI) vwCl [(aR, .inr (7, [.int (nI th), .int (nI mv), .ref ams, .ref ann, .int (nI n), .ref ak2, .ref af2, .ref as2, .ref ah2, .int (nI fc), .ref afa, .ref afx, .ref ald, .int (nI zz), .ref awy, .int lp, .ref alt, .ref abg, .int (wz_i tl)])), (ann, .inl (cJ, 64, .inr (.inl nx))), (ald, .inl (cJ, 64, .inr (.inl u3))), (afx, .inl (cJ, 3, .inr (.inl gx)))] H := hP
    have hD : va_D A [(aR, .inr (7, [.int (nI th), .int (nI mv), .ref ams, .ref ann, .int (nI n), .ref ak2, .ref af2, .ref as2, .ref ah2, .int (nI fc), .ref afa, .ref afx, .ref ald, .int (nI zz), .ref awy, .int lp, .ref alt, .ref abg, .int (wz_i tl)])), (ann, .inl (cJ, 64, .inr (.inl nx))), (ald, .inl (cJ, 64, .inr (.inl u3))), (afx, .inl (cJ, 3, .inr (.inl gx)))] := hD
    refine lv_aload_n hx hb dMo_each_72 rfl (lv_at hl 0 rfl) ?_
    refine lv_lload hx hb dMo_each_73 (lv_at hl 3 rfl) ?_
    refine lv_ldc2 hx hb hown (hw _ w_610) dMo_each_75 ?_
    refine lv_lxor hx hb dMo_each_78 ?_
    refine wz_calllU (wc := [(aR, .inr (7, [.int (nI th), .int (nI mv), .ref ams, .ref ann, .int (nI n), .ref ak2, .ref af2, .ref as2, .ref ah2, .int (nI fc), .ref afa, .ref afx, .ref ald, .int (nI zz), .ref awy, .int lp, .ref alt, .ref abg, .int (wz_i tl)])), (ann, .inl (cJ, 64, .inr (.inl nx))), (ald, .inl (cJ, 64, .inr (.inl u3))), (afx, .inl (cJ, 3, .inr (.inl gx)))]) (wr := []) (w1 := fun (u : Nat → Int64) => [(aR, .inr (7, [.int (nI th), .int (nI mv), .ref ams, .ref ann, .int (nI n), .ref ak2, .ref af2, .ref as2, .ref ah2, .int (nI fc), .ref afa, .ref afx, .ref ald, .int (nI zz), .ref awy, .int lp, .ref alt, .ref abg, .int (wz_i tl)])), (ann, .inl (cJ, 64, .inr (.inl nx))), (ald, .inl (cJ, 64, .inr (.inl u))), (afx, .inl (cJ, 3, .inr (.inl gx)))]) (ws' := fun (u : Nat → Int64) => [(aR, .inr (7, [.int (nI th), .int (nI mv), .ref ams, .ref ann, .int (nI n), .ref ak2, .ref af2, .ref as2, .ref ah2, .int (nI fc), .ref afa, .ref afx, .ref ald, .int (nI zz), .ref awy, .int lp, .ref alt, .ref abg, .int (wz_i tl)])), (ann, .inl (cJ, 64, .inr (.inl nx))), (ald, .inl (cJ, 64, .inr (.inl u))), (afx, .inl (cJ, 3, .inr (.inl gx)))]) hP hD hS hA [0, 1, 2, 3] [] [0, 1, 2, 3] rfl rfl (by decide) (by decide) (by decide) (fun _ => rfl) (fun _ => rfl) (va_runV (As := [.long (b ^^^ (-1))]) (rest := [.long (ww_vs nx gx fc fs 6 0 (b ^^^ (-1)) ((a ^^^ (-1)) &&& (b ^^^ (-1))))]) ⟨hx, hb, hml, hown, hts⟩ (kMo_staying l dC dI cI cJ cZ H.size aR ams ann ak2 af2 as2 ah2 afa afx ald awy alt abg th mv n fc zz lp tl nx u3 gx (b ^^^ (-1)) hfc) (cwV 1 hts (wz_gV w_611 w_612 w_17 w_41 w_613) rfl rfl rfl (by decide +kernel) ⟨Nat.le_of_ble_eq_true rfl, Nat.le_of_ble_eq_true rfl⟩) (wz_preV (q := (RMo, TMo, 19)) (ci := 7) hN hK hP hD [0, 1, 2, 3] (by decide) rfl rfl 0 rfl rfl) rfl rfl hl.1 rfl (lv_room (Nat.le_of_ble_eq_true rfl)) dMo_each_79 ⟨Nat.le_refl _, Nat.le_refl _⟩) (fun u4 hqu4 H locs hP hD hS => ?_)
    have hP : va_P (dC, dI) vwCl [(aR, .inr (7, [.int (nI th), .int (nI mv), .ref ams, .ref ann, .int (nI n), .ref ak2, .ref af2, .ref as2, .ref ah2, .int (nI fc), .ref afa, .ref afx, .ref ald, .int (nI zz), .ref awy, .int lp, .ref alt, .ref abg, .int (wz_i tl)])), (ann, .inl (cJ, 64, .inr (.inl nx))), (ald, .inl (cJ, 64, .inr (.inl u4))), (afx, .inl (cJ, 3, .inr (.inl gx)))] H := hP
    have hD : va_D A [(aR, .inr (7, [.int (nI th), .int (nI mv), .ref ams, .ref ann, .int (nI n), .ref ak2, .ref af2, .ref as2, .ref ah2, .int (nI fc), .ref afa, .ref afx, .ref ald, .int (nI zz), .ref awy, .int lp, .ref alt, .ref abg, .int (wz_i tl)])), (ann, .inl (cJ, 64, .inr (.inl nx))), (ald, .inl (cJ, 64, .inr (.inl u4))), (afx, .inl (cJ, 3, .inr (.inl gx)))] := hD
    refine lv_lor hx hb dMo_each_82 ?_
    refine lv_ldc2 hx hb hown (hw _ w_610) dMo_each_83 ?_
    refine lv_lxor hx hb dMo_each_86 ?_
    exact wz_lretU u4 trivial hx hb hr hlocks (by rw [h1_1]; rfl) hP hD hK hS dMo_each_87
  · skip
    refine W.eq (g2 := F0 m 1 ls [.int (nI 11)]) (by rw [h1_1]) ?_
    refine lv_tableIn (off := 87) (tgt := 88) hx hb dMo_each_1 (by decide) (by decide) (by decide) (by decide) ?_
    refine lv_aload_n hx hb dMo_each_88 rfl (lv_at hl 0 rfl) ?_
    refine lv_bipush (v := nI 8) hx hb dMo_each_89 (by decide) ?_
    refine lv_lload_n hx hb dMo_each_91 rfl (lv_at hl 2 rfl) ?_
    refine lv_ldc2 hx hb hown (hw _ w_610) dMo_each_92 ?_
    refine lv_lxor hx hb dMo_each_95 ?_
    refine lv_lconst (v := 0) hx hb dMo_each_96 (by decide) ?_
    refine lv_lload hx hb dMo_each_97 (lv_at hl 4 rfl) ?_
    refine wz_calllU (wc := [(aR, .inr (7, [.int (nI th), .int (nI mv), .ref ams, .ref ann, .int (nI n), .ref ak2, .ref af2, .ref as2, .ref ah2, .int (nI fc), .ref afa, .ref afx, .ref ald, .int (nI zz), .ref awy, .int lp, .ref alt, .ref abg, .int (wz_i tl)])), (ann, .inl (cJ, 64, .inr (.inl nx))), (ald, .inl (cJ, 64, .inr (.inl le2))), (afx, .inl (cJ, 3, .inr (.inl gx)))]) (wr := []) (w1 := fun (u : Nat → Int64) => [(aR, .inr (7, [.int (nI th), .int (nI mv), .ref ams, .ref ann, .int (nI n), .ref ak2, .ref af2, .ref as2, .ref ah2, .int (nI fc), .ref afa, .ref afx, .ref ald, .int (nI zz), .ref awy, .int lp, .ref alt, .ref abg, .int (wz_i tl)])), (ann, .inl (cJ, 64, .inr (.inl nx))), (ald, .inl (cJ, 64, .inr (.inl u))), (afx, .inl (cJ, 3, .inr (.inl gx)))]) (ws' := fun (u : Nat → Int64) => [(aR, .inr (7, [.int (nI th), .int (nI mv), .ref ams, .ref ann, .int (nI n), .ref ak2, .ref af2, .ref as2, .ref ah2, .int (nI fc), .ref afa, .ref afx, .ref ald, .int (nI zz), .ref awy, .int lp, .ref alt, .ref abg, .int (wz_i tl)])), (ann, .inl (cJ, 64, .inr (.inl nx))), (ald, .inl (cJ, 64, .inr (.inl u))), (afx, .inl (cJ, 3, .inr (.inl gx)))]) hP hD hS hA [0, 1, 2, 3] [] [0, 1, 2, 3] rfl rfl (by decide) (by decide) (by decide) (fun _ => rfl) (fun _ => rfl) (va_runV (As := [.int (nI 8), .long (a ^^^ (-1)), .long 0, .long fs]) (rest := []) ⟨hx, hb, hml, hown, hts⟩ (kMo_some l dC dI cI cJ cZ s.heap.size aR ams ann ak2 af2 as2 ah2 afa afx ald awy alt abg th mv n fc zz lp tl nx le2 gx 8 (a ^^^ (-1)) 0 fs (by omega) (by omega) hfc) (cwV 4 hts (wz_gV w_629 w_630 w_23 w_41 w_631) rfl rfl rfl (by decide +kernel) ⟨Nat.le_of_ble_eq_true rfl, Nat.le_of_ble_eq_true rfl⟩) (wz_preV (q := (RMo, TMo, 19)) (ci := 7) hN hK hP hD [0, 1, 2, 3] (by decide) rfl rfl 0 rfl rfl) rfl rfl hl.1 rfl (lv_room (Nat.le_of_ble_eq_true rfl)) dMo_each_99 ⟨Nat.le_refl _, Nat.le_refl _⟩) (fun u5 hqu5 H locs hP hD hS => ?_)
    have hP : va_P (dC, dI) vwCl [(aR, .inr (7, [.int (nI th), .int (nI mv), .ref ams, .ref ann, .int (nI n), .ref ak2, .ref af2, .ref as2, .ref ah2, .int (nI fc), .ref afa, .ref afx, .ref ald, .int (nI zz), .ref awy, .int lp, .ref alt, .ref abg, .int (wz_i tl)])), (ann, .inl (cJ, 64, .inr (.inl nx))), (ald, .inl (cJ, 64, .inr (.inl u5))), (afx, .inl (cJ, 3, .inr (.inl gx)))] H := hP
    have hD : va_D A [(aR, .inr (7, [.int (nI th), .int (nI mv), .ref ams, .ref ann, .int (nI n), .ref ak2, .ref af2, .ref as2, .ref ah2, .int (nI fc), .ref afa, .ref afx, .ref ald, .int (nI zz), .ref awy, .int lp, .ref alt, .ref abg, .int (wz_i tl)])), (ann, .inl (cJ, 64, .inr (.inl nx))), (ald, .inl (cJ, 64, .inr (.inl u5))), (afx, .inl (cJ, 3, .inr (.inl gx)))] := hD
    refine lv_ldc2 hx hb hown (hw _ w_610) dMo_each_102 ?_
    refine lv_lxor hx hb dMo_each_105 ?_
    exact wz_lretU u5 trivial hx hb hr hlocks (by rw [h1_1]; rfl) hP hD hK hS dMo_each_106
  · skip
    refine W.eq (g2 := F0 m 1 ls [.int (nI 12)]) (by rw [h1_1]) ?_
    refine lv_tableOut (tgt := 107) hx hb dMo_each_1 (by decide) (by decide) ?_
    refine lv_aload_n hx hb dMo_each_107 rfl (lv_at hl 0 rfl) ?_
    refine lv_lload_n hx hb dMo_each_108 rfl (lv_at hl 2 rfl) ?_
    refine lv_ldc2 hx hb hown (hw _ w_610) dMo_each_109 ?_
    refine lv_lxor hx hb dMo_each_112 ?_
    refine wz_calllU (wc := [(aR, .inr (7, [.int (nI th), .int (nI mv), .ref ams, .ref ann, .int (nI n), .ref ak2, .ref af2, .ref as2, .ref ah2, .int (nI fc), .ref afa, .ref afx, .ref ald, .int (nI zz), .ref awy, .int lp, .ref alt, .ref abg, .int (wz_i tl)])), (ann, .inl (cJ, 64, .inr (.inl nx))), (ald, .inl (cJ, 64, .inr (.inl le2))), (afx, .inl (cJ, 3, .inr (.inl gx)))]) (wr := []) (w1 := fun (u : Nat → Int64) => [(aR, .inr (7, [.int (nI th), .int (nI mv), .ref ams, .ref ann, .int (nI n), .ref ak2, .ref af2, .ref as2, .ref ah2, .int (nI fc), .ref afa, .ref afx, .ref ald, .int (nI zz), .ref awy, .int lp, .ref alt, .ref abg, .int (wz_i tl)])), (ann, .inl (cJ, 64, .inr (.inl nx))), (ald, .inl (cJ, 64, .inr (.inl u))), (afx, .inl (cJ, 3, .inr (.inl gx)))]) (ws' := fun (u : Nat → Int64) => [(aR, .inr (7, [.int (nI th), .int (nI mv), .ref ams, .ref ann, .int (nI n), .ref ak2, .ref af2, .ref as2, .ref ah2, .int (nI fc), .ref afa, .ref afx, .ref ald, .int (nI zz), .ref awy, .int lp, .ref alt, .ref abg, .int (wz_i tl)])), (ann, .inl (cJ, 64, .inr (.inl nx))), (ald, .inl (cJ, 64, .inr (.inl u))), (afx, .inl (cJ, 3, .inr (.inl gx)))]) hP hD hS hA [0, 1, 2, 3] [] [0, 1, 2, 3] rfl rfl (by decide) (by decide) (by decide) (fun _ => rfl) (fun _ => rfl) (va_runV (As := [.long (a ^^^ (-1))]) (rest := []) ⟨hx, hb, hml, hown, hts⟩ (kMo_staying l dC dI cI cJ cZ s.heap.size aR ams ann ak2 af2 as2 ah2 afa afx ald awy alt abg th mv n fc zz lp tl nx le2 gx (a ^^^ (-1)) hfc) (cwV 1 hts (wz_gV w_611 w_612 w_17 w_41 w_613) rfl rfl rfl (by decide +kernel) ⟨Nat.le_of_ble_eq_true rfl, Nat.le_of_ble_eq_true rfl⟩) (wz_preV (q := (RMo, TMo, 19)) (ci := 7) hN hK hP hD [0, 1, 2, 3] (by decide) rfl rfl 0 rfl rfl) rfl rfl hl.1 rfl (lv_room (Nat.le_of_ble_eq_true rfl)) dMo_each_113 ⟨Nat.le_refl _, Nat.le_refl _⟩) (fun u6 hqu6 H locs hP hD hS => ?_)
    have hP : va_P (dC, dI) vwCl [(aR, .inr (7, [.int (nI th), .int (nI mv), .ref ams, .ref ann, .int (nI n), .ref ak2, .ref af2, .ref as2, .ref ah2, .int (nI fc), .ref afa, .ref afx, .ref ald, .int (nI zz), .ref awy, .int lp, .ref alt, .ref abg, .int (wz_i tl)])), (ann, .inl (cJ, 64, .inr (.inl nx))), (ald, .inl (cJ, 64, .inr (.inl u6))), (afx, .inl (cJ, 3, .inr (.inl gx)))] H := hP
    have hD : va_D A [(aR, .inr (7, [.int (nI th), .int (nI mv), .ref ams, .ref ann, .int (nI n), .ref ak2, .ref af2, .ref as2, .ref ah2, .int (nI fc), .ref afa, .ref afx, .ref ald, .int (nI zz), .ref awy, .int lp, .ref alt, .ref abg, .int (wz_i tl)])), (ann, .inl (cJ, 64, .inr (.inl nx))), (ald, .inl (cJ, 64, .inr (.inl u6))), (afx, .inl (cJ, 3, .inr (.inl gx)))] := hD
    refine lv_ldc2 hx hb hown (hw _ w_610) dMo_each_116 ?_
    refine lv_lxor hx hb dMo_each_119 ?_
    exact wz_lretU u6 trivial hx hb hr hlocks (by rw [h1_1]; rfl) hP hD hK hS dMo_each_120
