/-! contracts, laid by a program of mine. -/
set_option maxHeartbeats 4000000 in
set_option maxRecDepth 100000 in
/-- Integer.numberOfTrailingZeros -/
theorem kIn_numberOfTrailingZeros (l : Launch) (dC : Nat → ClassId) (dI : Nat → Nat → Nat) (cI cJ cZ : ClassId) (sz : Nat) (x : Int32) : Met l yIn_numberOfTrailingZeros (.code yIn_numberOfTrailingZeros cIn_numberOfTrailingZeros 2 (some .int) :: wz_all) ({ frames := 0, cells := 0, slots := 0, locals := 0 }) (wz_Pc (dC, dI) vwCl (wz_T cI cJ cZ) [.int x] sz []) (va_Qi (fun (r : Int32) (_ : Unit) => r = nI (ww_n32 x)) (fun _ t => va_P (dC, dI) vwCl [] t.heap ∧ va_K (dC, dI) vwCl (wz_T cI cJ cZ) t ∧ va_D (va_A [] sz) []) (va_A [] sz)) 0 0 (va_A [] sz) := by
  refine Met.ofW (cc := cIn_numberOfTrailingZeros) (maxL := 2) (ret := (some .int)) (by decide) rfl ?_
  intro p e s m args below meth c s₁ B hml hv
  obtain ⟨rfl, hsz, hP, hK, hD0, hN⟩ := hv
  have hx := B.exec
  have hb := B.bytes
  have hr := B.returns
  have hts := atoms_spec (ws := (.code yIn_numberOfTrailingZeros cIn_numberOfTrailingZeros 2 (some .int) :: wz_all)) B.pre
  have hw : ∀ w9 ∈ wz_all, w9.before [.int x].toArray s = true := fun w9 h => hts w9 (List.mem_cons_of_mem _ h)
  have hown : s.vm.findClass RIn = some m.cls := findClass_of_methodNamed B.named
  have hlocks := B.notSynchronized
  subst hsz
  have hD := hD0.self (sz := s.heap.size)
  generalize hAe : va_A [] s.heap.size = A at hD ⊢
  have hA : ∀ q : Nat, s.heap.size ≤ q → A q := fun q h => by rw [← hAe]; exact Or.inr h
  have hS : va_S A s.heap s.heap [] := va_S.rf
  have hP : va_P (dC, dI) vwCl [] s.heap := hP
  have hl := lv_entry ([.int x]) (n := 2) (Nat.le_of_ble_eq_true rfl)
  rw [lg_entry_eq]
  generalize (lg_sl ([.int x]) ++ List.replicate (2 - (lg_sl ([.int x])).length) Slot.unset).toArray = ls at hl ⊢
  have hl : lv_has ls 2 [(0, .int x)] := hl
  refine lv_iload_n hx hb dIn_numberOfTrailingZeros_0 rfl (lv_at hl 0 rfl) ?_
  refine lv_iconst (v := (-1)) hx hb dIn_numberOfTrailingZeros_1 (by decide) ?_
  refine lv_ixor hx hb dIn_numberOfTrailingZeros_2 ?_
  refine lv_iload_n hx hb dIn_numberOfTrailingZeros_3 rfl (lv_at hl 0 rfl) ?_
  refine lv_iconst (v := nI 1) hx hb dIn_numberOfTrailingZeros_4 (by decide) ?_
  refine lv_isub hx hb dIn_numberOfTrailingZeros_5 ?_
  refine lv_iand hx hb dIn_numberOfTrailingZeros_6 ?_
  refine lv_topi (fun y ey => ?_)
  refine lv_istore_n (lv' := [(0, .int y)]) hx hb dIn_numberOfTrailingZeros_7 rfl hl (by decide) rfl (fun ls hl => ?_)
  refine lv_iload_n hx hb dIn_numberOfTrailingZeros_8 rfl (lv_at hl 0 rfl) ?_
  refine lv_if_gt (tgt := 17) hx hb dIn_numberOfTrailingZeros_9 (by decide) (fun h9_1 => ?_) (fun h9_1 => ?_)
  · skip
    obtain ⟨t, ht, ent, rfl⟩ := ww_ntz_b ey h9_1
    refine lv_iconst (v := nI 1) hx hb dIn_numberOfTrailingZeros_17 (by decide) ?_
    refine lv_istore_n (lv' := [(1, .int (nI 1)), (0, .int (nI (2 ^ (t + 1) - 1)))]) hx hb dIn_numberOfTrailingZeros_18 rfl hl (by decide) rfl (fun ls hl => ?_)
    refine lv_iload_n hx hb dIn_numberOfTrailingZeros_19 rfl (lv_at hl 1 rfl) ?_
    refine lv_ldcw (v := nI 65536) hx hb hown (hw _ w_75) dIn_numberOfTrailingZeros_20 ?_
    refine wz_icmp_le (x := 2 ^ (t + 1) - 1) (y := 65536) (tgt := 34) hx hb (ww_p31 (Nat.succ_lt_succ ht)) (by omega) dIn_numberOfTrailingZeros_23 (by decide) (fun h23_2 => ?_) (fun h23_2 => ?_)
    · skip
      refine lv_iload_n hx hb dIn_numberOfTrailingZeros_34 rfl (lv_at hl 1 rfl) ?_
      refine lv_sipush (v := nI 256) hx hb dIn_numberOfTrailingZeros_35 (by decide) ?_
      refine wz_icmp_le (x := 2 ^ (t + 1) - 1) (y := 256) (tgt := 49) hx hb (ww_p31 (Nat.succ_lt_succ ht)) (by omega) dIn_numberOfTrailingZeros_38 (by decide) (fun h38_3 => ?_) (fun h38_3 => ?_)
      · skip
        refine lv_iload_n hx hb dIn_numberOfTrailingZeros_49 rfl (lv_at hl 1 rfl) ?_
        refine lv_bipush (v := nI 16) hx hb dIn_numberOfTrailingZeros_50 (by decide) ?_
        refine wz_icmp_le (x := 2 ^ (t + 1) - 1) (y := 16) (tgt := 62) hx hb (ww_p31 (Nat.succ_lt_succ ht)) (by omega) dIn_numberOfTrailingZeros_52 (by decide) (fun h52_4 => ?_) (fun h52_4 => ?_)
        · skip
          refine lv_iload_n hx hb dIn_numberOfTrailingZeros_62 rfl (lv_at hl 1 rfl) ?_
          refine lv_iconst (v := nI 4) hx hb dIn_numberOfTrailingZeros_63 (by decide) ?_
          refine wz_icmp_le (x := 2 ^ (t + 1) - 1) (y := 4) (tgt := 74) hx hb (ww_p31 (Nat.succ_lt_succ ht)) (by omega) dIn_numberOfTrailingZeros_64 (by decide) (fun h64_5 => ?_) (fun h64_5 => ?_)
          · skip
            refine lv_iload_n hx hb dIn_numberOfTrailingZeros_74 rfl (lv_at hl 0 rfl) ?_
            refine lv_iload_n hx hb dIn_numberOfTrailingZeros_75 rfl (lv_at hl 1 rfl) ?_
            refine lv_iconst (v := nI 1) hx hb dIn_numberOfTrailingZeros_76 (by decide) ?_
            refine lv_iushr hx hb dIn_numberOfTrailingZeros_77 rfl ?_
            refine lv_iadd hx hb dIn_numberOfTrailingZeros_78 ?_
            exact wz_iret hx hb hr hlocks (by rw [ent]; exact (by decide +kernel : ∀ t : Nat, t < 31 → ((2 ^ (t + 1) - 1) ≤ 65536) → ((2 ^ (t + 1) - 1) ≤ 256) → ((2 ^ (t + 1) - 1) ≤ 16) → ((2 ^ (t + 1) - 1) ≤ 4) → (nI 1) + (((nI (2 ^ (t + 1) - 1)).toUInt32 >>> ((nI 1).toUInt32 &&& Int32.toUInt32 31)).toInt32) = nI (t + 1)) t ht h23_2 h38_3 h52_4 h64_5) hP hD hK hS dIn_numberOfTrailingZeros_79
          · skip
            refine lv_iinc (v := nI (1 + 2)) (lv' := [(1, .int (nI (1 + 2))), (0, .int (nI (2 ^ (t + 1) - 1)))]) hx hb dIn_numberOfTrailingZeros_67 hl (k := 0) rfl (by rw [← nI_add]; rfl) (by decide) rfl (fun ls hl => ?_)
            refine lv_iload_n hx hb dIn_numberOfTrailingZeros_70 rfl (lv_at hl 1 rfl) ?_
            refine lv_iconst (v := nI 2) hx hb dIn_numberOfTrailingZeros_71 (by decide) ?_
            refine lv_iushr hx hb dIn_numberOfTrailingZeros_72 rfl ?_
            refine lv_istore_n (lv' := [(0, .int (((nI (2 ^ (t + 1) - 1)).toUInt32 >>> ((nI 2).toUInt32 &&& Int32.toUInt32 31)).toInt32)), (1, .int (nI (1 + 2)))]) hx hb dIn_numberOfTrailingZeros_73 rfl hl (by decide) rfl (fun ls hl => ?_)
            refine lv_iload_n hx hb dIn_numberOfTrailingZeros_74 rfl (lv_at hl 1 rfl) ?_
            refine lv_iload_n hx hb dIn_numberOfTrailingZeros_75 rfl (lv_at hl 0 rfl) ?_
            refine lv_iconst (v := nI 1) hx hb dIn_numberOfTrailingZeros_76 (by decide) ?_
            refine lv_iushr hx hb dIn_numberOfTrailingZeros_77 rfl ?_
            refine lv_iadd hx hb dIn_numberOfTrailingZeros_78 ?_
            exact wz_iret hx hb hr hlocks (by rw [ent]; exact (by decide +kernel : ∀ t : Nat, t < 31 → ((2 ^ (t + 1) - 1) ≤ 65536) → ((2 ^ (t + 1) - 1) ≤ 256) → ((2 ^ (t + 1) - 1) ≤ 16) → (4 < (2 ^ (t + 1) - 1)) → (nI (1 + 2)) + (((((nI (2 ^ (t + 1) - 1)).toUInt32 >>> ((nI 2).toUInt32 &&& Int32.toUInt32 31)).toInt32).toUInt32 >>> ((nI 1).toUInt32 &&& Int32.toUInt32 31)).toInt32) = nI (t + 1)) t ht h23_2 h38_3 h52_4 h64_5) hP hD hK hS dIn_numberOfTrailingZeros_79
        · skip
          refine lv_iinc (v := nI (1 + 4)) (lv' := [(1, .int (nI (1 + 4))), (0, .int (nI (2 ^ (t + 1) - 1)))]) hx hb dIn_numberOfTrailingZeros_55 hl (k := 0) rfl (by rw [← nI_add]; rfl) (by decide) rfl (fun ls hl => ?_)
          refine lv_iload_n hx hb dIn_numberOfTrailingZeros_58 rfl (lv_at hl 1 rfl) ?_
          refine lv_iconst (v := nI 4) hx hb dIn_numberOfTrailingZeros_59 (by decide) ?_
          refine lv_iushr hx hb dIn_numberOfTrailingZeros_60 rfl ?_
          refine lv_istore_n (lv' := [(0, .int (((nI (2 ^ (t + 1) - 1)).toUInt32 >>> ((nI 4).toUInt32 &&& Int32.toUInt32 31)).toInt32)), (1, .int (nI (1 + 4)))]) hx hb dIn_numberOfTrailingZeros_61 rfl hl (by decide) rfl (fun ls hl => ?_)
          refine lv_iload_n hx hb dIn_numberOfTrailingZeros_62 rfl (lv_at hl 0 rfl) ?_
          refine lv_iconst (v := nI 4) hx hb dIn_numberOfTrailingZeros_63 (by decide) ?_
          refine lv_icmp_le (tgt := 74) hx hb dIn_numberOfTrailingZeros_64 (by decide) (fun h64_6 => ?_) (fun h64_6 => ?_)
          · skip
            refine lv_iload_n hx hb dIn_numberOfTrailingZeros_74 rfl (lv_at hl 1 rfl) ?_
            refine lv_iload_n hx hb dIn_numberOfTrailingZeros_75 rfl (lv_at hl 0 rfl) ?_
            refine lv_iconst (v := nI 1) hx hb dIn_numberOfTrailingZeros_76 (by decide) ?_
            refine lv_iushr hx hb dIn_numberOfTrailingZeros_77 rfl ?_
            refine lv_iadd hx hb dIn_numberOfTrailingZeros_78 ?_
            exact wz_iret hx hb hr hlocks (by rw [ent]; exact (by decide +kernel : ∀ t : Nat, t < 31 → ((2 ^ (t + 1) - 1) ≤ 65536) → ((2 ^ (t + 1) - 1) ≤ 256) → (16 < (2 ^ (t + 1) - 1)) → ((((nI (2 ^ (t + 1) - 1)).toUInt32 >>> ((nI 4).toUInt32 &&& Int32.toUInt32 31)).toInt32) ≤ (nI 4)) → (nI (1 + 4)) + (((((nI (2 ^ (t + 1) - 1)).toUInt32 >>> ((nI 4).toUInt32 &&& Int32.toUInt32 31)).toInt32).toUInt32 >>> ((nI 1).toUInt32 &&& Int32.toUInt32 31)).toInt32) = nI (t + 1)) t ht h23_2 h38_3 h52_4 h64_6) hP hD hK hS dIn_numberOfTrailingZeros_79
          · skip
            refine lv_iinc (v := nI (1 + 4 + 2)) (lv' := [(1, .int (nI (1 + 4 + 2))), (0, .int (((nI (2 ^ (t + 1) - 1)).toUInt32 >>> ((nI 4).toUInt32 &&& Int32.toUInt32 31)).toInt32))]) hx hb dIn_numberOfTrailingZeros_67 hl (k := 1) rfl (by rw [← nI_add]; rfl) (by decide) rfl (fun ls hl => ?_)
            refine lv_iload_n hx hb dIn_numberOfTrailingZeros_70 rfl (lv_at hl 1 rfl) ?_
            refine lv_iconst (v := nI 2) hx hb dIn_numberOfTrailingZeros_71 (by decide) ?_
            refine lv_iushr hx hb dIn_numberOfTrailingZeros_72 rfl ?_
            refine lv_istore_n (lv' := [(0, .int (((((nI (2 ^ (t + 1) - 1)).toUInt32 >>> ((nI 4).toUInt32 &&& Int32.toUInt32 31)).toInt32).toUInt32 >>> ((nI 2).toUInt32 &&& Int32.toUInt32 31)).toInt32)), (1, .int (nI (1 + 4 + 2)))]) hx hb dIn_numberOfTrailingZeros_73 rfl hl (by decide) rfl (fun ls hl => ?_)
            refine lv_iload_n hx hb dIn_numberOfTrailingZeros_74 rfl (lv_at hl 1 rfl) ?_
            refine lv_iload_n hx hb dIn_numberOfTrailingZeros_75 rfl (lv_at hl 0 rfl) ?_
            refine lv_iconst (v := nI 1) hx hb dIn_numberOfTrailingZeros_76 (by decide) ?_
            refine lv_iushr hx hb dIn_numberOfTrailingZeros_77 rfl ?_
            refine lv_iadd hx hb dIn_numberOfTrailingZeros_78 ?_
            exact wz_iret hx hb hr hlocks (by rw [ent]; exact (by decide +kernel : ∀ t : Nat, t < 31 → ((2 ^ (t + 1) - 1) ≤ 65536) → ((2 ^ (t + 1) - 1) ≤ 256) → (16 < (2 ^ (t + 1) - 1)) → (¬ (((nI (2 ^ (t + 1) - 1)).toUInt32 >>> ((nI 4).toUInt32 &&& Int32.toUInt32 31)).toInt32) ≤ (nI 4)) → (nI (1 + 4 + 2)) + (((((((nI (2 ^ (t + 1) - 1)).toUInt32 >>> ((nI 4).toUInt32 &&& Int32.toUInt32 31)).toInt32).toUInt32 >>> ((nI 2).toUInt32 &&& Int32.toUInt32 31)).toInt32).toUInt32 >>> ((nI 1).toUInt32 &&& Int32.toUInt32 31)).toInt32) = nI (t + 1)) t ht h23_2 h38_3 h52_4 h64_6) hP hD hK hS dIn_numberOfTrailingZeros_79
      · skip
        refine lv_iinc (v := nI (1 + 8)) (lv' := [(1, .int (nI (1 + 8))), (0, .int (nI (2 ^ (t + 1) - 1)))]) hx hb dIn_numberOfTrailingZeros_41 hl (k := 0) rfl (by rw [← nI_add]; rfl) (by decide) rfl (fun ls hl => ?_)
        refine lv_iload_n hx hb dIn_numberOfTrailingZeros_44 rfl (lv_at hl 1 rfl) ?_
        refine lv_bipush (v := nI 8) hx hb dIn_numberOfTrailingZeros_45 (by decide) ?_
        refine lv_iushr hx hb dIn_numberOfTrailingZeros_47 rfl ?_
        refine lv_istore_n (lv' := [(0, .int (((nI (2 ^ (t + 1) - 1)).toUInt32 >>> ((nI 8).toUInt32 &&& Int32.toUInt32 31)).toInt32)), (1, .int (nI (1 + 8)))]) hx hb dIn_numberOfTrailingZeros_48 rfl hl (by decide) rfl (fun ls hl => ?_)
        refine lv_iload_n hx hb dIn_numberOfTrailingZeros_49 rfl (lv_at hl 0 rfl) ?_
        refine lv_bipush (v := nI 16) hx hb dIn_numberOfTrailingZeros_50 (by decide) ?_
        refine lv_icmp_le (tgt := 62) hx hb dIn_numberOfTrailingZeros_52 (by decide) (fun h52_7 => ?_) (fun h52_7 => ?_)
        · skip
          refine lv_iload_n hx hb dIn_numberOfTrailingZeros_62 rfl (lv_at hl 0 rfl) ?_
          refine lv_iconst (v := nI 4) hx hb dIn_numberOfTrailingZeros_63 (by decide) ?_
          refine lv_icmp_le (tgt := 74) hx hb dIn_numberOfTrailingZeros_64 (by decide) (fun h64_8 => ?_) (fun h64_8 => ?_)
          · skip
            refine lv_iload_n hx hb dIn_numberOfTrailingZeros_74 rfl (lv_at hl 1 rfl) ?_
            refine lv_iload_n hx hb dIn_numberOfTrailingZeros_75 rfl (lv_at hl 0 rfl) ?_
            refine lv_iconst (v := nI 1) hx hb dIn_numberOfTrailingZeros_76 (by decide) ?_
            refine lv_iushr hx hb dIn_numberOfTrailingZeros_77 rfl ?_
            refine lv_iadd hx hb dIn_numberOfTrailingZeros_78 ?_
            exact wz_iret hx hb hr hlocks (by rw [ent]; exact (by decide +kernel : ∀ t : Nat, t < 31 → ((2 ^ (t + 1) - 1) ≤ 65536) → (256 < (2 ^ (t + 1) - 1)) → ((((nI (2 ^ (t + 1) - 1)).toUInt32 >>> ((nI 8).toUInt32 &&& Int32.toUInt32 31)).toInt32) ≤ (nI 16)) → ((((nI (2 ^ (t + 1) - 1)).toUInt32 >>> ((nI 8).toUInt32 &&& Int32.toUInt32 31)).toInt32) ≤ (nI 4)) → (nI (1 + 8)) + (((((nI (2 ^ (t + 1) - 1)).toUInt32 >>> ((nI 8).toUInt32 &&& Int32.toUInt32 31)).toInt32).toUInt32 >>> ((nI 1).toUInt32 &&& Int32.toUInt32 31)).toInt32) = nI (t + 1)) t ht h23_2 h38_3 h52_7 h64_8) hP hD hK hS dIn_numberOfTrailingZeros_79
          · skip
            refine lv_iinc (v := nI (1 + 8 + 2)) (lv' := [(1, .int (nI (1 + 8 + 2))), (0, .int (((nI (2 ^ (t + 1) - 1)).toUInt32 >>> ((nI 8).toUInt32 &&& Int32.toUInt32 31)).toInt32))]) hx hb dIn_numberOfTrailingZeros_67 hl (k := 1) rfl (by rw [← nI_add]; rfl) (by decide) rfl (fun ls hl => ?_)
            refine lv_iload_n hx hb dIn_numberOfTrailingZeros_70 rfl (lv_at hl 1 rfl) ?_
            refine lv_iconst (v := nI 2) hx hb dIn_numberOfTrailingZeros_71 (by decide) ?_
            refine lv_iushr hx hb dIn_numberOfTrailingZeros_72 rfl ?_
            refine lv_istore_n (lv' := [(0, .int (((((nI (2 ^ (t + 1) - 1)).toUInt32 >>> ((nI 8).toUInt32 &&& Int32.toUInt32 31)).toInt32).toUInt32 >>> ((nI 2).toUInt32 &&& Int32.toUInt32 31)).toInt32)), (1, .int (nI (1 + 8 + 2)))]) hx hb dIn_numberOfTrailingZeros_73 rfl hl (by decide) rfl (fun ls hl => ?_)
            refine lv_iload_n hx hb dIn_numberOfTrailingZeros_74 rfl (lv_at hl 1 rfl) ?_
            refine lv_iload_n hx hb dIn_numberOfTrailingZeros_75 rfl (lv_at hl 0 rfl) ?_
            refine lv_iconst (v := nI 1) hx hb dIn_numberOfTrailingZeros_76 (by decide) ?_
            refine lv_iushr hx hb dIn_numberOfTrailingZeros_77 rfl ?_
            refine lv_iadd hx hb dIn_numberOfTrailingZeros_78 ?_
            exact wz_iret hx hb hr hlocks (by rw [ent]; exact (by decide +kernel : ∀ t : Nat, t < 31 → ((2 ^ (t + 1) - 1) ≤ 65536) → (256 < (2 ^ (t + 1) - 1)) → ((((nI (2 ^ (t + 1) - 1)).toUInt32 >>> ((nI 8).toUInt32 &&& Int32.toUInt32 31)).toInt32) ≤ (nI 16)) → (¬ (((nI (2 ^ (t + 1) - 1)).toUInt32 >>> ((nI 8).toUInt32 &&& Int32.toUInt32 31)).toInt32) ≤ (nI 4)) → (nI (1 + 8 + 2)) + (((((((nI (2 ^ (t + 1) - 1)).toUInt32 >>> ((nI 8).toUInt32 &&& Int32.toUInt32 31)).toInt32).toUInt32 >>> ((nI 2).toUInt32 &&& Int32.toUInt32 31)).toInt32).toUInt32 >>> ((nI 1).toUInt32 &&& Int32.toUInt32 31)).toInt32) = nI (t + 1)) t ht h23_2 h38_3 h52_7 h64_8) hP hD hK hS dIn_numberOfTrailingZeros_79
        · skip
          refine lv_iinc (v := nI (1 + 8 + 4)) (lv' := [(1, .int (nI (1 + 8 + 4))), (0, .int (((nI (2 ^ (t + 1) - 1)).toUInt32 >>> ((nI 8).toUInt32 &&& Int32.toUInt32 31)).toInt32))]) hx hb dIn_numberOfTrailingZeros_55 hl (k := 1) rfl (by rw [← nI_add]; rfl) (by decide) rfl (fun ls hl => ?_)
          refine lv_iload_n hx hb dIn_numberOfTrailingZeros_58 rfl (lv_at hl 1 rfl) ?_
          refine lv_iconst (v := nI 4) hx hb dIn_numberOfTrailingZeros_59 (by decide) ?_
          refine lv_iushr hx hb dIn_numberOfTrailingZeros_60 rfl ?_
          refine lv_istore_n (lv' := [(0, .int (((((nI (2 ^ (t + 1) - 1)).toUInt32 >>> ((nI 8).toUInt32 &&& Int32.toUInt32 31)).toInt32).toUInt32 >>> ((nI 4).toUInt32 &&& Int32.toUInt32 31)).toInt32)), (1, .int (nI (1 + 8 + 4)))]) hx hb dIn_numberOfTrailingZeros_61 rfl hl (by decide) rfl (fun ls hl => ?_)
          refine lv_iload_n hx hb dIn_numberOfTrailingZeros_62 rfl (lv_at hl 0 rfl) ?_
          refine lv_iconst (v := nI 4) hx hb dIn_numberOfTrailingZeros_63 (by decide) ?_
          refine lv_icmp_le (tgt := 74) hx hb dIn_numberOfTrailingZeros_64 (by decide) (fun h64_9 => ?_) (fun h64_9 => ?_)
          · skip
            refine lv_iload_n hx hb dIn_numberOfTrailingZeros_74 rfl (lv_at hl 1 rfl) ?_
            refine lv_iload_n hx hb dIn_numberOfTrailingZeros_75 rfl (lv_at hl 0 rfl) ?_
            refine lv_iconst (v := nI 1) hx hb dIn_numberOfTrailingZeros_76 (by decide) ?_
            refine lv_iushr hx hb dIn_numberOfTrailingZeros_77 rfl ?_
            refine lv_iadd hx hb dIn_numberOfTrailingZeros_78 ?_
            exact wz_iret hx hb hr hlocks (by rw [ent]; exact (by decide +kernel : ∀ t : Nat, t < 31 → ((2 ^ (t + 1) - 1) ≤ 65536) → (256 < (2 ^ (t + 1) - 1)) → (¬ (((nI (2 ^ (t + 1) - 1)).toUInt32 >>> ((nI 8).toUInt32 &&& Int32.toUInt32 31)).toInt32) ≤ (nI 16)) → ((((((nI (2 ^ (t + 1) - 1)).toUInt32 >>> ((nI 8).toUInt32 &&& Int32.toUInt32 31)).toInt32).toUInt32 >>> ((nI 4).toUInt32 &&& Int32.toUInt32 31)).toInt32) ≤ (nI 4)) → (nI (1 + 8 + 4)) + (((((((nI (2 ^ (t + 1) - 1)).toUInt32 >>> ((nI 8).toUInt32 &&& Int32.toUInt32 31)).toInt32).toUInt32 >>> ((nI 4).toUInt32 &&& Int32.toUInt32 31)).toInt32).toUInt32 >>> ((nI 1).toUInt32 &&& Int32.toUInt32 31)).toInt32) = nI (t + 1)) t ht h23_2 h38_3 h52_7 h64_9) hP hD hK hS dIn_numberOfTrailingZeros_79
          · skip
            refine lv_iinc (v := nI (1 + 8 + 4 + 2)) (lv' := [(1, .int (nI (1 + 8 + 4 + 2))), (0, .int (((((nI (2 ^ (t + 1) - 1)).toUInt32 >>> ((nI 8).toUInt32 &&& Int32.toUInt32 31)).toInt32).toUInt32 >>> ((nI 4).toUInt32 &&& Int32.toUInt32 31)).toInt32))]) hx hb dIn_numberOfTrailingZeros_67 hl (k := 1) rfl (by rw [← nI_add]; rfl) (by decide) rfl (fun ls hl => ?_)
            refine lv_iload_n hx hb dIn_numberOfTrailingZeros_70 rfl (lv_at hl 1 rfl) ?_
            refine lv_iconst (v := nI 2) hx hb dIn_numberOfTrailingZeros_71 (by decide) ?_
            refine lv_iushr hx hb dIn_numberOfTrailingZeros_72 rfl ?_
            refine lv_istore_n (lv' := [(0, .int (((((((nI (2 ^ (t + 1) - 1)).toUInt32 >>> ((nI 8).toUInt32 &&& Int32.toUInt32 31)).toInt32).toUInt32 >>> ((nI 4).toUInt32 &&& Int32.toUInt32 31)).toInt32).toUInt32 >>> ((nI 2).toUInt32 &&& Int32.toUInt32 31)).toInt32)), (1, .int (nI (1 + 8 + 4 + 2)))]) hx hb dIn_numberOfTrailingZeros_73 rfl hl (by decide) rfl (fun ls hl => ?_)
            refine lv_iload_n hx hb dIn_numberOfTrailingZeros_74 rfl (lv_at hl 1 rfl) ?_
            refine lv_iload_n hx hb dIn_numberOfTrailingZeros_75 rfl (lv_at hl 0 rfl) ?_
            refine lv_iconst (v := nI 1) hx hb dIn_numberOfTrailingZeros_76 (by decide) ?_
            refine lv_iushr hx hb dIn_numberOfTrailingZeros_77 rfl ?_
            refine lv_iadd hx hb dIn_numberOfTrailingZeros_78 ?_
            exact wz_iret hx hb hr hlocks (by rw [ent]; exact (by decide +kernel : ∀ t : Nat, t < 31 → ((2 ^ (t + 1) - 1) ≤ 65536) → (256 < (2 ^ (t + 1) - 1)) → (¬ (((nI (2 ^ (t + 1) - 1)).toUInt32 >>> ((nI 8).toUInt32 &&& Int32.toUInt32 31)).toInt32) ≤ (nI 16)) → (¬ (((((nI (2 ^ (t + 1) - 1)).toUInt32 >>> ((nI 8).toUInt32 &&& Int32.toUInt32 31)).toInt32).toUInt32 >>> ((nI 4).toUInt32 &&& Int32.toUInt32 31)).toInt32) ≤ (nI 4)) → (nI (1 + 8 + 4 + 2)) + (((((((((nI (2 ^ (t + 1) - 1)).toUInt32 >>> ((nI 8).toUInt32 &&& Int32.toUInt32 31)).toInt32).toUInt32 >>> ((nI 4).toUInt32 &&& Int32.toUInt32 31)).toInt32).toUInt32 >>> ((nI 2).toUInt32 &&& Int32.toUInt32 31)).toInt32).toUInt32 >>> ((nI 1).toUInt32 &&& Int32.toUInt32 31)).toInt32) = nI (t + 1)) t ht h23_2 h38_3 h52_7 h64_9) hP hD hK hS dIn_numberOfTrailingZeros_79
    · skip
      refine lv_iinc (v := nI (1 + 16)) (lv' := [(1, .int (nI (1 + 16))), (0, .int (nI (2 ^ (t + 1) - 1)))]) hx hb dIn_numberOfTrailingZeros_26 hl (k := 0) rfl (by rw [← nI_add]; rfl) (by decide) rfl (fun ls hl => ?_)
      refine lv_iload_n hx hb dIn_numberOfTrailingZeros_29 rfl (lv_at hl 1 rfl) ?_
      refine lv_bipush (v := nI 16) hx hb dIn_numberOfTrailingZeros_30 (by decide) ?_
      refine lv_iushr hx hb dIn_numberOfTrailingZeros_32 rfl ?_
      refine lv_istore_n (lv' := [(0, .int (((nI (2 ^ (t + 1) - 1)).toUInt32 >>> ((nI 16).toUInt32 &&& Int32.toUInt32 31)).toInt32)), (1, .int (nI (1 + 16)))]) hx hb dIn_numberOfTrailingZeros_33 rfl hl (by decide) rfl (fun ls hl => ?_)
      refine lv_iload_n hx hb dIn_numberOfTrailingZeros_34 rfl (lv_at hl 0 rfl) ?_
      refine lv_sipush (v := nI 256) hx hb dIn_numberOfTrailingZeros_35 (by decide) ?_
      refine lv_icmp_le (tgt := 49) hx hb dIn_numberOfTrailingZeros_38 (by decide) (fun h38_10 => ?_) (fun h38_10 => ?_)
      · skip
        refine lv_iload_n hx hb dIn_numberOfTrailingZeros_49 rfl (lv_at hl 0 rfl) ?_
        refine lv_bipush (v := nI 16) hx hb dIn_numberOfTrailingZeros_50 (by decide) ?_
        refine lv_icmp_le (tgt := 62) hx hb dIn_numberOfTrailingZeros_52 (by decide) (fun h52_11 => ?_) (fun h52_11 => ?_)
        · skip
          refine lv_iload_n hx hb dIn_numberOfTrailingZeros_62 rfl (lv_at hl 0 rfl) ?_
          refine lv_iconst (v := nI 4) hx hb dIn_numberOfTrailingZeros_63 (by decide) ?_
          refine lv_icmp_le (tgt := 74) hx hb dIn_numberOfTrailingZeros_64 (by decide) (fun h64_12 => ?_) (fun h64_12 => ?_)
          · skip
            refine lv_iload_n hx hb dIn_numberOfTrailingZeros_74 rfl (lv_at hl 1 rfl) ?_
            refine lv_iload_n hx hb dIn_numberOfTrailingZeros_75 rfl (lv_at hl 0 rfl) ?_
            refine lv_iconst (v := nI 1) hx hb dIn_numberOfTrailingZeros_76 (by decide) ?_
            refine lv_iushr hx hb dIn_numberOfTrailingZeros_77 rfl ?_
            refine lv_iadd hx hb dIn_numberOfTrailingZeros_78 ?_
            exact wz_iret hx hb hr hlocks (by rw [ent]; exact (by decide +kernel : ∀ t : Nat, t < 31 → (65536 < (2 ^ (t + 1) - 1)) → ((((nI (2 ^ (t + 1) - 1)).toUInt32 >>> ((nI 16).toUInt32 &&& Int32.toUInt32 31)).toInt32) ≤ (nI 256)) → ((((nI (2 ^ (t + 1) - 1)).toUInt32 >>> ((nI 16).toUInt32 &&& Int32.toUInt32 31)).toInt32) ≤ (nI 16)) → ((((nI (2 ^ (t + 1) - 1)).toUInt32 >>> ((nI 16).toUInt32 &&& Int32.toUInt32 31)).toInt32) ≤ (nI 4)) → (nI (1 + 16)) + (((((nI (2 ^ (t + 1) - 1)).toUInt32 >>> ((nI 16).toUInt32 &&& Int32.toUInt32 31)).toInt32).toUInt32 >>> ((nI 1).toUInt32 &&& Int32.toUInt32 31)).toInt32) = nI (t + 1)) t ht h23_2 h38_10 h52_11 h64_12) hP hD hK hS dIn_numberOfTrailingZeros_79
          · skip
            refine lv_iinc (v := nI (1 + 16 + 2)) (lv' := [(1, .int (nI (1 + 16 + 2))), (0, .int (((nI (2 ^ (t + 1) - 1)).toUInt32 >>> ((nI 16).toUInt32 &&& Int32.toUInt32 31)).toInt32))]) hx hb dIn_numberOfTrailingZeros_67 hl (k := 1) rfl (by rw [← nI_add]; rfl) (by decide) rfl (fun ls hl => ?_)
            refine lv_iload_n hx hb dIn_numberOfTrailingZeros_70 rfl (lv_at hl 1 rfl) ?_
            refine lv_iconst (v := nI 2) hx hb dIn_numberOfTrailingZeros_71 (by decide) ?_
            refine lv_iushr hx hb dIn_numberOfTrailingZeros_72 rfl ?_
            refine lv_istore_n (lv' := [(0, .int (((((nI (2 ^ (t + 1) - 1)).toUInt32 >>> ((nI 16).toUInt32 &&& Int32.toUInt32 31)).toInt32).toUInt32 >>> ((nI 2).toUInt32 &&& Int32.toUInt32 31)).toInt32)), (1, .int (nI (1 + 16 + 2)))]) hx hb dIn_numberOfTrailingZeros_73 rfl hl (by decide) rfl (fun ls hl => ?_)
            refine lv_iload_n hx hb dIn_numberOfTrailingZeros_74 rfl (lv_at hl 1 rfl) ?_
            refine lv_iload_n hx hb dIn_numberOfTrailingZeros_75 rfl (lv_at hl 0 rfl) ?_
            refine lv_iconst (v := nI 1) hx hb dIn_numberOfTrailingZeros_76 (by decide) ?_
            refine lv_iushr hx hb dIn_numberOfTrailingZeros_77 rfl ?_
            refine lv_iadd hx hb dIn_numberOfTrailingZeros_78 ?_
            exact wz_iret hx hb hr hlocks (by rw [ent]; exact (by decide +kernel : ∀ t : Nat, t < 31 → (65536 < (2 ^ (t + 1) - 1)) → ((((nI (2 ^ (t + 1) - 1)).toUInt32 >>> ((nI 16).toUInt32 &&& Int32.toUInt32 31)).toInt32) ≤ (nI 256)) → ((((nI (2 ^ (t + 1) - 1)).toUInt32 >>> ((nI 16).toUInt32 &&& Int32.toUInt32 31)).toInt32) ≤ (nI 16)) → (¬ (((nI (2 ^ (t + 1) - 1)).toUInt32 >>> ((nI 16).toUInt32 &&& Int32.toUInt32 31)).toInt32) ≤ (nI 4)) → (nI (1 + 16 + 2)) + (((((((nI (2 ^ (t + 1) - 1)).toUInt32 >>> ((nI 16).toUInt32 &&& Int32.toUInt32 31)).toInt32).toUInt32 >>> ((nI 2).toUInt32 &&& Int32.toUInt32 31)).toInt32).toUInt32 >>> ((nI 1).toUInt32 &&& Int32.toUInt32 31)).toInt32) = nI (t + 1)) t ht h23_2 h38_10 h52_11 h64_12) hP hD hK hS dIn_numberOfTrailingZeros_79
        · skip
          refine lv_iinc (v := nI (1 + 16 + 4)) (lv' := [(1, .int (nI (1 + 16 + 4))), (0, .int (((nI (2 ^ (t + 1) - 1)).toUInt32 >>> ((nI 16).toUInt32 &&& Int32.toUInt32 31)).toInt32))]) hx hb dIn_numberOfTrailingZeros_55 hl (k := 1) rfl (by rw [← nI_add]; rfl) (by decide) rfl (fun ls hl => ?_)
          refine lv_iload_n hx hb dIn_numberOfTrailingZeros_58 rfl (lv_at hl 1 rfl) ?_
          refine lv_iconst (v := nI 4) hx hb dIn_numberOfTrailingZeros_59 (by decide) ?_
          refine lv_iushr hx hb dIn_numberOfTrailingZeros_60 rfl ?_
          refine lv_istore_n (lv' := [(0, .int (((((nI (2 ^ (t + 1) - 1)).toUInt32 >>> ((nI 16).toUInt32 &&& Int32.toUInt32 31)).toInt32).toUInt32 >>> ((nI 4).toUInt32 &&& Int32.toUInt32 31)).toInt32)), (1, .int (nI (1 + 16 + 4)))]) hx hb dIn_numberOfTrailingZeros_61 rfl hl (by decide) rfl (fun ls hl => ?_)
          refine lv_iload_n hx hb dIn_numberOfTrailingZeros_62 rfl (lv_at hl 0 rfl) ?_
          refine lv_iconst (v := nI 4) hx hb dIn_numberOfTrailingZeros_63 (by decide) ?_
          refine lv_icmp_le (tgt := 74) hx hb dIn_numberOfTrailingZeros_64 (by decide) (fun h64_13 => ?_) (fun h64_13 => ?_)
          · skip
            refine lv_iload_n hx hb dIn_numberOfTrailingZeros_74 rfl (lv_at hl 1 rfl) ?_
            refine lv_iload_n hx hb dIn_numberOfTrailingZeros_75 rfl (lv_at hl 0 rfl) ?_
            refine lv_iconst (v := nI 1) hx hb dIn_numberOfTrailingZeros_76 (by decide) ?_
            refine lv_iushr hx hb dIn_numberOfTrailingZeros_77 rfl ?_
            refine lv_iadd hx hb dIn_numberOfTrailingZeros_78 ?_
            exact wz_iret hx hb hr hlocks (by rw [ent]; exact (by decide +kernel : ∀ t : Nat, t < 31 → (65536 < (2 ^ (t + 1) - 1)) → ((((nI (2 ^ (t + 1) - 1)).toUInt32 >>> ((nI 16).toUInt32 &&& Int32.toUInt32 31)).toInt32) ≤ (nI 256)) → (¬ (((nI (2 ^ (t + 1) - 1)).toUInt32 >>> ((nI 16).toUInt32 &&& Int32.toUInt32 31)).toInt32) ≤ (nI 16)) → ((((((nI (2 ^ (t + 1) - 1)).toUInt32 >>> ((nI 16).toUInt32 &&& Int32.toUInt32 31)).toInt32).toUInt32 >>> ((nI 4).toUInt32 &&& Int32.toUInt32 31)).toInt32) ≤ (nI 4)) → (nI (1 + 16 + 4)) + (((((((nI (2 ^ (t + 1) - 1)).toUInt32 >>> ((nI 16).toUInt32 &&& Int32.toUInt32 31)).toInt32).toUInt32 >>> ((nI 4).toUInt32 &&& Int32.toUInt32 31)).toInt32).toUInt32 >>> ((nI 1).toUInt32 &&& Int32.toUInt32 31)).toInt32) = nI (t + 1)) t ht h23_2 h38_10 h52_11 h64_13) hP hD hK hS dIn_numberOfTrailingZeros_79
          · skip
            refine lv_iinc (v := nI (1 + 16 + 4 + 2)) (lv' := [(1, .int (nI (1 + 16 + 4 + 2))), (0, .int (((((nI (2 ^ (t + 1) - 1)).toUInt32 >>> ((nI 16).toUInt32 &&& Int32.toUInt32 31)).toInt32).toUInt32 >>> ((nI 4).toUInt32 &&& Int32.toUInt32 31)).toInt32))]) hx hb dIn_numberOfTrailingZeros_67 hl (k := 1) rfl (by rw [← nI_add]; rfl) (by decide) rfl (fun ls hl => ?_)
            refine lv_iload_n hx hb dIn_numberOfTrailingZeros_70 rfl (lv_at hl 1 rfl) ?_
            refine lv_iconst (v := nI 2) hx hb dIn_numberOfTrailingZeros_71 (by decide) ?_
            refine lv_iushr hx hb dIn_numberOfTrailingZeros_72 rfl ?_
            refine lv_istore_n (lv' := [(0, .int (((((((nI (2 ^ (t + 1) - 1)).toUInt32 >>> ((nI 16).toUInt32 &&& Int32.toUInt32 31)).toInt32).toUInt32 >>> ((nI 4).toUInt32 &&& Int32.toUInt32 31)).toInt32).toUInt32 >>> ((nI 2).toUInt32 &&& Int32.toUInt32 31)).toInt32)), (1, .int (nI (1 + 16 + 4 + 2)))]) hx hb dIn_numberOfTrailingZeros_73 rfl hl (by decide) rfl (fun ls hl => ?_)
            refine lv_iload_n hx hb dIn_numberOfTrailingZeros_74 rfl (lv_at hl 1 rfl) ?_
            refine lv_iload_n hx hb dIn_numberOfTrailingZeros_75 rfl (lv_at hl 0 rfl) ?_
            refine lv_iconst (v := nI 1) hx hb dIn_numberOfTrailingZeros_76 (by decide) ?_
            refine lv_iushr hx hb dIn_numberOfTrailingZeros_77 rfl ?_
            refine lv_iadd hx hb dIn_numberOfTrailingZeros_78 ?_
            exact wz_iret hx hb hr hlocks (by rw [ent]; exact (by decide +kernel : ∀ t : Nat, t < 31 → (65536 < (2 ^ (t + 1) - 1)) → ((((nI (2 ^ (t + 1) - 1)).toUInt32 >>> ((nI 16).toUInt32 &&& Int32.toUInt32 31)).toInt32) ≤ (nI 256)) → (¬ (((nI (2 ^ (t + 1) - 1)).toUInt32 >>> ((nI 16).toUInt32 &&& Int32.toUInt32 31)).toInt32) ≤ (nI 16)) → (¬ (((((nI (2 ^ (t + 1) - 1)).toUInt32 >>> ((nI 16).toUInt32 &&& Int32.toUInt32 31)).toInt32).toUInt32 >>> ((nI 4).toUInt32 &&& Int32.toUInt32 31)).toInt32) ≤ (nI 4)) → (nI (1 + 16 + 4 + 2)) + (((((((((nI (2 ^ (t + 1) - 1)).toUInt32 >>> ((nI 16).toUInt32 &&& Int32.toUInt32 31)).toInt32).toUInt32 >>> ((nI 4).toUInt32 &&& Int32.toUInt32 31)).toInt32).toUInt32 >>> ((nI 2).toUInt32 &&& Int32.toUInt32 31)).toInt32).toUInt32 >>> ((nI 1).toUInt32 &&& Int32.toUInt32 31)).toInt32) = nI (t + 1)) t ht h23_2 h38_10 h52_11 h64_13) hP hD hK hS dIn_numberOfTrailingZeros_79
      · skip
        refine lv_iinc (v := nI (1 + 16 + 8)) (lv' := [(1, .int (nI (1 + 16 + 8))), (0, .int (((nI (2 ^ (t + 1) - 1)).toUInt32 >>> ((nI 16).toUInt32 &&& Int32.toUInt32 31)).toInt32))]) hx hb dIn_numberOfTrailingZeros_41 hl (k := 1) rfl (by rw [← nI_add]; rfl) (by decide) rfl (fun ls hl => ?_)
        refine lv_iload_n hx hb dIn_numberOfTrailingZeros_44 rfl (lv_at hl 1 rfl) ?_
        refine lv_bipush (v := nI 8) hx hb dIn_numberOfTrailingZeros_45 (by decide) ?_
        refine lv_iushr hx hb dIn_numberOfTrailingZeros_47 rfl ?_
        refine lv_istore_n (lv' := [(0, .int (((((nI (2 ^ (t + 1) - 1)).toUInt32 >>> ((nI 16).toUInt32 &&& Int32.toUInt32 31)).toInt32).toUInt32 >>> ((nI 8).toUInt32 &&& Int32.toUInt32 31)).toInt32)), (1, .int (nI (1 + 16 + 8)))]) hx hb dIn_numberOfTrailingZeros_48 rfl hl (by decide) rfl (fun ls hl => ?_)
        refine lv_iload_n hx hb dIn_numberOfTrailingZeros_49 rfl (lv_at hl 0 rfl) ?_
        refine lv_bipush (v := nI 16) hx hb dIn_numberOfTrailingZeros_50 (by decide) ?_
        refine lv_icmp_le (tgt := 62) hx hb dIn_numberOfTrailingZeros_52 (by decide) (fun h52_14 => ?_) (fun h52_14 => ?_)
        · skip
          refine lv_iload_n hx hb dIn_numberOfTrailingZeros_62 rfl (lv_at hl 0 rfl) ?_
          refine lv_iconst (v := nI 4) hx hb dIn_numberOfTrailingZeros_63 (by decide) ?_
          refine lv_icmp_le (tgt := 74) hx hb dIn_numberOfTrailingZeros_64 (by decide) (fun h64_15 => ?_) (fun h64_15 => ?_)
          · skip
            refine lv_iload_n hx hb dIn_numberOfTrailingZeros_74 rfl (lv_at hl 1 rfl) ?_
            refine lv_iload_n hx hb dIn_numberOfTrailingZeros_75 rfl (lv_at hl 0 rfl) ?_
            refine lv_iconst (v := nI 1) hx hb dIn_numberOfTrailingZeros_76 (by decide) ?_
            refine lv_iushr hx hb dIn_numberOfTrailingZeros_77 rfl ?_
            refine lv_iadd hx hb dIn_numberOfTrailingZeros_78 ?_
            exact wz_iret hx hb hr hlocks (by rw [ent]; exact (by decide +kernel : ∀ t : Nat, t < 31 → (65536 < (2 ^ (t + 1) - 1)) → (¬ (((nI (2 ^ (t + 1) - 1)).toUInt32 >>> ((nI 16).toUInt32 &&& Int32.toUInt32 31)).toInt32) ≤ (nI 256)) → ((((((nI (2 ^ (t + 1) - 1)).toUInt32 >>> ((nI 16).toUInt32 &&& Int32.toUInt32 31)).toInt32).toUInt32 >>> ((nI 8).toUInt32 &&& Int32.toUInt32 31)).toInt32) ≤ (nI 16)) → ((((((nI (2 ^ (t + 1) - 1)).toUInt32 >>> ((nI 16).toUInt32 &&& Int32.toUInt32 31)).toInt32).toUInt32 >>> ((nI 8).toUInt32 &&& Int32.toUInt32 31)).toInt32) ≤ (nI 4)) → (nI (1 + 16 + 8)) + (((((((nI (2 ^ (t + 1) - 1)).toUInt32 >>> ((nI 16).toUInt32 &&& Int32.toUInt32 31)).toInt32).toUInt32 >>> ((nI 8).toUInt32 &&& Int32.toUInt32 31)).toInt32).toUInt32 >>> ((nI 1).toUInt32 &&& Int32.toUInt32 31)).toInt32) = nI (t + 1)) t ht h23_2 h38_10 h52_14 h64_15) hP hD hK hS dIn_numberOfTrailingZeros_79
          · skip
            refine lv_iinc (v := nI (1 + 16 + 8 + 2)) (lv' := [(1, .int (nI (1 + 16 + 8 + 2))), (0, .int (((((nI (2 ^ (t + 1) - 1)).toUInt32 >>> ((nI 16).toUInt32 &&& Int32.toUInt32 31)).toInt32).toUInt32 >>> ((nI 8).toUInt32 &&& Int32.toUInt32 31)).toInt32))]) hx hb dIn_numberOfTrailingZeros_67 hl (k := 1) rfl (by rw [← nI_add]; rfl) (by decide) rfl (fun ls hl => ?_)
            refine lv_iload_n hx hb dIn_numberOfTrailingZeros_70 rfl (lv_at hl 1 rfl) ?_
            refine lv_iconst (v := nI 2) hx hb dIn_numberOfTrailingZeros_71 (by decide) ?_
            refine lv_iushr hx hb dIn_numberOfTrailingZeros_72 rfl ?_
            refine lv_istore_n (lv' := [(0, .int (((((((nI (2 ^ (t + 1) - 1)).toUInt32 >>> ((nI 16).toUInt32 &&& Int32.toUInt32 31)).toInt32).toUInt32 >>> ((nI 8).toUInt32 &&& Int32.toUInt32 31)).toInt32).toUInt32 >>> ((nI 2).toUInt32 &&& Int32.toUInt32 31)).toInt32)), (1, .int (nI (1 + 16 + 8 + 2)))]) hx hb dIn_numberOfTrailingZeros_73 rfl hl (by decide) rfl (fun ls hl => ?_)
            refine lv_iload_n hx hb dIn_numberOfTrailingZeros_74 rfl (lv_at hl 1 rfl) ?_
            refine lv_iload_n hx hb dIn_numberOfTrailingZeros_75 rfl (lv_at hl 0 rfl) ?_
            refine lv_iconst (v := nI 1) hx hb dIn_numberOfTrailingZeros_76 (by decide) ?_
            refine lv_iushr hx hb dIn_numberOfTrailingZeros_77 rfl ?_
            refine lv_iadd hx hb dIn_numberOfTrailingZeros_78 ?_
            exact wz_iret hx hb hr hlocks (by rw [ent]; exact (by decide +kernel : ∀ t : Nat, t < 31 → (65536 < (2 ^ (t + 1) - 1)) → (¬ (((nI (2 ^ (t + 1) - 1)).toUInt32 >>> ((nI 16).toUInt32 &&& Int32.toUInt32 31)).toInt32) ≤ (nI 256)) → ((((((nI (2 ^ (t + 1) - 1)).toUInt32 >>> ((nI 16).toUInt32 &&& Int32.toUInt32 31)).toInt32).toUInt32 >>> ((nI 8).toUInt32 &&& Int32.toUInt32 31)).toInt32) ≤ (nI 16)) → (¬ (((((nI (2 ^ (t + 1) - 1)).toUInt32 >>> ((nI 16).toUInt32 &&& Int32.toUInt32 31)).toInt32).toUInt32 >>> ((nI 8).toUInt32 &&& Int32.toUInt32 31)).toInt32) ≤ (nI 4)) → (nI (1 + 16 + 8 + 2)) + (((((((((nI (2 ^ (t + 1) - 1)).toUInt32 >>> ((nI 16).toUInt32 &&& Int32.toUInt32 31)).toInt32).toUInt32 >>> ((nI 8).toUInt32 &&& Int32.toUInt32 31)).toInt32).toUInt32 >>> ((nI 2).toUInt32 &&& Int32.toUInt32 31)).toInt32).toUInt32 >>> ((nI 1).toUInt32 &&& Int32.toUInt32 31)).toInt32) = nI (t + 1)) t ht h23_2 h38_10 h52_14 h64_15) hP hD hK hS dIn_numberOfTrailingZeros_79
        · skip
          refine lv_iinc (v := nI (1 + 16 + 8 + 4)) (lv' := [(1, .int (nI (1 + 16 + 8 + 4))), (0, .int (((((nI (2 ^ (t + 1) - 1)).toUInt32 >>> ((nI 16).toUInt32 &&& Int32.toUInt32 31)).toInt32).toUInt32 >>> ((nI 8).toUInt32 &&& Int32.toUInt32 31)).toInt32))]) hx hb dIn_numberOfTrailingZeros_55 hl (k := 1) rfl (by rw [← nI_add]; rfl) (by decide) rfl (fun ls hl => ?_)
          refine lv_iload_n hx hb dIn_numberOfTrailingZeros_58 rfl (lv_at hl 1 rfl) ?_
          refine lv_iconst (v := nI 4) hx hb dIn_numberOfTrailingZeros_59 (by decide) ?_
          refine lv_iushr hx hb dIn_numberOfTrailingZeros_60 rfl ?_
          refine lv_istore_n (lv' := [(0, .int (((((((nI (2 ^ (t + 1) - 1)).toUInt32 >>> ((nI 16).toUInt32 &&& Int32.toUInt32 31)).toInt32).toUInt32 >>> ((nI 8).toUInt32 &&& Int32.toUInt32 31)).toInt32).toUInt32 >>> ((nI 4).toUInt32 &&& Int32.toUInt32 31)).toInt32)), (1, .int (nI (1 + 16 + 8 + 4)))]) hx hb dIn_numberOfTrailingZeros_61 rfl hl (by decide) rfl (fun ls hl => ?_)
          refine lv_iload_n hx hb dIn_numberOfTrailingZeros_62 rfl (lv_at hl 0 rfl) ?_
          refine lv_iconst (v := nI 4) hx hb dIn_numberOfTrailingZeros_63 (by decide) ?_
          refine lv_icmp_le (tgt := 74) hx hb dIn_numberOfTrailingZeros_64 (by decide) (fun h64_16 => ?_) (fun h64_16 => ?_)
          · skip
            refine lv_iload_n hx hb dIn_numberOfTrailingZeros_74 rfl (lv_at hl 1 rfl) ?_
            refine lv_iload_n hx hb dIn_numberOfTrailingZeros_75 rfl (lv_at hl 0 rfl) ?_
            refine lv_iconst (v := nI 1) hx hb dIn_numberOfTrailingZeros_76 (by decide) ?_
            refine lv_iushr hx hb dIn_numberOfTrailingZeros_77 rfl ?_
            refine lv_iadd hx hb dIn_numberOfTrailingZeros_78 ?_
            exact wz_iret hx hb hr hlocks (by rw [ent]; exact (by decide +kernel : ∀ t : Nat, t < 31 → (65536 < (2 ^ (t + 1) - 1)) → (¬ (((nI (2 ^ (t + 1) - 1)).toUInt32 >>> ((nI 16).toUInt32 &&& Int32.toUInt32 31)).toInt32) ≤ (nI 256)) → (¬ (((((nI (2 ^ (t + 1) - 1)).toUInt32 >>> ((nI 16).toUInt32 &&& Int32.toUInt32 31)).toInt32).toUInt32 >>> ((nI 8).toUInt32 &&& Int32.toUInt32 31)).toInt32) ≤ (nI 16)) → ((((((((nI (2 ^ (t + 1) - 1)).toUInt32 >>> ((nI 16).toUInt32 &&& Int32.toUInt32 31)).toInt32).toUInt32 >>> ((nI 8).toUInt32 &&& Int32.toUInt32 31)).toInt32).toUInt32 >>> ((nI 4).toUInt32 &&& Int32.toUInt32 31)).toInt32) ≤ (nI 4)) → (nI (1 + 16 + 8 + 4)) + (((((((((nI (2 ^ (t + 1) - 1)).toUInt32 >>> ((nI 16).toUInt32 &&& Int32.toUInt32 31)).toInt32).toUInt32 >>> ((nI 8).toUInt32 &&& Int32.toUInt32 31)).toInt32).toUInt32 >>> ((nI 4).toUInt32 &&& Int32.toUInt32 31)).toInt32).toUInt32 >>> ((nI 1).toUInt32 &&& Int32.toUInt32 31)).toInt32) = nI (t + 1)) t ht h23_2 h38_10 h52_14 h64_16) hP hD hK hS dIn_numberOfTrailingZeros_79
          · skip
            refine lv_iinc (v := nI (1 + 16 + 8 + 4 + 2)) (lv' := [(1, .int (nI (1 + 16 + 8 + 4 + 2))), (0, .int (((((((nI (2 ^ (t + 1) - 1)).toUInt32 >>> ((nI 16).toUInt32 &&& Int32.toUInt32 31)).toInt32).toUInt32 >>> ((nI 8).toUInt32 &&& Int32.toUInt32 31)).toInt32).toUInt32 >>> ((nI 4).toUInt32 &&& Int32.toUInt32 31)).toInt32))]) hx hb dIn_numberOfTrailingZeros_67 hl (k := 1) rfl (by rw [← nI_add]; rfl) (by decide) rfl (fun ls hl => ?_)
            refine lv_iload_n hx hb dIn_numberOfTrailingZeros_70 rfl (lv_at hl 1 rfl) ?_
            refine lv_iconst (v := nI 2) hx hb dIn_numberOfTrailingZeros_71 (by decide) ?_
            refine lv_iushr hx hb dIn_numberOfTrailingZeros_72 rfl ?_
            refine lv_istore_n (lv' := [(0, .int (((((((((nI (2 ^ (t + 1) - 1)).toUInt32 >>> ((nI 16).toUInt32 &&& Int32.toUInt32 31)).toInt32).toUInt32 >>> ((nI 8).toUInt32 &&& Int32.toUInt32 31)).toInt32).toUInt32 >>> ((nI 4).toUInt32 &&& Int32.toUInt32 31)).toInt32).toUInt32 >>> ((nI 2).toUInt32 &&& Int32.toUInt32 31)).toInt32)), (1, .int (nI (1 + 16 + 8 + 4 + 2)))]) hx hb dIn_numberOfTrailingZeros_73 rfl hl (by decide) rfl (fun ls hl => ?_)
            refine lv_iload_n hx hb dIn_numberOfTrailingZeros_74 rfl (lv_at hl 1 rfl) ?_
            refine lv_iload_n hx hb dIn_numberOfTrailingZeros_75 rfl (lv_at hl 0 rfl) ?_
            refine lv_iconst (v := nI 1) hx hb dIn_numberOfTrailingZeros_76 (by decide) ?_
            refine lv_iushr hx hb dIn_numberOfTrailingZeros_77 rfl ?_
            refine lv_iadd hx hb dIn_numberOfTrailingZeros_78 ?_
            exact wz_iret hx hb hr hlocks (by rw [ent]; exact (by decide +kernel : ∀ t : Nat, t < 31 → (65536 < (2 ^ (t + 1) - 1)) → (¬ (((nI (2 ^ (t + 1) - 1)).toUInt32 >>> ((nI 16).toUInt32 &&& Int32.toUInt32 31)).toInt32) ≤ (nI 256)) → (¬ (((((nI (2 ^ (t + 1) - 1)).toUInt32 >>> ((nI 16).toUInt32 &&& Int32.toUInt32 31)).toInt32).toUInt32 >>> ((nI 8).toUInt32 &&& Int32.toUInt32 31)).toInt32) ≤ (nI 16)) → (¬ (((((((nI (2 ^ (t + 1) - 1)).toUInt32 >>> ((nI 16).toUInt32 &&& Int32.toUInt32 31)).toInt32).toUInt32 >>> ((nI 8).toUInt32 &&& Int32.toUInt32 31)).toInt32).toUInt32 >>> ((nI 4).toUInt32 &&& Int32.toUInt32 31)).toInt32) ≤ (nI 4)) → (nI (1 + 16 + 8 + 4 + 2)) + (((((((((((nI (2 ^ (t + 1) - 1)).toUInt32 >>> ((nI 16).toUInt32 &&& Int32.toUInt32 31)).toInt32).toUInt32 >>> ((nI 8).toUInt32 &&& Int32.toUInt32 31)).toInt32).toUInt32 >>> ((nI 4).toUInt32 &&& Int32.toUInt32 31)).toInt32).toUInt32 >>> ((nI 2).toUInt32 &&& Int32.toUInt32 31)).toInt32).toUInt32 >>> ((nI 1).toUInt32 &&& Int32.toUInt32 31)).toInt32) = nI (t + 1)) t ht h23_2 h38_10 h52_14 h64_16) hP hD hK hS dIn_numberOfTrailingZeros_79
  · skip
    refine lv_iload_n hx hb dIn_numberOfTrailingZeros_12 rfl (lv_at hl 0 rfl) ?_
    refine lv_bipush (v := nI 32) hx hb dIn_numberOfTrailingZeros_13 (by decide) ?_
    refine lv_iand hx hb dIn_numberOfTrailingZeros_15 ?_
    exact wz_iret hx hb hr hlocks (ww_ntz_a ey h9_1) hP hD hK hS dIn_numberOfTrailingZeros_16
set_option maxHeartbeats 4000000 in
set_option maxRecDepth 100000 in
/-- Long.numberOfTrailingZeros -/
theorem kLo_numberOfTrailingZeros (l : Launch) (dC : Nat → ClassId) (dI : Nat → Nat → Nat) (cI cJ cZ : ClassId) (sz : Nat) (x : Int64) : Met l yLo_numberOfTrailingZeros (.code yLo_numberOfTrailingZeros cLo_numberOfTrailingZeros 3 (some .int) :: wz_all) ({ frames := 1, cells := 0, slots := 0, locals := 21 }) (wz_Pc (dC, dI) vwCl (wz_T cI cJ cZ) [.long x] sz []) (va_Qi (fun (r : Int32) (_ : Unit) => r = nI (ww_n64 x)) (fun _ t => va_P (dC, dI) vwCl [] t.heap ∧ va_K (dC, dI) vwCl (wz_T cI cJ cZ) t ∧ va_D (va_A [] sz) []) (va_A [] sz)) 0 0 (va_A [] sz) := by
  refine Met.ofW (cc := cLo_numberOfTrailingZeros) (maxL := 3) (ret := (some .int)) (by decide) rfl ?_
  intro p e s m args below meth c s₁ B hml hv
  obtain ⟨rfl, hsz, hP, hK, hD0, hN⟩ := hv
  have hx := B.exec
  have hb := B.bytes
  have hr := B.returns
  have hts := atoms_spec (ws := (.code yLo_numberOfTrailingZeros cLo_numberOfTrailingZeros 3 (some .int) :: wz_all)) B.pre
  have hw : ∀ w9 ∈ wz_all, w9.before [.long x].toArray s = true := fun w9 h => hts w9 (List.mem_cons_of_mem _ h)
  have hown : s.vm.findClass RLo = some m.cls := findClass_of_methodNamed B.named
  have hlocks := B.notSynchronized
  subst hsz
  have hD := hD0.self (sz := s.heap.size)
  generalize hAe : va_A [] s.heap.size = A at hD ⊢
  have hA : ∀ q : Nat, s.heap.size ≤ q → A q := fun q h => by rw [← hAe]; exact Or.inr h
  have hS : va_S A s.heap s.heap [] := va_S.rf
  have hP : va_P (dC, dI) vwCl [] s.heap := hP
  have hl := lv_entry ([.long x]) (n := 3) (Nat.le_of_ble_eq_true rfl)
  rw [lg_entry_eq]
  generalize (lg_sl ([.long x]) ++ List.replicate (3 - (lg_sl ([.long x])).length) Slot.unset).toArray = ls at hl ⊢
  have hl : lv_has ls 3 [(0, .long x)] := hl
  refine lv_lload_n hx hb dLo_numberOfTrailingZeros_0 rfl (lv_at hl 0 rfl) ?_
  refine lv_l2i hx hb dLo_numberOfTrailingZeros_1 rfl ?_
  refine lv_istore_n (lv' := [(2, .int (x.toInt32)), (0, .long x)]) hx hb dLo_numberOfTrailingZeros_2 rfl hl (by decide) rfl (fun ls hl => ?_)
  refine lv_iload_n hx hb dLo_numberOfTrailingZeros_3 rfl (lv_at hl 0 rfl) ?_
  refine lv_if_ne (tgt := 21) hx hb dLo_numberOfTrailingZeros_4 (by decide) (fun h4_1 => ?_) (fun h4_1 => ?_)
  · skip
    refine lv_iload_n hx hb dLo_numberOfTrailingZeros_21 rfl (lv_at hl 0 rfl) ?_
    refine wz_calli (wc := []) (wr := []) (w1 := []) (ws' := []) hP hD hS hA [] [] [] rfl rfl (by decide) (by decide) (by decide) rfl rfl (va_runS (As := [.int (x.toInt32)]) (rest := []) ⟨hx, hb, hml, hown, hts⟩ (kIn_numberOfTrailingZeros l dC dI cI cJ cZ s.heap.size (x.toInt32)) (va_cwS 1 hts (wz_gS w_72 w_73 w_35 w_74) rfl rfl rfl (by decide +kernel) ⟨Nat.le_of_ble_eq_true rfl, Nat.le_of_ble_eq_true rfl⟩) (wz_preS hN hK hP hD [] (by decide) rfl rfl) rfl rfl hl.1 rfl (lv_room (Nat.le_of_ble_eq_true rfl)) dLo_numberOfTrailingZeros_22 ⟨Nat.le_refl _, Nat.le_refl _⟩) (fun H locs hP hD hS => ?_)
    exact wz_iret hx hb hr hlocks (by first | rw [ww_n64_lo h4_1] | exact congrArg nI (ww_n64_hi (x := x) h4_1)) hP hD hK hS dLo_numberOfTrailingZeros_25
  · skip
    refine lv_bipush (v := nI 32) hx hb dLo_numberOfTrailingZeros_7 (by decide) ?_
    refine lv_lload_n hx hb dLo_numberOfTrailingZeros_9 rfl (lv_at hl 1 rfl) ?_
    refine lv_bipush (v := nI 32) hx hb dLo_numberOfTrailingZeros_10 (by decide) ?_
    refine lv_lushr hx hb dLo_numberOfTrailingZeros_12 rfl ?_
    refine lv_l2i hx hb dLo_numberOfTrailingZeros_13 rfl ?_
    refine wz_calli (wc := []) (wr := []) (w1 := []) (ws' := []) hP hD hS hA [] [] [] rfl rfl (by decide) (by decide) (by decide) rfl rfl (va_runS (As := [.int (((x.toUInt64 >>> ((nI 32).toInt64.toUInt64 &&& Int64.toUInt64 63)).toInt64).toInt32)]) (rest := [.int (nI 32)]) ⟨hx, hb, hml, hown, hts⟩ (kIn_numberOfTrailingZeros l dC dI cI cJ cZ s.heap.size (((x.toUInt64 >>> ((nI 32).toInt64.toUInt64 &&& Int64.toUInt64 63)).toInt64).toInt32)) (va_cwS 1 hts (wz_gS w_72 w_73 w_35 w_74) rfl rfl rfl (by decide +kernel) ⟨Nat.le_of_ble_eq_true rfl, Nat.le_of_ble_eq_true rfl⟩) (wz_preS hN hK hP hD [] (by decide) rfl rfl) rfl rfl hl.1 rfl (lv_room (Nat.le_of_ble_eq_true rfl)) dLo_numberOfTrailingZeros_14 ⟨Nat.le_refl _, Nat.le_refl _⟩) (fun H locs hP hD hS => ?_)
    refine wz_iadd hx hb dLo_numberOfTrailingZeros_17 ?_
    refine lv_goto (tgt := 25) hx hb dLo_numberOfTrailingZeros_18 (by decide) ?_
    exact wz_iret hx hb hr hlocks (by first | rw [ww_n64_lo h4_1] | exact congrArg nI (ww_n64_hi (x := x) h4_1)) hP hD hK hS dLo_numberOfTrailingZeros_25
set_option maxHeartbeats 4000000 in
set_option maxRecDepth 100000 in
/-- Arrays.fill of a row of longs -/
theorem kAr_fill (l : Launch) (dC : Nat → ClassId) (dI : Nat → Nat → Nat) (cI cJ cZ : ClassId) (sz : Nat) (a0 : Nat) (v : Int64) (f : Nat → Int64) : Met l yAr_fill (.code yAr_fill cAr_fill 5 none :: wz_all) ({ frames := 0, cells := 0, slots := 0, locals := 0 }) (wz_Pc (dC, dI) vwCl (wz_T cI cJ cZ) [.ref a0, .long v] sz [(a0, .inl (cJ, 64, .inr (.inl f)))]) (va_Qv (fun (_ : Unit) => True) (fun _ t => va_P (dC, dI) vwCl [(a0, .inl (cJ, 64, .inr (.inl (ww_fl (fun _ => v) ww_k64 f))))] t.heap ∧ va_K (dC, dI) vwCl (wz_T cI cJ cZ) t ∧ va_D (va_A [(a0, .inl (cJ, 64, .inr (.inl f)))] sz) [(a0, .inl (cJ, 64, .inr (.inl (ww_fl (fun _ => v) ww_k64 f))))]) (va_A [(a0, .inl (cJ, 64, .inr (.inl f)))] sz)) 0 0 (va_A [(a0, .inl (cJ, 64, .inr (.inl f)))] sz) := by
  refine Met.ofW (cc := cAr_fill) (maxL := 5) (ret := none) (by decide) rfl ?_
  intro p e s m args below meth c s₁ B hml hv
  obtain ⟨rfl, hsz, hP, hK, hD0, hN⟩ := hv
  have hx := B.exec
  have hb := B.bytes
  have hr := B.returns
  have hts := atoms_spec (ws := (.code yAr_fill cAr_fill 5 none :: wz_all)) B.pre
  have hw : ∀ w9 ∈ wz_all, w9.before [.ref a0, .long v].toArray s = true := fun w9 h => hts w9 (List.mem_cons_of_mem _ h)
  have hown : s.vm.findClass RAr = some m.cls := findClass_of_methodNamed B.named
  have hlocks := B.notSynchronized
  subst hsz
  have hD := hD0.self (sz := s.heap.size)
  generalize hAe : va_A [(a0, .inl (cJ, 64, .inr (.inl f)))] s.heap.size = A at hD ⊢
  have hA : ∀ q : Nat, s.heap.size ≤ q → A q := fun q h => by rw [← hAe]; exact Or.inr h
  have hS : va_S A s.heap s.heap [] := va_S.rf
  have hP : va_P (dC, dI) vwCl [(a0, .inl (cJ, 64, .inr (.inl f)))] s.heap := hP
  have hl := lv_entry ([.ref a0, .long v]) (n := 5) (Nat.le_of_ble_eq_true rfl)
  rw [lg_entry_eq]
  generalize (lg_sl ([.ref a0, .long v]) ++ List.replicate (5 - (lg_sl ([.ref a0, .long v])).length) Slot.unset).toArray = ls at hl ⊢
  have hl : lv_has ls 5 [(0, .ref a0), (1, .long v)] := hl
  have cut6 : ∀ (n6 : Nat) (i : Nat) (f1 : Nat → Int64) (hi : i ≤ 64) (hf : f1 = ww_fl (fun _ => v) i f), 64 - i = n6 → ∀ (H : Heap) (locs : List Loc), va_P (dC, dI) vwCl [(a0, .inl (cJ, 64, .inr (.inl f1)))] H → va_D A [(a0, .inl (cJ, 64, .inr (.inl f1)))] → va_S A s.heap H locs → ∀ ls : Array Slot, lv_has ls 5 [(4, .int (nI 64)), (3, .int (nI i)), (0, .ref a0), (1, .long v)] → W p l e (headSpec (.code yAr_fill cAr_fill 5 none :: wz_all) ({ frames := 0, cells := 0, slots := 0, locals := 0 })).room s m [.ref a0, .long v].toArray below meth c H locs 0 0 (MQ below (va_Qv (fun (_ : Unit) => True) (fun _ t => va_P (dC, dI) vwCl [(a0, .inl (cJ, 64, .inr (.inl (ww_fl (fun _ => v) ww_k64 f))))] t.heap ∧ va_K (dC, dI) vwCl (wz_T cI cJ cZ) t ∧ va_D A [(a0, .inl (cJ, 64, .inr (.inl (ww_fl (fun _ => v) ww_k64 f))))]) A) [.ref a0, .long v].toArray s 0 0 A) (F0 m 6 ls []) := by
    intro n6
    induction n6 using Nat.strongRecOn with
    | _ n6 ih6 =>
    intro i f1 hi hf hm6 H locs hP hD hS ls hl
    refine lv_iload_n hx hb dAr_fill_6 rfl (lv_at hl 1 rfl) ?_
    refine lv_iload hx hb dAr_fill_7 (lv_at hl 0 rfl) ?_
    refine wz_icmp_ge (x := i) (y := 64) (tgt := 22) hx hb (by omega) (by omega) dAr_fill_9 (by decide) (fun h9_1 => ?_) (fun h9_1 => ?_)
    · skip
      have e_a : f1 = ww_fl (fun _ => v) ww_k64 f := (by rw [hf, show i = ww_k64 by rw [ww_k64_eq]; omega])
      rw [e_a] at hP hD
      exact wz_vret hx hb hr hlocks hP hD hK hS dAr_fill_22
    · skip
      refine lv_aload_n hx hb dAr_fill_12 rfl (lv_at hl 2 rfl) ?_
      refine lv_iload_n hx hb dAr_fill_13 rfl (lv_at hl 1 rfl) ?_
      refine lv_lload_n hx hb dAr_fill_14 rfl (lv_at hl 3 rfl) ?_
      refine wz_last (ws' := [(a0, .inl (cJ, 64, .inr (.inl (vp_updL f1 i v))))]) hx hb hK hP hD hS 0 1 rfl rfl (i := i) (by omega) (by decide) dAr_fill_15 rfl (fun H locs hP hD hS => ?_)
      refine lv_iinc (v := nI (i + 1)) (lv' := [(3, .int (nI (i + 1))), (4, .int (nI 64)), (0, .ref a0), (1, .long v)]) hx hb dAr_fill_16 hl (k := 1) rfl ((nI_succ _).symm) (by decide) rfl (fun ls hl => ?_)
      refine lv_goto (tgt := 6) hx hb dAr_fill_19 (by decide) ?_
      exact ih6 _ (by omega) (i + 1) (vp_updL f1 i v) (by omega) (by rw [hf]; rfl) rfl _ _ hP hD hS _ (lv_sub hl [1, 0, 2, 3] rfl)
  refine lv_iconst (v := nI 0) hx hb dAr_fill_0 (by decide) ?_
  refine lv_istore_n (lv' := [(3, .int (nI 0)), (0, .ref a0), (1, .long v)]) hx hb dAr_fill_1 rfl hl (by decide) rfl (fun ls hl => ?_)
  refine lv_aload_n hx hb dAr_fill_2 rfl (lv_at hl 1 rfl) ?_
  refine va_alen (v := nI 64) hx hb hK hP 0 1 rfl rfl rfl dAr_fill_3 ?_
  refine lv_istore (lv' := [(4, .int (nI 64)), (3, .int (nI 0)), (0, .ref a0), (1, .long v)]) hx hb dAr_fill_4 hl (by decide) rfl (fun ls hl => ?_)
  exact cut6 _ 0 f (by omega) rfl rfl _ _ hP hD hS _ hl
set_option maxHeartbeats 4000000 in
set_option maxRecDepth 100000 in
/-- Arrays.fill of a row of ints -/
theorem kAr_fill2 (l : Launch) (dC : Nat → ClassId) (dI : Nat → Nat → Nat) (cI cJ cZ : ClassId) (sz : Nat) (a0 : Nat) (v : Int32) (f : Nat → Int32) : Met l yAr_fill2 (.code yAr_fill2 cAr_fill2 4 none :: wz_all) ({ frames := 0, cells := 0, slots := 0, locals := 0 }) (wz_Pc (dC, dI) vwCl (wz_T cI cJ cZ) [.ref a0, .int v] sz [(a0, .inl (cI, 64, .inl f))]) (va_Qv (fun (_ : Unit) => True) (fun _ t => va_P (dC, dI) vwCl [(a0, .inl (cI, 64, .inl (ww_fi v ww_k64 f)))] t.heap ∧ va_K (dC, dI) vwCl (wz_T cI cJ cZ) t ∧ va_D (va_A [(a0, .inl (cI, 64, .inl f))] sz) [(a0, .inl (cI, 64, .inl (ww_fi v ww_k64 f)))]) (va_A [(a0, .inl (cI, 64, .inl f))] sz)) 0 0 (va_A [(a0, .inl (cI, 64, .inl f))] sz) := by
  refine Met.ofW (cc := cAr_fill2) (maxL := 4) (ret := none) (by decide) rfl ?_
  intro p e s m args below meth c s₁ B hml hv
  obtain ⟨rfl, hsz, hP, hK, hD0, hN⟩ := hv
  have hx := B.exec
  have hb := B.bytes
  have hr := B.returns
  have hts := atoms_spec (ws := (.code yAr_fill2 cAr_fill2 4 none :: wz_all)) B.pre
  have hw : ∀ w9 ∈ wz_all, w9.before [.ref a0, .int v].toArray s = true := fun w9 h => hts w9 (List.mem_cons_of_mem _ h)
  have hown : s.vm.findClass RAr = some m.cls := findClass_of_methodNamed B.named
  have hlocks := B.notSynchronized
  subst hsz
  have hD := hD0.self (sz := s.heap.size)
  generalize hAe : va_A [(a0, .inl (cI, 64, .inl f))] s.heap.size = A at hD ⊢
  have hA : ∀ q : Nat, s.heap.size ≤ q → A q := fun q h => by rw [← hAe]; exact Or.inr h
  have hS : va_S A s.heap s.heap [] := va_S.rf
  have hP : va_P (dC, dI) vwCl [(a0, .inl (cI, 64, .inl f))] s.heap := hP
  have hl := lv_entry ([.ref a0, .int v]) (n := 4) (Nat.le_of_ble_eq_true rfl)
  rw [lg_entry_eq]
  generalize (lg_sl ([.ref a0, .int v]) ++ List.replicate (4 - (lg_sl ([.ref a0, .int v])).length) Slot.unset).toArray = ls at hl ⊢
  have hl : lv_has ls 4 [(0, .ref a0), (1, .int v)] := hl
  have cut5 : ∀ (n5 : Nat) (i : Nat) (f1 : Nat → Int32) (hi : i ≤ 64) (hf : f1 = ww_fi v i f), 64 - i = n5 → ∀ (H : Heap) (locs : List Loc), va_P (dC, dI) vwCl [(a0, .inl (cI, 64, .inl f1))] H → va_D A [(a0, .inl (cI, 64, .inl f1))] → va_S A s.heap H locs → ∀ ls : Array Slot, lv_has ls 4 [(3, .int (nI 64)), (2, .int (nI i)), (0, .ref a0), (1, .int v)] → W p l e (headSpec (.code yAr_fill2 cAr_fill2 4 none :: wz_all) ({ frames := 0, cells := 0, slots := 0, locals := 0 })).room s m [.ref a0, .int v].toArray below meth c H locs 0 0 (MQ below (va_Qv (fun (_ : Unit) => True) (fun _ t => va_P (dC, dI) vwCl [(a0, .inl (cI, 64, .inl (ww_fi v ww_k64 f)))] t.heap ∧ va_K (dC, dI) vwCl (wz_T cI cJ cZ) t ∧ va_D A [(a0, .inl (cI, 64, .inl (ww_fi v ww_k64 f)))]) A) [.ref a0, .int v].toArray s 0 0 A) (F0 m 5 ls []) := by
    intro n5
    induction n5 using Nat.strongRecOn with
    | _ n5 ih5 =>
    intro i f1 hi hf hm5 H locs hP hD hS ls hl
    refine lv_iload_n hx hb dAr_fill2_5 rfl (lv_at hl 1 rfl) ?_
    refine lv_iload_n hx hb dAr_fill2_6 rfl (lv_at hl 0 rfl) ?_
    refine wz_icmp_ge (x := i) (y := 64) (tgt := 20) hx hb (by omega) (by omega) dAr_fill2_7 (by decide) (fun h7_1 => ?_) (fun h7_1 => ?_)
    · skip
      have e_a : f1 = ww_fi v ww_k64 f := (by rw [hf, show i = ww_k64 by rw [ww_k64_eq]; omega])
      rw [e_a] at hP hD
      exact wz_vret hx hb hr hlocks hP hD hK hS dAr_fill2_20
    · skip
      refine lv_aload_n hx hb dAr_fill2_10 rfl (lv_at hl 2 rfl) ?_
      refine lv_iload_n hx hb dAr_fill2_11 rfl (lv_at hl 1 rfl) ?_
      refine lv_iload_n hx hb dAr_fill2_12 rfl (lv_at hl 3 rfl) ?_
      refine wz_iast (ws' := [(a0, .inl (cI, 64, .inl (upd f1 i v)))]) hx hb hK hP hD hS 0 0 rfl rfl (i := i) (by omega) (by decide) dAr_fill2_13 rfl (fun H locs hP hD hS => ?_)
      refine lv_iinc (v := nI (i + 1)) (lv' := [(2, .int (nI (i + 1))), (3, .int (nI 64)), (0, .ref a0), (1, .int v)]) hx hb dAr_fill2_14 hl (k := 1) rfl ((nI_succ _).symm) (by decide) rfl (fun ls hl => ?_)
      refine lv_goto (tgt := 5) hx hb dAr_fill2_17 (by decide) ?_
      exact ih5 _ (by omega) (i + 1) (upd f1 i v) (by omega) (by rw [hf]; rfl) rfl _ _ hP hD hS _ (lv_sub hl [1, 0, 2, 3] rfl)
  refine lv_iconst (v := nI 0) hx hb dAr_fill2_0 (by decide) ?_
  refine lv_istore_n (lv' := [(2, .int (nI 0)), (0, .ref a0), (1, .int v)]) hx hb dAr_fill2_1 rfl hl (by decide) rfl (fun ls hl => ?_)
  refine lv_aload_n hx hb dAr_fill2_2 rfl (lv_at hl 1 rfl) ?_
  refine va_alen (v := nI 64) hx hb hK hP 0 0 rfl rfl rfl dAr_fill2_3 ?_
  refine lv_istore_n (lv' := [(3, .int (nI 64)), (2, .int (nI 0)), (0, .ref a0), (1, .int v)]) hx hb dAr_fill2_4 rfl hl (by decide) rfl (fun ls hl => ?_)
  exact cut5 _ 0 f (by omega) rfl rfl _ _ hP hD hS _ hl
