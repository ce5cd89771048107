/-! The law runs: the switch, the loop, the end. -/
set_option maxHeartbeats 4000000 in
theorem wl_switch {p : Program} {l : Launch} {e : Env} {s : State} {m : MethodId} {below : List Frame} {meth : Method} {c : Code} {b L : Nat} {xs : Nat → Int32} {A : Nat → Prop} {dC : Nat → ClassId} {dI : Nat → Nat → Nat} {cI cJ cZ : ClassId} {tv : Nat} {Q : State → Prop} (C : wl_C p l s m meth c b L xs A dC dI cI cJ cZ tv) {aW aR aout i cells slots : Nat} (hiL : i + 6 ≤ L) {H : Heap} {locs : List Loc} {ls : Array Slot} (hS : va_S A s.heap H locs) (hl : lv_has ls 8 [(4, .int (nI i)), (0, .ref b), (1, .ref aW), (2, .ref aR), (3, .ref aout)]) (h96 : W p l e room_1 s m #[Value.ref b] below meth c H locs cells slots Q (F0 m 96 ls [])) (h200 : W p l e room_1 s m #[Value.ref b] below meth c H locs cells slots Q (F0 m 200 ls [])) (h255 : W p l e room_1 s m #[Value.ref b] below meth c H locs cells slots Q (F0 m 255 ls [])) (h335 : W p l e room_1 s m #[Value.ref b] below meth c H locs cells slots Q (F0 m 335 ls [])) (h391 : W p l e room_1 s m #[Value.ref b] below meth c H locs cells slots Q (F0 m 391 ls [])) (h402 : W p l e room_1 s m #[Value.ref b] below meth c H locs cells slots Q (F0 m 402 ls [])) (h457 : W p l e room_1 s m #[Value.ref b] below meth c H locs cells slots Q (F0 m 457 ls [])) (h471 : W p l e room_1 s m #[Value.ref b] below meth c H locs cells slots Q (F0 m 471 ls [])) (h539 : W p l e room_1 s m #[Value.ref b] below meth c H locs cells slots Q (F0 m 539 ls [])) (h595 : W p l e room_1 s m #[Value.ref b] below meth c H locs cells slots Q (F0 m 595 ls [])) (h608 : W p l e room_1 s m #[Value.ref b] below meth c H locs cells slots Q (F0 m 608 ls [])) : W p l e room_1 s m #[Value.ref b] below meth c H locs cells slots Q (F0 m 33 ls []) := by
  obtain ⟨hx, hb, hml, hown, htl, hXs, hbl, hbA, hA, hlocks, hK, hN, hZ, hE, hTx, hLL, hl9⟩ := C
  refine lv_aload_n hx hb dLa_law_33 rfl (lv_at hl 1 rfl) ?_
  refine lv_iload hx hb dLa_law_34 (lv_at hl 0 rfl) ?_
  refine wl_sld hx hb hXs hbl hbA hS hLL (i := i) (by omega) dLa_law_36 ?_
  refine lv_bipush (v := nI 15) hx hb dLa_law_37 (by decide) ?_
  refine lv_iand hx hb dLa_law_39 ?_
  obtain ⟨k, hk, ek⟩ := wl_15 (xs i)
  refine W.eq (g2 := F0 m 40 ls [.int (nI k)]) (by rw [ek]) ?_
  rcases (show k = 0 ∨ k = 1 ∨ k = 2 ∨ k = 3 ∨ k = 4 ∨ k = 5 ∨ k = 6 ∨ k = 7 ∨ k = 8 ∨ k = 9 ∨ k = 10 ∨ k = 11 ∨ k = 12 ∨ k = 13 ∨ k = 14 ∨ k = 15 by omega) with rfl | rfl | rfl | rfl | rfl | rfl | rfl | rfl | rfl | rfl | rfl | rfl | rfl | rfl | rfl | rfl
  · exact lv_tableIn (off := 56) (tgt := 96) hx hb dLa_law_40 (by decide) (by decide) (by decide) (by decide) h96
  · exact lv_tableIn (off := 160) (tgt := 200) hx hb dLa_law_40 (by decide) (by decide) (by decide) (by decide) h200
  · exact lv_tableIn (off := 215) (tgt := 255) hx hb dLa_law_40 (by decide) (by decide) (by decide) (by decide) h255
  · exact lv_tableIn (off := 295) (tgt := 335) hx hb dLa_law_40 (by decide) (by decide) (by decide) (by decide) h335
  · exact lv_tableIn (off := 351) (tgt := 391) hx hb dLa_law_40 (by decide) (by decide) (by decide) (by decide) h391
  · exact lv_tableIn (off := 362) (tgt := 402) hx hb dLa_law_40 (by decide) (by decide) (by decide) (by decide) h402
  · exact lv_tableIn (off := 417) (tgt := 457) hx hb dLa_law_40 (by decide) (by decide) (by decide) (by decide) h457
  · exact lv_tableIn (off := 431) (tgt := 471) hx hb dLa_law_40 (by decide) (by decide) (by decide) (by decide) h471
  · exact lv_tableIn (off := 499) (tgt := 539) hx hb dLa_law_40 (by decide) (by decide) (by decide) (by decide) h539
  · exact lv_tableIn (off := 555) (tgt := 595) hx hb dLa_law_40 (by decide) (by decide) (by decide) (by decide) h595
  · exact lv_tableOut (tgt := 608) hx hb dLa_law_40 (by decide) (by decide) h608
  · exact lv_tableOut (tgt := 608) hx hb dLa_law_40 (by decide) (by decide) h608
  · exact lv_tableOut (tgt := 608) hx hb dLa_law_40 (by decide) (by decide) h608
  · exact lv_tableOut (tgt := 608) hx hb dLa_law_40 (by decide) (by decide) h608
  · exact lv_tableOut (tgt := 608) hx hb dLa_law_40 (by decide) (by decide) h608
  · exact lv_tableOut (tgt := 608) hx hb dLa_law_40 (by decide) (by decide) h608
set_option maxHeartbeats 4000000 in
theorem wl_run {p : Program} {l : Launch} {e : Env} {s : State} {m : MethodId} {below : List Frame} {meth : Method} {c : Code} {b L : Nat} {xs : Nat → Int32} {A : Nat → Prop} {dC : Nat → ClassId} {dI : Nat → Nat → Nat} {cI cJ cZ : ClassId} {tv : Nat} (C : wl_C p l s m meth c b L xs A dC dI cI cJ cZ tv) (hA2 : ∀ q, A q → s.heap.size ≤ q) (hr : meth.sig.returnType = ret) {aW aM abm aso aO aki afi ase apl aU ago aJ aho aP aro aK aly ars aR ams ann ak2 af2 as2 ah2 afa afx ald awy alt abg aout : Nat} : ∀ (d j : Nat), j ≤ 512 → L < 6 * j + 6 * d + 6 → wl_K p l e s m below meth c (lw_Z below #[Value.ref b] s) b A dC dI cI cJ cZ aW aM abm aso aO aki afi ase apl aU ago aJ aho aP aro aK aly ars aR ams ann ak2 af2 as2 ah2 afa afx ald awy alt abg aout (6 * j) (32 + j) (1454 + 6 * j) 23 := by
  intro d
  induction d with
  | zero =>
    intro j hj hd mv n fc sc le zz he th bm so go ho lf nn h2 fx ld o1 kn fn sn mn fa bq pb fs gr fk tl lo lp ro rf f2 s2 wy lt hI H locs hP hD hS ls hl
    have C9 := C
    obtain ⟨hx, hb, hml, hown, htl, hXs, hbl, hbA, hA, hlocks, hK, hN, hZ, hE, hTx, hLL, hl9⟩ := C
    refine lv_iload hx hb dLa_law_23 (lv_at hl 0 rfl) ?_
    refine lv_aload_n hx hb dLa_law_25 rfl (lv_at hl 1 rfl) ?_
    refine va_slen hx hb hXs hbl hbA hS dLa_law_26 ?_
    refine lv_bipush (v := nI 6) hx hb dLa_law_27 (by decide) ?_
    refine lv_isub hx hb dLa_law_29 ?_
    refine lv_icmp_gt (tgt := 614) hx hb dLa_law_30 (by decide) (fun h => ?_) (fun h => ?_)
    · skip
      refine lv_iconst (v := 1) hx hb dLa_law_614 (by decide) ?_
      exact va_forget (fun q hq => hA2 _ (hS.2.2 q hq)) (W.widen (by omega) (by omega) (lw_ret hx hb hr hlocks dLa_law_615))
    · exact absurd ((wl_gt (L := L) (i := 6 * j) (by omega) (by omega)).mpr (by omega)) h
  | succ d ih =>
    intro j hj hd mv n fc sc le zz he th bm so go ho lf nn h2 fx ld o1 kn fn sn mn fa bq pb fs gr fk tl lo lp ro rf f2 s2 wy lt hI H locs hP hD hS ls hl
    have C9 := C
    obtain ⟨hx, hb, hml, hown, htl, hXs, hbl, hbA, hA, hlocks, hK, hN, hZ, hE, hTx, hLL, hl9⟩ := C
    refine lv_iload hx hb dLa_law_23 (lv_at hl 0 rfl) ?_
    refine lv_aload_n hx hb dLa_law_25 rfl (lv_at hl 1 rfl) ?_
    refine va_slen hx hb hXs hbl hbA hS dLa_law_26 ?_
    refine lv_bipush (v := nI 6) hx hb dLa_law_27 (by decide) ?_
    refine lv_isub hx hb dLa_law_29 ?_
    refine lv_icmp_gt (tgt := 614) hx hb dLa_law_30 (by decide) (fun h => ?_) (fun h => ?_)
    · skip
      refine lv_iconst (v := 1) hx hb dLa_law_614 (by decide) ?_
      exact va_forget (fun q hq => hA2 _ (hS.2.2 q hq)) (W.widen (by omega) (by omega) (lw_ret hx hb hr hlocks dLa_law_615))
    · skip
      have hiL : 6 * j + 6 ≤ L := Nat.le_of_not_lt (fun q => h ((wl_gt (L := L) (i := 6 * j) (by omega) (by omega)).mpr q))
      have hqc1 : 32 + j + 1 ≤ room_1.cells := by show 32 + j + 1 ≤ 1069; omega
      have hqs1 : 1454 + 6 * j + 6 ≤ room_1.slots := by show 1454 + 6 * j + 6 ≤ 9724; omega
      have k9 : wl_K p l e s m below meth c (lw_Z below #[Value.ref b] s) b A dC dI cI cJ cZ aW aM abm aso aO aki afi ase apl aU ago aJ aho aP aro aK aly ars aR ams ann ak2 af2 as2 ah2 afa afx ald awy alt abg aout (6 * j) (32 + j + 1) (1454 + 6 * j + 6) 608 := by
        intro mv n fc sc le zz he th bm so go ho lf nn h2 fx ld o1 kn fn sn mn fa bq pb fs gr fk tl lo lp ro rf f2 s2 wy lt hI H locs hP hD hS ls hl
        refine lv_iinc (v := nI (6 * j + 6)) (lv' := [(4, .int (nI (6 * j + 6))), (0, .ref b), (1, .ref aW), (2, .ref aR), (3, .ref aout)]) hx hb dLa_law_608 hl (k := 0) rfl (by rw [← nI_add]; rfl) (by decide) rfl (fun ls hl => ?_)
        refine lv_goto (tgt := 23) hx hb dLa_law_611 (by decide) ?_
        rw [show 6 * j + 6 = 6 * (j + 1) by omega] at hl
        exact W.widen (by omega) (by omega) (ih (j + 1) (by omega) (by omega) hI H locs hP hD hS ls hl)
      refine wl_switch C9 hiL hS hl (wl_c0 C9 hiL hI hqc1 hqs1 hP hD hS hl k9) (wl_c1 C9 hiL hI hqc1 hqs1 hP hD hS hl k9) (wl_c2 C9 hiL hI hqc1 hqs1 hP hD hS hl k9) (wl_c3 C9 hiL hI hqc1 hqs1 hP hD hS hl k9) (wl_c4 C9 hiL hI hqc1 hqs1 hP hD hS hl k9) (wl_c5 C9 hiL hI hqc1 hqs1 hP hD hS hl k9) (wl_c6 C9 hiL hI hqc1 hqs1 hP hD hS hl k9) (wl_c7 C9 hiL hI hqc1 hqs1 hP hD hS hl k9) (wl_c8 C9 hiL hI hqc1 hqs1 hP hD hS hl k9) (wl_c9 C9 hiL hI hqc1 hqs1 hP hD hS hl k9) ?_
      exact W.widen (by omega) (by omega) (k9 hI H locs hP hD hS ls hl)
