/-! The law's words: all that the contracts ask stands in the tables. -/
theorem wl_mp {big ws : List Cond} (is : List Nat) (h : is.map (fun i => big[i]?) = ws.map some) {w : Cond} (hw : w ∈ ws) : w ∈ big := by
  have h1 : some w ∈ ws.map some := List.mem_map.mpr ⟨w, hw, rfl⟩
  rw [← h] at h1
  obtain ⟨i, -, e⟩ := List.mem_map.mp h1
  exact List.mem_of_getElem? e
set_option maxRecDepth 100000 in
set_option maxHeartbeats 4000000 in
theorem wl_p_0 : [0, 2, 3, 4, 5, 6, 7, 8, 9, 10, 11, 12, 13, 14, 15, 16, 17, 18, 19, 20, 21, 22, 23, 24, 25, 26, 27, 28, 29, 30, 31, 32, 33, 34, 35, 36, 37, 38, 39, 40, 41, 42, 48, 51, 52, 53, 54, 55, 56, 57, 58, 59, 60, 61, 62, 63, 64, 65, 67, 68, 69, 70, 71, 72, 73, 74, 75, 77, 78, 79, 80, 81, 82, 83, 84, 85, 86, 87, 88, 89, 90, 91, 92, 93, 94, 95, 96, 97, 98, 100, 101, 102, 103, 104, 105, 106, 107, 108, 109, 110].map (fun i => lw_tbl[i]?) = wz_all_0.map some := by rfl
set_option maxRecDepth 100000 in
set_option maxHeartbeats 4000000 in
theorem wl_p_1 : [111, 112, 113, 114, 115, 116, 117, 118, 119, 120, 121, 122, 124, 125, 126, 127, 128, 129, 130, 131, 132, 133, 134, 135, 136, 137, 138, 139, 140, 141, 142, 143, 144, 145, 146, 147, 148, 149, 150, 151, 152, 153, 154, 155, 156, 157, 158, 159, 160, 161, 162, 163, 165, 166, 167, 168, 169, 170, 171, 172, 173, 174, 175, 176, 177, 178, 179, 180, 181, 182, 183, 184, 185, 186, 187, 188, 189, 190, 191, 192, 193, 194, 195, 196, 197, 198, 199, 200, 201, 202, 203, 204, 205, 206, 207, 208, 209, 210, 211, 212].map (fun i => lw_tbl[i]?) = wz_all_1.map some := by rfl
set_option maxRecDepth 100000 in
set_option maxHeartbeats 4000000 in
theorem wl_p_2 : [213, 214, 215, 216, 217, 218, 219, 220, 221, 222, 223, 224, 225, 226, 227, 228, 229, 230, 231, 232, 233, 234, 235, 236, 237, 238, 239, 240, 241, 242, 243, 244, 245, 246, 247, 248, 249, 250, 251, 252, 253, 254, 255, 256, 257, 258, 259, 260, 261, 262, 263, 264, 265, 266, 267, 268, 269, 270, 271, 272, 273, 274, 275, 276, 277, 278, 279, 280, 281, 282, 283, 284, 285, 286, 287, 289, 290, 291, 292, 293, 294, 295, 296, 297, 298, 317, 318, 319, 320, 323, 341, 353, 366, 368, 369, 370, 371, 372, 380, 382].map (fun i => lw_tbl[i]?) = wz_all_2.map some := by rfl
set_option maxRecDepth 100000 in
set_option maxHeartbeats 4000000 in
theorem wl_p_3 : [388, 389, 390, 391, 392, 393, 394, 395, 396, 398, 399, 400, 401, 402, 403, 404, 406, 407, 408, 410, 411, 412, 413, 414, 415, 416, 417, 418, 419, 420, 421, 422, 423, 424, 426, 427, 428, 429, 431, 432, 433, 434, 435, 437, 438, 439, 440, 442, 443, 444, 445, 446, 447, 448, 449, 450, 452, 453, 454, 455, 457, 458, 459, 460, 461, 462, 464, 465, 466, 467, 468, 469, 470, 471, 472, 473, 474, 475, 476, 477, 478, 480, 481, 482, 483, 484, 485, 486, 487, 488, 489, 490, 491, 492, 493, 494, 495, 496, 497, 498].map (fun i => lw_tbl[i]?) = wz_all_3.map some := by rfl
set_option maxRecDepth 100000 in
set_option maxHeartbeats 4000000 in
theorem wl_p_4 : [499, 500, 502, 503, 504, 505, 507, 508, 510, 511, 512, 513, 514, 515, 516, 517, 518, 520, 521, 522, 523, 524, 525, 526, 527, 528, 530, 531, 532, 533, 534, 535, 536, 537, 539, 541, 542, 543, 545, 546, 547, 549, 550, 551, 553, 554, 555, 557, 558, 559, 560, 561, 563, 564, 565, 567, 568, 569, 570, 571, 572, 573, 574, 575, 576, 577, 578, 579, 580, 581, 582, 583, 584, 585, 586, 587, 588, 596, 598, 604, 605, 606, 608, 609, 610, 611, 612, 613, 621, 623, 629, 630, 631, 632, 633, 634, 635, 636, 637, 638].map (fun i => lw_tbl[i]?) = wz_all_4.map some := by rfl
set_option maxRecDepth 100000 in
set_option maxHeartbeats 4000000 in
theorem wl_p_5 : [639, 640, 641, 642, 643, 644, 645, 646, 647, 648, 649, 650, 651, 652, 653, 654, 655, 656, 657, 658, 659, 660, 661, 662, 663, 664, 665, 666, 667, 668, 669, 670, 671, 672, 673, 674, 675, 676, 677, 678, 679, 680, 681, 682, 683, 684, 685, 686, 687, 688, 689, 690, 691, 692, 693, 694, 695, 696, 697, 698, 699, 700, 701, 702, 703, 704, 705, 707, 708, 709, 710, 711, 712, 713, 715, 716, 717, 719, 720, 721, 722, 723, 724, 725, 727, 728, 729, 731, 732, 733, 734, 735, 736, 737, 739, 740, 741, 742, 743, 744].map (fun i => lw_tbl[i]?) = wz_all_5.map some := by rfl
set_option maxRecDepth 100000 in
set_option maxHeartbeats 4000000 in
theorem wl_p_6 : [745, 746, 747, 748, 749, 751, 752, 753, 755, 756, 757, 758, 760, 761, 762, 764, 765, 766, 768, 769, 770, 772, 773, 774, 776, 777, 778, 780, 781, 782, 784, 785, 786, 788, 789, 790, 791, 792, 793, 794, 795, 796, 797, 798, 800, 801, 802, 804, 805, 806, 808, 809, 810, 812, 813, 814, 816, 817, 818, 819, 820, 821, 822, 823, 824, 825].map (fun i => lw_tbl[i]?) = wz_all_6.map some := by rfl
theorem wl_in {w : Cond} (h : w ∈ wz_all) : w ∈ lw_tbl := by
  unfold wz_all at h
  simp only [List.mem_append] at h
  rcases h with h | h | h | h | h | h | h
  · exact wl_mp _ wl_p_0 h
  · exact wl_mp _ wl_p_1 h
  · exact wl_mp _ wl_p_2 h
  · exact wl_mp _ wl_p_3 h
  · exact wl_mp _ wl_p_4 h
  · exact wl_mp _ wl_p_5 h
  · exact wl_mp _ wl_p_6 h
set_option maxRecDepth 100000 in
theorem wl_inx : ∀ w ∈ wx_all, w ∈ lw_tbl := by decide +kernel
theorem wl_gW {c1 : Cond} (h : c1 ∈ lw_tbl ∧ (c1.onTables && c1.keeps) = true) : GoodIn lw_tbl (c1 :: (wz_all ++ wx_all)) := fun w hw => by
  rcases List.mem_cons.mp hw with e | q
  · subst e; exact ⟨h.1, Or.inl h.2⟩
  · rcases List.mem_append.mp q with q | q
    · exact ⟨wl_in q, wz_good q⟩
    · exact ⟨wl_inx w q, Or.inl (wx_allgood q)⟩
set_option maxRecDepth 100000 in
theorem wl_h_La_move : Cond.codeWith yLa_move cLa_move 8 (some .int) [(0, 16, 19, 13), (0, 16, 23, 15)] ∈ lw_tbl ∧ ((Cond.codeWith yLa_move cLa_move 8 (some .int) [(0, 16, 19, 13), (0, 16, 23, 15)]).onTables && (Cond.codeWith yLa_move cLa_move 8 (some .int) [(0, 16, 19, 13), (0, 16, 23, 15)]).keeps) = true := ⟨by decide +kernel, rfl⟩
set_option maxRecDepth 100000 in
theorem wl_h_La_followers : Cond.codeWith yLa_followers cLa_followers 4 (some .int) [(0, 8, 11, 13)] ∈ lw_tbl ∧ ((Cond.codeWith yLa_followers cLa_followers 4 (some .int) [(0, 8, 11, 13)]).onTables && (Cond.codeWith yLa_followers cLa_followers 4 (some .int) [(0, 8, 11, 13)]).keeps) = true := ⟨by decide +kernel, rfl⟩
set_option maxRecDepth 100000 in
theorem wl_h_La_formula : Cond.codeWith yLa_formula cLa_formula 6 (some .int) [(0, 12, 15, 13), (0, 12, 19, 15)] ∈ lw_tbl ∧ ((Cond.codeWith yLa_formula cLa_formula 6 (some .int) [(0, 12, 15, 13), (0, 12, 19, 15)]).onTables && (Cond.codeWith yLa_formula cLa_formula 6 (some .int) [(0, 12, 15, 13), (0, 12, 19, 15)]).keeps) = true := ⟨by decide +kernel, rfl⟩
set_option maxRecDepth 100000 in
theorem wl_h_La_fair : Cond.codeWith yLa_fair cLa_fair 4 (some .int) [(0, 9, 12, 13), (0, 9, 15, 15)] ∈ lw_tbl ∧ ((Cond.codeWith yLa_fair cLa_fair 4 (some .int) [(0, 9, 12, 13), (0, 9, 15, 15)]).onTables && (Cond.codeWith yLa_fair cLa_fair 4 (some .int) [(0, 9, 12, 13), (0, 9, 15, 15)]).keeps) = true := ⟨by decide +kernel, rfl⟩
set_option maxRecDepth 100000 in
theorem wl_h_La_states : Cond.codeWith yLa_states cLa_states 4 (some .int) [(0, 8, 11, 13)] ∈ lw_tbl ∧ ((Cond.codeWith yLa_states cLa_states 4 (some .int) [(0, 8, 11, 13)]).onTables && (Cond.codeWith yLa_states cLa_states 4 (some .int) [(0, 8, 11, 13)]).keeps) = true := ⟨by decide +kernel, rfl⟩
set_option maxRecDepth 100000 in
theorem wl_h_La_show : Cond.codeWith yLa_show cLa_show 5 (some .int) [(0, 10, 13, 13), (0, 10, 17, 15), (0, 10, 21, 36)] ∈ lw_tbl ∧ ((Cond.codeWith yLa_show cLa_show 5 (some .int) [(0, 10, 13, 13), (0, 10, 17, 15), (0, 10, 21, 36)]).onTables && (Cond.codeWith yLa_show cLa_show 5 (some .int) [(0, 10, 13, 13), (0, 10, 17, 15), (0, 10, 21, 36)]).keeps) = true := ⟨by decide +kernel, rfl⟩
set_option maxRecDepth 100000 in
theorem wl_h_La_shown : Cond.codeWith yLa_shown cLa_shown 4 (some .int) [(0, 9, 12, 41)] ∈ lw_tbl ∧ ((Cond.codeWith yLa_shown cLa_shown 4 (some .int) [(0, 9, 12, 41)]).onTables && (Cond.codeWith yLa_shown cLa_shown 4 (some .int) [(0, 9, 12, 41)]).keeps) = true := ⟨by decide +kernel, rfl⟩
/-- what holds all along the law -/
def wl_C (p : Program) (l : Launch) (s : State) (m : MethodId) (meth : Method) (c : Code) (b L : Nat) (xs : Nat → Int32) (A : Nat → Prop) (dC : Nat → ClassId) (dI : Nat → Nat → Nat) (cI cJ cZ : ClassId) (tv : Nat) : Prop :=
  p.tables.exec = Jvm.exec ∧ c.code = code ∧ c.maxLocals = 8 ∧ s.vm.findClass RLa = some m.cls ∧ (∀ w ∈ lw_tbl, w.before #[Value.ref b] s = true) ∧ va_X b L xs s s.heap ∧ b < s.heap.size ∧ ¬ A b ∧ (∀ q, s.heap.size ≤ q → A q) ∧ meth.locks = false ∧ va_K (dC, dI) vwCl (wz_T cI cJ cZ) s ∧ wz_N s ∧ wz_Z tv A s s.heap ∧ wx_E A s s.heap ∧ wx_T s ∧ L ≤ 3072 ∧ l.stackTraces = false
section WLL
variable {p : Program} {l : Launch} {e : Env} {R : Room} {s : State} {m : MethodId} {args : Array Value} {below : List Frame} {meth : Method} {c : Code} {H : Heap} {locs : List Loc} {cells slots : Nat} {Q : State → Prop}
variable {cc : ByteArray} {pc : Nat} {ls : Array Slot} {rest : List Value} {A : Nat → Prop}
theorem wl_sld (hexec : p.tables.exec = Jvm.exec) (hb : c.code = cc) {b L : Nat} {xs : Nat → Int32} (hX : va_X b L xs s s.heap) (hbl : b < s.heap.size) (hbA : ¬ A b) (hS : va_S A s.heap H locs) (hL : L ≤ 3072) {i : Nat} (hi : i < L) (hdg : decode cc pc = .ok (.iaload, 1))
    (kk : W p l e R s m args below meth c H locs cells slots Q (F0 m (pc + 1) ls (.int (xs i) :: rest))) : W p l e R s m args below meth c H locs cells slots Q (F0 m pc ls (.int (nI i) :: .ref b :: rest)) :=
  va_sld hexec hb hX hbl hbA hS (vp_in_nI hi (by omega)) hdg (by rw [nI_clamp (by omega)]; exact kk)
end WLL
