/-! How many zeros stand behind the last one of an int, of a long. -/
def ww_n32 (x : Int32) : Nat := if x = 0 then 32 else ww_ls x.toInt64
def ww_n64 (x : Int64) : Nat := if x = 0 then 64 else ww_ls x
theorem ww_ext32 {x y : Int32} (h : ∀ i, i < 32 → x.toBitVec.getLsbD i = y.toBitVec.getLsbD i) : x = y := Int32.toBitVec_inj.mp (BitVec.eq_of_getLsbD_eq (fun i hi => h i hi))
theorem ww_x64 (x : Int32) {i : Nat} (hi : i < 32) : ww_m x.toInt64 i = x.toBitVec.getLsbD i := by
  unfold ww_m
  rw [Int32.toBitVec_toInt64, BitVec.getLsbD_signExtend]
  simp [hi]
  omega
theorem ww_n32_ok {x : Int32} (h : ¬ x = 0) : ww_n32 x < 32 ∧ x.toBitVec.getLsbD (ww_n32 x) = true ∧ ∀ j, j < ww_n32 x → x.toBitVec.getLsbD j = false := by
  have hex : ∃ i, i < 32 ∧ x.toBitVec.getLsbD i = true := by
    apply Classical.byContradiction
    intro hc
    apply h
    apply ww_ext32
    intro i hi
    cases hm : x.toBitVec.getLsbD i with
    | false => exact BitVec.getLsbD_zero.symm
    | true => exact absurd ⟨i, hi, hm⟩ hc
  obtain ⟨i, hi, hm⟩ := hex
  have h0 : ww_m x.toInt64 i = true := by rw [ww_x64 x hi]; exact hm
  obtain ⟨h1, h2⟩ := ww_ls_ok (ww_nz h0)
  have hle : ww_ls x.toInt64 ≤ i := by
    apply Classical.byContradiction
    intro hc
    rw [h2 i (by omega)] at h0
    cases h0
  unfold ww_n32
  rw [if_neg h]
  have hl : ww_ls x.toInt64 < 32 := by omega
  refine ⟨hl, by rw [← ww_x64 x hl]; exact h1, fun j hj => ?_⟩
  rw [← ww_x64 x (by omega)]
  exact h2 j hj
theorem ww_n32_uniq {x : Int32} {k : Nat} (hk : k < 32) (h : x.toBitVec.getLsbD k = true) (h2 : ∀ j, j < k → x.toBitVec.getLsbD j = false) : ww_n32 x = k := by
  have hx : ¬ x = 0 := by
    intro e
    rw [e] at h
    rw [show (0 : Int32).toBitVec.getLsbD k = false from BitVec.getLsbD_zero] at h
    cases h
  obtain ⟨q1, q2, q3⟩ := ww_n32_ok hx
  rcases Nat.lt_trichotomy (ww_n32 x) k with e | e | e
  · rw [h2 _ e] at q2; cases q2
  · exact e
  · rw [q3 k e] at h; cases h
theorem ww_ones {x : Int32} (h : ¬ x = 0) : (x ^^^ (-1)) &&& (x - 1) = nI (2 ^ ww_n32 x - 1) := by
  obtain ⟨q1, q2, q3⟩ := ww_n32_ok h
  have e1 : (x - 1).toBitVec.toNat = x.toBitVec.toNat - 1 := by
    rw [Int32.toBitVec_sub, BitVec.toNat_sub]
    have h1 : (1 : Int32).toBitVec.toNat = 1 := by decide
    have h3 : x.toBitVec.toNat < 2 ^ 32 := x.toBitVec.isLt
    have h4 : x.toBitVec.toNat ≠ 0 := by
      intro q
      apply h
      apply Int32.toBitVec_inj.mp
      apply BitVec.eq_of_toNat_eq
      rw [q]
      rfl
    rw [h1]
    omega
  apply ww_ext32
  intro i hi
  have hm1 : ∀ i, i < 32 → (-1 : Int32).toBitVec.getLsbD i = true := by decide +kernel
  rw [Int32.toBitVec_and, BitVec.getLsbD_and, Int32.toBitVec_xor, BitVec.getLsbD_xor, hm1 i hi]
  have e2 : (x - 1).toBitVec.getLsbD i = if i < ww_n32 x then true else if i = ww_n32 x then false else x.toBitVec.getLsbD i := by
    show (x - 1).toBitVec.toNat.testBit i = _
    rw [e1]
    exact ww_low_sub q2 q3 i
  have e3 : (nI (2 ^ ww_n32 x - 1)).toBitVec.getLsbD i = decide (i < ww_n32 x) := by
    show (BitVec.ofNat 32 (2 ^ ww_n32 x - 1)).getLsbD i = _
    rw [BitVec.getLsbD_ofNat, Nat.testBit_two_pow_sub_one]
    simp [hi]
  rw [e2, e3]
  by_cases r1 : i < ww_n32 x
  · rw [if_pos r1, q3 i r1]; simp [r1]
  · rw [if_neg r1]
    by_cases r2 : i = ww_n32 x
    · rw [if_pos r2]; simp [r1]
    · rw [if_neg r2]
      cases x.toBitVec.getLsbD i <;> simp [r1]
theorem ww_lo32 (x : Int64) {i : Nat} (hi : i < 32) : x.toInt32.toBitVec.getLsbD i = ww_m x i := by
  unfold ww_m
  rw [Int64.toBitVec_toInt32, BitVec.getLsbD_signExtend]
  simp [hi]
  omega
theorem ww_hi32 (x : Int64) {i : Nat} (hi : i < 32) : ((x.toUInt64 >>> ((32 : Int32).toInt64.toUInt64 &&& Int64.toUInt64 63)).toInt64.toInt32).toBitVec.getLsbD i = ww_m x (32 + i) := by
  rw [ww_lo32 _ hi]
  show (x.toUInt64 >>> ((32 : Int32).toInt64.toUInt64 &&& Int64.toUInt64 63)).toBitVec.getLsbD i = x.toUInt64.toBitVec.getLsbD (32 + i)
  rw [UInt64.toBitVec_shiftRight]
  show (x.toUInt64.toBitVec >>> (((32 : Int32).toInt64.toUInt64 &&& Int64.toUInt64 63).toBitVec % 64).toNat).getLsbD i = _
  rw [show (((32 : Int32).toInt64.toUInt64 &&& Int64.toUInt64 63).toBitVec % 64).toNat = 32 by decide, BitVec.getLsbD_ushiftRight]
theorem ww_lo_0 {x : Int64} (h : x.toInt32 = 0) : ∀ i, i < 32 → ww_m x i = false := by
  intro i hi
  rw [← ww_lo32 x hi, h]
  exact BitVec.getLsbD_zero
theorem ww_n64_lo {x : Int64} (h : ¬ x.toInt32 = 0) : ww_n32 x.toInt32 = ww_n64 x := by
  obtain ⟨q1, q2, q3⟩ := ww_n32_ok h
  rw [ww_lo32 x q1] at q2
  have hx := ww_nz q2
  unfold ww_n64
  rw [if_neg hx]
  exact (ww_ls_uniq q2 (fun j hj => by rw [← ww_lo32 x (by omega)]; exact q3 j hj)).symm
theorem ww_n64_hi {x : Int64} (h : x.toInt32 = 0) : 32 + ww_n32 ((x.toUInt64 >>> ((32 : Int32).toInt64.toUInt64 &&& Int64.toUInt64 63)).toInt64.toInt32) = ww_n64 x := by
  have h0 := ww_lo_0 h
  generalize hy : (x.toUInt64 >>> ((32 : Int32).toInt64.toUInt64 &&& Int64.toUInt64 63)).toInt64.toInt32 = y
  have hyb : ∀ i, i < 32 → y.toBitVec.getLsbD i = ww_m x (32 + i) := fun i hi => by rw [← hy]; exact ww_hi32 x hi
  by_cases hy0 : y = 0
  · have hx : x = 0 := by
      apply ww_ext
      intro i hi
      rw [ww_z]
      by_cases q : i < 32
      · exact h0 i q
      · have := hyb (i - 32) (by omega)
        rw [hy0, show (0 : Int32).toBitVec.getLsbD (i - 32) = false from BitVec.getLsbD_zero, show 32 + (i - 32) = i by omega] at this
        exact this.symm
    unfold ww_n64 ww_n32
    rw [if_pos hx, if_pos hy0]
  · obtain ⟨q1, q2, q3⟩ := ww_n32_ok hy0
    rw [hyb _ q1] at q2
    have hx := ww_nz q2
    have e : ww_n64 x = ww_ls x := by unfold ww_n64; rw [if_neg hx]
    rw [e]
    refine (ww_ls_uniq q2 (fun j hj => ?_)).symm
    by_cases q : j < 32
    · exact h0 j q
    · have := q3 (j - 32) (by omega)
      rw [hyb _ (by omega), show 32 + (j - 32) = j by omega] at this
      exact this
theorem ww_least (x : Int64) : nI (ww_n64 x) &&& nI 63 = nI (ww_ls x) := by
  have key : ∀ k, k < 64 → nI k &&& nI 63 = nI k := by decide +kernel
  unfold ww_n64
  by_cases h : x = 0
  · rw [if_pos h, h, ww_ls_0]; decide
  · rw [if_neg h]; exact key _ (ww_ls_lt x)
