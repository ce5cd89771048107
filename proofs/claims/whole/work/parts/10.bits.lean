/-! Sets of states: a long, bit s for state s. -/
def ww_m (x : Int64) (i : Nat) : Bool := x.toBitVec.getLsbD i
theorem ww_ext {x y : Int64} (h : ∀ i, i < 64 → ww_m x i = ww_m y i) : x = y := Int64.toBitVec_inj.mp (BitVec.eq_of_getLsbD_eq (fun i hi => h i hi))
theorem ww_or (x y : Int64) (i : Nat) : ww_m (x ||| y) i = (ww_m x i || ww_m y i) := by unfold ww_m; rw [Int64.toBitVec_or, BitVec.getLsbD_or]
theorem ww_and (x y : Int64) (i : Nat) : ww_m (x &&& y) i = (ww_m x i && ww_m y i) := by unfold ww_m; rw [Int64.toBitVec_and, BitVec.getLsbD_and]
theorem ww_xor (x y : Int64) (i : Nat) : ww_m (x ^^^ y) i = (ww_m x i ^^ ww_m y i) := by unfold ww_m; rw [Int64.toBitVec_xor, BitVec.getLsbD_xor]
theorem ww_big {x : Int64} {i : Nat} (h : 64 ≤ i) : ww_m x i = false := BitVec.getLsbD_of_ge _ _ h
theorem ww_z (i : Nat) : ww_m 0 i = false := BitVec.getLsbD_zero
theorem ww_m1 : ∀ i, i < 64 → ww_m (-1) i = true := by decide +kernel
theorem ww_one : ∀ i, i < 64 → ww_m 1 i = decide (i = 0) := by decide +kernel
theorem ww_not (x : Int64) {i : Nat} (hi : i < 64) : ww_m (x ^^^ (-1)) i = !ww_m x i := by rw [ww_xor, ww_m1 i hi]; cases ww_m x i <;> rfl
theorem ww_lt {x : Int64} {i : Nat} (h : ww_m x i = true) : i < 64 := by
  rcases Nat.lt_or_ge i 64 with h1 | h1
  · exact h1
  · rw [ww_big h1] at h; cases h
theorem ww_ne {x : Int64} (h : ¬ x = 0) : ∃ i, i < 64 ∧ ww_m x i = true := by
  apply Classical.byContradiction
  intro hc
  apply h
  apply ww_ext
  intro i hi
  rw [ww_z]
  cases hm : ww_m x i with
  | false => rfl
  | true => exact absurd ⟨i, hi, hm⟩ hc
theorem ww_nz {x : Int64} {i : Nat} (h : ww_m x i = true) : ¬ x = 0 := by
  intro e
  rw [e, ww_z] at h
  cases h
theorem ww_meet {x y : Int64} : ¬ x &&& y = 0 ↔ ∃ i, i < 64 ∧ ww_m x i = true ∧ ww_m y i = true := by
  constructor
  · intro h
    obtain ⟨i, hi, hm⟩ := ww_ne h
    rw [ww_and, Bool.and_eq_true] at hm
    exact ⟨i, hi, hm.1, hm.2⟩
  · intro h
    obtain ⟨i, hi, h1, h2⟩ := h
    exact ww_nz (i := i) (by rw [ww_and, h1, h2]; rfl)
/-- the set of one state -/
def ww_b (k : Nat) : Int64 := Int64.ofNat (2 ^ k)
theorem ww_mb : ∀ k, k < 64 → ∀ i, i < 64 → ww_m (ww_b k) i = decide (i = k) := by decide +kernel
theorem ww_shl1 : ∀ k, k < 64 → (1 : Int64) <<< ((nI k).toInt64 &&& 63) = ww_b k := by decide +kernel
theorem ww_sl : ∀ n, n < 64 → (((nI n).toInt64 &&& 63).toBitVec.smod 64).toNat = n := by decide +kernel
theorem ww_su : ∀ n, n < 64 → (((nI n).toInt64.toUInt64 &&& Int64.toUInt64 63).toBitVec % 64).toNat = n := by decide +kernel
def ww_bit (b : Bool) : Int64 := if b = true then 1 else 0
theorem ww_bit_m (b : Bool) : ∀ i, i < 64 → ww_m (ww_bit b) i = (decide (i = 0) && b) := by
  intro i hi
  unfold ww_bit
  cases b
  · simp [ww_z]
  · simp [ww_one i hi]
theorem ww_bit_ne (b : Bool) : ww_bit b = 0 ↔ b = false := by cases b <;> decide
theorem ww_bit_1 (b : Bool) : ww_bit b = 1 ↔ b = true := by cases b <;> decide
theorem ww_sshr (x : Int64) {k : Nat} (hk : k < 64) : (x >>> ((nI k).toInt64 &&& 63)) &&& 1 = ww_bit (ww_m x k) := by
  apply ww_ext
  intro i hi
  rw [ww_and, ww_bit_m _ i hi, ww_one i hi]
  by_cases h0 : i = 0
  · subst h0
    have h : ww_m (x >>> ((nI k).toInt64 &&& 63)) 0 = ww_m x k := by
      unfold ww_m
      rw [Int64.toBitVec_shiftRight]
      show (x.toBitVec.sshiftRight (((nI k).toInt64 &&& 63).toBitVec.smod 64).toNat).getLsbD 0 = _
      rw [ww_sl k hk, BitVec.getLsbD_sshiftRight]
      simp [hk]
    rw [h]
    simp
  · simp [h0]
theorem ww_ushr (x : Int64) {k : Nat} (hk : k < 64) : (x.toUInt64 >>> ((nI k).toInt64.toUInt64 &&& Int64.toUInt64 63)).toInt64 &&& 1 = ww_bit (ww_m x k) := by
  apply ww_ext
  intro i hi
  rw [ww_and, ww_bit_m _ i hi, ww_one i hi]
  by_cases h0 : i = 0
  · subst h0
    have h : ww_m ((x.toUInt64 >>> ((nI k).toInt64.toUInt64 &&& Int64.toUInt64 63)).toInt64) 0 = ww_m x k := by
      show (x.toUInt64 >>> ((nI k).toInt64.toUInt64 &&& Int64.toUInt64 63)).toBitVec.getLsbD 0 = x.toUInt64.toBitVec.getLsbD k
      rw [UInt64.toBitVec_shiftRight]
      show (x.toUInt64.toBitVec >>> (((nI k).toInt64.toUInt64 &&& Int64.toUInt64 63).toBitVec % 64).toNat).getLsbD 0 = _
      rw [ww_su k hk, BitVec.getLsbD_ushiftRight]
      simp
    rw [h]
    simp
  · simp [h0]
/-- the set of the states below n of a kind -/
def ww_mkn (p : Nat → Bool) : Nat → Int64
  | 0 => 0
  | n + 1 => if p n = true then ww_mkn p n ||| ww_b n else ww_mkn p n
theorem ww_mkn_m (p : Nat → Bool) : ∀ n, n ≤ 64 → ∀ i, i < 64 → ww_m (ww_mkn p n) i = (decide (i < n) && p i) := by
  intro n
  induction n with
  | zero => intro _ i _; simp [ww_mkn, ww_z]
  | succ n ih =>
    intro hn i hi
    have ih := ih (by omega) i hi
    unfold ww_mkn
    by_cases h : p n = true
    · rw [if_pos h, ww_or, ih, ww_mb n (by omega) i hi]
      rcases Nat.lt_trichotomy i n with e | e | e
      · simp [e, Nat.lt_succ_of_lt e, Nat.ne_of_lt e]
      · subst e; simp [h]
      · have h1 : ¬ i < n := by omega
        have h2 : ¬ i < n + 1 := by omega
        have h3 : ¬ i = n := by omega
        simp [h1, h2, h3]
    · rw [if_neg h, ih]
      rcases Nat.lt_trichotomy i n with e | e | e
      · simp [e, Nat.lt_succ_of_lt e]
      · subst e; simp [h]
      · have h1 : ¬ i < n := by omega
        have h2 : ¬ i < n + 1 := by omega
        simp [h1, h2]
def ww_mk (p : Nat → Bool) : Int64 := ww_mkn p 64
theorem ww_mk_m (p : Nat → Bool) {i : Nat} (hi : i < 64) : ww_m (ww_mk p) i = p i := by
  unfold ww_mk
  rw [ww_mkn_m p 64 (Nat.le_refl _) i hi]
  simp [hi]
theorem ww_mkn_congr {p q : Nat → Bool} : ∀ {n : Nat}, (∀ i, i < n → p i = q i) → ww_mkn p n = ww_mkn q n := by
  intro n
  induction n with
  | zero => intro _; rfl
  | succ n ih =>
    intro h
    unfold ww_mkn
    rw [ih (fun i hi => h i (by omega)), h n (by omega)]
theorem ww_mk_congr {p q : Nat → Bool} (h : ∀ i, i < 64 → p i = q i) : ww_mk p = ww_mk q := ww_mkn_congr h
/-- how many -/
def ww_c (p : Nat → Bool) : Nat → Nat
  | 0 => 0
  | n + 1 => ww_c p n + (if p n = true then 1 else 0)
theorem ww_c_le (p : Nat → Bool) : ∀ n, ww_c p n ≤ n := by
  intro n
  induction n with
  | zero => exact Nat.le_refl _
  | succ n ih => unfold ww_c; split <;> omega
theorem ww_c_mono {p q : Nat → Bool} (h : ∀ i, p i = true → q i = true) : ∀ n, ww_c p n ≤ ww_c q n := by
  intro n
  induction n with
  | zero => exact Nat.le_refl _
  | succ n ih =>
    unfold ww_c
    by_cases hp : p n = true
    · rw [if_pos hp, if_pos (h n hp)]; omega
    · rw [if_neg hp]; split <;> omega
theorem ww_c_lt {p q : Nat → Bool} (h : ∀ i, p i = true → q i = true) {k : Nat} (hp : p k = false) (hq : q k = true) : ∀ n, k < n → ww_c p n < ww_c q n := by
  intro n
  induction n with
  | zero => intro hk; omega
  | succ n ih =>
    intro hk
    unfold ww_c
    by_cases e : k = n
    · subst e
      have h1 := ww_c_mono h k
      rw [if_neg (by rw [hp]; decide), if_pos hq]
      omega
    · have h1 := ih (by omega)
      by_cases hpn : p n = true
      · rw [if_pos hpn, if_pos (h n hpn)]; omega
      · rw [if_neg hpn]; split <;> omega
def ww_cn (x : Int64) : Nat := ww_c (ww_m x) 64
theorem ww_cn_le (x : Int64) : ww_cn x ≤ 64 := ww_c_le _ _
def ww_sub (x y : Int64) : Prop := ∀ i, ww_m x i = true → ww_m y i = true
theorem ww_sub.rf (x : Int64) : ww_sub x x := fun _ h => h
theorem ww_sub.tr {x y z : Int64} (h : ww_sub x y) (h2 : ww_sub y z) : ww_sub x z := fun i hi => h2 i (h i hi)
theorem ww_sub.eq {x y : Int64} (h : ww_sub x y) (h2 : ww_sub y x) : x = y := ww_ext (fun i _ => by
  cases h1 : ww_m x i with
  | true => exact (h i h1).symm
  | false => cases h3 : ww_m y i with
    | false => rfl
    | true => rw [h2 i h3] at h1; cases h1)
theorem ww_sub_lt {x y : Int64} (h : ww_sub x y) (hne : ¬ x = y) : ww_cn x < ww_cn y := by
  have : ∃ k, k < 64 ∧ ww_m x k = false ∧ ww_m y k = true := by
    apply Classical.byContradiction
    intro hc
    apply hne
    apply ww_ext
    intro i hi
    cases h1 : ww_m x i with
    | true => exact (h i h1).symm
    | false => cases h3 : ww_m y i with
      | false => rfl
      | true => exact absurd ⟨i, hi, h1, h3⟩ hc
  obtain ⟨k, hk, h1, h2⟩ := this
  exact ww_c_lt h h1 h2 64 hk
theorem ww_cn_mono {x y : Int64} (h : ww_sub x y) : ww_cn x ≤ ww_cn y := ww_c_mono h 64
theorem ww_sub_or (x y : Int64) : ww_sub x (x ||| y) := fun i h => by rw [ww_or, h]; rfl
theorem ww_sub_or2 (x y : Int64) : ww_sub y (x ||| y) := fun i h => by rw [ww_or, h, Bool.or_true]
theorem ww_sub_and (x y : Int64) : ww_sub (x &&& y) x := fun i h => by rw [ww_and, Bool.and_eq_true] at h; exact h.1
theorem ww_sub_and2 (x y : Int64) : ww_sub (x &&& y) y := fun i h => by rw [ww_and, Bool.and_eq_true] at h; exact h.2
theorem ww_or_iff {x y : Int64} {i : Nat} : ww_m (x ||| y) i = true ↔ ww_m x i = true ∨ ww_m y i = true := by rw [ww_or, Bool.or_eq_true]
theorem ww_and_iff {x y : Int64} {i : Nat} : ww_m (x &&& y) i = true ↔ ww_m x i = true ∧ ww_m y i = true := by rw [ww_and, Bool.and_eq_true]
/-- a function again and again -/
def ww_it (f : Int64 → Int64) : Nat → Int64 → Int64
  | 0, x => x
  | n + 1, x => f (ww_it f n x)
theorem ww_it_fix {f : Int64 → Int64} {x : Int64} {n : Nat} (h : f (ww_it f n x) = ww_it f n x) : ∀ k, ww_it f (n + k) x = ww_it f n x := by
  intro k
  induction k with
  | zero => rfl
  | succ k ih =>
    show f (ww_it f (n + k) x) = _
    rw [ih, h]
theorem ww_it_up {f : Int64 → Int64} (hf : ∀ x, ww_sub x (f x)) (x : Int64) : ∀ n, f (ww_it f n x) = ww_it f n x ∨ n < ww_cn (ww_it f (n + 1) x) := by
  intro n
  induction n with
  | zero =>
    by_cases h : f x = x
    · exact Or.inl h
    · refine Or.inr ?_
      have := ww_sub_lt (hf x) (fun e => h e.symm)
      show 0 < ww_cn (f x)
      omega
  | succ n ih =>
    by_cases h : f (ww_it f (n + 1) x) = ww_it f (n + 1) x
    · exact Or.inl h
    · refine Or.inr ?_
      have h1 := ww_sub_lt (hf (ww_it f (n + 1) x)) (fun e => h e.symm)
      show n + 1 < ww_cn (f (ww_it f (n + 1) x))
      rcases ih with e | e
      · exfalso
        apply h
        show f (f (ww_it f n x)) = f (ww_it f n x)
        rw [e]
        exact e
      · omega
theorem ww_it_up64 {f : Int64 → Int64} (hf : ∀ x, ww_sub x (f x)) (x : Int64) : f (ww_it f 64 x) = ww_it f 64 x := by
  rcases ww_it_up hf x 64 with h | h
  · exact h
  · have := ww_cn_le (ww_it f (64 + 1) x)
    omega
theorem ww_it_dn {f : Int64 → Int64} (hf : ∀ x, ww_sub (f x) x) (x : Int64) : ∀ n, f (ww_it f n x) = ww_it f n x ∨ ww_cn (ww_it f (n + 1) x) + n < 64 := by
  intro n
  induction n with
  | zero =>
    by_cases h : f x = x
    · exact Or.inl h
    · refine Or.inr ?_
      have := ww_sub_lt (hf x) h
      have h2 := ww_cn_le x
      show ww_cn (f x) + 0 < 64
      omega
  | succ n ih =>
    by_cases h : f (ww_it f (n + 1) x) = ww_it f (n + 1) x
    · exact Or.inl h
    · refine Or.inr ?_
      have h1 := ww_sub_lt (hf (ww_it f (n + 1) x)) h
      show ww_cn (f (ww_it f (n + 1) x)) + (n + 1) < 64
      rcases ih with e | e
      · exfalso
        apply h
        show f (f (ww_it f n x)) = f (ww_it f n x)
        rw [e]
        exact e
      · omega
theorem ww_it_dn64 {f : Int64 → Int64} (hf : ∀ x, ww_sub (f x) x) (x : Int64) : f (ww_it f 64 x) = ww_it f 64 x := by
  rcases ww_it_dn hf x 64 with h | h
  · exact h
  · omega
