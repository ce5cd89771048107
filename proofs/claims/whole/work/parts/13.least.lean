/-! The least state of a set; a set without it; what leads into a set, member by member. -/
theorem ww_beq {a b : Bool} (h : a = true ↔ b = true) : a = b := by
  cases a <;> cases b
  · rfl
  · exact absurd (h.mpr rfl) (by decide)
  · exact absurd (h.mp rfl) (by decide)
  · rfl
def ww_lsf (x : Int64) : Nat → Nat → Nat
  | 0, _ => 0
  | f + 1, k => if ww_m x k = true then k else ww_lsf x f (k + 1)
def ww_ls (x : Int64) : Nat := ww_lsf x 64 0
theorem ww_lsf_ok {x : Int64} : ∀ f k, (∃ i, k ≤ i ∧ i < k + f ∧ ww_m x i = true) → ww_m x (ww_lsf x f k) = true ∧ k ≤ ww_lsf x f k ∧ ∀ j, k ≤ j → j < ww_lsf x f k → ww_m x j = false := by
  intro f
  induction f with
  | zero => rintro k ⟨i, h1, h2, -⟩; omega
  | succ f ih =>
    rintro k ⟨i, h1, h2, h3⟩
    unfold ww_lsf
    by_cases h : ww_m x k = true
    · rw [if_pos h]
      exact ⟨h, Nat.le_refl _, fun j h4 h5 => by omega⟩
    · rw [if_neg h]
      have hne : i ≠ k := fun e => h (by rw [← e]; exact h3)
      obtain ⟨q1, q2, q3⟩ := ih (k + 1) ⟨i, by omega, by omega, h3⟩
      refine ⟨q1, by omega, fun j h4 h5 => ?_⟩
      by_cases e : j = k
      · rw [e]
        cases hm : ww_m x k with
        | false => rfl
        | true => exact absurd hm h
      · exact q3 j (by omega) h5
theorem ww_ls_ok {x : Int64} (h : ¬ x = 0) : ww_m x (ww_ls x) = true ∧ ∀ j, j < ww_ls x → ww_m x j = false := by
  obtain ⟨i, h1, h2⟩ := ww_ne h
  obtain ⟨q1, -, q3⟩ := ww_lsf_ok (x := x) 64 0 ⟨i, by omega, by omega, h2⟩
  exact ⟨q1, fun j hj => q3 j (by omega) hj⟩
theorem ww_ls_uniq {x : Int64} {k : Nat} (h : ww_m x k = true) (h2 : ∀ j, j < k → ww_m x j = false) : ww_ls x = k := by
  obtain ⟨q1, q2⟩ := ww_ls_ok (ww_nz h)
  rcases Nat.lt_trichotomy (ww_ls x) k with e | e | e
  · rw [h2 _ e] at q1; cases q1
  · exact e
  · rw [q2 k e] at h; cases h
theorem ww_ls_0 : ww_ls 0 = 0 := by decide +kernel
theorem ww_ls_lt (x : Int64) : ww_ls x < 64 := by
  by_cases h : x = 0
  · rw [h, ww_ls_0]; decide
  · exact ww_lt (ww_ls_ok h).1
theorem ww_nm (x : Int64) (i : Nat) : ww_m x i = x.toBitVec.toNat.testBit i := rfl
theorem ww_low_nat {n l : Nat} (h : n.testBit l = true) (h2 : ∀ j, j < l → n.testBit j = false) : n = 2 ^ (l + 1) * (n / 2 ^ (l + 1)) + 2 ^ l := by
  have h3 : n % 2 ^ (l + 1) = 2 ^ l := by
    apply Nat.eq_of_testBit_eq
    intro i
    rw [Nat.testBit_mod_two_pow, Nat.testBit_two_pow]
    rcases Nat.lt_trichotomy i l with e | e | e
    · rw [h2 i e]; simp; omega
    · subst e; simp [h]
    · have q1 : ¬ i < l + 1 := by omega
      have q2 : ¬ l = i := by omega
      simp [q1, q2]
  have h4 := Nat.div_add_mod n (2 ^ (l + 1))
  omega
theorem ww_low_sub {n l : Nat} (h : n.testBit l = true) (h2 : ∀ j, j < l → n.testBit j = false) (i : Nat) : (n - 1).testBit i = if i < l then true else if i = l then false else n.testBit i := by
  have e := ww_low_nat h h2
  have hp : 0 < 2 ^ l := Nat.two_pow_pos l
  have hs : 2 ^ (l + 1) = 2 ^ l + 2 ^ l := by rw [Nat.pow_succ]; omega
  have e1 : n - 1 = 2 ^ (l + 1) * (n / 2 ^ (l + 1)) + (2 ^ l - 1) := by omega
  have b1 : 2 ^ l - 1 < 2 ^ (l + 1) := by omega
  have b2 : 2 ^ l < 2 ^ (l + 1) := by omega
  rw [e1, Nat.testBit_two_pow_mul_add _ b1]
  by_cases q1 : i < l
  · rw [if_pos (by omega), if_pos q1, Nat.testBit_two_pow_sub_one]; simp [q1]
  · rw [if_neg q1]
    by_cases q2 : i = l
    · rw [if_pos (by omega), if_pos q2, Nat.testBit_two_pow_sub_one]; simp [q1]
    · rw [if_neg (by omega), if_neg q2]
      have e2 := Nat.testBit_two_pow_mul_add (n / 2 ^ (l + 1)) b2 i
      rw [← e, if_neg (by omega)] at e2
      exact e2.symm
theorem ww_m_sub1 {x : Int64} (h : ¬ x = 0) : ∀ i, ww_m (x - 1) i = if i < ww_ls x then true else if i = ww_ls x then false else ww_m x i := by
  intro i
  obtain ⟨h1, h2⟩ := ww_ls_ok h
  rw [ww_nm, ww_nm] at *
  have e : (x - 1).toBitVec.toNat = x.toBitVec.toNat - 1 := by
    rw [Int64.toBitVec_sub, BitVec.toNat_sub]
    have h1 : (1 : Int64).toBitVec.toNat = 1 := by decide
    have h3 : x.toBitVec.toNat < 2 ^ 64 := x.toBitVec.isLt
    have h4 : x.toBitVec.toNat ≠ 0 := by
      intro q
      apply h
      apply Int64.toBitVec_inj.mp
      apply BitVec.eq_of_toNat_eq
      rw [q]
      rfl
    rw [h1]
    omega
  rw [e]
  exact ww_low_sub h1 (fun j hj => by have := h2 j hj; rw [ww_nm] at this; exact this) i
theorem ww_drop {x : Int64} (h : ¬ x = 0) : ∀ i, ww_m (x &&& (x - 1)) i = (ww_m x i && !decide (i = ww_ls x)) := by
  intro i
  obtain ⟨h1, h2⟩ := ww_ls_ok h
  rw [ww_and, ww_m_sub1 h]
  by_cases q1 : i < ww_ls x
  · rw [h2 i q1]; simp
  · rw [if_neg q1]
    by_cases q2 : i = ww_ls x
    · rw [if_pos q2]; simp [q2]
    · rw [if_neg q2]; simp [q2]
/-- so holds, for each state, the states that it follows -/
def ww_So (nx so : Nat → Int64) : Prop := ∀ s, s < 64 → ∀ t, t < 64 → (ww_m (so t) s = ww_m (nx s) t)
/-- going through a set, the least member first: what is found so far, what is left -/
def ww_gi (so : Nat → Int64) : Nat → Int64 → Int64 × Int64
  | 0, x => (0, x)
  | n + 1, x => if (ww_gi so n x).2 = 0 then ww_gi so n x else ((ww_gi so n x).1 ||| so (ww_ls (ww_gi so n x).2), (ww_gi so n x).2 &&& ((ww_gi so n x).2 - 1))
theorem ww_gi_inv {nx so : Nat → Int64} (hS : ww_So nx so) (x : Int64) : ∀ n, (∀ i, i < n → ww_m (ww_gi so n x).2 i = false) ∧ ∀ s, s < 64 → ((ww_m (ww_gi so n x).1 s = true ∨ ∃ t, t < 64 ∧ ww_m (nx s) t = true ∧ ww_m (ww_gi so n x).2 t = true) ↔ ∃ t, t < 64 ∧ ww_m (nx s) t = true ∧ ww_m x t = true) := by
  intro n
  induction n with
  | zero =>
    refine ⟨fun i hi => by omega, fun s hs => ?_⟩
    show (ww_m 0 s = true ∨ _) ↔ _
    rw [ww_z]
    simp [ww_gi]
  | succ n ih =>
    obtain ⟨h1, h2⟩ := ih
    unfold ww_gi
    by_cases h : (ww_gi so n x).2 = 0
    · rw [if_pos h]
      exact ⟨fun i _ => by rw [h, ww_z], h2⟩
    · rw [if_neg h]
      obtain ⟨q1, q2⟩ := ww_ls_ok h
      have hl := ww_ls_lt (ww_gi so n x).2
      have hge : n ≤ ww_ls (ww_gi so n x).2 := by
        apply Classical.byContradiction
        intro hc
        rw [h1 _ (by omega)] at q1
        cases q1
      refine ⟨fun i hi => ?_, fun s hs => ?_⟩
      · show ww_m ((ww_gi so n x).2 &&& ((ww_gi so n x).2 - 1)) i = false
        rw [ww_drop h]
        by_cases e : i = ww_ls (ww_gi so n x).2
        · simp [e]
        · rw [q2 i (by omega)]; rfl
      · rw [← h2 s hs]
        show (ww_m ((ww_gi so n x).1 ||| so (ww_ls (ww_gi so n x).2)) s = true ∨ ∃ t, t < 64 ∧ ww_m (nx s) t = true ∧ ww_m ((ww_gi so n x).2 &&& ((ww_gi so n x).2 - 1)) t = true) ↔ _
        rw [ww_or_iff, hS s hs _ hl]
        constructor
        · rintro ((r | r) | ⟨t, r1, r2, r3⟩)
          · exact Or.inl r
          · exact Or.inr ⟨_, hl, r, q1⟩
          · rw [ww_drop h, Bool.and_eq_true] at r3
            exact Or.inr ⟨t, r1, r2, r3.1⟩
        · rintro (r | ⟨t, r1, r2, r3⟩)
          · exact Or.inl (Or.inl r)
          · by_cases e : t = ww_ls (ww_gi so n x).2
            · rw [e] at r2; exact Or.inl (Or.inr r2)
            · refine Or.inr ⟨t, r1, r2, ?_⟩
              rw [ww_drop h, r3]
              simp [e]
theorem ww_gi_end {nx so : Nat → Int64} (hS : ww_So nx so) (x : Int64) {n : Nat} (h : n = 64 ∨ (ww_gi so n x).2 = 0) : (ww_gi so n x).1 = ww_bf nx x := by
  obtain ⟨h1, h2⟩ := ww_gi_inv hS x n
  have h0 : (ww_gi so n x).2 = 0 := by
    rcases h with h | h
    · apply ww_ext
      intro i hi
      rw [h1 i (by omega), ww_z]
    · exact h
  have key : ∀ s, s < 64 → (ww_m (ww_gi so n x).1 s = true ↔ ww_m (ww_bf nx x) s = true) := by
    intro s hs
    rw [ww_bf_m hs, ← h2 s hs, h0]
    constructor
    · intro q; exact Or.inl q
    · rintro (q | ⟨t, -, -, q⟩)
      · exact q
      · rw [ww_z] at q; cases q
  apply ww_ext
  intro s hs
  exact ww_beq (key s hs)
/-- layer by layer: what is found, what is newest -/
def ww_la (nx : Nat → Int64) (w : Int64) : Nat → Int64 → Int64 × Int64
  | 0, g => (g, g)
  | n + 1, g => ((ww_la nx w n g).1 ||| (ww_bf nx (ww_la nx w n g).2 &&& w &&& ((ww_la nx w n g).1 ^^^ (-1))), ww_bf nx (ww_la nx w n g).2 &&& w &&& ((ww_la nx w n g).1 ^^^ (-1)))
theorem ww_la_inv (nx : Nat → Int64) (w g : Int64) : ∀ n, (ww_la nx w n g).1 = ww_it (ww_R nx w) n g ∧ ww_sub (ww_la nx w n g).2 (ww_la nx w n g).1 ∧ ∀ s t, ww_sw nx w s t → ww_m (ww_la nx w n g).1 t = true → ww_m (ww_la nx w n g).1 s = true ∨ ww_m (ww_la nx w n g).2 t = true := by
  intro n
  induction n with
  | zero => exact ⟨rfl, ww_sub.rf _, fun s t _ h => Or.inr h⟩
  | succ n ih =>
    obtain ⟨h1, h2, h3⟩ := ih
    have hmem : ∀ s, s < 64 → (ww_m (ww_la nx w (n + 1) g).1 s = true ↔ ww_m (ww_la nx w n g).1 s = true ∨ ∃ t, ww_sw nx w s t ∧ ww_m (ww_la nx w n g).2 t = true) := by
      intro s hs
      show ww_m ((ww_la nx w n g).1 ||| (ww_bf nx (ww_la nx w n g).2 &&& w &&& ((ww_la nx w n g).1 ^^^ (-1)))) s = true ↔ _
      rw [ww_or_iff, ww_and_iff, ww_and_iff, ww_bf_m hs, ww_not _ hs]
      constructor
      · rintro (q | ⟨⟨⟨t, q1, q2, q3⟩, q4⟩, -⟩)
        · exact Or.inl q
        · exact Or.inr ⟨t, ⟨hs, q1, q4, q2⟩, q3⟩
      · rintro (q | ⟨t, ⟨q0, q1, q2, q3⟩, q4⟩)
        · exact Or.inl q
        · by_cases hc : ww_m (ww_la nx w n g).1 s = true
          · exact Or.inl hc
          · exact Or.inr ⟨⟨⟨t, q1, q3, q4⟩, q2⟩, by simp [hc]⟩
    refine ⟨?_, ww_sub_or2 _ _, fun s t hst ht => ?_⟩
    · show _ = ww_R nx w (ww_it (ww_R nx w) n g)
      rw [← h1]
      apply ww_ext
      intro s hs
      have e1 := hmem s hs
      have e2 := ww_R_m (nx := nx) (w := w) (b := (ww_la nx w n g).1) hs
      have e3 : (ww_m (ww_la nx w (n + 1) g).1 s = true) ↔ (ww_m (ww_R nx w (ww_la nx w n g).1) s = true) := by
        rw [e1, e2]
        constructor
        · rintro (q | ⟨t, q1, q2⟩)
          · exact Or.inl q
          · exact Or.inr ⟨t, q1, h2 t q2⟩
        · rintro (q | ⟨t, q1, q2⟩)
          · exact Or.inl q
          · rcases h3 s t q1 q2 with r | r
            · exact Or.inl r
            · exact Or.inr ⟨t, q1, r⟩
      exact ww_beq e3
    · by_cases hc : ww_m (ww_la nx w (n + 1) g).1 s = true
      · exact Or.inl hc
      · refine Or.inr ?_
        have hns : ¬ (ww_m (ww_la nx w n g).1 s = true ∨ ∃ t, ww_sw nx w s t ∧ ww_m (ww_la nx w n g).2 t = true) := fun q => hc ((hmem s hst.1).mpr q)
        have ht2 := ht
        have ht3 : ww_m ((ww_la nx w n g).1 ||| (ww_bf nx (ww_la nx w n g).2 &&& w &&& ((ww_la nx w n g).1 ^^^ (-1)))) t = true := ht
        rw [ww_or_iff] at ht3
        rcases ht3 with q | q
        · exfalso
          rcases h3 s t hst q with r | r
          · exact hns (Or.inl r)
          · exact hns (Or.inr ⟨t, hst, r⟩)
        · exact q
theorem ww_la_end (nx : Nat → Int64) (w g : Int64) {n : Nat} (hn : n ≤ 64) (h : n = 64 ∨ (ww_la nx w n g).2 = 0) : (ww_la nx w n g).1 = ww_rc nx g w := by
  obtain ⟨h1, h2, h3⟩ := ww_la_inv nx w g n
  rcases h with h | h
  · rw [h1, h, ww_rc_it]
  · rw [h1, ww_rc_it]
    have hf : ww_R nx w (ww_it (ww_R nx w) n g) = ww_it (ww_R nx w) n g := by
      rw [← h1]
      refine ww_sub.eq (fun s hs => ?_) (ww_R_up nx w _)
      rcases (ww_R_m (ww_lt hs)).mp hs with q | ⟨t, q1, q2⟩
      · exact q
      · rcases h3 s t q1 q2 with r | r
        · exact r
        · rw [h, ww_z] at r; cases r
    have := ww_it_fix hf (64 - n)
    have e : n + (64 - n) = 64 := by omega
    rw [e] at this
    exact this.symm
