/-! Formulas as the class keeps them: what may be made, what is plain. -/
def ww_hs (n : Nat) (x : Int32) : Bool := decide (¬ x < 0 ∧ ¬ nI n ≤ x)
def ww_kd (x : Int32) : Bool := decide (¬ x < 0 ∧ x ≤ nI 12)
def ww_cb (n : Nat) (x y z : Int32) : Bool := ww_kd x && (if x = 0 then decide (¬ y < 0 ∧ ¬ nI 6 ≤ y) else (decide (x = nI 1) || ww_hs n y) && (!ww_h2 x.toNatClampNeg || ww_hs n z))
theorem ww_cb_no {n : Nat} {x y z : Int32} (h : ¬ (¬ x < 0 ∧ x ≤ nI 12)) : ww_cb n x y z = false := by
  unfold ww_cb ww_kd
  rw [decide_eq_false h]
  rfl
theorem ww_cb_N {n k : Nat} {y z : Int32} (hk : k ≤ 12) : ww_cb n (nI k) y z = if k = 0 then decide (¬ y < 0 ∧ ¬ nI 6 ≤ y) else (decide (k = 1) || ww_hs n y) && (!ww_h2 k || ww_hs n z) := by
  unfold ww_cb ww_kd
  have h1 : ¬ nI k < 0 := nI_pos (by omega)
  have h2 : nI k ≤ nI 12 := nI_le hk (by decide)
  rw [decide_eq_true ⟨h1, h2⟩, nI_clamp (by omega), Bool.true_and]
  have h3 : (nI k = 0) ↔ k = 0 := by rw [← nI_0, nI_eq (by omega) (by omega)]
  have h4 : (nI k = nI 1) ↔ k = 1 := nI_eq (by omega) (by omega)
  simp only [h3, h4]
def ww_pp (pb : Nat → Bool) (k f g : Nat) : Bool :=
  match k with
  | 0 => true
  | 1 => true
  | 2 => pb f
  | 3 => pb f && pb g
  | 4 => pb f && pb g
  | _ => false
theorem ww_k13 {k : Nat} (h : k ≤ 12) : k = 0 ∨ k = 1 ∨ k = 2 ∨ k = 3 ∨ k = 4 ∨ k = 5 ∨ k = 6 ∨ k = 7 ∨ k = 8 ∨ k = 9 ∨ k = 10 ∨ k = 11 ∨ k = 12 := by omega
theorem ww_wf_ix {n : Nat} {kn fn sn : Nat → Nat} (h : ww_wf n kn fn sn) (hn : n ≤ 32) {i : Nat} (hi : i < n) : fn i < 32 ∧ sn i < 32 ∧ kn i ≤ 12 := by
  obtain ⟨h1, h2, h3, h4, h5, h6⟩ := h i hi
  refine ⟨?_, ?_, h1⟩
  · by_cases q : kn i = 0
    · have := h2 q; omega
    · by_cases q1 : kn i = 1
      · have := h5 q1; omega
      · have := h3 (by omega); omega
  · cases q : ww_h2 (kn i) with
    | true => have := h4 q; omega
    | false => have := h6 q; omega
theorem ww_it_go {f : Int64 → Int64} {n : Nat} {x : Int64} (hn : n ≤ 65) (h : n = 65 ∨ f (ww_it f n x) = ww_it f n x) : ww_it f n x = ww_it f ww_k65 x := by
  rw [ww_k65_eq]
  rcases h with h | h
  · rw [h]
  · have := ww_it_fix h (65 - n)
    rw [show n + (65 - n) = 65 by omega] at this
    exact this.symm
