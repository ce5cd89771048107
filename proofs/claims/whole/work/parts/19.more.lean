/-! Little rows that the walks ask for. -/
def ww_fi (v : Int32) : Nat → (Nat → Int32) → Nat → Int32
  | 0, f => f
  | n + 1, f => upd (ww_fi v n f) n v
theorem ww_fi_at (v : Int32) (f : Nat → Int32) : ∀ n i, ww_fi v n f i = if i < n then v else f i := by
  intro n
  induction n with
  | zero => intro i; simp [ww_fi]
  | succ n ih =>
    intro i
    show upd (ww_fi v n f) n v i = _
    by_cases e : i = n
    · subst e; rw [pk_us]; simp
    · have h : (i < n + 1) ↔ (i < n) := by omega
      rw [pk_un e, ih i]; simp [h]
theorem ww_p31 {t : Nat} (h : t < 32) : 2 ^ t - 1 < 2 ^ 31 := by
  have h1 : 2 ^ t ≤ 2 ^ 31 := Nat.pow_le_pow_right (by decide) (by omega)
  omega
theorem ww_ntz_a {x y : Int32} (e : y = (x ^^^ (-1)) &&& (x - nI 1)) (h : ¬ 0 < y) : y &&& nI 32 = nI (ww_n32 x) := by
  by_cases hx : x = 0
  · subst hx
    subst e
    decide +kernel
  · have e1 : y = nI (2 ^ ww_n32 x - 1) := e.trans (ww_ones hx)
    have hl := (ww_n32_ok hx).1
    rw [e1] at h ⊢
    exact (by decide +kernel : ∀ t : Nat, t < 32 → ¬ 0 < nI (2 ^ t - 1) → nI (2 ^ t - 1) &&& nI 32 = nI t) _ hl h
theorem ww_ntz_b {x y : Int32} (e : y = (x ^^^ (-1)) &&& (x - nI 1)) (h : 0 < y) : ∃ t, t < 31 ∧ ww_n32 x = t + 1 ∧ y = nI (2 ^ (t + 1) - 1) := by
  have hx : ¬ x = 0 := by
    intro q
    subst q
    subst e
    exact absurd h (by decide +kernel)
  have e1 := e.trans (ww_ones hx)
  have hl := (ww_n32_ok hx).1
  cases q : ww_n32 x with
  | zero =>
    rw [e1, q] at h
    exact absurd h (by decide)
  | succ t => exact ⟨t, by omega, rfl, by rw [← q]; exact e1⟩
theorem ww_gi_S1 {so : Nat → Int64} {n : Nat} {x : Int64} (h : ¬ (ww_gi so n x).2 = 0) : (ww_gi so (n + 1) x).1 = (ww_gi so n x).1 ||| so (ww_ls (ww_gi so n x).2) := by
  show (if (ww_gi so n x).2 = 0 then ww_gi so n x else ((ww_gi so n x).1 ||| so (ww_ls (ww_gi so n x).2), (ww_gi so n x).2 &&& ((ww_gi so n x).2 - 1))).1 = _
  rw [if_neg h]
theorem ww_gi_S2 {so : Nat → Int64} {n : Nat} {x : Int64} (h : ¬ (ww_gi so n x).2 = 0) : (ww_gi so (n + 1) x).2 = (ww_gi so n x).2 &&& ((ww_gi so n x).2 - 1) := by
  show (if (ww_gi so n x).2 = 0 then ww_gi so n x else ((ww_gi so n x).1 ||| so (ww_ls (ww_gi so n x).2), (ww_gi so n x).2 &&& ((ww_gi so n x).2 - 1))).2 = _
  rw [if_neg h]
