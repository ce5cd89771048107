/-! How the reference goes: the numbers in left, going till the goal or till it is too long, rounds. -/
theorem ww_ls_next {x : Int64} {k : Nat} (hx : ¬ x = 0) (hl : ∀ j, j < k → ww_m x j = false) (h : ww_m x k = false) : k + 1 < 64 := by
  apply Classical.byContradiction
  intro hc
  obtain ⟨i, hi, hm⟩ := ww_ne hx
  by_cases e : i = k
  · rw [e, h] at hm; cases hm
  · rw [hl i (by omega)] at hm; cases hm
theorem ww_low1 {x : Int64} {k : Nat} (hl : ∀ j, j < k → ww_m x j = false) (h : ww_m x k = false) : ∀ j, j < k + 1 → ww_m x j = false := by
  intro j hj
  by_cases e : j = k
  · rw [e]; exact h
  · exact hl j (by omega)
def ww_lft (nx : Nat → Int64) (w g : Int64) : Nat → Nat → Int32
  | 0, j => if ww_m g j = true then nI 0 else -1
  | d + 1, j => if ww_m (ww_ly nx w g (d + 1)) j = true then nI (d + 1) else ww_lft nx w g d j
theorem ww_lft_in {nx : Nat → Int64} {w g : Int64} {e s : Nat} (h : ww_m (ww_ly nx w g e) s = true) : ∀ d, e ≤ d → ww_lft nx w g d s = nI e := by
  intro d
  induction d with
  | zero =>
    intro hd
    have e0 : e = 0 := by omega
    rw [e0] at h
    show (if ww_m g s = true then nI 0 else -1) = _
    rw [if_pos (show ww_m g s = true from h), e0]
  | succ d ih =>
    intro hd
    show (if ww_m (ww_ly nx w g (d + 1)) s = true then nI (d + 1) else ww_lft nx w g d s) = _
    by_cases q : ww_m (ww_ly nx w g (d + 1)) s = true
    · rw [if_pos q, ww_ly_uniq q h]
    · rw [if_neg q]
      exact ih (by
        by_cases e1 : e = d + 1
        · rw [e1] at h; exact absurd h q
        · omega)
theorem ww_lft_out {nx : Nat → Int64} {w g : Int64} {s : Nat} : ∀ d, ww_lft nx w g d s = -1 ∨ ∃ e, e ≤ d ∧ ww_m (ww_ly nx w g e) s = true ∧ ww_lft nx w g d s = nI e := by
  intro d
  induction d with
  | zero =>
    by_cases q : ww_m g s = true
    · exact Or.inr ⟨0, by omega, q, if_pos q⟩
    · exact Or.inl (if_neg q)
  | succ d ih =>
    by_cases q : ww_m (ww_ly nx w g (d + 1)) s = true
    · exact Or.inr ⟨d + 1, by omega, q, if_pos q⟩
    · have e1 : ww_lft nx w g (d + 1) s = ww_lft nx w g d s := if_neg q
      rcases ih with h | ⟨e, h1, h2, h3⟩
      · exact Or.inl (e1.trans h)
      · exact Or.inr ⟨e, by omega, h2, e1.trans h3⟩
/-- the nearer followers are those in the next layer -/
theorem ww_near {nx : Nat → Int64} {w g : Int64} (hg : ww_sub g w) {j s : Nat} (hs : ww_m (ww_ly nx w g (j + 1)) s = true) : ww_mk (fun t => ww_m (nx s &&& w) t && decide (¬ ww_lft nx w g 63 t < 0) && decide (ww_lft nx w g 63 t < ww_lft nx w g 63 s)) = nx s &&& ww_ly nx w g j := by
  have hj := ww_ly_64 hs
  have es : ww_lft nx w g 63 s = nI (j + 1) := ww_lft_in hs 63 (by omega)
  apply ww_ext
  intro t ht
  rw [ww_mk_m _ ht, es]
  apply ww_beq
  rw [Bool.and_eq_true, Bool.and_eq_true, decide_eq_true_iff, decide_eq_true_iff, ww_and_iff, ww_and_iff]
  constructor
  · rintro ⟨⟨⟨h1, h2⟩, h3⟩, h4⟩
    rcases ww_lft_out (nx := nx) (w := w) (g := g) (s := t) 63 with q | ⟨e, q1, q2, q3⟩
    · rw [q] at h3
      exact absurd (by decide) h3
    · rw [q3] at h4
      have h5 := (nI_ltI (by omega) (by omega)).mp h4
      have := ww_ly_near hs h1 q2 h5
      rw [← this]
      exact ⟨h1, q2⟩
  · rintro ⟨h1, h2⟩
    have h3 := ww_lft_in h2 63 (by omega)
    rw [h3]
    exact ⟨⟨⟨h1, ww_ly_sub hg h2⟩, nI_pos (by omega)⟩, nI_lt (by omega) (by omega)⟩
/-- where the reference's going ends, too long or not -/
def ww_gt (nx : Nat → Int64) (w g : Int64) : Nat → ww_Sh → Nat → Nat
  | 0, _, s => s
  | j + 1, x, s => if x.2.1 = true then s else ww_gt nx w g j (ww_pu x (ww_ls (nx s &&& ww_ly nx w g j))) (ww_ls (nx s &&& ww_ly nx w g j))
theorem ww_gt_lt {nx : Nat → Int64} {w g : Int64} : ∀ j x s, s < 64 → ww_gt nx w g j x s < 64 := by
  intro j
  induction j with
  | zero => intro x s h; exact h
  | succ j ih =>
    intro x s h
    show (if x.2.1 = true then s else _) < 64
    split
    · exact h
    · exact ih _ _ (ww_ls_lt _)
theorem ww_gt_tl {nx : Nat → Int64} {w g : Int64} {j : Nat} {x : ww_Sh} {s : Nat} (h : x.2.1 = true) : ww_gt nx w g j x s = s := by
  cases j with
  | zero => rfl
  | succ j => exact if_pos h
/-- too long only where 250 are passed -/
def ww_Iv (x : ww_Sh) : Prop := x.1 ≤ 251 ∧ (x.2.1 = true → 250 < x.1)
theorem ww_Iv_pu {x : ww_Sh} (h : ww_Iv x) (s : Nat) : ww_Iv (ww_pu x s) := by
  obtain ⟨h1, h2⟩ := h
  unfold ww_pu
  by_cases q : 250 < x.1
  · rw [if_pos q]; exact ⟨h1, fun _ => q⟩
  · rw [if_neg q]
    refine ⟨by show x.1 + 1 ≤ 251; omega, fun r => absurd (h2 r) q⟩
theorem ww_Iv_pus {x : ww_Sh} (h : ww_Iv x) (a : List Nat) : ww_Iv (ww_pus x a) := by
  induction a generalizing x with
  | nil => exact h
  | cons s a ih => exact ih (ww_Iv_pu h s)
theorem ww_pus_tl {x : ww_Sh} (h : ww_Iv x) (ht : x.2.1 = true) (a : List Nat) : ww_pus x a = x := ww_pus_stuck (h.2 ht) ht a
theorem ww_tl_mono {x : ww_Sh} (h : ww_Iv x) (a : List Nat) (hf : (ww_pus x a).2.1 = false) : x.2.1 = false := by
  cases q : x.2.1 with
  | false => rfl
  | true =>
    rw [ww_pus_tl h q, q] at hf
    cases hf
theorem ww_gt_gn {nx : Nat → Int64} {w g : Int64} : ∀ j x s, ww_Iv x → (ww_pus x (ww_go nx w g j s)).2.1 = false → ww_gt nx w g j x s = ww_gn nx w g j s := by
  intro j
  induction j with
  | zero => intro x s _ _; rfl
  | succ j ih =>
    intro x s hx hf
    have h1 := ww_tl_mono hx _ hf
    show (if x.2.1 = true then s else ww_gt nx w g j (ww_pu x (ww_ls (nx s &&& ww_ly nx w g j))) (ww_ls (nx s &&& ww_ly nx w g j))) = ww_gn nx w g j (ww_ls (nx s &&& ww_ly nx w g j))
    rw [if_neg (by rw [h1]; decide)]
    exact ih _ _ (ww_Iv_pu hx _) hf
/-- the end of going -/
theorem ww_go_end {nx : Nat → Int64} {w g : Int64} {j s : Nat} {x : ww_Sh} (hx : ww_Iv x) (hin : x.2.1 = true ∨ ww_m (ww_ly nx w g j) s = true) (h : ww_lft nx w g 63 s = 0 ∨ x.2.1 = true) : ww_pus x (ww_go nx w g j s) = x ∧ ww_gt nx w g j x s = s := by
  by_cases ht : x.2.1 = true
  · exact ⟨ww_pus_tl hx ht _, ww_gt_tl ht⟩
  · rcases hin with hin | hin
    · exact absurd hin ht
    · rcases h with h | h
      · rw [ww_lft_in hin 63 (by have := ww_ly_64 hin; omega)] at h
        have hj := ww_ly_64 hin
        have e : j = 0 := (nI_eq (by omega) (by decide)).mp (show nI j = nI 0 from h)
        subst e
        exact ⟨rfl, rfl⟩
      · exact absurd h ht
theorem ww_go_pos {nx : Nat → Int64} {w g : Int64} {j s : Nat} {x : ww_Sh} (hin : x.2.1 = true ∨ ww_m (ww_ly nx w g j) s = true) (h : ¬ ww_lft nx w g 63 s = 0) (hf : x.2.1 = false) : ∃ i, j = i + 1 ∧ ww_m (ww_ly nx w g (i + 1)) s = true := by
  rcases hin with hin | hin
  · rw [hf] at hin; cases hin
  · cases j with
    | zero =>
      exfalso
      apply h
      exact ww_lft_in hin 63 (by omega)
    | succ i => exact ⟨i, rfl, hin⟩
theorem ww_gt_S {nx : Nat → Int64} {w g : Int64} {j s : Nat} {x : ww_Sh} (hf : x.2.1 = false) : ww_gt nx w g (j + 1) x s = ww_gt nx w g j (ww_pu x (ww_ls (nx s &&& ww_ly nx w g j))) (ww_ls (nx s &&& ww_ly nx w g j)) := if_neg (by rw [hf]; decide)
theorem ww_lft_step {nx : Nat → Int64} {w g : Int64} {d k : Nat} {f : Nat → Int32} {v : Int32} (hf : ∀ q, q < 64 → f q = if q < k then ww_lft nx w g (d + 1) q else ww_lft nx w g d q) (hk : k < 64) {q : Nat} (hq : q < 64) (hv : v = ww_lft nx w g (d + 1) k) : upd f k v q = if q < k + 1 then ww_lft nx w g (d + 1) q else ww_lft nx w g d q := by
  by_cases e : q = k
  · subst e
    rw [pk_us, if_pos (by omega), hv]
  · have h : (q < k + 1) ↔ (q < k) := by omega
    rw [pk_un e, hf q hq]
    simp only [h]
theorem ww_lft_step0 {nx : Nat → Int64} {w g : Int64} {k : Nat} {f : Nat → Int32} {v : Int32} (hf : ∀ q, q < k → f q = ww_lft nx w g 0 q) {q : Nat} (hq : q < k + 1) (hv : v = ww_lft nx w g 0 k) : upd f k v q = ww_lft nx w g 0 q := by
  by_cases e : q = k
  · subst e
    rw [pk_us, hv]
  · rw [pk_un e]
    exact hf q (by omega)
