/-! Followers nx; before a set; what reaches a set; going round. -/
def ww_bf (nx : Nat → Int64) (x : Int64) : Int64 := ww_mk (fun s => decide (¬ nx s &&& x = 0))
theorem ww_bf_m {nx : Nat → Int64} {x : Int64} {s : Nat} (hs : s < 64) : ww_m (ww_bf nx x) s = true ↔ ∃ t, t < 64 ∧ ww_m (nx s) t = true ∧ ww_m x t = true := by
  unfold ww_bf
  rw [ww_mk_m _ hs, decide_eq_true_iff, ww_meet]
theorem ww_bf_mono {nx : Nat → Int64} {x y : Int64} (h : ww_sub x y) : ww_sub (ww_bf nx x) (ww_bf nx y) := by
  intro s hs
  have hl := ww_lt hs
  rw [ww_bf_m hl] at hs ⊢
  obtain ⟨t, h1, h2, h3⟩ := hs
  exact ⟨t, h1, h2, h t h3⟩
def ww_R (nx : Nat → Int64) (w b : Int64) : Int64 := b ||| (ww_bf nx b &&& w)
theorem ww_R_up (nx : Nat → Int64) (w : Int64) : ∀ x, ww_sub x (ww_R nx w x) := fun x => ww_sub_or _ _
/-- 64 and 65, so that no check unfolds that many steps -/
noncomputable def ww_k64 : Nat := Classical.choose (⟨64, rfl⟩ : ∃ n : Nat, n = 64)
theorem ww_k64_eq : ww_k64 = 64 := Classical.choose_spec (⟨64, rfl⟩ : ∃ n : Nat, n = 64)
noncomputable def ww_k65 : Nat := Classical.choose (⟨65, rfl⟩ : ∃ n : Nat, n = 65)
theorem ww_k65_eq : ww_k65 = 65 := Classical.choose_spec (⟨65, rfl⟩ : ∃ n : Nat, n = 65)
noncomputable def ww_rc (nx : Nat → Int64) (g w : Int64) : Int64 := ww_it (ww_R nx w) ww_k64 g
theorem ww_rc_it (nx : Nat → Int64) (g w : Int64) : ww_rc nx g w = ww_it (ww_R nx w) 64 g := by unfold ww_rc; rw [ww_k64_eq]
theorem ww_rc_fix (nx : Nat → Int64) (g w : Int64) : ww_R nx w (ww_rc nx g w) = ww_rc nx g w := by rw [ww_rc_it]; exact ww_it_up64 (ww_R_up nx w) g
theorem ww_it_ge {f : Int64 → Int64} (hf : ∀ x, ww_sub x (f x)) (x : Int64) : ∀ n, ww_sub x (ww_it f n x) := by
  intro n
  induction n with
  | zero => exact ww_sub.rf x
  | succ n ih => exact ih.tr (hf _)
theorem ww_it_sub {f : Int64 → Int64} (hf : ∀ x, ww_sub (f x) x) (x : Int64) : ∀ n, ww_sub (ww_it f n x) x := by
  intro n
  induction n with
  | zero => exact ww_sub.rf x
  | succ n ih => exact (hf _).tr ih
theorem ww_rc_ge (nx : Nat → Int64) (g w : Int64) : ww_sub g (ww_rc nx g w) := ww_it_ge (ww_R_up nx w) g ww_k64
/-- ways of n steps -/
def ww_pt (st : Nat → Nat → Prop) : Nat → Nat → Nat → Prop
  | 0, s, t => s = t
  | n + 1, s, t => ∃ u, st s u ∧ ww_pt st n u t
def ww_rs (st : Nat → Nat → Prop) (s t : Nat) : Prop := ∃ n, ww_pt st n s t
theorem ww_rs.rf {st : Nat → Nat → Prop} (s : Nat) : ww_rs st s s := ⟨0, rfl⟩
theorem ww_rs.hd {st : Nat → Nat → Prop} {s u t : Nat} (h : st s u) (h2 : ww_rs st u t) : ww_rs st s t := by
  obtain ⟨n, h2⟩ := h2
  exact ⟨n + 1, u, h, h2⟩
theorem ww_rs.one {st : Nat → Nat → Prop} {s u : Nat} (h : st s u) : ww_rs st s u := ww_rs.hd h (ww_rs.rf u)
theorem ww_rs.tr {st : Nat → Nat → Prop} {s t u : Nat} (h : ww_rs st s t) (h2 : ww_rs st t u) : ww_rs st s u := by
  obtain ⟨n, h⟩ := h
  induction n generalizing s with
  | zero =>
    have e : s = t := h
    subst e
    exact h2
  | succ n ih =>
    obtain ⟨v, h3, h4⟩ := h
    exact ww_rs.hd h3 (ih h4)
theorem ww_rs.ind {st : Nat → Nat → Prop} {P : Nat → Prop} {t : Nat} (h0 : P t) (hs : ∀ s u, st s u → ww_rs st u t → P u → P s) {s : Nat} (h : ww_rs st s t) : P s := by
  obtain ⟨n, h⟩ := h
  induction n generalizing s with
  | zero =>
    have e : s = t := h
    subst e
    exact h0
  | succ n ih =>
    obtain ⟨v, h3, h4⟩ := h
    exact hs s v h3 ⟨n, h4⟩ (ih h4)
theorem ww_rs.weak {st st2 : Nat → Nat → Prop} (h : ∀ a b, st a b → st2 a b) {s t : Nat} (h2 : ww_rs st s t) : ww_rs st2 s t :=
  ww_rs.ind (P := fun s => ww_rs st2 s t) (ww_rs.rf t) (fun s u h3 _ h4 => ww_rs.hd (h s u h3) h4) h2
/-- at least one step -/
def ww_tp (st : Nat → Nat → Prop) (s t : Nat) : Prop := ∃ u, st s u ∧ ww_rs st u t
theorem ww_tp.rs {st : Nat → Nat → Prop} {s t : Nat} (h : ww_tp st s t) : ww_rs st s t := by
  obtain ⟨u, h1, h2⟩ := h
  exact ww_rs.hd h1 h2
theorem ww_tp.tr {st : Nat → Nat → Prop} {s t u : Nat} (h : ww_tp st s t) (h2 : ww_rs st t u) : ww_tp st s u := by
  obtain ⟨v, h1, h3⟩ := h
  exact ⟨v, h1, h3.tr h2⟩
theorem ww_tp.lead {st : Nat → Nat → Prop} {s t u : Nat} (h : ww_rs st s t) (h2 : ww_tp st t u) : ww_tp st s u := by
  obtain ⟨n, h⟩ := h
  cases n with
  | zero =>
    have e : s = t := h
    subst e
    exact h2
  | succ n =>
    obtain ⟨v, h3, h4⟩ := h
    exact ⟨v, h3, (show ww_rs st v t from ⟨n, h4⟩).tr h2.rs⟩
/-- a step out of the set w -/
def ww_sw (nx : Nat → Int64) (w : Int64) (a b : Nat) : Prop := a < 64 ∧ b < 64 ∧ ww_m w a = true ∧ ww_m (nx a) b = true
theorem ww_R_m {nx : Nat → Int64} {w b : Int64} {s : Nat} (hs : s < 64) : ww_m (ww_R nx w b) s = true ↔ ww_m b s = true ∨ ∃ t, ww_sw nx w s t ∧ ww_m b t = true := by
  unfold ww_R
  rw [ww_or_iff, ww_and_iff, ww_bf_m hs]
  constructor
  · rintro (h | ⟨⟨t, h1, h2, h3⟩, h4⟩)
    · exact Or.inl h
    · exact Or.inr ⟨t, ⟨hs, h1, h4, h2⟩, h3⟩
  · rintro (h | ⟨t, ⟨h1, h2, h3, h4⟩, h5⟩)
    · exact Or.inl h
    · exact Or.inr ⟨⟨t, h2, h4, h5⟩, h3⟩
theorem ww_it_R_path {nx : Nat → Int64} {g w : Int64} : ∀ n s, ww_m (ww_it (ww_R nx w) n g) s = true → ∃ t, ww_m g t = true ∧ ww_rs (ww_sw nx w) s t := by
  intro n
  induction n with
  | zero => intro s h; exact ⟨s, h, ww_rs.rf s⟩
  | succ n ih =>
    intro s h
    have hl := ww_lt h
    rcases (ww_R_m hl).mp h with h1 | ⟨t, h1, h2⟩
    · exact ih s h1
    · obtain ⟨u, h3, h4⟩ := ih t h2
      exact ⟨u, h3, ww_rs.hd h1 h4⟩
theorem ww_rc_m {nx : Nat → Int64} {g w : Int64} {s : Nat} : ww_m (ww_rc nx g w) s = true ↔ ∃ t, ww_m g t = true ∧ ww_rs (ww_sw nx w) s t := by
  constructor
  · exact ww_it_R_path ww_k64 s
  · rintro ⟨t, h1, h2⟩
    refine ww_rs.ind (P := fun s => ww_m (ww_rc nx g w) s = true) (ww_rc_ge nx g w t h1) (fun a u h3 _ h4 => ?_) h2
    rw [← ww_rc_fix, ww_R_m h3.1]
    exact Or.inr ⟨u, h3, h4⟩
theorem ww_rc_mono {nx : Nat → Int64} {g g2 w w2 : Int64} (hg : ww_sub g g2) (hw : ww_sub w w2) : ww_sub (ww_rc nx g w) (ww_rc nx g2 w2) := by
  intro s h
  obtain ⟨t, h1, h2⟩ := ww_rc_m.mp h
  exact ww_rc_m.mpr ⟨t, hg t h1, h2.weak (fun a b ⟨q1, q2, q3, q4⟩ => ⟨q1, q2, hw a q3, q4⟩)⟩
/-- closed: a set with g in it and closed under steps back holds all of rc -/
theorem ww_rc_least {nx : Nat → Int64} {g w z : Int64} (hg : ww_sub g z) (hz : ∀ a b, ww_sw nx w a b → ww_m z b = true → ww_m z a = true) : ww_sub (ww_rc nx g w) z := by
  intro s h
  obtain ⟨t, h1, h2⟩ := ww_rc_m.mp h
  exact ww_rs.ind (P := fun s => ww_m z s = true) (hg t h1) (fun a u h3 _ h4 => hz a u h3 h4) h2
theorem ww_rc_0 (nx : Nat → Int64) (w : Int64) : ww_rc nx 0 w = 0 := by
  apply ww_ext
  intro i _
  rw [ww_z]
  cases h : ww_m (ww_rc nx 0 w) i with
  | false => rfl
  | true =>
    obtain ⟨t, h1, -⟩ := ww_rc_m.mp h
    rw [ww_z] at h1
    cases h1
theorem ww_rc_sub {nx : Nat → Int64} {g w : Int64} (hg : ww_sub g w) : ww_sub (ww_rc nx g w) w := ww_rc_least hg (fun _ _ h _ => h.2.2.1)
/-- a step within w -/
def ww_ss (nx : Nat → Int64) (w : Int64) (a b : Nat) : Prop := a < 64 ∧ b < 64 ∧ ww_m w a = true ∧ ww_m w b = true ∧ ww_m (nx a) b = true
theorem ww_ss.sw {nx : Nat → Int64} {w : Int64} {a b : Nat} (h : ww_ss nx w a b) : ww_sw nx w a b := ⟨h.1, h.2.1, h.2.2.1, h.2.2.2.2⟩
/-- le holds, for each state, where at least one step within w leads -/
def ww_Ld (nx : Nat → Int64) (w : Int64) (le : Nat → Int64) : Prop := ∀ s, s < 64 → ∀ t, ww_m (le s) t = true ↔ ww_tp (ww_ss nx w) s t
def ww_all (p : Nat → Bool) : Nat → Bool
  | 0 => true
  | n + 1 => ww_all p n && p n
theorem ww_all_iff (p : Nat → Bool) : ∀ n, ww_all p n = true ↔ ∀ i, i < n → p i = true := by
  intro n
  induction n with
  | zero => simp [ww_all]
  | succ n ih =>
    unfold ww_all
    rw [Bool.and_eq_true, ih]
    constructor
    · rintro ⟨h1, h2⟩ i hi
      by_cases e : i = n
      · rw [e]; exact h2
      · exact h1 i (by omega)
    · intro h
      exact ⟨fun i hi => h i (by omega), h n (by omega)⟩
def ww_gr (le : Nat → Int64) (s : Nat) : Int64 := ww_mk (fun t => ww_m (le s) t && ww_m (le t) s)
def ww_gd (le : Nat → Int64) (G : Nat → Int64) (c : Nat) (s : Nat) : Bool := ww_m (le s) s && ww_all (fun i => decide (¬ ww_gr le s &&& G i = 0)) c
theorem ww_gd_iff {nx : Nat → Int64} {w : Int64} {le G : Nat → Int64} {c s : Nat} (hL : ww_Ld nx w le) (hs : s < 64) : ww_gd le G c s = true ↔ ww_tp (ww_ss nx w) s s ∧ ∀ i, i < c → ∃ t, t < 64 ∧ ww_m (G i) t = true ∧ ww_tp (ww_ss nx w) s t ∧ ww_tp (ww_ss nx w) t s := by
  unfold ww_gd
  rw [Bool.and_eq_true, hL s hs s, ww_all_iff]
  constructor
  · rintro ⟨h1, h2⟩
    refine ⟨h1, fun i hi => ?_⟩
    obtain ⟨t, h3, h4, h5⟩ := ww_meet.mp (decide_eq_true_iff.mp (h2 i hi))
    unfold ww_gr at h4
    rw [ww_mk_m _ h3, Bool.and_eq_true, hL s hs t, hL t h3 s] at h4
    exact ⟨t, h3, h5, h4.1, h4.2⟩
  · rintro ⟨h1, h2⟩
    refine ⟨h1, fun i hi => ?_⟩
    obtain ⟨t, h3, h4, h5, h6⟩ := h2 i hi
    refine decide_eq_true_iff.mpr (ww_meet.mpr ⟨t, h3, ?_, h4⟩)
    unfold ww_gr
    rw [ww_mk_m _ h3, Bool.and_eq_true, hL s hs t, hL t h3 s]
    exact ⟨h5, h6⟩
/-- good sets: each state has a follower in it, and reaches every goal within it -/
def ww_good (nx : Nat → Int64) (G : Nat → Int64) (c : Nat) (z : Int64) : Prop := ww_sub z (ww_bf nx z) ∧ ∀ i, i < c → ww_sub z (ww_rc nx (z &&& G i) z)
noncomputable def ww_kp (nx : Nat → Int64) (G : Nat → Int64) (x : Int64) : Nat → Int64
  | 0 => x &&& ww_bf nx x
  | i + 1 => ww_kp nx G x i &&& ww_rc nx (ww_kp nx G x i &&& G i) (ww_kp nx G x i)
theorem ww_kp_sub (nx : Nat → Int64) (G : Nat → Int64) (x : Int64) : ∀ i, ww_sub (ww_kp nx G x i) x := by
  intro i
  induction i with
  | zero => exact ww_sub_and _ _
  | succ i ih => exact (ww_sub_and _ _).tr ih
theorem ww_sub_both {x y z : Int64} (h : ww_sub x y) (h2 : ww_sub x z) : ww_sub x (y &&& z) := fun i hi => ww_and_iff.mpr ⟨h i hi, h2 i hi⟩
theorem ww_and_mono {x y a b : Int64} (h : ww_sub x y) (h2 : ww_sub a b) : ww_sub (x &&& a) (y &&& b) := fun i hi => by
  obtain ⟨h3, h4⟩ := ww_and_iff.mp hi
  exact ww_and_iff.mpr ⟨h i h3, h2 i h4⟩
theorem ww_kp_good {nx : Nat → Int64} {G : Nat → Int64} {c : Nat} {z x : Int64} (hz : ww_good nx G c z) (hx : ww_sub z x) : ∀ i, i ≤ c → ww_sub z (ww_kp nx G x i) := by
  intro i
  induction i with
  | zero => intro _; exact ww_sub_both hx (hz.1.tr (ww_bf_mono hx))
  | succ i ih =>
    intro hi
    have h := ih (by omega)
    exact ww_sub_both h ((hz.2 i (by omega)).tr (ww_rc_mono (ww_and_mono h (ww_sub.rf _)) h))
/-- what is left in the end: good, and the greatest -/
noncomputable def ww_yy (nx : Nat → Int64) (G : Nat → Int64) (c : Nat) (w : Int64) : Int64 := ww_it (fun x => ww_kp nx G x c) ww_k65 w
theorem ww_yy_it (nx : Nat → Int64) (G : Nat → Int64) (c : Nat) (w : Int64) : ww_yy nx G c w = ww_it (fun x => ww_kp nx G x c) 65 w := by unfold ww_yy; rw [ww_k65_eq]
theorem ww_yy_fix (nx : Nat → Int64) (G : Nat → Int64) (c : Nat) (w : Int64) : ww_kp nx G (ww_yy nx G c w) c = ww_yy nx G c w := by
  have h := ww_it_dn64 (f := fun x => ww_kp nx G x c) (fun x => ww_kp_sub nx G x c) w
  have h1 : ww_yy nx G c w = ww_it (fun x => ww_kp nx G x c) 64 w := (ww_yy_it nx G c w).trans h
  rw [h1]
  exact h
theorem ww_yy_sub (nx : Nat → Int64) (G : Nat → Int64) (c : Nat) (w : Int64) : ww_sub (ww_yy nx G c w) w := ww_it_sub (f := fun x => ww_kp nx G x c) (fun x => ww_kp_sub nx G x c) w ww_k65
theorem ww_kp_dec (nx : Nat → Int64) (G : Nat → Int64) (x : Int64) : ∀ i j, i ≤ j → ww_sub (ww_kp nx G x j) (ww_kp nx G x i) := by
  intro i j
  induction j with
  | zero =>
    intro h
    have e : i = 0 := by omega
    rw [e]
    exact ww_sub.rf _
  | succ j ih =>
    intro h
    by_cases e : i = j + 1
    · rw [e]; exact ww_sub.rf _
    · exact (ww_sub_and _ _).tr (ih (by omega))
theorem ww_fix_good {nx : Nat → Int64} {G : Nat → Int64} {c : Nat} {y : Int64} (h : ww_kp nx G y c = y) : ww_good nx G c y := by
  have hk : ∀ i, i ≤ c → ww_kp nx G y i = y := fun i hi => (ww_kp_sub nx G y i).eq (by
    have := ww_kp_dec nx G y i c hi
    rw [h] at this
    exact this)
  constructor
  · have h0 := hk 0 (by omega)
    intro i hi
    rw [← h0] at hi
    exact (ww_and_iff.mp hi).2
  · intro i hi
    have h1 := hk (i + 1) (by omega)
    have h2 : ww_kp nx G y i &&& ww_rc nx (ww_kp nx G y i &&& G i) (ww_kp nx G y i) = y := h1
    rw [hk i (by omega)] at h2
    intro j hj
    rw [← h2] at hj
    exact (ww_and_iff.mp hj).2
theorem ww_yy_good (nx : Nat → Int64) (G : Nat → Int64) (c : Nat) (w : Int64) : ww_good nx G c (ww_yy nx G c w) := ww_fix_good (ww_yy_fix nx G c w)
theorem ww_yy_great {nx : Nat → Int64} {G : Nat → Int64} {c : Nat} {w z : Int64} (hz : ww_good nx G c z) (hw : ww_sub z w) : ww_sub z (ww_yy nx G c w) := by
  have : ∀ n, ww_sub z (ww_it (fun x => ww_kp nx G x c) n w) := by
    intro n
    induction n with
    | zero => exact hw
    | succ n ih => exact ww_kp_good hz ih c (Nat.le_refl _)
  exact this ww_k65
