/-! Layers around a goal; the way to the goal; rounds. -/
def ww_ly (nx : Nat → Int64) (w g : Int64) (n : Nat) : Int64 := (ww_la nx w n g).2
def ww_sn (nx : Nat → Int64) (w g : Int64) (n : Nat) : Int64 := (ww_la nx w n g).1
theorem ww_sn_R (nx : Nat → Int64) (w g : Int64) (n : Nat) : ww_sn nx w g n = ww_it (ww_R nx w) n g := (ww_la_inv nx w g n).1
theorem ww_ly_sn (nx : Nat → Int64) (w g : Int64) (n : Nat) : ww_sub (ww_ly nx w g n) (ww_sn nx w g n) := (ww_la_inv nx w g n).2.1
theorem ww_sn_S (nx : Nat → Int64) (w g : Int64) (n : Nat) : ww_sn nx w g (n + 1) = ww_sn nx w g n ||| ww_ly nx w g (n + 1) := rfl
theorem ww_ly_S (nx : Nat → Int64) (w g : Int64) (n : Nat) : ww_ly nx w g (n + 1) = ww_bf nx (ww_ly nx w g n) &&& w &&& (ww_sn nx w g n ^^^ (-1)) := rfl
theorem ww_ly_0 (nx : Nat → Int64) (w g : Int64) : ww_ly nx w g 0 = g := rfl
theorem ww_sn_0 (nx : Nat → Int64) (w g : Int64) : ww_sn nx w g 0 = g := rfl
theorem ww_sn_le (nx : Nat → Int64) (w g : Int64) {a b : Nat} (h : a ≤ b) : ww_sub (ww_sn nx w g a) (ww_sn nx w g b) := by
  induction b with
  | zero =>
    have e : a = 0 := by omega
    rw [e]; exact ww_sub.rf _
  | succ b ih =>
    by_cases e : a = b + 1
    · rw [e]; exact ww_sub.rf _
    · refine (ih (by omega)).tr ?_
      rw [ww_sn_S]
      exact ww_sub_or _ _
/-- a state that isn't seen before -/
theorem ww_ly_new {nx : Nat → Int64} {w g : Int64} {n s : Nat} (h : ww_m (ww_ly nx w g (n + 1)) s = true) : ww_m (ww_sn nx w g n) s = false := by
  have hl := ww_lt h
  rw [ww_ly_S, ww_and, ww_not _ hl] at h
  cases q : ww_m (ww_sn nx w g n) s with
  | false => rfl
  | true => rw [q] at h; simp at h
theorem ww_ly_uniq {nx : Nat → Int64} {w g : Int64} {a b s : Nat} (h : ww_m (ww_ly nx w g a) s = true) (h2 : ww_m (ww_ly nx w g b) s = true) : a = b := by
  rcases Nat.lt_trichotomy a b with e | e | e
  · exfalso
    obtain ⟨c, rfl⟩ : ∃ c, b = c + 1 := ⟨b - 1, by omega⟩
    have h3 := ww_sn_le nx w g (a := a) (b := c) (by omega) s (ww_ly_sn nx w g a s h)
    rw [ww_ly_new h2] at h3
    cases h3
  · exact e
  · exfalso
    obtain ⟨c, rfl⟩ : ∃ c, a = c + 1 := ⟨a - 1, by omega⟩
    have h3 := ww_sn_le nx w g (a := b) (b := c) (by omega) s (ww_ly_sn nx w g b s h2)
    rw [ww_ly_new h] at h3
    cases h3
theorem ww_sn_ly {nx : Nat → Int64} {w g : Int64} {s : Nat} : ∀ n, ww_m (ww_sn nx w g n) s = true → ∃ d, d ≤ n ∧ ww_m (ww_ly nx w g d) s = true := by
  intro n
  induction n with
  | zero => intro h; exact ⟨0, by omega, h⟩
  | succ n ih =>
    intro h
    rw [ww_sn_S, ww_or_iff] at h
    rcases h with h | h
    · obtain ⟨d, h1, h2⟩ := ih h
      exact ⟨d, by omega, h2⟩
    · exact ⟨n + 1, by omega, h⟩
theorem ww_ly_w {nx : Nat → Int64} {w g : Int64} (hg : ww_sub g w) : ∀ n, ww_sub (ww_ly nx w g n) w := by
  intro n
  cases n with
  | zero => exact hg
  | succ n =>
    rw [ww_ly_S]
    exact (ww_sub_and _ _).tr (ww_sub_and2 _ _)
/-- what the reference calls more: who comes before what is done, and isn't done -/
theorem ww_more (nx : Nat → Int64) (w g : Int64) (n : Nat) : ww_bf nx (ww_sn nx w g n) &&& w &&& (ww_sn nx w g n ^^^ (-1)) = ww_ly nx w g (n + 1) := by
  rw [ww_ly_S]
  apply ww_sub.eq
  · intro s hs
    have hl := ww_lt hs
    rw [ww_and_iff, ww_and_iff, ww_bf_m hl] at hs ⊢
    obtain ⟨⟨⟨t, h1, h2, h3⟩, h4⟩, h5⟩ := hs
    refine ⟨⟨⟨t, h1, h2, ?_⟩, h4⟩, h5⟩
    rcases (ww_la_inv nx w g n).2.2 s t ⟨hl, h1, h4, h2⟩ h3 with q | q
    · rw [ww_not _ hl] at h5
      rw [show ww_m (ww_sn nx w g n) s = true from q] at h5
      cases h5
    · exact q
  · intro s hs
    have hl := ww_lt hs
    rw [ww_and_iff, ww_and_iff, ww_bf_m hl] at hs ⊢
    obtain ⟨⟨⟨t, h1, h2, h3⟩, h4⟩, h5⟩ := hs
    exact ⟨⟨⟨t, h1, h2, ww_ly_sn nx w g n t h3⟩, h4⟩, h5⟩
/-- a nearer follower -/
theorem ww_ly_pre {nx : Nat → Int64} {w g : Int64} {n s : Nat} (h : ww_m (ww_ly nx w g (n + 1)) s = true) : ¬ nx s &&& ww_ly nx w g n = 0 := by
  have hl := ww_lt h
  rw [ww_ly_S, ww_and_iff, ww_and_iff, ww_bf_m hl] at h
  obtain ⟨⟨⟨t, h1, h2, h3⟩, h4⟩, h5⟩ := h
  exact ww_meet.mpr ⟨t, h1, h2, h3⟩
theorem ww_ly_near {nx : Nat → Int64} {w g : Int64} {n s t j : Nat} (h : ww_m (ww_ly nx w g (n + 1)) s = true) (hst : ww_m (nx s) t = true) (ht : ww_m (ww_ly nx w g j) t = true) (hj : j < n + 1) : j = n := by
  apply Classical.byContradiction
  intro hne
  have hl := ww_lt h
  have hw : ww_m w s = true := by
    rw [ww_ly_S, ww_and_iff, ww_and_iff] at h
    exact h.1.2
  have h1 : ww_m (ww_sn nx w g (j + 1)) s = true := by
    rw [ww_sn_R]
    show ww_m (ww_R nx w (ww_it (ww_R nx w) j g)) s = true
    rw [ww_R_m hl, ← ww_sn_R]
    exact Or.inr ⟨t, ⟨hl, ww_lt ht, hw, hst⟩, ww_ly_sn nx w g j t ht⟩
  have h2 := ww_sn_le nx w g (a := j + 1) (b := n) (by omega) s h1
  rw [ww_ly_new h] at h2
  cases h2
/-- how far: the number of the layer -/
def ww_dsf (nx : Nat → Int64) (w g : Int64) (s : Nat) : Nat → Nat → Nat
  | 0, _ => 0
  | f + 1, d => if ww_m (ww_ly nx w g d) s = true then d else ww_dsf nx w g s f (d + 1)
def ww_ds (nx : Nat → Int64) (w g : Int64) (s : Nat) : Nat := ww_dsf nx w g s 64 0
theorem ww_dsf_ok {nx : Nat → Int64} {w g : Int64} {s d : Nat} (h : ww_m (ww_ly nx w g d) s = true) : ∀ f k, k ≤ d → d < k + f → ww_dsf nx w g s f k = d := by
  intro f
  induction f with
  | zero => intro k h1 h2; omega
  | succ f ih =>
    intro k h1 h2
    unfold ww_dsf
    by_cases q : ww_m (ww_ly nx w g k) s = true
    · rw [if_pos q]; exact ww_ly_uniq q h
    · rw [if_neg q]
      have : k ≠ d := fun e => q (by rw [e]; exact h)
      exact ih (k + 1) (by omega) (by omega)
theorem ww_ds_ok {nx : Nat → Int64} {w g : Int64} {s d : Nat} (h : ww_m (ww_ly nx w g d) s = true) (hd : d < 64) : ww_ds nx w g s = d := ww_dsf_ok h 64 0 (by omega) (by omega)
/-- the way to the goal from a state d steps off -/
def ww_go (nx : Nat → Int64) (w g : Int64) : Nat → Nat → List Nat
  | 0, _ => []
  | d + 1, s => ww_ls (nx s &&& ww_ly nx w g d) :: ww_go nx w g d (ww_ls (nx s &&& ww_ly nx w g d))
/-- where it ends -/
def ww_gn (nx : Nat → Int64) (w g : Int64) : Nat → Nat → Nat
  | 0, s => s
  | d + 1, s => ww_gn nx w g d (ww_ls (nx s &&& ww_ly nx w g d))
theorem ww_go_step {nx : Nat → Int64} {w g : Int64} {d s : Nat} (h : ww_m (ww_ly nx w g (d + 1)) s = true) : ww_m (ww_ly nx w g d) (ww_ls (nx s &&& ww_ly nx w g d)) = true ∧ ww_m (nx s) (ww_ls (nx s &&& ww_ly nx w g d)) = true := by
  have := (ww_ls_ok (ww_ly_pre h)).1
  rw [ww_and_iff] at this
  exact ⟨this.2, this.1⟩
theorem ww_gn_in {nx : Nat → Int64} {w g : Int64} : ∀ d s, ww_m (ww_ly nx w g d) s = true → ww_m g (ww_gn nx w g d s) = true := by
  intro d
  induction d with
  | zero => intro s h; exact h
  | succ d ih => intro s h; exact ih _ (ww_go_step h).1
/-- what is shown: puts, a limit of 251; the class keeps 250 and counts on -/
abbrev ww_Sh : Type := Nat × Bool × (Nat → Int32)
def ww_pu (x : ww_Sh) (s : Nat) : ww_Sh := if 250 < x.1 then (x.1, true, x.2.2) else (x.1 + 1, x.2.1, upd x.2.2 x.1 (nI s))
def ww_pus (x : ww_Sh) : List Nat → ww_Sh
  | [] => x
  | s :: r => ww_pus (ww_pu x s) r
abbrev ww_Pa : Type := Nat × (Nat → Int32)
def ww_ap (x : ww_Pa) (s : Nat) : ww_Pa := (x.1 + 1, if x.1 < 250 then upd x.2 x.1 (nI s) else x.2)
def ww_aps (x : ww_Pa) : List Nat → ww_Pa
  | [] => x
  | s :: r => ww_aps (ww_ap x s) r
theorem ww_pus_app (x : ww_Sh) (a b : List Nat) : ww_pus x (a ++ b) = ww_pus (ww_pus x a) b := by
  induction a generalizing x with
  | nil => rfl
  | cons s a ih => exact ih (ww_pu x s)
theorem ww_aps_app (x : ww_Pa) (a b : List Nat) : ww_aps x (a ++ b) = ww_aps (ww_aps x a) b := by
  induction a generalizing x with
  | nil => rfl
  | cons s a ih => exact ih (ww_ap x s)
theorem ww_aps_len (x : ww_Pa) (a : List Nat) : (ww_aps x a).1 = x.1 + a.length := by
  induction a generalizing x with
  | nil => rfl
  | cons s a ih =>
    show (ww_aps (ww_ap x s) a).1 = x.1 + (a.length + 1)
    rw [ih]
    show x.1 + 1 + a.length = _
    omega
theorem ww_pus_stuck {x : ww_Sh} (h : 250 < x.1) (ht : x.2.1 = true) (a : List Nat) : ww_pus x a = x := by
  induction a with
  | nil => rfl
  | cons s a ih =>
    have e : ww_pu x s = x := by
      unfold ww_pu
      rw [if_pos h, ← ht]
    show ww_pus (ww_pu x s) a = x
    rw [e]; exact ih
theorem ww_pus_sz {x : ww_Sh} (a : List Nat) (h : x.1 + a.length ≤ 251) : (ww_pus x a).1 = x.1 + a.length ∧ (ww_pus x a).2.1 = x.2.1 := by
  induction a generalizing x with
  | nil => exact ⟨rfl, rfl⟩
  | cons s a ih =>
    have hl : (s :: a).length = a.length + 1 := rfl
    rw [hl] at h ⊢
    have e : ww_pu x s = (x.1 + 1, x.2.1, upd x.2.2 x.1 (nI s)) := by unfold ww_pu; rw [if_neg (by omega)]
    show (ww_pus (ww_pu x s) a).1 = _ ∧ (ww_pus (ww_pu x s) a).2.1 = _
    rw [e]
    obtain ⟨h1, h2⟩ := ih (x := (x.1 + 1, x.2.1, upd x.2.2 x.1 (nI s))) (by show x.1 + 1 + a.length ≤ 251; omega)
    exact ⟨by rw [h1]; show x.1 + 1 + a.length = _; omega, h2⟩
theorem ww_pus_long {x : ww_Sh} (a : List Nat) (hx : x.1 ≤ 251) (h : 251 < x.1 + a.length) : (ww_pus x a).2.1 = true ∧ 250 < (ww_pus x a).1 := by
  induction a generalizing x with
  | nil => exfalso; have : x.1 + ([] : List Nat).length = x.1 := rfl; omega
  | cons s a ih =>
    have hl : (s :: a).length = a.length + 1 := rfl
    rw [hl] at h
    by_cases q : 250 < x.1
    · have e : ww_pu x s = (x.1, true, x.2.2) := by unfold ww_pu; rw [if_pos q]
      show (ww_pus (ww_pu x s) a).2.1 = true ∧ 250 < (ww_pus (ww_pu x s) a).1
      rw [e, ww_pus_stuck (x := (x.1, true, x.2.2)) q rfl]
      exact ⟨rfl, q⟩
    · have e : ww_pu x s = (x.1 + 1, x.2.1, upd x.2.2 x.1 (nI s)) := by unfold ww_pu; rw [if_neg q]
      show (ww_pus (ww_pu x s) a).2.1 = true ∧ 250 < (ww_pus (ww_pu x s) a).1
      rw [e]
      exact ih (x := (x.1 + 1, x.2.1, upd x.2.2 x.1 (nI s))) (by show x.1 + 1 ≤ 251; omega) (by show 251 < x.1 + 1 + a.length; omega)
/-- both keep the same states, below 250 -/
theorem ww_same {x : ww_Sh} {y : ww_Pa} (a : List Nat) (hxy : x.1 = y.1) (hk : ∀ i, i < x.1 → i < 250 → x.2.2 i = y.2 i) (h : x.1 + a.length ≤ 251) : ∀ i, i < x.1 + a.length → i < 250 → (ww_pus x a).2.2 i = (ww_aps y a).2 i := by
  induction a generalizing x y with
  | nil => intro i h1 h2; exact hk i h1 h2
  | cons s a ih =>
    have hl : (s :: a).length = a.length + 1 := rfl
    rw [hl] at h
    intro i h1 h2
    rw [hl] at h1
    have e : ww_pu x s = (x.1 + 1, x.2.1, upd x.2.2 x.1 (nI s)) := by unfold ww_pu; rw [if_neg (by omega)]
    show (ww_pus (ww_pu x s) a).2.2 i = (ww_aps (ww_ap y s) a).2 i
    rw [e]
    refine ih (x := (x.1 + 1, x.2.1, upd x.2.2 x.1 (nI s))) (y := ww_ap y s) (by show x.1 + 1 = y.1 + 1; omega) (fun j h3 h4 => ?_) (by show x.1 + 1 + a.length ≤ 251; omega) i (by show i < x.1 + 1 + a.length; omega) h2
    show upd x.2.2 x.1 (nI s) j = (if y.1 < 250 then upd y.2 y.1 (nI s) else y.2) j
    have h3 : j < x.1 + 1 := h3
    by_cases ej : j = x.1
    · rw [if_pos (by omega), ej, ← hxy]
      show (if x.1 = x.1 then nI s else x.2.2 x.1) = (if x.1 = x.1 then nI s else y.2 x.1)
      rw [if_pos rfl, if_pos rfl]
    · have e2 : upd x.2.2 x.1 (nI s) j = x.2.2 j := pk_un ej
      rw [e2, hk j (by omega) h4]
      split
      · rw [pk_un (by omega)]
      · rfl
