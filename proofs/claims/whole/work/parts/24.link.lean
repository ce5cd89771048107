/-! The sources of each state, as the class finds them; one more move. -/
theorem ww_a31 {a b : Nat} (hb : b < 64) : a &&& b < 2 ^ 31 := Nat.lt_trans (Nat.and_lt_two_pow (n := 6) a hb) (by decide)
theorem ww_a64 {a b : Nat} (hb : b < 64) : a &&& b < 64 := Nat.and_lt_two_pow (n := 6) a hb
theorem ww_x64' {b : Nat} (hb : b < 64) : 63 ^^^ b < 64 := Nat.xor_lt_two_pow (n := 6) (by decide) hb
theorem ww_o64 {a b : Nat} (ha : a < 64) (hb : b < 64) : a ||| b < 64 := Nat.or_lt_two_pow (n := 6) ha hb
theorem ww_2k {k : Nat} (h : k < 6) : 2 ^ k < 64 := Nat.pow_lt_pow_right (a := 2) (n := 6) (by decide) h
theorem ww_shl6 : ∀ k, k < 6 → nI 1 <<< (nI k &&& 31) = nI (2 ^ k) := by decide +kernel
/-- going through the followers x of s: the rows of sources, what is left of x -/
def ww_li (s : Nat) : Nat → (Nat → Int64) × Int64 → (Nat → Int64) × Int64
  | 0, p => p
  | n + 1, p => if (ww_li s n p).2 = 0 then ww_li s n p else (vp_updL (ww_li s n p).1 (ww_ls (ww_li s n p).2) ((ww_li s n p).1 (ww_ls (ww_li s n p).2) ||| ww_b s), (ww_li s n p).2 &&& ((ww_li s n p).2 - 1))
theorem ww_li_S1 {s n : Nat} {p : (Nat → Int64) × Int64} (h : ¬ (ww_li s n p).2 = 0) : (ww_li s (n + 1) p).1 = vp_updL (ww_li s n p).1 (ww_ls (ww_li s n p).2) ((ww_li s n p).1 (ww_ls (ww_li s n p).2) ||| ww_b s) := by
  show (if (ww_li s n p).2 = 0 then ww_li s n p else (vp_updL (ww_li s n p).1 (ww_ls (ww_li s n p).2) ((ww_li s n p).1 (ww_ls (ww_li s n p).2) ||| ww_b s), (ww_li s n p).2 &&& ((ww_li s n p).2 - 1))).1 = _
  rw [if_neg h]
theorem ww_li_S2 {s n : Nat} {p : (Nat → Int64) × Int64} (h : ¬ (ww_li s n p).2 = 0) : (ww_li s (n + 1) p).2 = (ww_li s n p).2 &&& ((ww_li s n p).2 - 1) := by
  show (if (ww_li s n p).2 = 0 then ww_li s n p else (vp_updL (ww_li s n p).1 (ww_ls (ww_li s n p).2) ((ww_li s n p).1 (ww_ls (ww_li s n p).2) ||| ww_b s), (ww_li s n p).2 &&& ((ww_li s n p).2 - 1))).2 = _
  rw [if_neg h]
theorem ww_li_stop {s n : Nat} {p : (Nat → Int64) × Int64} (h : (ww_li s n p).2 = 0) : ∀ k, ww_li s (n + k) p = ww_li s n p := by
  intro k
  induction k with
  | zero => rfl
  | succ k ih =>
    show (if (ww_li s (n + k) p).2 = 0 then ww_li s (n + k) p else _) = _
    rw [ih, if_pos h]
theorem ww_li_end {s k : Nat} {p : (Nat → Int64) × Int64} (hk : k ≤ 64) (h : k = 64 ∨ (ww_li s k p).2 = 0) : (ww_li s k p).1 = (ww_li s ww_k64 p).1 := by
  rw [ww_k64_eq]
  rcases h with h | h
  · rw [h]
  · have := ww_li_stop h (64 - k)
    rw [show k + (64 - k) = 64 by omega] at this
    rw [this]
noncomputable def ww_lo (bm : Nat → Int64) : Nat → (Nat → Int64) → Nat → Int64
  | 0, so => so
  | s + 1, so => (ww_li s ww_k64 (ww_lo bm s so, ww_fo (bm s) s)).1
theorem ww_li_inv (s : Nat) (so : Nat → Int64) (x : Int64) : ∀ n, (∀ i, i < n → ww_m (ww_li s n (so, x)).2 i = false) ∧ ww_sub (ww_li s n (so, x)).2 x ∧ ∀ t, t < 64 → (ww_li s n (so, x)).1 t = if ww_m x t = true ∧ ww_m (ww_li s n (so, x)).2 t = false then so t ||| ww_b s else so t := by
  intro n
  induction n with
  | zero =>
    refine ⟨fun i hi => by omega, ww_sub.rf _, fun t ht => ?_⟩
    rw [if_neg (fun q => by have h1 : ww_m x t = false := q.2; rw [h1] at q; exact absurd q.1 (by decide))]
    rfl
  | succ n ih =>
    obtain ⟨h1, h2, h3⟩ := ih
    by_cases h : (ww_li s n (so, x)).2 = 0
    · have e : ww_li s (n + 1) (so, x) = ww_li s n (so, x) := ww_li_stop h 1
      rw [e]
      exact ⟨fun i _ => by rw [h, ww_z], h2, h3⟩
    · obtain ⟨q1, q2⟩ := ww_ls_ok h
      have hge : n ≤ ww_ls (ww_li s n (so, x)).2 := by
        apply Classical.byContradiction
        intro hc
        rw [h1 _ (by omega)] at q1
        cases q1
      rw [ww_li_S1 h, ww_li_S2 h]
      refine ⟨fun i hi => ?_, (ww_sub_and _ _).tr h2, fun t ht => ?_⟩
      · rw [ww_drop h]
        by_cases e : i = ww_ls (ww_li s n (so, x)).2
        · simp [e]
        · rw [q2 i (by omega)]; rfl
      · rw [ww_drop h]
        by_cases e : t = ww_ls (ww_li s n (so, x)).2
        · subst e
          rw [pk_uLs, h3 _ ht, if_neg (fun q => by rw [q1] at q; exact absurd q.2 (by decide)), if_pos ⟨h2 _ q1, by simp⟩]
        · rw [pk_uLn e, h3 t ht]
          simp [e]
theorem ww_li_all (s : Nat) (so : Nat → Int64) (x : Int64) {t : Nat} (ht : t < 64) : (ww_li s 64 (so, x)).1 t = if ww_m x t = true then so t ||| ww_b s else so t := by
  obtain ⟨h1, -, h3⟩ := ww_li_inv s so x 64
  rw [h3 t ht, h1 t ht]
  simp
theorem ww_lo_m (bm so : Nat → Int64) : ∀ n, n ≤ 64 → ∀ t, t < 64 → ∀ i, i < 64 → ww_m (ww_lo bm n (ww_fl (fun _ => 0) ww_k64 so) t) i = (decide (i < n) && ww_m (ww_fo (bm i) i) t) := by
  intro n
  induction n with
  | zero =>
    intro _ t ht i hi
    show ww_m (ww_fl (fun _ => 0) ww_k64 so t) i = _
    rw [ww_k64_eq, ww_fl_at, if_pos ht, ww_z]
    simp
  | succ n ih =>
    intro hn t ht i hi
    show ww_m ((ww_li n ww_k64 (ww_lo bm n (ww_fl (fun _ => 0) ww_k64 so), ww_fo (bm n) n)).1 t) i = _
    rw [show ww_li n ww_k64 = ww_li n 64 by rw [ww_k64_eq], ww_li_all n _ _ ht]
    have ih := ih (by omega) t ht i hi
    by_cases h : ww_m (ww_fo (bm n) n) t = true
    · rw [if_pos h, ww_or, ih, ww_mb n (by omega) i hi]
      rcases Nat.lt_trichotomy i n with e | e | e
      · simp [e, Nat.lt_succ_of_lt e, Nat.ne_of_lt e]
      · subst e; simp [h]
      · have h1 : ¬ i < n := by omega
        have h2 : ¬ i < n + 1 := by omega
        have h3 : ¬ i = n := by omega
        simp [h1, h2, h3]
    · rw [if_neg h, ih]
      rcases Nat.lt_trichotomy i n with e | e | e
      · simp [e, Nat.lt_succ_of_lt e]
      · subst e; simp [h]
      · have h1 : ¬ i < n := by omega
        have h2 : ¬ i < n + 1 := by omega
        simp [h1, h2]
/-- behind linkSources -/
theorem ww_lo_So (bm so : Nat → Int64) : ww_So (fun s => ww_fo (bm s) s) (ww_lo bm ww_k64 (ww_fl (fun _ => 0) ww_k64 so)) := by
  intro s hs t ht
  rw [show ww_lo bm ww_k64 = ww_lo bm 64 by rw [ww_k64_eq], ww_lo_m bm so 64 (Nat.le_refl _) t ht s hs]
  simp [hs]
/-- one more move -/
def ww_ad (on off se cl an : Nat) (bm : Nat → Int64) : Nat → Nat → Int64
  | 0 => bm
  | s + 1 => if s &&& on = on then (if s &&& off = 0 then vp_updL (ww_ad on off se cl an bm s) s (ww_ad on off se cl an bm s s ||| ww_sp (((s ||| se) &&& (63 ^^^ cl)) &&& (63 ^^^ an)) an) else ww_ad on off se cl an bm s) else ww_ad on off se cl an bm s
theorem ww_or_0 (x : Int64) : x ||| 0 = x := ww_ext (fun i _ => by rw [ww_or, ww_z, Bool.or_false])
theorem ww_ad_at {on off se cl an : Nat} (hse : se < 64) (hcl : cl < 64) (han : an < 64) (bm : Nat → Int64) : ∀ n, n ≤ 64 → ∀ i, ww_ad on off se cl an bm n i = if i < n then bm i ||| ww_mv on off se cl an i else bm i := by
  intro n
  induction n with
  | zero => intro _ i; simp [ww_ad]
  | succ n ih =>
    intro hn i
    have ih := ih (by omega)
    have hnn : ww_ad on off se cl an bm n n = bm n := by rw [ih n, if_neg (by omega)]
    unfold ww_ad
    by_cases h1 : n &&& on = on
    · by_cases h2 : n &&& off = 0
      · rw [if_pos h1, if_pos h2]
        by_cases e : i = n
        · subst e
          rw [pk_uLs, hnn, if_pos (by omega), ww_mv_sp hse hcl han (by omega) (by unfold ww_ok; simp [h1, h2])]
        · have h : (i < n + 1) ↔ (i < n) := by omega
          rw [pk_uLn e, ih i]
          simp only [h]
      · rw [if_pos h1, if_neg h2, ih i]
        by_cases e : i = n
        · subst e
          rw [if_neg (by omega), if_pos (by omega)]
          have : ww_mv on off se cl an i = 0 := by unfold ww_mv ww_ok; simp [h2]
          rw [this, ww_or_0]
        · have h : (i < n + 1) ↔ (i < n) := by omega
          simp only [h]
    · rw [if_neg h1, ih i]
      by_cases e : i = n
      · subst e
        rw [if_neg (by omega), if_pos (by omega)]
        have : ww_mv on off se cl an i = 0 := by unfold ww_mv ww_ok; simp [h1]
        rw [this, ww_or_0]
      · have h : (i < n + 1) ↔ (i < n) := by omega
        simp only [h]
