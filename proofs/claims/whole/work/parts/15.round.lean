/-! Rounds. -/
theorem ww_ly_cn {nx : Nat → Int64} {w g : Int64} : ∀ n s, ww_m (ww_ly nx w g n) s = true → n + 1 ≤ ww_cn (ww_sn nx w g n) := by
  intro n
  induction n with
  | zero =>
    intro s h
    have h1 : ww_cn 0 < ww_cn (ww_sn nx w g 0) := ww_sub_lt (fun i hi => by rw [ww_z] at hi; cases hi) (fun e => ww_nz (ww_ly_sn nx w g 0 s h) e.symm)
    omega
  | succ n ih =>
    intro s h
    have h1 := ih _ (ww_go_step h).1
    have h2 : ww_cn (ww_sn nx w g n) < ww_cn (ww_sn nx w g (n + 1)) := ww_sub_lt (ww_sn_le nx w g (by omega)) (fun e => by
      have h3 := ww_ly_sn nx w g (n + 1) s h
      rw [← e, ww_ly_new h] at h3
      cases h3)
    omega
theorem ww_ly_64 {nx : Nat → Int64} {w g : Int64} {n s : Nat} (h : ww_m (ww_ly nx w g n) s = true) : n < 64 := by
  have h1 := ww_ly_cn n s h
  have h2 := ww_cn_le (ww_sn nx w g n)
  omega
theorem ww_rc_ly {nx : Nat → Int64} {w g : Int64} {s : Nat} (h : ww_m (ww_rc nx g w) s = true) : ∃ d, d < 64 ∧ ww_m (ww_ly nx w g d) s = true := by
  have h1 : ww_m (ww_sn nx w g 64) s = true := by rw [ww_sn_R, ← ww_rc_it]; exact h
  obtain ⟨d, -, h2⟩ := ww_sn_ly 64 h1
  exact ⟨d, ww_ly_64 h2, h2⟩
theorem ww_ds_lt (nx : Nat → Int64) (w g : Int64) (s : Nat) : ww_ds nx w g s < 64 := by
  have : ∀ f k, ww_dsf nx w g s f k < k + f ∨ ww_dsf nx w g s f k = 0 := by
    intro f
    induction f with
    | zero => intro k; exact Or.inr rfl
    | succ f ih =>
      intro k
      unfold ww_dsf
      split
      · exact Or.inl (by omega)
      · rcases ih (k + 1) with h | h
        · exact Or.inl (by omega)
        · exact Or.inr h
  rcases this 64 0 with h | h
  · unfold ww_ds; omega
  · unfold ww_ds; omega
theorem ww_go_len (nx : Nat → Int64) (w g : Int64) : ∀ d s, (ww_go nx w g d s).length = d := by
  intro d
  induction d with
  | zero => intro s; rfl
  | succ d ih => intro s; show (ww_go nx w g d _).length + 1 = d + 1; rw [ih]
/-- a step, then to each goal in turn: what is gone through, where it ends -/
def ww_rg (nx : Nat → Int64) (w : Int64) (G : Nat → Int64) : Nat → Nat → List Nat × Nat
  | 0, t => ([t], t)
  | i + 1, t => ((ww_rg nx w G i t).1 ++ ww_go nx w (G i &&& w) (ww_ds nx w (G i &&& w) (ww_rg nx w G i t).2) (ww_rg nx w G i t).2, ww_gn nx w (G i &&& w) (ww_ds nx w (G i &&& w) (ww_rg nx w G i t).2) (ww_rg nx w G i t).2)
def ww_r1 (nx : Nat → Int64) (w : Int64) (s : Nat) : Nat := ww_ls (nx s &&& w)
def ww_rd (nx : Nat → Int64) (w : Int64) (G : Nat → Int64) (c s : Nat) : List Nat × Nat := ww_rg nx w G c (ww_r1 nx w s)
theorem ww_rg_len (nx : Nat → Int64) (w : Int64) (G : Nat → Int64) : ∀ i t, (ww_rg nx w G i t).1.length ≤ 1 + 63 * i := by
  intro i
  induction i with
  | zero => intro t; exact Nat.le_refl _
  | succ i ih =>
    intro t
    show ((ww_rg nx w G i t).1 ++ _).length ≤ _
    rw [List.length_append, ww_go_len]
    have h1 := ih t
    have h2 := ww_ds_lt nx w (G i &&& w) (ww_rg nx w G i t).2
    omega
theorem ww_r1_in {nx : Nat → Int64} {w : Int64} {G : Nat → Int64} {c s : Nat} (hg : ww_good nx G c w) (hs : ww_m w s = true) : ww_m w (ww_r1 nx w s) = true ∧ ww_m (nx s) (ww_r1 nx w s) = true := by
  obtain ⟨t, h1, h2, h3⟩ := (ww_bf_m (ww_lt hs)).mp (hg.1 s hs)
  have := (ww_ls_ok (ww_meet.mpr ⟨t, h1, h2, h3⟩)).1
  rw [ww_and_iff] at this
  exact ⟨this.2, this.1⟩
theorem ww_and_comm (x y : Int64) : x &&& y = y &&& x := ww_ext (fun i _ => by rw [ww_and, ww_and, Bool.and_comm])
theorem ww_gl {nx : Nat → Int64} {w : Int64} {G : Nat → Int64} {c i s : Nat} (hg : ww_good nx G c w) (hi : i < c) (hs : ww_m w s = true) : ww_m (ww_ly nx w (G i &&& w) (ww_ds nx w (G i &&& w) s)) s = true := by
  have h := hg.2 i hi s hs
  rw [ww_and_comm w (G i)] at h
  obtain ⟨d, h1, h2⟩ := ww_rc_ly h
  rw [ww_ds_ok h2 h1]
  exact h2
theorem ww_rg_in {nx : Nat → Int64} {w : Int64} {G : Nat → Int64} {c : Nat} (hg : ww_good nx G c w) {t : Nat} (ht : ww_m w t = true) : ∀ i, i ≤ c → ww_m w (ww_rg nx w G i t).2 = true := by
  intro i
  induction i with
  | zero => intro _; exact ht
  | succ i ih =>
    intro hi
    have h1 := ww_gl hg (i := i) (by omega) (ih (by omega))
    have h2 := ww_gn_in _ _ h1
    rw [ww_and_iff] at h2
    exact h2.2
theorem ww_rd_in {nx : Nat → Int64} {w : Int64} {G : Nat → Int64} {c s : Nat} (hg : ww_good nx G c w) (hs : ww_m w s = true) : ww_m w (ww_rd nx w G c s).2 = true := ww_rg_in hg (ww_r1_in hg hs).1 c (Nat.le_refl _)
abbrev ww_Ro : Type := List Nat × Nat × (Nat → Int32)
/-- one more round, if it begins where none has begun -/
def ww_rs1 (nx : Nat → Int64) (w : Int64) (G : Nat → Int64) (c : Nat) (y : ww_Ro) : ww_Ro := if y.2.2 y.2.1 = -1 then (y.1 ++ (ww_rd nx w G c y.2.1).1, (ww_rd nx w G c y.2.1).2, upd y.2.2 y.2.1 (nI (y.1.length - 1))) else y
def ww_rn (nx : Nat → Int64) (w : Int64) (G : Nat → Int64) (c : Nat) : Nat → ww_Ro → ww_Ro
  | 0, x => x
  | n + 1, x => ww_rs1 nx w G c (ww_rn nx w G c n x)
theorem ww_rn_stop {nx : Nat → Int64} {w : Int64} {G : Nat → Int64} {c n : Nat} {x : ww_Ro} (h : ¬ (ww_rn nx w G c n x).2.2 (ww_rn nx w G c n x).2.1 = -1) : ∀ k, ww_rn nx w G c (n + k) x = ww_rn nx w G c n x := by
  intro k
  induction k with
  | zero => rfl
  | succ k ih =>
    show ww_rs1 nx w G c (ww_rn nx w G c (n + k) x) = _
    rw [ih]
    unfold ww_rs1
    rw [if_neg h]
theorem ww_rn_in {nx : Nat → Int64} {w : Int64} {G : Nat → Int64} {c : Nat} (hg : ww_good nx G c w) {x : ww_Ro} (hx : ww_m w x.2.1 = true) : ∀ n, ww_m w (ww_rn nx w G c n x).2.1 = true := by
  intro n
  induction n with
  | zero => exact hx
  | succ n ih =>
    show ww_m w (ww_rs1 nx w G c (ww_rn nx w G c n x)).2.1 = true
    unfold ww_rs1
    split
    · exact ww_rd_in hg ih
    · exact ih
theorem ww_rn_len {nx : Nat → Int64} {w : Int64} {G : Nat → Int64} {c : Nat} (x : ww_Ro) : ∀ n, x.1.length ≤ (ww_rn nx w G c n x).1.length ∧ (ww_rn nx w G c n x).1.length ≤ x.1.length + n * (1 + 63 * c) := by
  intro n
  induction n with
  | zero => exact ⟨Nat.le_refl _, by simp [ww_rn]⟩
  | succ n ih =>
    have e : (n + 1) * (1 + 63 * c) = n * (1 + 63 * c) + (1 + 63 * c) := by rw [Nat.add_mul, Nat.one_mul]
    show x.1.length ≤ (ww_rs1 nx w G c (ww_rn nx w G c n x)).1.length ∧ (ww_rs1 nx w G c (ww_rn nx w G c n x)).1.length ≤ _
    rw [e]
    unfold ww_rs1
    split
    · have h := ww_rg_len nx w G c (ww_r1 nx w (ww_rn nx w G c n x).2.1)
      show x.1.length ≤ (_ ++ (ww_rg nx w G c (ww_r1 nx w (ww_rn nx w G c n x).2.1)).1).length ∧ (_ ++ (ww_rg nx w G c (ww_r1 nx w (ww_rn nx w G c n x).2.1)).1).length ≤ _
      rw [List.length_append]
      omega
    · omega
theorem ww_nI_m1 {k : Nat} (h : k < 2 ^ 31) : ¬ nI k = -1 := by
  intro e
  have h1 := nI_toInt h
  rw [e] at h1
  have h2 : (-1 : Int32).toInt = -1 := by decide
  omega
/-- how many states have begun a round -/
def ww_nb (rs : Nat → Int32) : Nat := ww_c (fun i => decide (¬ rs i = -1)) 64
theorem ww_rn_nb {nx : Nat → Int64} {w : Int64} {G : Nat → Int64} {c : Nat} (hg : ww_good nx G c w) (hc : c ≤ 3) {x : ww_Ro} (hx : ww_m w x.2.1 = true) (hl : x.1.length ≤ 100) : ∀ n, n ≤ 64 → ¬ (ww_rn nx w G c n x).2.2 (ww_rn nx w G c n x).2.1 = -1 ∨ n ≤ ww_nb (ww_rn nx w G c n x).2.2 := by
  intro n
  induction n with
  | zero => intro _; exact Or.inr (Nat.zero_le _)
  | succ n ih =>
    intro hn
    by_cases h : (ww_rn nx w G c n x).2.2 (ww_rn nx w G c n x).2.1 = -1
    · refine Or.inr ?_
      rcases ih (by omega) with q | q
      · exact absurd h q
      · have hs := ww_lt (ww_rn_in hg hx n)
        have hlen := (ww_rn_len (nx := nx) (w := w) (G := G) (c := c) x n).2
        have hb : n * (1 + 63 * c) ≤ 64 * (1 + 63 * 3) := Nat.mul_le_mul (by omega) (by omega)
        show n + 1 ≤ ww_nb (ww_rs1 nx w G c (ww_rn nx w G c n x)).2.2
        unfold ww_rs1
        rw [if_pos h]
        have : ww_nb (ww_rn nx w G c n x).2.2 < ww_nb (upd (ww_rn nx w G c n x).2.2 (ww_rn nx w G c n x).2.1 (nI ((ww_rn nx w G c n x).1.length - 1))) := by
          unfold ww_nb
          refine ww_c_lt (k := (ww_rn nx w G c n x).2.1) (fun i hi => ?_) ?_ ?_ 64 hs
          · have hi := decide_eq_true_iff.mp hi
            refine decide_eq_true_iff.mpr ?_
            have hne : i ≠ (ww_rn nx w G c n x).2.1 := fun e => hi (by rw [e]; exact h)
            rw [pk_un hne]
            exact hi
          · exact decide_eq_false (fun q => q h)
          · refine decide_eq_true_iff.mpr ?_
            rw [pk_us]
            exact ww_nI_m1 (by omega)
        exact Nat.succ_le_of_lt (Nat.lt_of_le_of_lt q this)
    · refine Or.inl ?_
      show ¬ (ww_rs1 nx w G c (ww_rn nx w G c n x)).2.2 (ww_rs1 nx w G c (ww_rn nx w G c n x)).2.1 = -1
      unfold ww_rs1
      rw [if_neg h]
      exact h
theorem ww_c_full {p : Nat → Bool} : ∀ {n : Nat}, n ≤ ww_c p n → ∀ i, i < n → p i = true := by
  intro n
  induction n with
  | zero => intro _ i hi; omega
  | succ n ih =>
    intro h i hi
    have h1 := ww_c_le p n
    unfold ww_c at h
    by_cases hp : p n = true
    · rw [if_pos hp] at h
      by_cases e : i = n
      · rw [e]; exact hp
      · exact ih (by omega) i (by omega)
    · rw [if_neg hp] at h
      omega
/-- after 64 rounds one has come back -/
theorem ww_rn_end {nx : Nat → Int64} {w : Int64} {G : Nat → Int64} {c : Nat} (hg : ww_good nx G c w) (hc : c ≤ 3) {x : ww_Ro} (hx : ww_m w x.2.1 = true) (hl : x.1.length ≤ 100) : ¬ (ww_rn nx w G c 64 x).2.2 (ww_rn nx w G c 64 x).2.1 = -1 := by
  rcases ww_rn_nb hg hc hx hl 64 (Nat.le_refl _) with h | h
  · exact h
  · have hs := ww_lt (ww_rn_in hg hx 64)
    exact decide_eq_true_iff.mp (ww_c_full h _ hs)
