/-! What the walker does, in words of sets and ways. -/
theorem ww_0or (x : Int64) : (0 : Int64) ||| x = x := ww_ext (fun i _ => by rw [ww_or, ww_z, Bool.false_or])
theorem ww_bf_0 (nx : Nat → Int64) : ww_bf nx 0 = 0 := by
  apply ww_ext
  intro i hi
  rw [ww_z]
  cases h : ww_m (ww_bf nx 0) i with
  | false => rfl
  | true =>
    obtain ⟨t, -, -, h3⟩ := (ww_bf_m hi).mp h
    rw [ww_z] at h3
    cases h3
theorem ww_0and (x : Int64) : (0 : Int64) &&& x = 0 := ww_ext (fun i _ => by rw [ww_and, ww_z, Bool.false_and])
theorem ww_ly_dead {nx : Nat → Int64} {w g : Int64} {d : Nat} (h : ww_ly nx w g d = 0) : ∀ k, ww_ly nx w g (d + k) = 0 := by
  intro k
  induction k with
  | zero => exact h
  | succ k ih =>
    show ww_ly nx w g (d + k + 1) = 0
    rw [ww_ly_S, ih, ww_bf_0, ww_0and, ww_0and]
theorem ww_ly_live {nx : Nat → Int64} {w g : Int64} {d d0 s : Nat} (h : ww_m (ww_ly nx w g d0) s = true) (hd : d ≤ d0) : ¬ ww_ly nx w g d = 0 := by
  intro h0
  have := ww_ly_dead h0 (d0 - d)
  rw [show d + (d0 - d) = d0 by omega] at this
  rw [this, ww_z] at h
  cases h
/-- the layers as they are laid out -/
def ww_lyf (nx : Nat → Int64) (w g : Int64) : Nat → (Nat → Int64) → Nat → Int64
  | 0, f => f
  | d + 1, f => vp_updL (ww_lyf nx w g d f) d (ww_ly nx w g d)
theorem ww_lyf_at (nx : Nat → Int64) (w g : Int64) (f : Nat → Int64) : ∀ n i, i < n → ww_lyf nx w g n f i = ww_ly nx w g i := by
  intro n
  induction n with
  | zero => intro i hi; omega
  | succ n ih =>
    intro i hi
    show vp_updL (ww_lyf nx w g n f) n _ i = _
    by_cases e : i = n
    · subst e; rw [pk_uLs]
    · rw [pk_uLn e]; exact ih i (by omega)
theorem ww_seen {nx : Nat → Int64} {w g se la : Int64} {d : Nat} (h1 : se ||| la = ww_sn nx w g d) (h2 : la = ww_ly nx w g d) : ww_bf nx la &&& w &&& ((se ||| la) ^^^ (-1)) = ww_ly nx w g (d + 1) ∧ (se ||| la) ||| (ww_bf nx la &&& w &&& ((se ||| la) ^^^ (-1))) = ww_sn nx w g (d + 1) := by
  rw [h1, h2, ← ww_ly_S, ← ww_sn_S]
  exact ⟨rfl, rfl⟩
theorem ww_ly_sub {nx : Nat → Int64} {w g : Int64} (hg : ww_sub g w) {d s : Nat} (h : ww_m (ww_ly nx w g d) s = true) : ww_m w s = true := ww_ly_w hg d s h
/-- how a way begins: what is shown till the rounds begin, where, within what -/
abbrev ww_Be : Type := List Nat × Nat × Int64
noncomputable def ww_bN (nx : Nat → Int64) (fs x : Int64) (s : Nat) : Option ww_Be := if nx s &&& fs &&& x = 0 then none else some ([s, ww_ls (nx s &&& fs &&& x)], ww_ls (nx s &&& fs &&& x), fs)
noncomputable def ww_bU (nx : Nat → Int64) (fs w g : Int64) (s : Nat) : Option ww_Be := if ww_m (ww_rc nx (g &&& fs) w) s = true then some (s :: ww_go nx (ww_rc nx (g &&& fs) w) (g &&& fs) (ww_ds nx (ww_rc nx (g &&& fs) w) (g &&& fs) s) s, ww_gn nx (ww_rc nx (g &&& fs) w) (g &&& fs) (ww_ds nx (ww_rc nx (g &&& fs) w) (g &&& fs) s) s, fs) else none
noncomputable def ww_bA (nx G : Nat → Int64) (c : Nat) (x : Int64) (s : Nat) : Option ww_Be := if ww_m (ww_yy nx G c x) s = true then some ([s], s, ww_yy nx G c x) else none
noncomputable def ww_beg (nx G : Nat → Int64) (c : Nat) (fs : Int64) (k : Nat) (a b : Int64) (s : Nat) : Option ww_Be :=
  match k with
  | 5 => ww_bN nx fs a s
  | 6 => ww_bU nx fs a b s
  | 7 => ww_bA nx G c a s
  | 8 => ww_bU nx fs (-1) a s
  | 9 => ww_bN nx fs (a ^^^ (-1)) s
  | 10 => match ww_bU nx fs (b ^^^ (-1)) ((a ^^^ (-1)) &&& (b ^^^ (-1))) s with
    | some r => some r
    | none => ww_bA nx G c (b ^^^ (-1)) s
  | 11 => ww_bU nx fs (-1) (a ^^^ (-1)) s
  | 12 => ww_bA nx G c (a ^^^ (-1)) s
  | _ => none
/-- within what is reached the layers are those of the goal -/
theorem ww_rc_in_ly {nx : Nat → Int64} {w g : Int64} {s : Nat} (h : ww_m (ww_rc nx g w) s = true) : ww_m (ww_ly nx (ww_rc nx g w) g (ww_ds nx (ww_rc nx g w) g s)) s = true := by
  have h1 : ww_m (ww_rc nx g (ww_rc nx g w)) s = true := by
    obtain ⟨t, h2, h3⟩ := ww_rc_m.mp h
    refine ww_rs.ind (P := fun a => ww_m (ww_rc nx g (ww_rc nx g w)) a = true) (ww_rc_ge nx g _ t h2) (fun a u q1 q2 q3 => ?_) h3
    have ha : ww_m (ww_rc nx g w) a = true := ww_rc_m.mpr ⟨t, h2, ww_rs.hd q1 q2⟩
    exact ww_rc_cl ⟨q1.1, q1.2.1, ha, q1.2.2.2⟩ q3
  obtain ⟨d, h4, h5⟩ := ww_rc_ly h1
  rw [ww_ds_ok h5 h4]
  exact h5
theorem ww_aps_1 (x : ww_Pa) (s : Nat) : ww_aps x [s] = ww_ap x s := rfl
theorem ww_aps_c (x : ww_Pa) (s : Nat) (r : List Nat) : ww_aps x (s :: r) = ww_aps (ww_ap x s) r := rfl
theorem ww_ly_next {nx : Nat → Int64} {w g : Int64} {d d0 s : Nat} (h0 : ww_m (ww_ly nx w g d0) s = true) (hd : d ≤ d0) (h : ww_m (ww_ly nx w g d) s = false) : d + 1 ≤ d0 := by
  by_cases e : d = d0
  · rw [e, h0] at h
    cases h
  · omega
theorem ww_al (r0 : Nat → Int32) (p : List Nat) : (ww_aps (0, r0) p).1 = p.length := by rw [ww_aps_len]; exact Nat.zero_add _
theorem ww_aps_snoc (x : ww_Pa) (p : List Nat) (t : Nat) : ww_ap (ww_aps x p) t = ww_aps x (p ++ [t]) := by rw [ww_aps_app]; rfl
theorem ww_bN_some {nx : Nat → Int64} {fs x : Int64} {s : Nat} {bl : List Nat} {bh : Nat} {bg : Int64} (h : ww_bN nx fs x s = some (bl, bh, bg)) : ¬ nx s &&& fs &&& x = 0 ∧ [s, ww_ls (nx s &&& fs &&& x)] = bl ∧ ww_ls (nx s &&& fs &&& x) = bh ∧ fs = bg := by
  unfold ww_bN at h
  by_cases q : nx s &&& fs &&& x = 0
  · rw [if_pos q] at h; cases h
  · rw [if_neg q] at h
    cases h
    exact ⟨q, rfl, rfl, rfl⟩
theorem ww_bN_none {nx : Nat → Int64} {fs x : Int64} {s : Nat} (h : ww_bN nx fs x s = none) : nx s &&& fs &&& x = 0 := by
  unfold ww_bN at h
  by_cases q : nx s &&& fs &&& x = 0
  · exact q
  · rw [if_neg q] at h; cases h
theorem ww_bU_some {nx : Nat → Int64} {fs w g : Int64} {s : Nat} {bl : List Nat} {bh : Nat} {bg : Int64} (h : ww_bU nx fs w g s = some (bl, bh, bg)) : ww_m (ww_rc nx (g &&& fs) w) s = true ∧ s :: ww_go nx (ww_rc nx (g &&& fs) w) (g &&& fs) (ww_ds nx (ww_rc nx (g &&& fs) w) (g &&& fs) s) s = bl ∧ ww_gn nx (ww_rc nx (g &&& fs) w) (g &&& fs) (ww_ds nx (ww_rc nx (g &&& fs) w) (g &&& fs) s) s = bh ∧ fs = bg := by
  unfold ww_bU at h
  by_cases q : ww_m (ww_rc nx (g &&& fs) w) s = true
  · rw [if_pos q] at h
    cases h
    exact ⟨q, rfl, rfl, rfl⟩
  · rw [if_neg q] at h; cases h
theorem ww_bU_none {nx : Nat → Int64} {fs w g : Int64} {s : Nat} (h : ww_bU nx fs w g s = none) : ww_m (ww_rc nx (g &&& fs) w) s = false := by
  unfold ww_bU at h
  by_cases q : ww_m (ww_rc nx (g &&& fs) w) s = true
  · rw [if_pos q] at h; cases h
  · cases r : ww_m (ww_rc nx (g &&& fs) w) s with
    | false => rfl
    | true => exact absurd r q
theorem ww_bA_some {nx G : Nat → Int64} {c : Nat} {x : Int64} {s : Nat} {bl : List Nat} {bh : Nat} {bg : Int64} (h : ww_bA nx G c x s = some (bl, bh, bg)) : ww_m (ww_yy nx G c x) s = true ∧ [s] = bl ∧ s = bh ∧ ww_yy nx G c x = bg := by
  unfold ww_bA at h
  by_cases q : ww_m (ww_yy nx G c x) s = true
  · rw [if_pos q] at h
    cases h
    exact ⟨q, rfl, rfl, rfl⟩
  · rw [if_neg q] at h; cases h
theorem ww_bA_none {nx G : Nat → Int64} {c : Nat} {x : Int64} {s : Nat} (h : ww_bA nx G c x s = none) : ww_m (ww_yy nx G c x) s = false := by
  unfold ww_bA at h
  by_cases q : ww_m (ww_yy nx G c x) s = true
  · rw [if_pos q] at h; cases h
  · cases r : ww_m (ww_yy nx G c x) s with
    | false => rfl
    | true => exact absurd r q
theorem ww_beg10_y {nx G : Nat → Int64} {c : Nat} {fs a b : Int64} {s : Nat} (h : ww_m (ww_rc nx (((a ^^^ (-1)) &&& (b ^^^ (-1))) &&& fs) (b ^^^ (-1))) s = true) : ww_beg nx G c fs 10 a b s = ww_bU nx fs (b ^^^ (-1)) ((a ^^^ (-1)) &&& (b ^^^ (-1))) s := by
  show (match ww_bU nx fs (b ^^^ (-1)) ((a ^^^ (-1)) &&& (b ^^^ (-1))) s with
    | some r => some r
    | none => ww_bA nx G c (b ^^^ (-1)) s) = _
  cases q : ww_bU nx fs (b ^^^ (-1)) ((a ^^^ (-1)) &&& (b ^^^ (-1))) s with
  | some r => rfl
  | none =>
    rw [ww_bU_none q] at h
    cases h
theorem ww_beg10_n {nx G : Nat → Int64} {c : Nat} {fs a b : Int64} {s : Nat} (h : ww_m (ww_rc nx (((a ^^^ (-1)) &&& (b ^^^ (-1))) &&& fs) (b ^^^ (-1))) s = false) : ww_beg nx G c fs 10 a b s = ww_bA nx G c (b ^^^ (-1)) s := by
  show (match ww_bU nx fs (b ^^^ (-1)) ((a ^^^ (-1)) &&& (b ^^^ (-1))) s with
    | some r => some r
    | none => ww_bA nx G c (b ^^^ (-1)) s) = _
  have : ww_bU nx fs (b ^^^ (-1)) ((a ^^^ (-1)) &&& (b ^^^ (-1))) s = none := by
    unfold ww_bU
    rw [if_neg (by rw [h]; decide)]
  rw [this]
theorem ww_beg10_none {nx G : Nat → Int64} {c : Nat} {fs a b : Int64} {s : Nat} (h : ww_beg nx G c fs 10 a b s = none) : ww_m (ww_rc nx (((a ^^^ (-1)) &&& (b ^^^ (-1))) &&& fs) (b ^^^ (-1))) s = false ∧ ww_m (ww_yy nx G c (b ^^^ (-1))) s = false := by
  cases q : ww_m (ww_rc nx (((a ^^^ (-1)) &&& (b ^^^ (-1))) &&& fs) (b ^^^ (-1))) s with
  | true =>
    rw [ww_beg10_y q] at h
    rw [ww_bU_none h] at q
    cases q
  | false =>
    rw [ww_beg10_n q] at h
    exact ⟨rfl, ww_bA_none h⟩
theorem ww_rn_back {nx : Nat → Int64} {w : Int64} {G : Nat → Int64} {c k : Nat} {x : ww_Ro} {p1 p2 : List Nat} {h1 h2 L9 : Nat} {rs1 : Nat → Int32} (hy : (p1, h1, rs1) = ww_rn nx w G c k x) (h : rs1 h1 = -1) (e1 : p2 = p1 ++ (ww_rg nx w G c (ww_r1 nx w h1)).1) (e2 : h2 = (ww_rg nx w G c (ww_r1 nx w h1)).2) (e3 : L9 = p1.length - 1) : (p2, h2, upd rs1 h1 (nI L9)) = ww_rn nx w G c (k + 1) x := by
  show _ = ww_rs1 nx w G c (ww_rn nx w G c k x)
  rw [← hy, e1, e2, e3]
  unfold ww_rs1
  rw [if_pos h]
  rfl
theorem ww_rn_done {nx : Nat → Int64} {w : Int64} {G : Nat → Int64} {c k : Nat} {x : ww_Ro} {p1 : List Nat} {h1 : Nat} {rs1 : Nat → Int32} (hk : k ≤ 64) (hy : (p1, h1, rs1) = ww_rn nx w G c k x) (h : k = 64 ∨ ¬ rs1 h1 = -1) : (p1, h1, rs1) = ww_rn nx w G c ww_k64 x := by
  rw [ww_k64_eq]
  rcases h with h | h
  · rw [hy, h]
  · have e : ww_rn nx w G c (k + (64 - k)) x = ww_rn nx w G c k x := ww_rn_stop (by rw [← hy]; exact h) (64 - k)
    rw [show k + (64 - k) = 64 by omega] at e
    rw [hy, e]
