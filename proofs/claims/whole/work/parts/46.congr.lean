/-! Ways hang on the followers of the 64 states alone, and on the goals that there are. -/
theorem ww_la_congr {nx nx2 : Nat → Int64} (h : ∀ s, s < 64 → nx s = nx2 s) (w g : Int64) : ∀ n, ww_la nx w n g = ww_la nx2 w n g := by
  intro n
  induction n with
  | zero => rfl
  | succ n ih =>
    show ((ww_la nx w n g).1 ||| (ww_bf nx (ww_la nx w n g).2 &&& w &&& ((ww_la nx w n g).1 ^^^ (-1))), ww_bf nx (ww_la nx w n g).2 &&& w &&& ((ww_la nx w n g).1 ^^^ (-1))) = ((ww_la nx2 w n g).1 ||| (ww_bf nx2 (ww_la nx2 w n g).2 &&& w &&& ((ww_la nx2 w n g).1 ^^^ (-1))), ww_bf nx2 (ww_la nx2 w n g).2 &&& w &&& ((ww_la nx2 w n g).1 ^^^ (-1)))
    rw [ih, ww_bf_congr h]
theorem ww_ly_congr {nx nx2 : Nat → Int64} (h : ∀ s, s < 64 → nx s = nx2 s) (w g : Int64) (n : Nat) : ww_ly nx w g n = ww_ly nx2 w g n := by
  unfold ww_ly
  rw [ww_la_congr h]
theorem ww_dsf_congr {nx nx2 : Nat → Int64} (h : ∀ s, s < 64 → nx s = nx2 s) (w g : Int64) (s : Nat) : ∀ f d, ww_dsf nx w g s f d = ww_dsf nx2 w g s f d := by
  intro f
  induction f with
  | zero => intro d; rfl
  | succ f ih =>
    intro d
    show (if ww_m (ww_ly nx w g d) s = true then d else ww_dsf nx w g s f (d + 1)) = (if ww_m (ww_ly nx2 w g d) s = true then d else ww_dsf nx2 w g s f (d + 1))
    rw [ih, ww_ly_congr h]
theorem ww_ds_congr {nx nx2 : Nat → Int64} (h : ∀ s, s < 64 → nx s = nx2 s) (w g : Int64) (s : Nat) : ww_ds nx w g s = ww_ds nx2 w g s := ww_dsf_congr h w g s 64 0
theorem ww_go_congr {nx nx2 : Nat → Int64} (h : ∀ s, s < 64 → nx s = nx2 s) (w g : Int64) : ∀ d s, s < 64 → ww_go nx w g d s = ww_go nx2 w g d s ∧ ww_gn nx w g d s = ww_gn nx2 w g d s := by
  intro d
  induction d with
  | zero => intro s _; exact ⟨rfl, rfl⟩
  | succ d ih =>
    intro s hs
    obtain ⟨h1, h2⟩ := ih (ww_ls (nx s &&& ww_ly nx w g d)) (ww_ls_lt _)
    have e : nx s &&& ww_ly nx w g d = nx2 s &&& ww_ly nx2 w g d := by rw [h s hs, ww_ly_congr h]
    constructor
    · show ww_ls (nx s &&& ww_ly nx w g d) :: ww_go nx w g d (ww_ls (nx s &&& ww_ly nx w g d)) = ww_ls (nx2 s &&& ww_ly nx2 w g d) :: ww_go nx2 w g d (ww_ls (nx2 s &&& ww_ly nx2 w g d))
      rw [h1, e]
    · show ww_gn nx w g d (ww_ls (nx s &&& ww_ly nx w g d)) = ww_gn nx2 w g d (ww_ls (nx2 s &&& ww_ly nx2 w g d))
      rw [h2, e]
theorem ww_gn_lt (nx : Nat → Int64) (w g : Int64) : ∀ d s, s < 64 → ww_gn nx w g d s < 64 := by
  intro d
  induction d with
  | zero => intro s h; exact h
  | succ d ih => intro s _; exact ih _ (ww_ls_lt _)
theorem ww_rg_congr {nx nx2 : Nat → Int64} {G G2 : Nat → Int64} {c : Nat} (h : ∀ s, s < 64 → nx s = nx2 s) (hG : ∀ i, i < c → G i = G2 i) (w : Int64) {t : Nat} (ht : t < 64) : ∀ i, i ≤ c → ww_rg nx w G i t = ww_rg nx2 w G2 i t ∧ (ww_rg nx w G i t).2 < 64 := by
  intro i
  induction i with
  | zero => intro _; exact ⟨rfl, ht⟩
  | succ i ih =>
    intro hi
    obtain ⟨h1, h2⟩ := ih (by omega)
    obtain ⟨h3, h4⟩ := ww_go_congr h w (G i &&& w) (ww_ds nx w (G i &&& w) (ww_rg nx w G i t).2) (ww_rg nx w G i t).2 h2
    refine ⟨?_, ww_gn_lt _ _ _ _ _ h2⟩
    show ((ww_rg nx w G i t).1 ++ ww_go nx w (G i &&& w) (ww_ds nx w (G i &&& w) (ww_rg nx w G i t).2) (ww_rg nx w G i t).2, ww_gn nx w (G i &&& w) (ww_ds nx w (G i &&& w) (ww_rg nx w G i t).2) (ww_rg nx w G i t).2) = ((ww_rg nx2 w G2 i t).1 ++ ww_go nx2 w (G2 i &&& w) (ww_ds nx2 w (G2 i &&& w) (ww_rg nx2 w G2 i t).2) (ww_rg nx2 w G2 i t).2, ww_gn nx2 w (G2 i &&& w) (ww_ds nx2 w (G2 i &&& w) (ww_rg nx2 w G2 i t).2) (ww_rg nx2 w G2 i t).2)
    rw [h3, h4, ww_ds_congr h, h1, hG i (by omega)]
theorem ww_rn_congr {nx nx2 : Nat → Int64} {G G2 : Nat → Int64} {c : Nat} (h : ∀ s, s < 64 → nx s = nx2 s) (hG : ∀ i, i < c → G i = G2 i) (w : Int64) {x : ww_Ro} (hx : x.2.1 < 64) : ∀ k, ww_rn nx w G c k x = ww_rn nx2 w G2 c k x ∧ (ww_rn nx w G c k x).2.1 < 64 := by
  intro k
  induction k with
  | zero => exact ⟨rfl, hx⟩
  | succ k ih =>
    obtain ⟨h1, h2⟩ := ih
    have e : ww_rd nx w G c (ww_rn nx w G c k x).2.1 = ww_rd nx2 w G2 c (ww_rn nx w G c k x).2.1 ∧ (ww_rd nx w G c (ww_rn nx w G c k x).2.1).2 < 64 := by
      have := ww_rg_congr h hG w (t := ww_r1 nx w (ww_rn nx w G c k x).2.1) (ww_ls_lt _) c (Nat.le_refl _)
      refine ⟨?_, this.2⟩
      show ww_rg nx w G c (ww_r1 nx w (ww_rn nx w G c k x).2.1) = ww_rg nx2 w G2 c (ww_r1 nx2 w (ww_rn nx w G c k x).2.1)
      rw [this.1]
      unfold ww_r1
      rw [h _ h2]
    show ww_rs1 nx w G c (ww_rn nx w G c k x) = ww_rs1 nx2 w G2 c (ww_rn nx2 w G2 c k x) ∧ (ww_rs1 nx w G c (ww_rn nx w G c k x)).2.1 < 64
    rw [← h1]
    unfold ww_rs1
    rw [← e.1]
    refine ⟨rfl, ?_⟩
    split
    · exact e.2
    · exact h2
theorem ww_bN_congr {nx nx2 : Nat → Int64} (h : ∀ s, s < 64 → nx s = nx2 s) (fs x : Int64) {s : Nat} (hs : s < 64) : ww_bN nx fs x s = ww_bN nx2 fs x s := by
  unfold ww_bN
  rw [h s hs]
theorem ww_bU_congr {nx nx2 : Nat → Int64} (h : ∀ s, s < 64 → nx s = nx2 s) (fs w g : Int64) {s : Nat} (hs : s < 64) : ww_bU nx fs w g s = ww_bU nx2 fs w g s := by
  unfold ww_bU
  rw [ww_rc_congr h, ww_ds_congr h, (ww_go_congr h _ _ _ s hs).1, (ww_go_congr h _ _ _ s hs).2]
theorem ww_bA_congr {nx nx2 G G2 : Nat → Int64} {c : Nat} (h : ∀ s, s < 64 → nx s = nx2 s) (hG : ∀ i, i < c → G i = G2 i) (x : Int64) (s : Nat) : ww_bA nx G c x s = ww_bA nx2 G2 c x s := by
  unfold ww_bA
  rw [ww_yy_congr h hG]
theorem ww_beg_congr {nx nx2 G G2 : Nat → Int64} {c : Nat} (h : ∀ s, s < 64 → nx s = nx2 s) (hG : ∀ i, i < c → G i = G2 i) (fs : Int64) (k : Nat) (a b : Int64) {s : Nat} (hs : s < 64) : ww_beg nx G c fs k a b s = ww_beg nx2 G2 c fs k a b s := by
  rcases k with _ | _ | _ | _ | _ | _ | _ | _ | _ | _ | _ | _ | _ | k
  · show (none : Option ww_Be) = none; rfl
  · show (none : Option ww_Be) = none; rfl
  · show (none : Option ww_Be) = none; rfl
  · show (none : Option ww_Be) = none; rfl
  · show (none : Option ww_Be) = none; rfl
  · show ww_bN nx fs a s = ww_bN nx2 fs a s
    exact ww_bN_congr h fs a hs
  · show ww_bU nx fs a b s = ww_bU nx2 fs a b s
    exact ww_bU_congr h fs a b hs
  · show ww_bA nx G c a s = ww_bA nx2 G2 c a s
    exact ww_bA_congr h hG a s
  · show ww_bU nx fs (-1) a s = ww_bU nx2 fs (-1) a s
    exact ww_bU_congr h fs _ _ hs
  · show ww_bN nx fs (a ^^^ (-1)) s = ww_bN nx2 fs (a ^^^ (-1)) s
    exact ww_bN_congr h fs _ hs
  · show (match ww_bU nx fs (b ^^^ (-1)) ((a ^^^ (-1)) &&& (b ^^^ (-1))) s with
      | some r => some r
      | none => ww_bA nx G c (b ^^^ (-1)) s) = (match ww_bU nx2 fs (b ^^^ (-1)) ((a ^^^ (-1)) &&& (b ^^^ (-1))) s with
      | some r => some r
      | none => ww_bA nx2 G2 c (b ^^^ (-1)) s)
    rw [ww_bU_congr h fs _ _ hs, ww_bA_congr h hG]
  · show ww_bU nx fs (-1) (a ^^^ (-1)) s = ww_bU nx2 fs (-1) (a ^^^ (-1)) s
    exact ww_bU_congr h fs _ _ hs
  · show ww_bA nx G c (a ^^^ (-1)) s = ww_bA nx2 G2 c (a ^^^ (-1)) s
    exact ww_bA_congr h hG _ s
  · show (none : Option ww_Be) = none; rfl
theorem ww_beg_b {nx G : Nat → Int64} {c : Nat} {fs : Int64} {k : Nat} {a b b2 : Int64} {s : Nat} (h : ww_h2 k = false) : ww_beg nx G c fs k a b s = ww_beg nx G c fs k a b2 s := by
  rcases k with _ | _ | _ | _ | _ | _ | _ | _ | _ | _ | _ | _ | _ | k
  · show (none : Option ww_Be) = none; rfl
  · show (none : Option ww_Be) = none; rfl
  · show (none : Option ww_Be) = none; rfl
  · show (none : Option ww_Be) = none; rfl
  · show (none : Option ww_Be) = none; rfl
  · show ww_bN nx fs a s = ww_bN nx fs a s; rfl
  · cases h
  · show ww_bA nx G c a s = ww_bA nx G c a s; rfl
  · show ww_bU nx fs (-1) a s = ww_bU nx fs (-1) a s; rfl
  · show ww_bN nx fs (a ^^^ (-1)) s = ww_bN nx fs (a ^^^ (-1)) s; rfl
  · cases h
  · show ww_bU nx fs (-1) (a ^^^ (-1)) s = ww_bU nx fs (-1) (a ^^^ (-1)) s; rfl
  · show ww_bA nx G c (a ^^^ (-1)) s = ww_bA nx G c (a ^^^ (-1)) s; rfl
  · show (none : Option ww_Be) = none; rfl
theorem ww_good_congr {nx nx2 G G2 : Nat → Int64} {c : Nat} {z : Int64} (h : ∀ s, s < 64 → nx s = nx2 s) (hG : ∀ i, i < c → G i = G2 i) (hz : ww_good nx G c z) : ww_good nx2 G2 c z := by
  refine ⟨by rw [← ww_bf_congr h]; exact hz.1, fun i hi => ?_⟩
  rw [← ww_rc_congr h, ← hG i hi]
  exact hz.2 i hi
theorem ww_beg_k4 {nx G : Nat → Int64} {c : Nat} {fs : Int64} {k : Nat} {a b : Int64} {s : Nat} (h : k ≤ 4) : ww_beg nx G c fs k a b s = none := by
  rcases (show k = 0 ∨ k = 1 ∨ k = 2 ∨ k = 3 ∨ k = 4 by omega) with e | e | e | e | e <;> (subst e; rfl)
/-- the reference's question whether a way can be shown -/
theorem ww_show_no {nx G : Nat → Int64} {c : Nat} {fs : Int64} {n : Nat} {kn fn sn : Nat → Nat} {f s : Nat} {x : Int64} (hw : ww_wf n kn fn sn) (hf : f < n) (hs : s < 64) (h5 : 5 ≤ kn f) (hx : x = ww_val nx G c fs kn fn sn f) (h : ww_beg nx G c fs (kn f) (ww_val nx G c fs kn fn sn (fn f)) (ww_val nx G c fs kn fn sn (sn f)) s = none) : ww_m x s = decide (9 ≤ kn f) := by
  rw [hx, ← ww_val_step hw hf (a := ww_val nx G c fs kn fn sn (fn f)) (b := ww_val nx G c fs kn fn sn (sn f)) (fun _ => rfl) (fun _ => rfl)]
  exact (ww_beg_iff hs h5 (hw f hf).1).mp h
theorem ww_show_yes {nx G : Nat → Int64} {c : Nat} {fs : Int64} {n : Nat} {kn fn sn : Nat → Nat} {f s : Nat} {x : Int64} {r : ww_Be} (hw : ww_wf n kn fn sn) (hf : f < n) (hs : s < 64) (h5 : 5 ≤ kn f) (hx : x = ww_val nx G c fs kn fn sn f) (h : ww_beg nx G c fs (kn f) (ww_val nx G c fs kn fn sn (fn f)) (ww_val nx G c fs kn fn sn (sn f)) s = some r) : ww_m x s = !decide (9 ≤ kn f) := by
  rw [hx, ← ww_val_step hw hf (a := ww_val nx G c fs kn fn sn (fn f)) (b := ww_val nx G c fs kn fn sn (sn f)) (fun _ => rfl) (fun _ => rfl)]
  cases q : ww_m (ww_vs nx G c fs (kn f) (fn f) (ww_val nx G c fs kn fn sn (fn f)) (ww_val nx G c fs kn fn sn (sn f))) s == decide (9 ≤ kn f) with
  | true =>
    rw [(ww_beg_iff hs h5 (hw f hf).1).mpr (eq_of_beq q)] at h
    cases h
  | false =>
    revert q
    cases ww_m (ww_vs nx G c fs (kn f) (fn f) (ww_val nx G c fs kn fn sn (fn f)) (ww_val nx G c fs kn fn sn (sn f))) s <;> cases decide (9 ≤ kn f) <;> simp
