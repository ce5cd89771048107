/-! What a formula is worth: the set of the states in which it holds. -/
def ww_var (v : Nat) : Int64 := ww_mk (fun s => s / 2 ^ v % 2 == 1)
theorem ww_var_sh : ∀ v, v < 6 → ∀ s, s < 64 → (nI s >>> (nI v &&& 31)) &&& nI 1 = nI (s / 2 ^ v % 2) := by decide +kernel
def ww_vc : Nat → Int64
  | 0 => -6148914691236517206
  | 1 => -3689348814741910324
  | 2 => -1085102592571150096
  | 3 => -71777214294589696
  | 4 => -281470681808896
  | _ => -4294967296
theorem ww_vc_var : ∀ v, v < 6 → ww_vc v = ww_var v := by decide +kernel
/-- kinds with a second part -/
def ww_h2 (k : Nat) : Bool := decide (k = 3) || decide (k = 4) || decide (k = 6) || decide (k = 10)
/-- a formula out of its kind and its parts -/
noncomputable def ww_vs (nx G : Nat → Int64) (c : Nat) (fair : Int64) (k v : Nat) (a b : Int64) : Int64 :=
  match k with
  | 0 => ww_var v
  | 1 => -1
  | 2 => a ^^^ (-1)
  | 3 => a &&& b
  | 4 => a ||| b
  | 5 => ww_bf nx (a &&& fair)
  | 6 => ww_rc nx (b &&& fair) a
  | 7 => ww_yy nx G c a
  | 8 => ww_rc nx (a &&& fair) (-1)
  | 9 => ww_bf nx ((a ^^^ (-1)) &&& fair) ^^^ (-1)
  | 10 => (ww_rc nx (((a ^^^ (-1)) &&& (b ^^^ (-1))) &&& fair) (b ^^^ (-1)) ||| ww_yy nx G c (b ^^^ (-1))) ^^^ (-1)
  | 11 => ww_rc nx ((a ^^^ (-1)) &&& fair) (-1) ^^^ (-1)
  | _ => ww_yy nx G c (a ^^^ (-1)) ^^^ (-1)
/-- formulas as they may be made: n of them -/
def ww_wf (n : Nat) (kn fn sn : Nat → Nat) : Prop := ∀ i, i < n → kn i ≤ 12 ∧ (kn i = 0 → fn i < 6) ∧ (2 ≤ kn i → fn i < i) ∧ (ww_h2 (kn i) = true → sn i < i) ∧ (kn i = 1 → fn i = 0) ∧ (ww_h2 (kn i) = false → sn i = 0)
noncomputable def ww_st (nx G : Nat → Int64) (c : Nat) (fair : Int64) (kn fn sn : Nat → Nat) (i : Nat) (h : Nat → Int64) : Int64 := ww_vs nx G c fair (kn i) (fn i) (h (fn i)) (h (sn i))
theorem ww_vs_ab {nx G : Nat → Int64} {c : Nat} {fair : Int64} {k v : Nat} {a b a2 b2 : Int64} (h1 : 2 ≤ k → a = a2) (h2 : ww_h2 k = true → b = b2) : ww_vs nx G c fair k v a b = ww_vs nx G c fair k v a2 b2 := by
  rcases k with _ | _ | _ | _ | _ | _ | _ | _ | _ | _ | _ | _ | k
  · rfl
  · rfl
  · show a ^^^ (-1) = a2 ^^^ (-1)
    rw [h1 (by omega)]
  · rw [h1 (by omega), h2 rfl]
  · rw [h1 (by omega), h2 rfl]
  · show ww_bf nx (a &&& fair) = ww_bf nx (a2 &&& fair)
    rw [h1 (by omega)]
  · rw [h1 (by omega), h2 rfl]
  · show ww_yy nx G c a = ww_yy nx G c a2
    rw [h1 (by omega)]
  · show ww_rc nx (a &&& fair) (-1) = ww_rc nx (a2 &&& fair) (-1)
    rw [h1 (by omega)]
  · show ww_bf nx ((a ^^^ (-1)) &&& fair) ^^^ (-1) = ww_bf nx ((a2 ^^^ (-1)) &&& fair) ^^^ (-1)
    rw [h1 (by omega)]
  · rw [h1 (by omega), h2 rfl]
  · show ww_rc nx ((a ^^^ (-1)) &&& fair) (-1) ^^^ (-1) = ww_rc nx ((a2 ^^^ (-1)) &&& fair) (-1) ^^^ (-1)
    rw [h1 (by omega)]
  · show ww_yy nx G c (a ^^^ (-1)) ^^^ (-1) = ww_yy nx G c (a2 ^^^ (-1)) ^^^ (-1)
    rw [h1 (by omega)]
/-- k more values behind the first a -/
def ww_fr (st : Nat → (Nat → Int64) → Int64) (a : Nat) : Nat → (Nat → Int64) → Nat → Int64
  | 0, h => h
  | k + 1, h => vp_updL (ww_fr st a k h) (a + k) (st (a + k) (ww_fr st a k h))
noncomputable def ww_val (nx G : Nat → Int64) (c : Nat) (fair : Int64) (kn fn sn : Nat → Nat) (i : Nat) : Int64 := ww_fr (ww_st nx G c fair kn fn sn) 0 (i + 1) (fun _ => 0) i
theorem ww_fr_out (st : Nat → (Nat → Int64) → Int64) (a : Nat) (h : Nat → Int64) : ∀ k i, (i < a ∨ a + k ≤ i) → ww_fr st a k h i = h i := by
  intro k
  induction k with
  | zero => intro i _; rfl
  | succ k ih =>
    intro i hi
    show vp_updL (ww_fr st a k h) (a + k) _ i = h i
    rw [pk_uLn (by omega)]
    exact ih i (by omega)
theorem ww_fr_at (st : Nat → (Nat → Int64) → Int64) (a : Nat) (h : Nat → Int64) : ∀ k i, i < k → ww_fr st a k h (a + i) = st (a + i) (ww_fr st a i h) := by
  intro k
  induction k with
  | zero => intro i hi; omega
  | succ k ih =>
    intro i hi
    show vp_updL (ww_fr st a k h) (a + k) _ (a + i) = _
    by_cases e : i = k
    · subst e; rw [pk_uLs]
    · rw [pk_uLn (by omega)]
      exact ih i (by omega)
theorem ww_val_eq (nx G : Nat → Int64) (c : Nat) (fair : Int64) (kn fn sn : Nat → Nat) (i : Nat) : ww_val nx G c fair kn fn sn i = ww_st nx G c fair kn fn sn i (ww_fr (ww_st nx G c fair kn fn sn) 0 i (fun _ => 0)) := by
  unfold ww_val
  have := ww_fr_at (ww_st nx G c fair kn fn sn) 0 (fun _ => 0) (i + 1) i (by omega)
  rw [Nat.zero_add] at this
  exact this
theorem ww_st_val {nx G : Nat → Int64} {c : Nat} {fair : Int64} {n : Nat} {kn fn sn : Nat → Nat} (hw : ww_wf n kn fn sn) {i : Nat} (hi : i < n) {h : Nat → Int64} (hh : ∀ j, j < i → h j = ww_val nx G c fair kn fn sn j) : ww_st nx G c fair kn fn sn i h = ww_val nx G c fair kn fn sn i := by
  rw [ww_val_eq]
  obtain ⟨-, -, h3, h4, -, -⟩ := hw i hi
  have key : ∀ j, j < i → ww_fr (ww_st nx G c fair kn fn sn) 0 i (fun _ => 0) j = ww_val nx G c fair kn fn sn j := by
    intro j hj
    rw [ww_val_eq]
    have := ww_fr_at (ww_st nx G c fair kn fn sn) 0 (fun _ => 0) i j hj
    rw [Nat.zero_add] at this
    exact this
  show ww_vs nx G c fair (kn i) (fn i) (h (fn i)) (h (sn i)) = ww_vs nx G c fair (kn i) (fn i) (ww_fr (ww_st nx G c fair kn fn sn) 0 i (fun _ => 0) (fn i)) (ww_fr (ww_st nx G c fair kn fn sn) 0 i (fun _ => 0) (sn i))
  exact ww_vs_ab (fun q => by rw [hh _ (h3 q), key _ (h3 q)]) (fun q => by rw [hh _ (h4 q), key _ (h4 q)])
/-- going on from a settled values gives settled values -/
theorem ww_fr_val {nx G : Nat → Int64} {c : Nat} {fair : Int64} {n : Nat} {kn fn sn : Nat → Nat} (hw : ww_wf n kn fn sn) {a : Nat} {h : Nat → Int64} (hh : ∀ j, j < a → h j = ww_val nx G c fair kn fn sn j) : ∀ k, a + k ≤ n → ∀ j, j < a + k → ww_fr (ww_st nx G c fair kn fn sn) a k h j = ww_val nx G c fair kn fn sn j := by
  intro k
  induction k with
  | zero => intro _ j hj; exact hh j hj
  | succ k ih =>
    intro hk j hj
    have ih := ih (by omega)
    show vp_updL (ww_fr (ww_st nx G c fair kn fn sn) a k h) (a + k) _ j = _
    by_cases e : j = a + k
    · rw [e, pk_uLs]
      exact ww_st_val hw (by omega) ih
    · rw [pk_uLn e]
      exact ih j (by omega)
/-- the value of a formula hangs on the formulas up to it alone -/
theorem ww_val_congr {nx G : Nat → Int64} {c : Nat} {fair : Int64} {n : Nat} {kn fn sn kn2 fn2 sn2 : Nat → Nat} (hw : ww_wf n kn fn sn) (he : ∀ i, i < n → kn i = kn2 i ∧ fn i = fn2 i ∧ sn i = sn2 i) : ∀ i, i < n → ww_val nx G c fair kn fn sn i = ww_val nx G c fair kn2 fn2 sn2 i := by
  have hw2 : ww_wf n kn2 fn2 sn2 := fun i hi => by
    obtain ⟨e1, e2, e3⟩ := he i hi
    rw [← e1, ← e2, ← e3]
    exact hw i hi
  intro i
  induction i using Nat.strongRecOn with
  | _ i ih =>
    intro hi
    obtain ⟨e1, e2, e3⟩ := he i hi
    rw [← ww_st_val hw hi (h := ww_val nx G c fair kn2 fn2 sn2) (fun j hj => (ih j hj (by omega)).symm), ← ww_st_val hw2 hi (h := ww_val nx G c fair kn2 fn2 sn2) (fun _ _ => rfl)]
    unfold ww_st
    rw [e1, e2, e3]
