/-! Values of formulas: what they hang on; plain formulas; the reference's passes. -/
def ww_pl (k v : Nat) (a b : Int64) : Int64 :=
  match k with
  | 0 => ww_var v
  | 1 => -1
  | 2 => a ^^^ (-1)
  | 3 => a &&& b
  | _ => a ||| b
theorem ww_pl_vs {nx G : Nat → Int64} {c : Nat} {fair : Int64} {k v : Nat} {a b : Int64} (hk : k ≤ 4) : ww_pl k v a b = ww_vs nx G c fair k v a b := by
  rcases (show k = 0 ∨ k = 1 ∨ k = 2 ∨ k = 3 ∨ k = 4 by omega) with h | h | h | h | h <;> (subst h; rfl)
theorem ww_vs_v {nx G : Nat → Int64} {c : Nat} {fair : Int64} {k v v2 : Nat} {a b : Int64} (hk : 5 ≤ k) : ww_vs nx G c fair k v a b = ww_vs nx G c fair k v2 a b := by
  obtain ⟨j, rfl⟩ : ∃ j, k = j + 5 := ⟨k - 5, by omega⟩
  rcases j with _ | _ | _ | _ | _ | _ | _ | j <;> rfl
theorem ww_bf_congr {nx nx2 : Nat → Int64} (h : ∀ s, s < 64 → nx s = nx2 s) (x : Int64) : ww_bf nx x = ww_bf nx2 x := by
  unfold ww_bf
  exact ww_mk_congr (fun s hs => by rw [h s hs])
theorem ww_R_congr {nx nx2 : Nat → Int64} (h : ∀ s, s < 64 → nx s = nx2 s) (w : Int64) : ww_R nx w = ww_R nx2 w := by
  funext b
  unfold ww_R
  rw [ww_bf_congr h]
theorem ww_rc_congr {nx nx2 : Nat → Int64} (h : ∀ s, s < 64 → nx s = nx2 s) (g w : Int64) : ww_rc nx g w = ww_rc nx2 g w := by
  unfold ww_rc
  rw [ww_R_congr h]
theorem ww_kp_congr {nx nx2 G G2 : Nat → Int64} {c : Nat} (h : ∀ s, s < 64 → nx s = nx2 s) (hG : ∀ i, i < c → G i = G2 i) (x : Int64) : ∀ i, i ≤ c → ww_kp nx G x i = ww_kp nx2 G2 x i := by
  intro i
  induction i with
  | zero => intro _; show x &&& ww_bf nx x = x &&& ww_bf nx2 x; rw [ww_bf_congr h]
  | succ i ih =>
    intro hi
    show ww_kp nx G x i &&& ww_rc nx (ww_kp nx G x i &&& G i) (ww_kp nx G x i) = ww_kp nx2 G2 x i &&& ww_rc nx2 (ww_kp nx2 G2 x i &&& G2 i) (ww_kp nx2 G2 x i)
    rw [ih (by omega), hG i (by omega), ww_rc_congr h]
theorem ww_yy_congr {nx nx2 G G2 : Nat → Int64} {c : Nat} (h : ∀ s, s < 64 → nx s = nx2 s) (hG : ∀ i, i < c → G i = G2 i) (w : Int64) : ww_yy nx G c w = ww_yy nx2 G2 c w := by
  unfold ww_yy
  have e : (fun x => ww_kp nx G x c) = (fun x => ww_kp nx2 G2 x c) := funext (fun x => ww_kp_congr h hG x c (Nat.le_refl _))
  rw [e]
theorem ww_vs_congr {nx nx2 G G2 : Nat → Int64} {c : Nat} (h : ∀ s, s < 64 → nx s = nx2 s) (hG : ∀ i, i < c → G i = G2 i) (fair : Int64) (k v : Nat) (a b : Int64) : ww_vs nx G c fair k v a b = ww_vs nx2 G2 c fair k v a b := by
  rcases k with _ | _ | _ | _ | _ | _ | _ | _ | _ | _ | _ | _ | k
  · show ww_var v = ww_var v
    rfl
  · show (-1 : Int64) = -1
    rfl
  · show a ^^^ (-1) = a ^^^ (-1)
    rfl
  · show a &&& b = a &&& b
    rfl
  · show a ||| b = a ||| b
    rfl
  · show ww_bf nx (a &&& fair) = ww_bf nx2 (a &&& fair)
    rw [ww_bf_congr h]
  · show ww_rc nx (b &&& fair) a = ww_rc nx2 (b &&& fair) a
    rw [ww_rc_congr h]
  · show ww_yy nx G c a = ww_yy nx2 G2 c a
    rw [ww_yy_congr h hG]
  · show ww_rc nx (a &&& fair) (-1) = ww_rc nx2 (a &&& fair) (-1)
    rw [ww_rc_congr h]
  · show ww_bf nx ((a ^^^ (-1)) &&& fair) ^^^ (-1) = ww_bf nx2 ((a ^^^ (-1)) &&& fair) ^^^ (-1)
    rw [ww_bf_congr h]
  · show (ww_rc nx (((a ^^^ (-1)) &&& (b ^^^ (-1))) &&& fair) (b ^^^ (-1)) ||| ww_yy nx G c (b ^^^ (-1))) ^^^ (-1) = (ww_rc nx2 (((a ^^^ (-1)) &&& (b ^^^ (-1))) &&& fair) (b ^^^ (-1)) ||| ww_yy nx2 G2 c (b ^^^ (-1))) ^^^ (-1)
    rw [ww_rc_congr h, ww_yy_congr h hG]
  · show ww_rc nx ((a ^^^ (-1)) &&& fair) (-1) ^^^ (-1) = ww_rc nx2 ((a ^^^ (-1)) &&& fair) (-1) ^^^ (-1)
    rw [ww_rc_congr h]
  · show ww_yy nx G c (a ^^^ (-1)) ^^^ (-1) = ww_yy nx2 G2 c (a ^^^ (-1)) ^^^ (-1)
    rw [ww_yy_congr h hG]
/-- a plain formula's value: it hangs on no move and no fairness -/
noncomputable def ww_pv (kn fn sn : Nat → Nat) (i : Nat) : Int64 := ww_val (fun _ => 0) (fun _ => 0) 0 0 kn fn sn i
/-- which formulas are plain -/
def ww_pb (n : Nat) (kn fn sn : Nat → Nat) (pb : Nat → Bool) : Prop := ∀ i, i < n → pb i = ww_pp pb (kn i) (fn i) (sn i)
theorem ww_pb_ok {n : Nat} {kn fn sn : Nat → Nat} {pb : Nat → Bool} (h : ww_pb n kn fn sn pb) {i : Nat} (hi : i < n) (hp : pb i = true) : kn i ≤ 4 ∧ (2 ≤ kn i → pb (fn i) = true) ∧ (ww_h2 (kn i) = true → pb (sn i) = true) := by
  have e := h i hi
  rw [hp] at e
  rcases hk : kn i with _ | _ | _ | _ | _ | k
  · exact ⟨by omega, fun q => by omega, fun q => by cases q⟩
  · exact ⟨by omega, fun q => by omega, fun q => by cases q⟩
  · rw [hk] at e
    have e : true = pb (fn i) := e
    exact ⟨by omega, fun _ => e.symm, fun q => by cases q⟩
  · rw [hk] at e
    have e : true = (pb (fn i) && pb (sn i)) := e
    have e2 := Bool.and_eq_true_iff.mp e.symm
    exact ⟨by omega, fun _ => e2.1, fun _ => e2.2⟩
  · rw [hk] at e
    have e : true = (pb (fn i) && pb (sn i)) := e
    have e2 := Bool.and_eq_true_iff.mp e.symm
    exact ⟨by omega, fun _ => e2.1, fun _ => e2.2⟩
  · rw [hk] at e
    have e : true = false := e
    cases e
theorem ww_val_step {nx G : Nat → Int64} {c : Nat} {fair : Int64} {n : Nat} {kn fn sn : Nat → Nat} (hw : ww_wf n kn fn sn) {i : Nat} (hi : i < n) {a b : Int64} (ha : 2 ≤ kn i → a = ww_val nx G c fair kn fn sn (fn i)) (hb : ww_h2 (kn i) = true → b = ww_val nx G c fair kn fn sn (sn i)) : ww_vs nx G c fair (kn i) (fn i) a b = ww_val nx G c fair kn fn sn i := by
  rw [← ww_st_val hw hi (h := ww_val nx G c fair kn fn sn) (fun _ _ => rfl)]
  exact ww_vs_ab ha hb
theorem ww_pv_val {nx G : Nat → Int64} {c : Nat} {fair : Int64} {n : Nat} {kn fn sn : Nat → Nat} {pb : Nat → Bool} (hw : ww_wf n kn fn sn) (hp : ww_pb n kn fn sn pb) : ∀ i, i < n → pb i = true → ww_val nx G c fair kn fn sn i = ww_pv kn fn sn i := by
  intro i
  induction i using Nat.strongRecOn with
  | _ i ih =>
    intro hi h
    obtain ⟨h1, h2, h3⟩ := ww_pb_ok hp hi h
    obtain ⟨-, -, q3, q4, -, -⟩ := hw i hi
    rw [← ww_val_step (nx := nx) (G := G) (c := c) (fair := fair) hw hi (a := ww_val nx G c fair kn fn sn (fn i)) (b := ww_val nx G c fair kn fn sn (sn i)) (fun _ => rfl) (fun _ => rfl)]
    unfold ww_pv
    rw [← ww_val_step (nx := fun _ => 0) (G := fun _ => 0) (c := 0) (fair := 0) hw hi (a := ww_val nx G c fair kn fn sn (fn i)) (b := ww_val nx G c fair kn fn sn (sn i)) (fun q => ih _ (q3 q) (by have := q3 q; omega) (h2 q)) (fun q => ih _ (q4 q) (by have := q4 q; omega) (h3 q)), ← ww_pl_vs h1, ← ww_pl_vs h1]
/-- the reference's first pass, a plain kind -/
theorem ww_pass_y {n : Nat} {kn fn sn : Nat → Nat} {pb : Nat → Bool} (hw : ww_wf n kn fn sn) (hp : ww_pb n kn fn sn pb) {i : Nat} (hi : i < n) {h : Nat → Int64} (hh : ∀ j, j < i → pb j = true → h j = ww_pv kn fn sn j) {a b : Int64} (ha : 2 ≤ kn i → a = h (fn i)) (hb : ww_h2 (kn i) = true → b = h (sn i)) : ∀ j, j < i + 1 → pb j = true → vp_updL h i (ww_pl (kn i) (fn i) a b) j = ww_pv kn fn sn j := by
  intro j hj hpj
  by_cases e : j = i
  · subst e
    obtain ⟨h1, h2, h3⟩ := ww_pb_ok hp hi hpj
    obtain ⟨-, -, q3, q4, -, -⟩ := hw j hi
    rw [pk_uLs]
    unfold ww_pv
    rw [← ww_val_step (nx := fun _ => 0) (G := fun _ => 0) (c := 0) (fair := 0) hw hi (a := a) (b := b) (fun q => by rw [ha q]; exact hh _ (q3 q) (h2 q)) (fun q => by rw [hb q]; exact hh _ (q4 q) (h3 q))]
    exact ww_pl_vs h1
  · rw [pk_uLn e]
    exact hh j (by omega) hpj
theorem ww_pass_n {n : Nat} {kn fn sn : Nat → Nat} {pb : Nat → Bool} (hp : ww_pb n kn fn sn pb) {i : Nat} (hi : i < n) (hk : 4 < kn i) {h : Nat → Int64} (hh : ∀ j, j < i → pb j = true → h j = ww_pv kn fn sn j) : ∀ j, j < i + 1 → pb j = true → h j = ww_pv kn fn sn j := by
  intro j hj hpj
  by_cases e : j = i
  · subst e
    have := (ww_pb_ok hp hi hpj).1
    omega
  · exact hh j (by omega) hpj
/-- the last pass -/
theorem ww_pass3 {nx nn go gx : Nat → Int64} {c : Nat} {fr : Int64} {n : Nat} {kn fn sn : Nat → Nat} (hw : ww_wf n kn fn sn) (hN : ∀ s, s < 64 → nn s = nx s) (hG : ∀ i, i < c → gx i = go i) {i : Nat} (hi : i < n) {h : Nat → Int64} (hh : ∀ j, j < i → h j = ww_val nx go c fr kn fn sn j) {a b x : Int64} (ha : 2 ≤ kn i → a = h (fn i)) (hb : ww_h2 (kn i) = true → b = h (sn i)) (hx : x = ww_vs nn gx c fr (kn i) (fn i) a b) : ∀ j, j < i + 1 → vp_updL h i x j = ww_val nx go c fr kn fn sn j := by
  intro j hj
  by_cases e : j = i
  · subst e
    obtain ⟨-, -, q3, q4, -, -⟩ := hw j hi
    rw [pk_uLs, hx, ww_vs_congr hN hG]
    exact ww_val_step hw hi (fun q => by rw [ha q]; exact hh _ (q3 q)) (fun q => by rw [hb q]; exact hh _ (q4 q))
  · rw [pk_uLn e]
    exact hh j (by omega)
/-- one move of the reference's followers, state by state -/
def ww_acc (p : Nat → Bool) (x : Int64) (po : Bool) (t : Nat) : Int64 := x ||| (if po = true then ww_mkn p t else 0)
theorem ww_oa (x y z : Int64) : (x ||| y) ||| z = x ||| (y ||| z) := ww_ext (fun i _ => by rw [ww_or, ww_or, ww_or, ww_or, Bool.or_assoc])
theorem ww_acc_0 (p : Nat → Bool) (x : Int64) (po : Bool) : x = ww_acc p x po 0 := by
  unfold ww_acc ww_mkn
  cases po <;> simp [ww_or_0]
theorem ww_acc_y {p : Nat → Bool} {x : Int64} {po : Bool} {t : Nat} (hp : po = true) (h : p t = true) : ww_acc p x po t ||| ww_b t = ww_acc p x po (t + 1) := by
  unfold ww_acc
  rw [if_pos hp, if_pos hp, ww_oa, ww_mkn_y h]
theorem ww_acc_n {p : Nat → Bool} {x : Int64} {po : Bool} {t : Nat} (hp : po = true) (h : p t = false) : ww_acc p x po t = ww_acc p x po (t + 1) := by
  unfold ww_acc
  rw [if_pos hp, if_pos hp, ww_mkn_n h]
theorem ww_acc_end {on off se cl an s : Nat} {x : Int64} {po : Bool} {t : Nat} (hp : po = ww_ok on off s) (h : t = 64 ∨ po = false) : ww_acc (ww_ti an ((s ||| se) &&& (63 ^^^ cl))) x po t = x ||| ww_mv on off se cl an s := by
  unfold ww_acc ww_mv
  rw [← hp]
  cases hq : po with
  | false => rfl
  | true =>
    rw [hq] at h
    rcases h with h | h
    · rw [h]; rfl
    · cases h
theorem ww_NN (mn : Nat → Nat) (mv : Nat) (nx : Nat → Int64) : ∀ s, s < 64 → ww_fl (ww_nxt mn mv) ww_k64 nx s = ww_nxt mn mv s := by
  intro s hs
  rw [ww_k64_eq, ww_fl_at, if_pos hs]
