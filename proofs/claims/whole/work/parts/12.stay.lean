/-! The two ways to find where a fair way begins give the same set. -/
theorem ww_tp_end {nx : Nat → Int64} {w : Int64} {s t : Nat} (h : ww_tp (ww_ss nx w) s t) : t < 64 ∧ ww_m w t = true := by
  obtain ⟨u, h1, n, h2⟩ := h
  have hu : u < 64 ∧ ww_m w u = true := ⟨h1.2.1, h1.2.2.2.1⟩
  clear h1
  induction n generalizing u with
  | zero =>
    have e : u = t := h2
    rw [← e]
    exact hu
  | succ n ih =>
    obtain ⟨v, h3, h4⟩ := h2
    exact ih v h4 ⟨h3.2.1, h3.2.2.2.1⟩
theorem ww_tp_start {nx : Nat → Int64} {w : Int64} {s t : Nat} (h : ww_tp (ww_ss nx w) s t) : s < 64 ∧ ww_m w s = true := by
  obtain ⟨u, h1, -⟩ := h
  exact ⟨h1.1, h1.2.2.1⟩
theorem ww_ss.weak {nx : Nat → Int64} {w w2 : Int64} (hw : ww_sub w w2) : ∀ a b, ww_ss nx w a b → ww_ss nx w2 a b := fun a b ⟨h1, h2, h3, h4, h5⟩ => ⟨h1, h2, hw a h3, hw b h4, h5⟩
theorem ww_tp.weak {st st2 : Nat → Nat → Prop} (h : ∀ a b, st a b → st2 a b) {s t : Nat} (h2 : ww_tp st s t) : ww_tp st2 s t := by
  obtain ⟨u, h3, h4⟩ := h2
  exact ⟨u, h s u h3, h4.weak h⟩
theorem ww_sw_ss {nx : Nat → Int64} {y : Int64} {s v : Nat} (hv : ww_m y v = true) (h : ww_rs (ww_sw nx y) s v) : ww_rs (ww_ss nx y) s v ∧ ww_m y s = true :=
  ww_rs.ind (P := fun s => ww_rs (ww_ss nx y) s v ∧ ww_m y s = true) ⟨ww_rs.rf v, hv⟩ (fun a u h3 _ h4 => ⟨ww_rs.hd ⟨h3.1, h3.2.1, h3.2.2.1, h4.2, h3.2.2.2⟩ h4.1, h3.2.2.1⟩) h
theorem ww_rc_cl {nx : Nat → Int64} {g w : Int64} {a b : Nat} (h : ww_sw nx w a b) (hb : ww_m (ww_rc nx g w) b = true) : ww_m (ww_rc nx g w) a = true := by
  rw [← ww_rc_fix, ww_R_m h.1]
  exact Or.inr ⟨b, h, hb⟩
theorem ww_rc_back {nx : Nat → Int64} {g w : Int64} {a b : Nat} (h : ww_rs (ww_ss nx w) a b) (hb : ww_m (ww_rc nx g w) b = true) : ww_m (ww_rc nx g w) a = true :=
  ww_rs.ind (P := fun a => ww_m (ww_rc nx g w) a = true) hb (fun _ _ h3 _ h4 => ww_rc_cl h3.sw h4) h
theorem ww_stay_good {nx : Nat → Int64} {w : Int64} {le G : Nat → Int64} {c : Nat} (hL : ww_Ld nx w le) : ww_good nx G c (ww_rc nx (ww_mk (ww_gd le G c)) w) ∧ ww_sub (ww_rc nx (ww_mk (ww_gd le G c)) w) w := by
  have hD : ∀ t, ww_m (ww_mk (ww_gd le G c)) t = true → t < 64 ∧ ww_gd le G c t = true := by
    intro t ht
    have hl := ww_lt ht
    rw [ww_mk_m _ hl] at ht
    exact ⟨hl, ht⟩
  refine ⟨⟨?_, ?_⟩, ?_⟩
  · intro s hs
    have hl := ww_lt hs
    obtain ⟨t, h1, n, h2⟩ := ww_rc_m.mp hs
    rw [ww_bf_m hl]
    cases n with
    | zero =>
      have e : s = t := h2
      subst e
      obtain ⟨h3, h4⟩ := hD s h1
      obtain ⟨⟨u, h5, h6⟩, -⟩ := (ww_gd_iff hL h3).mp h4
      exact ⟨u, h5.2.1, h5.2.2.2.2, ww_rc_back h6 hs⟩
    | succ n =>
      obtain ⟨u, h3, h4⟩ := h2
      exact ⟨u, h3.2.1, h3.2.2.2, ww_rc_m.mpr ⟨t, h1, n, h4⟩⟩
  · intro i hi s hs
    obtain ⟨t, h1, h2⟩ := ww_rc_m.mp hs
    refine ww_rs.ind (P := fun a => ww_m (ww_rc nx (ww_rc nx (ww_mk (ww_gd le G c)) w &&& G i) (ww_rc nx (ww_mk (ww_gd le G c)) w)) a = true) ?_ (fun a u h3 h4 h5 => ?_) h2
    · obtain ⟨h3, h4⟩ := hD t h1
      obtain ⟨-, h5⟩ := (ww_gd_iff hL h3).mp h4
      obtain ⟨u, h6, h7, h8, h9⟩ := h5 i hi
      have ht : ww_m (ww_rc nx (ww_mk (ww_gd le G c)) w) t = true := ww_rc_ge nx _ w t h1
      have hu := ww_rc_back h9.rs ht
      refine ww_rs.ind (P := fun a => ww_m (ww_rc nx (ww_rc nx (ww_mk (ww_gd le G c)) w &&& G i) (ww_rc nx (ww_mk (ww_gd le G c)) w)) a = true) (ww_rc_ge nx _ _ u (ww_and_iff.mpr ⟨hu, h7⟩)) (fun a b q1 q2 q3 => ?_) h8.rs
      have ha := ww_rc_back (ww_rs.hd q1 q2) hu
      exact ww_rc_cl ⟨q1.1, q1.2.1, ha, q1.2.2.2.2⟩ q3
    · have ha : ww_m (ww_rc nx (ww_mk (ww_gd le G c)) w) a = true := ww_rc_m.mpr ⟨t, h1, ww_rs.hd h3 h4⟩
      exact ww_rc_cl ⟨h3.1, h3.2.1, ha, h3.2.2.2⟩ h5
  · apply ww_rc_sub
    intro t ht
    obtain ⟨h3, h4⟩ := hD t ht
    exact (ww_tp_start ((ww_gd_iff hL h3).mp h4).1).2
/-- where at least one step leads -/
noncomputable def ww_fw (st : Nat → Nat → Prop) (s : Nat) : Int64 := ww_mk (fun t => @decide (ww_tp st s t) (Classical.propDecidable _))
theorem ww_fw_m {st : Nat → Nat → Prop} {s t : Nat} (ht : t < 64) : ww_m (ww_fw st s) t = true ↔ ww_tp st s t := by
  unfold ww_fw
  rw [ww_mk_m _ ht]
  exact @decide_eq_true_iff _ (Classical.propDecidable _)
theorem ww_stay_in {nx : Nat → Int64} {w y : Int64} {le G : Nat → Int64} {c : Nat} (hL : ww_Ld nx w le) (hy : ww_good nx G c y) (hw : ww_sub y w) : ∀ n s, ww_cn (ww_fw (ww_ss nx y) s) ≤ n → ww_m y s = true → ww_m (ww_rc nx (ww_mk (ww_gd le G c)) w) s = true := by
  intro n
  induction n with
  | zero =>
    intro s hn hs
    exfalso
    have hl := ww_lt hs
    obtain ⟨u, h1, h2, h3⟩ := (ww_bf_m hl).mp (hy.1 s hs)
    have h4 : ww_m (ww_fw (ww_ss nx y) s) u = true := (ww_fw_m h1).mpr ⟨u, ⟨hl, h1, hs, h3, h2⟩, ww_rs.rf u⟩
    have h5 : ww_cn 0 < ww_cn (ww_fw (ww_ss nx y) s) := ww_sub_lt (fun i hi => by rw [ww_z] at hi; cases hi) (fun e => ww_nz h4 e.symm)
    omega
  | succ n ih =>
    intro s hn hs
    have hl := ww_lt hs
    by_cases hA : ∃ t, ww_tp (ww_ss nx y) s t ∧ ¬ ww_fw (ww_ss nx y) t = ww_fw (ww_ss nx y) s
    · obtain ⟨t, h1, h2⟩ := hA
      obtain ⟨ht, hty⟩ := ww_tp_end h1
      have hsub : ww_sub (ww_fw (ww_ss nx y) t) (ww_fw (ww_ss nx y) s) := by
        intro i hi
        have hil := ww_lt hi
        rw [ww_fw_m hil] at hi ⊢
        exact h1.tr hi.rs
      have hlt := ww_sub_lt hsub h2
      have hS := ih t (by omega) hty
      exact ww_rc_back (h1.rs.weak (ww_ss.weak hw)) hS
    · have hB : ∀ t, ww_tp (ww_ss nx y) s t → ww_fw (ww_ss nx y) t = ww_fw (ww_ss nx y) s := fun t h => Classical.byContradiction (fun h2 => hA ⟨t, h, h2⟩)
      obtain ⟨u, h1, h2, h3⟩ := (ww_bf_m hl).mp (hy.1 s hs)
      have hst : ww_ss nx y s u := ⟨hl, h1, hs, h3, h2⟩
      have hsu : ww_tp (ww_ss nx y) s u := ⟨u, hst, ww_rs.rf u⟩
      have hmem : ∀ v, ww_tp (ww_ss nx y) s v → ww_tp (ww_ss nx y) v u := fun v hv => by
        rw [← ww_fw_m h1, hB v hv, ww_fw_m h1]
        exact hsu
      have huu := hmem u hsu
      have hgd : ww_gd le G c u = true := by
        rw [ww_gd_iff hL h1]
        refine ⟨huu.weak (ww_ss.weak hw), fun i hi => ?_⟩
        obtain ⟨v, h4, h5⟩ := ww_rc_m.mp (hy.2 i hi u h3)
        obtain ⟨h6, h7⟩ := ww_and_iff.mp h4
        obtain ⟨h8, -⟩ := ww_sw_ss h6 h5
        have huv : ww_tp (ww_ss nx y) u v := huu.tr h8
        have hvu := hmem v (hsu.tr h8)
        exact ⟨v, ww_lt h7, h7, huv.weak (ww_ss.weak hw), hvu.weak (ww_ss.weak hw)⟩
      have hu : ww_m (ww_rc nx (ww_mk (ww_gd le G c)) w) u = true := ww_rc_ge nx _ w u (by rw [ww_mk_m _ h1]; exact hgd)
      exact ww_rc_cl ⟨hl, h1, hw s hs, h2⟩ hu
theorem ww_stay {nx : Nat → Int64} {w : Int64} {le G : Nat → Int64} {c : Nat} (hL : ww_Ld nx w le) : ww_rc nx (ww_mk (ww_gd le G c)) w = ww_yy nx G c w := by
  obtain ⟨h1, h2⟩ := ww_stay_good (G := G) (c := c) hL
  exact (ww_yy_great h1 h2).eq (fun s hs => ww_stay_in hL (ww_yy_good nx G c w) (ww_yy_sub nx G c w) _ s (Nat.le_refl _) hs)
/-! Warshall's passes. -/
def ww_fl (f : Nat → Int64) : Nat → (Nat → Int64) → Nat → Int64
  | 0, L => L
  | n + 1, L => vp_updL (ww_fl f n L) n (f n)
theorem ww_fl_at (f L : Nat → Int64) : ∀ n i, ww_fl f n L i = if i < n then f i else L i := by
  intro n
  induction n with
  | zero => intro i; simp [ww_fl]
  | succ n ih =>
    intro i
    unfold ww_fl vp_updL
    by_cases e : i = n
    · subst e; simp
    · have h : (i < n + 1) ↔ (i < n) := by omega
      simp [e, ih i, h]
def ww_wv (k : Nat) (L : Nat → Int64) (i : Nat) : Int64 := if ww_m (L i) k = true then L i ||| L k else L i
def ww_wi (k : Nat) : Nat → (Nat → Int64) → Nat → Int64
  | 0, L => L
  | n + 1, L => vp_updL (ww_wi k n L) n (ww_wv k (ww_wi k n L) n)
theorem ww_oo (x : Int64) : x ||| x = x := ww_ext (fun i _ => by rw [ww_or, Bool.or_self])
theorem ww_wi_at (k : Nat) (L : Nat → Int64) : ∀ n i, ww_wi k n L i = if i < n then ww_wv k L i else L i := by
  intro n
  induction n with
  | zero => intro i; simp [ww_wi]
  | succ n ih =>
    intro i
    have hk : ww_wi k n L k = L k := by
      rw [ih k]
      split
      · unfold ww_wv; split
        · exact ww_oo _
        · rfl
      · rfl
    have hn : ww_wi k n L n = L n := by rw [ih n, if_neg (by omega)]
    unfold ww_wi vp_updL
    by_cases e : i = n
    · subst e
      simp only [if_true]
      have h1 : i < i + 1 := Nat.lt_succ_self i
      unfold ww_wv
      simp only [hk, hn, h1, if_true]
    · have h : (i < n + 1) ↔ (i < n) := by omega
      simp only [e, if_false, ih i, h]
def ww_wo : Nat → (Nat → Int64) → Nat → Int64
  | 0, L => L
  | k + 1, L => ww_wi k 64 (ww_wo k L)
def ww_l0 (nx : Nat → Int64) (w : Int64) (s : Nat) : Int64 := if ww_m w s = true then nx s &&& w else 0
def ww_I (nx : Nat → Int64) (w : Int64) (k : Nat) (L : Nat → Int64) : Prop := (∀ s, s < 64 → ∀ t, ww_m (L s) t = true → ww_tp (ww_ss nx w) s t) ∧ (∀ s t, ww_ss nx w s t → ww_m (L s) t = true) ∧ ∀ j, j < k → ∀ s, s < 64 → ww_m (L s) j = true → ww_sub (L j) (L s)
theorem ww_wv_m {k : Nat} {L : Nat → Int64} {i t : Nat} : ww_m (ww_wv k L i) t = true ↔ ww_m (L i) t = true ∨ (ww_m (L i) k = true ∧ ww_m (L k) t = true) := by
  unfold ww_wv
  by_cases h : ww_m (L i) k = true
  · rw [if_pos h, ww_or_iff]; simp [h]
  · rw [if_neg h]; simp [h]
theorem ww_I_step {nx : Nat → Int64} {w : Int64} {k : Nat} {L : Nat → Int64} (hk : k < 64) (h : ww_I nx w k L) : ww_I nx w (k + 1) (ww_wi k 64 L) := by
  obtain ⟨h1, h2, h3⟩ := h
  have e : ∀ i, i < 64 → ww_wi k 64 L i = ww_wv k L i := fun i hi => by rw [ww_wi_at, if_pos hi]
  refine ⟨fun s hs t ht => ?_, fun s t ht => ?_, fun j hj s hs hm => ?_⟩
  · rw [e s hs, ww_wv_m] at ht
    rcases ht with ht | ⟨ht, ht2⟩
    · exact h1 s hs t ht
    · exact (h1 s hs k ht).tr (h1 k hk t ht2).rs
  · rw [e s ht.1, ww_wv_m]
    exact Or.inl (h2 s t ht)
  · intro t ht
    rw [e s hs, ww_wv_m] at hm ⊢
    rw [e j (by omega), ww_wv_m] at ht
    by_cases ej : j = k
    · subst ej
      have hsk : ww_m (L s) j = true := by
        rcases hm with hm | hm
        · exact hm
        · exact hm.1
      rcases ht with ht | ht
      · exact Or.inr ⟨hsk, ht⟩
      · exact Or.inr ⟨hsk, ht.2⟩
    · have hjk : j < k := by omega
      rcases hm with hm | ⟨hm, hm2⟩
      · have hs1 := h3 j hjk s hs hm
        rcases ht with ht | ⟨ht, ht2⟩
        · exact Or.inl (hs1 t ht)
        · exact Or.inr ⟨hs1 k ht, ht2⟩
      · have hs1 := h3 j hjk k hk hm2
        rcases ht with ht | ⟨ht, ht2⟩
        · exact Or.inr ⟨hm, hs1 t ht⟩
        · exact Or.inr ⟨hm, ht2⟩
theorem ww_I_all {nx : Nat → Int64} {w : Int64} {L : Nat → Int64} (h : ww_I nx w 0 L) : ∀ k, k ≤ 64 → ww_I nx w k (ww_wo k L) := by
  intro k
  induction k with
  | zero => intro _; exact h
  | succ k ih => intro hk; exact ww_I_step (by omega) (ih (by omega))
/-- where each state leads, by the passes -/
def ww_le (nx : Nat → Int64) (w : Int64) (L0 : Nat → Int64) : Nat → Int64 := ww_wo 64 (ww_fl (ww_l0 nx w) 64 L0)
theorem ww_le_Ld (nx : Nat → Int64) (w : Int64) (L0 : Nat → Int64) : ww_Ld nx w (ww_le nx w L0) := by
  have hl0 : ∀ s, s < 64 → ∀ t, ww_m (ww_fl (ww_l0 nx w) 64 L0 s) t = true ↔ ww_ss nx w s t := by
    intro s hs t
    rw [ww_fl_at, if_pos hs]
    unfold ww_l0
    by_cases h : ww_m w s = true
    · rw [if_pos h, ww_and_iff]
      constructor
      · rintro ⟨q1, q2⟩; exact ⟨hs, ww_lt q2, h, q2, q1⟩
      · rintro ⟨_, _, _, q2, q1⟩; exact ⟨q1, q2⟩
    · rw [if_neg h, ww_z]
      constructor
      · intro q; cases q
      · rintro ⟨_, _, q, _⟩; exact absurd q h
  have h := ww_I_all (nx := nx) (w := w) (L := ww_fl (ww_l0 nx w) 64 L0) ⟨fun s hs t ht => ⟨t, (hl0 s hs t).mp ht, ww_rs.rf t⟩, fun s t ht => (hl0 s ht.1 t).mpr ht, fun j hj => by omega⟩ 64 (Nat.le_refl _)
  obtain ⟨h1, h2, h3⟩ := h
  intro s hs t
  refine ⟨h1 s hs t, ?_⟩
  rintro ⟨u, q1, q2⟩
  have key : ∀ a, a < 64 → ww_rs (ww_ss nx w) a t → ∀ s, s < 64 → ww_m (ww_wo 64 (ww_fl (ww_l0 nx w) 64 L0) s) a = true → ww_m (ww_wo 64 (ww_fl (ww_l0 nx w) 64 L0) s) t = true := by
    intro a ha hr
    obtain ⟨n, hr⟩ := hr
    induction n generalizing a with
    | zero =>
      have e : a = t := hr
      subst e
      intro s _ h; exact h
    | succ n ih =>
      obtain ⟨b, r1, r2⟩ := hr
      intro s hs hm
      exact ih b r1.2.1 r2 s hs (h3 a ha s hs hm b (h2 a b r1))
  exact key u q1.2.1 q2 s hs (h2 s u q1)
