/-! Rows for the reference's public calls. -/
theorem ww_hs_N {n f : Nat} (hf : f < n) (hn : n < 2 ^ 31) : ww_hs n (nI f) = true := by
  unfold ww_hs
  refine decide_eq_true ⟨nI_pos (by omega), fun q => ?_⟩
  have := (nI_leI (by omega) (by omega)).mp q
  omega
theorem ww_hs_of {n : Nat} {x : Int32} (hn : n < 2 ^ 31) (h : ww_hs n x = true) : ∃ f, f < n ∧ x = nI f := by
  unfold ww_hs at h
  obtain ⟨h1, h2⟩ := of_decide_eq_true h
  rcases pk_ix x hn with q | q | q
  · exact absurd q h1
  · exact absurd q h2
  · exact q
theorem ww_is_N {f : Nat} (hf : f < 64) : ww_is (nI f) = true := ww_hs_N (n := 64) hf (by decide)
theorem ww_is_of {x : Int32} (h : ww_is x = true) : ∃ f, f < 64 ∧ x = nI f := ww_hs_of (n := 64) (by decide) h
/-- what formula f is made of, from above: j steps down from f -/
def ww_mdk (kn fn sn : Nat → Nat) (b : Int64) (i : Nat) : Int64 := if ww_m b i = true then (if ww_h2 (kn i) = true then (if 1 < kn i then b ||| ww_b (fn i) else b) ||| ww_b (sn i) else (if 1 < kn i then b ||| ww_b (fn i) else b)) else b
def ww_md (kn fn sn : Nat → Nat) (f : Nat) : Nat → Int64
  | 0 => ww_b f
  | j + 1 => ww_mdk kn fn sn (ww_md kn fn sn f j) (f - j)
theorem ww_mdk_sub (kn fn sn : Nat → Nat) (b : Int64) (i : Nat) : ww_sub b (ww_mdk kn fn sn b i) := by
  unfold ww_mdk
  split
  · split
    · split
      · exact (ww_sub_or _ _).tr (ww_sub_or _ _)
      · exact ww_sub_or _ _
    · split
      · exact ww_sub_or _ _
      · exact ww_sub.rf _
  · exact ww_sub.rf _
theorem ww_mdk_m {kn fn sn : Nat → Nat} {b : Int64} {i t : Nat} (h : ww_m (ww_mdk kn fn sn b i) t = true) : ww_m b t = true ∨ (ww_m b i = true ∧ ((1 < kn i ∧ ww_m (ww_b (fn i)) t = true) ∨ (ww_h2 (kn i) = true ∧ ww_m (ww_b (sn i)) t = true))) := by
  unfold ww_mdk at h
  by_cases h1 : ww_m b i = true
  · rw [if_pos h1] at h
    by_cases h2 : ww_h2 (kn i) = true
    · rw [if_pos h2, ww_or_iff] at h
      rcases h with h | h
      · by_cases h3 : 1 < kn i
        · rw [if_pos h3, ww_or_iff] at h
          rcases h with h | h
          · exact Or.inl h
          · exact Or.inr ⟨h1, Or.inl ⟨h3, h⟩⟩
        · rw [if_neg h3] at h; exact Or.inl h
      · exact Or.inr ⟨h1, Or.inr ⟨h2, h⟩⟩
    · rw [if_neg h2] at h
      by_cases h3 : 1 < kn i
      · rw [if_pos h3, ww_or_iff] at h
        rcases h with h | h
        · exact Or.inl h
        · exact Or.inr ⟨h1, Or.inl ⟨h3, h⟩⟩
      · rw [if_neg h3] at h; exact Or.inl h
  · rw [if_neg h1] at h; exact Or.inl h
theorem ww_mdk_cl {kn fn sn : Nat → Nat} {b : Int64} {i : Nat} (h : ww_m b i = true) : (1 < kn i → fn i < 64 → ww_m (ww_mdk kn fn sn b i) (fn i) = true) ∧ (ww_h2 (kn i) = true → sn i < 64 → ww_m (ww_mdk kn fn sn b i) (sn i) = true) := by
  unfold ww_mdk
  rw [if_pos h]
  constructor
  · intro h1 h2
    have : ww_m (b ||| ww_b (fn i)) (fn i) = true := by rw [ww_or, ww_mb _ h2 _ h2]; simp
    rw [if_pos h1]
    split
    · rw [ww_or, this]; rfl
    · exact this
  · intro h1 h2
    rw [if_pos h1, ww_or, ww_mb _ h2 _ h2]
    simp
/-- f is plain just if nothing that it is made of speaks of ways -/
theorem ww_md_ok {n : Nat} {kn fn sn : Nat → Nat} {pb : Nat → Bool} (hw : ww_wf n kn fn sn) (hn : n ≤ 32) (hp : ww_pb n kn fn sn pb) {f : Nat} (hf : f < n) : pb f = true ↔ ∀ i, i ≤ f → ww_m (ww_md kn fn sn f (f + 1)) i = true → kn i ≤ 4 := by
  have hle : ∀ j, j ≤ f + 1 → ∀ t, ww_m (ww_md kn fn sn f j) t = true → t ≤ f := by
    intro j
    induction j with
    | zero =>
      intro _ t ht
      have hl := ww_lt ht
      rw [show ww_md kn fn sn f 0 = ww_b f from rfl, ww_mb f (by omega) t hl] at ht
      have := of_decide_eq_true ht
      omega
    | succ j ih =>
      intro hj t ht
      have hl := ww_lt ht
      rcases ww_mdk_m ht with q | ⟨q, (⟨q1, q2⟩ | ⟨q1, q2⟩)⟩
      · exact ih (by omega) t q
      · have hi := ih (by omega) _ q
        obtain ⟨-, -, q3, -, -, -⟩ := hw (f - j) (by omega)
        have h3 := q3 (by omega)
        rw [ww_mb _ (by omega) t hl] at q2
        have := of_decide_eq_true q2
        omega
      · have hi := ih (by omega) _ q
        obtain ⟨-, -, -, q4, -, -⟩ := hw (f - j) (by omega)
        have h3 := q4 q1
        rw [ww_mb _ (by omega) t hl] at q2
        have := of_decide_eq_true q2
        omega
  have hmono : ∀ j k, j ≤ k → ww_sub (ww_md kn fn sn f j) (ww_md kn fn sn f k) := by
    intro j k
    induction k with
    | zero => intro h; rw [show j = 0 by omega]; exact ww_sub.rf _
    | succ k ih =>
      intro h
      by_cases e : j = k + 1
      · rw [e]; exact ww_sub.rf _
      · exact (ih (by omega)).tr (ww_mdk_sub _ _ _ _ _)
  constructor
  · intro h
    have hall : ∀ j, j ≤ f + 1 → ∀ t, ww_m (ww_md kn fn sn f j) t = true → pb t = true := by
      intro j
      induction j with
      | zero =>
        intro _ t ht
        have hl := ww_lt ht
        rw [show ww_md kn fn sn f 0 = ww_b f from rfl, ww_mb f (by omega) t hl] at ht
        rw [of_decide_eq_true ht]
        exact h
      | succ j ih =>
        intro hj t ht
        have hl := ww_lt ht
        rcases ww_mdk_m ht with q | ⟨q, (⟨q1, q2⟩ | ⟨q1, q2⟩)⟩
        · exact ih (by omega) t q
        · obtain ⟨-, q3, -, -, -⟩ := hw (f - j) (by omega)
          have h3 := (hw (f - j) (by omega)).2.2.1 (by omega)
          rw [ww_mb _ (by omega) t hl] at q2
          rw [of_decide_eq_true q2]
          exact (ww_pb_ok hp (by omega) (ih (by omega) _ q)).2.1 (by omega)
        · have h3 := (hw (f - j) (by omega)).2.2.2.1 q1
          rw [ww_mb _ (by omega) t hl] at q2
          rw [of_decide_eq_true q2]
          exact (ww_pb_ok hp (by omega) (ih (by omega) _ q)).2.2 q1
    intro i hi hm
    exact (ww_pb_ok hp (by omega) (hall (f + 1) (Nat.le_refl _) i hm)).1
  · intro h
    have hcl : ∀ t, ww_m (ww_md kn fn sn f (f + 1)) t = true → (2 ≤ kn t → ww_m (ww_md kn fn sn f (f + 1)) (fn t) = true) ∧ (ww_h2 (kn t) = true → ww_m (ww_md kn fn sn f (f + 1)) (sn t) = true) := by
      intro t ht
      have htf := hle (f + 1) (Nat.le_refl _) t ht
      -- t was in the set when its turn came
      have hback : ∀ k, f - t ≤ k → k ≤ f + 1 → ww_m (ww_md kn fn sn f k) t = true → ww_m (ww_md kn fn sn f (f - t)) t = true := by
        intro k
        induction k with
        | zero => intro h1 _ h2; rw [show f - t = 0 by omega]; exact h2
        | succ k ih =>
          intro h1 h2 h3
          by_cases e : f - t = k + 1
          · rw [e]; exact h3
          · refine ih (by omega) (by omega) ?_
            have hl := ww_lt h3
            rcases ww_mdk_m h3 with q | ⟨q, (⟨q1, q2⟩ | ⟨q1, q2⟩)⟩
            · exact q
            · exfalso
              have h4 := (hw (f - k) (by omega)).2.2.1 (by omega)
              rw [ww_mb _ (by omega) t hl] at q2
              have := of_decide_eq_true q2
              omega
            · exfalso
              have h4 := (hw (f - k) (by omega)).2.2.2.1 q1
              rw [ww_mb _ (by omega) t hl] at q2
              have := of_decide_eq_true q2
              omega
      have h0 := hback (f + 1) (by omega) (Nat.le_refl _) ht
      have e : f - (f - t) = t := by omega
      have hs : ww_md kn fn sn f (f - t + 1) = ww_mdk kn fn sn (ww_md kn fn sn f (f - t)) t := by
        show ww_mdk kn fn sn (ww_md kn fn sn f (f - t)) (f - (f - t)) = _
        rw [e]
      obtain ⟨c1, c2⟩ := ww_mdk_cl (kn := kn) (fn := fn) (sn := sn) h0
      rw [← hs] at c1 c2
      have hsub := hmono (f - t + 1) (f + 1) (by omega)
      exact ⟨fun q => hsub _ (c1 (by omega) (by have := (hw t (by omega)).2.2.1 q; omega)), fun q => hsub _ (c2 q (by have := (hw t (by omega)).2.2.2.1 q; omega))⟩
    have hpl : ∀ t, ww_m (ww_md kn fn sn f (f + 1)) t = true → pb t = true := by
      intro t
      induction t using Nat.strongRecOn with
      | _ t ih =>
        intro ht
        have htf := hle (f + 1) (Nat.le_refl _) t ht
        have hk := h t htf ht
        obtain ⟨c1, c2⟩ := hcl t ht
        rw [hp t (by omega)]
        rcases (show kn t = 0 ∨ kn t = 1 ∨ kn t = 2 ∨ kn t = 3 ∨ kn t = 4 by omega) with e | e | e | e | e
        · rw [e]; rfl
        · rw [e]; rfl
        · rw [e]
          show pb (fn t) = true
          exact ih _ ((hw t (by omega)).2.2.1 (by omega)) (c1 (by omega))
        · rw [e]
          show (pb (fn t) && pb (sn t)) = true
          rw [ih _ ((hw t (by omega)).2.2.1 (by omega)) (c1 (by omega)), ih _ ((hw t (by omega)).2.2.2.1 (by rw [e]; rfl)) (c2 (by rw [e]; rfl))]
          rfl
        · rw [e]
          show (pb (fn t) && pb (sn t)) = true
          rw [ih _ ((hw t (by omega)).2.2.1 (by omega)) (c1 (by omega)), ih _ ((hw t (by omega)).2.2.2.1 (by rw [e]; rfl)) (c2 (by rw [e]; rfl))]
          rfl
    exact hpl f (hmono 0 (f + 1) (by omega) f (by rw [show ww_md kn fn sn f 0 = ww_b f from rfl, ww_mb f (by omega) f (by omega)]; simp))
/-- fair's loop: some part below i speaks of ways -/
def ww_bd (kn : Nat → Nat) (b : Int64) : Nat → Bool
  | 0 => false
  | i + 1 => ww_bd kn b i || (ww_m b i && decide (4 < kn i))
theorem ww_bd_iff (kn : Nat → Nat) (b : Int64) : ∀ n, ww_bd kn b n = true ↔ ∃ i, i < n ∧ ww_m b i = true ∧ 4 < kn i := by
  intro n
  induction n with
  | zero => simp [ww_bd]
  | succ n ih =>
    unfold ww_bd
    rw [Bool.or_eq_true, ih, Bool.and_eq_true, decide_eq_true_iff]
    constructor
    · rintro (⟨i, h1, h2⟩ | h)
      · exact ⟨i, by omega, h2⟩
      · exact ⟨n, by omega, h⟩
    · rintro ⟨i, h1, h2⟩
      by_cases e : i = n
      · rw [e] at h2; exact Or.inr h2
      · exact Or.inl ⟨i, by omega, h2⟩
theorem ww_bd_stop {kn : Nat → Nat} {b : Int64} {i : Nat} (h : ww_bd kn b i = true) : ∀ k, ww_bd kn b (i + k) = true := by
  intro k
  rw [ww_bd_iff] at h ⊢
  obtain ⟨j, h1, h2⟩ := h
  exact ⟨j, by omega, h2⟩
theorem ww_bd_pb {n : Nat} {kn fn sn : Nat → Nat} {pb : Nat → Bool} (hw : ww_wf n kn fn sn) (hn : n ≤ 32) (hp : ww_pb n kn fn sn pb) {f : Nat} (hf : f < n) : ww_bd kn (ww_md kn fn sn f (f + 1)) (f + 1) = !pb f := by
  have h1 := ww_md_ok hw hn hp hf
  have h2 := ww_bd_iff kn (ww_md kn fn sn f (f + 1)) (f + 1)
  cases q : pb f with
  | true =>
    show _ = false
    cases r : ww_bd kn (ww_md kn fn sn f (f + 1)) (f + 1) with
    | false => rfl
    | true =>
      obtain ⟨i, r1, r2, r3⟩ := h2.mp r
      have := h1.mp q i (by omega) r2
      omega
  | false =>
    show _ = true
    apply Classical.byContradiction
    intro hc
    have : pb f = true := h1.mpr (fun i hi hm => by
      apply Classical.byContradiction
      intro hk
      exact hc (h2.mpr ⟨i, by omega, hm, by omega⟩))
    rw [q] at this
    cases this
theorem ww_nb' {b : Bool} (h : (!b) = false) : b = true := by cases b; cases h; rfl
theorem ww_nt' {b : Bool} (h : (!b) = true) : b = false := by cases b; rfl; cases h
theorem ww_bit_n {b : Bool} (h : ¬ ww_bit b = 1) : b = false := by
  cases b
  · rfl
  · exact absurd ((ww_bit_1 true).mpr rfl) h
theorem ww_5 (x : Int32) : (x ≤ nI 5) ↔ ¬ nI 6 ≤ x := by
  rw [Int32.le_iff_toInt_le, Int32.le_iff_toInt_le, nI_toInt (by decide), nI_toInt (by decide)]
  omega
theorem ww_pd_pos {c : Nat} (h : ¬ nI c + (-1) < 0) : ∃ i, c = i + 1 := by
  cases c with
  | zero => exact absurd (by decide) h
  | succ i => exact ⟨i, rfl⟩
theorem ww_pd_neg {c : Nat} (hc : c < 2 ^ 31) (h : nI c + (-1) < 0) : c = 0 := by
  cases c with
  | zero => rfl
  | succ i =>
    rw [pk_m1] at h
    exact absurd h (nI_pos (by omega))
theorem ww_cb_first {n k : Nat} {y z : Int32} (hk : k ≤ 12) (h : ww_cb n (nI k) y z = true) (h0 : ¬ k = 0) (h1 : ¬ k = 1) : ww_hs n y = true := by
  rw [ww_cb_N hk, if_neg h0, decide_eq_false h1, Bool.and_eq_true, Bool.false_or] at h
  exact h.1
theorem ww_cb_second {n k : Nat} {y z : Int32} (hk : k ≤ 12) (h : ww_cb n (nI k) y z = true) (h2 : ww_h2 k = true) : ww_hs n z = true := by
  have h0 : ¬ k = 0 := by
    intro e
    rw [e] at h2
    cases h2
  rw [ww_cb_N hk, if_neg h0, Bool.and_eq_true, h2] at h
  exact h.2
theorem ww_cb_var {n k : Nat} {y z : Int32} (hk : k ≤ 12) (h : ww_cb n (nI k) y z = true) (h0 : k = 0) : ¬ y < 0 ∧ ¬ nI 6 ≤ y := by
  rw [ww_cb_N hk, if_pos h0] at h
  exact of_decide_eq_true h
