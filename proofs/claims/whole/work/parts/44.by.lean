/-! How the reference begins a way. -/
theorem ww_and_rc (nx : Nat → Int64) (g w : Int64) : g &&& ww_rc nx g w = g := by
  apply ww_sub.eq
  · exact ww_sub_and _ _
  · exact ww_sub_both (ww_sub.rf _) (ww_rc_ge nx g w)
theorem ww_and3 (x a b : Int64) : x &&& a &&& b = x &&& b &&& a := ww_ext (fun i _ => by rw [ww_and, ww_and, ww_and, ww_and, Bool.and_assoc, Bool.and_assoc, Bool.and_comm (ww_m a i)])
theorem ww_short (nx : Nat → Int64) (w g : Int64) (w0 : Nat → Int32) (s t : Nat) {d : Nat} (hd : d < 64) : (ww_pus (ww_pu (0, false, w0) s) (ww_go nx w g d t)).2.1 = false := by
  have e : ww_pu (0, false, w0) s = (1, false, upd w0 0 (nI s)) := if_neg (by show ¬ 250 < 0; omega)
  rw [e]
  exact (ww_pus_sz (x := (1, false, upd w0 0 (nI s))) (ww_go nx w g d t) (by rw [ww_go_len]; show 1 + d ≤ 251; omega)).2
theorem ww_beg_in {nx G : Nat → Int64} {c : Nat} {fs : Int64} {k : Nat} {a b : Int64} {s : Nat} {bl : List Nat} {bh : Nat} {bg : Int64} (hf : ww_good nx G c fs) (h : ww_beg nx G c fs k a b s = some (bl, bh, bg)) : ww_good nx G c bg ∧ ww_m bg bh = true ∧ 1 ≤ bl.length ∧ bl.length ≤ 100 := by
  have hN : ∀ x, ww_bN nx fs x s = some (bl, bh, bg) → ww_good nx G c bg ∧ ww_m bg bh = true ∧ 1 ≤ bl.length ∧ bl.length ≤ 100 := by
    intro x h
    obtain ⟨hc, rfl, rfl, rfl⟩ := ww_bN_some h
    have := (ww_ls_ok hc).1
    rw [ww_and_iff, ww_and_iff] at this
    exact ⟨hf, this.1.2, by show 1 ≤ 2; omega, by show 2 ≤ 100; omega⟩
  have hU : ∀ w g, ww_bU nx fs w g s = some (bl, bh, bg) → ww_good nx G c bg ∧ ww_m bg bh = true ∧ 1 ≤ bl.length ∧ bl.length ≤ 100 := by
    intro w g h
    obtain ⟨hc, rfl, rfl, rfl⟩ := ww_bU_some h
    have hd := ww_ds_lt nx (ww_rc nx (g &&& fs) w) (g &&& fs) s
    refine ⟨hf, (ww_and_iff.mp (ww_gn_in _ _ (ww_rc_in_ly hc))).2, ?_, ?_⟩
    · show 1 ≤ (ww_go nx (ww_rc nx (g &&& fs) w) (g &&& fs) _ s).length + 1; omega
    · show (ww_go nx (ww_rc nx (g &&& fs) w) (g &&& fs) _ s).length + 1 ≤ 100
      rw [ww_go_len]
      omega
  have hA : ∀ x, ww_bA nx G c x s = some (bl, bh, bg) → ww_good nx G c bg ∧ ww_m bg bh = true ∧ 1 ≤ bl.length ∧ bl.length ≤ 100 := by
    intro x h
    obtain ⟨hc, rfl, rfl, rfl⟩ := ww_bA_some h
    exact ⟨ww_yy_good nx G c x, hc, by show 1 ≤ 1; omega, by show 1 ≤ 100; omega⟩
  rcases k with _ | _ | _ | _ | _ | _ | _ | _ | _ | _ | _ | _ | _ | k
  · cases h
  · cases h
  · cases h
  · cases h
  · cases h
  · exact hN _ h
  · exact hU _ _ h
  · exact hA _ h
  · exact hU _ _ h
  · exact hN _ h
  · cases q : ww_m (ww_rc nx (((a ^^^ (-1)) &&& (b ^^^ (-1))) &&& fs) (b ^^^ (-1))) s with
    | true => exact hU _ _ ((ww_beg10_y q).symm.trans h)
    | false => exact hA _ ((ww_beg10_n q).symm.trans h)
  · exact hU _ _ h
  · exact hA _ h
  · cases h
/-- a way can be shown just where the formula of a kind 5 to 8 holds, one of a kind 9 to 12 doesn't -/
theorem ww_beg_iff {nx G : Nat → Int64} {c : Nat} {fs : Int64} {k v : Nat} {a b : Int64} {s : Nat} (hs : s < 64) (h5 : 5 ≤ k) (h12 : k ≤ 12) : ww_beg nx G c fs k a b s = none ↔ ww_m (ww_vs nx G c fs k v a b) s = decide (9 ≤ k) := by
  have hN : ∀ x, ww_bN nx fs x s = none ↔ ww_m (ww_bf nx (x &&& fs)) s = false := by
    intro x
    unfold ww_bN
    have e : nx s &&& fs &&& x = nx s &&& (x &&& fs) := ww_ext (fun i _ => by rw [ww_and, ww_and, ww_and, ww_and, Bool.and_assoc, Bool.and_comm (ww_m fs i)])
    rw [e]
    constructor
    · intro h
      cases q : ww_m (ww_bf nx (x &&& fs)) s with
      | false => rfl
      | true =>
        rw [if_neg (ww_meet.mpr ((ww_bf_m hs).mp q))] at h
        cases h
    · intro h
      by_cases q : nx s &&& (x &&& fs) = 0
      · rw [if_pos q]
      · rw [(ww_bf_m hs).mpr (ww_meet.mp q)] at h
        cases h
  have hU : ∀ w g, ww_bU nx fs w g s = none ↔ ww_m (ww_rc nx (g &&& fs) w) s = false := by
    intro w g
    refine ⟨ww_bU_none, fun h => ?_⟩
    unfold ww_bU
    rw [if_neg (by rw [h]; decide)]
  have hA : ∀ x, ww_bA nx G c x s = none ↔ ww_m (ww_yy nx G c x) s = false := by
    intro x
    refine ⟨ww_bA_none, fun h => ?_⟩
    unfold ww_bA
    rw [if_neg (by rw [h]; decide)]
  have hn : ∀ x, (ww_m (x ^^^ (-1)) s = true) ↔ ww_m x s = false := by
    intro x
    rw [ww_not x hs]
    cases ww_m x s <;> simp
  rcases (show k = 5 ∨ k = 6 ∨ k = 7 ∨ k = 8 ∨ k = 9 ∨ k = 10 ∨ k = 11 ∨ k = 12 by omega) with e | e | e | e | e | e | e | e <;> subst e
  · exact hN a
  · exact hU a b
  · exact hA a
  · exact hU (-1) a
  · show ww_bN nx fs (a ^^^ (-1)) s = none ↔ ww_m (ww_bf nx ((a ^^^ (-1)) &&& fs) ^^^ (-1)) s = true
    rw [hn, hN]
  · show ww_beg nx G c fs 10 a b s = none ↔ ww_m ((ww_rc nx (((a ^^^ (-1)) &&& (b ^^^ (-1))) &&& fs) (b ^^^ (-1)) ||| ww_yy nx G c (b ^^^ (-1))) ^^^ (-1)) s = true
    rw [hn, ww_or]
    constructor
    · intro h
      obtain ⟨h1, h2⟩ := ww_beg10_none h
      rw [h1, h2]
      rfl
    · intro h
      have h := Bool.or_eq_false_iff.mp h
      rw [ww_beg10_n h.1]
      exact (hA _).mpr h.2
  · show ww_bU nx fs (-1) (a ^^^ (-1)) s = none ↔ ww_m (ww_rc nx ((a ^^^ (-1)) &&& fs) (-1) ^^^ (-1)) s = true
    rw [hn, hU]
  · show ww_bA nx G c (a ^^^ (-1)) s = none ↔ ww_m (ww_yy nx G c (a ^^^ (-1)) ^^^ (-1)) s = true
    rw [hn, hA]
