/-! A way that is shown has a state. -/
theorem ww_pus_mono (l : List Nat) : ∀ x : ww_Sh, x.1 ≤ (ww_pus x l).1 := by
  induction l with
  | nil => intro x; exact Nat.le_refl _
  | cons s l ih =>
    intro x
    refine Nat.le_trans ?_ (ih (ww_pu x s))
    unfold ww_pu
    split
    · exact Nat.le_refl _
    · exact Nat.le_succ _
theorem ww_pus_pos (w : Nat → Int32) : ∀ l : List Nat, 1 ≤ l.length → 1 ≤ (ww_pus (0, false, w) l).1 := by
  intro l h
  cases l with
  | nil => cases h
  | cons s l => exact Nat.le_trans (by show 1 ≤ 0 + 1; omega) (ww_pus_mono l (ww_pu (0, false, w) s))
theorem ww_shown_pos {nx G : Nat → Int64} {c : Nat} {fs : Int64} {k : Nat} {a b : Int64} {s : Nat} {bl : List Nat} {bh : Nat} {bg : Int64} {w : Nat → Int32} (hf : ww_good nx G c fs) (h : ww_beg nx G c fs k a b s = some (bl, bh, bg)) : 1 ≤ (ww_pus (0, false, w) (ww_rn nx bg G c ww_k64 (bl, bh, fun _ => -1)).1).1 := by
  obtain ⟨e, he⟩ := ww_rn_ext (nx := nx) (w := bg) (G := G) (c := c) (bl, bh, fun _ => -1) 0 ww_k64
  rw [Nat.zero_add] at he
  refine ww_pus_pos w _ ?_
  rw [he, List.length_append]
  exact Nat.le_trans (ww_beg_in hf h).2.2.1 (Nat.le_add_right _ _)
theorem ww_wf_f {n : Nat} {kn fn sn : Nat → Nat} {f : Nat} (hw : ww_wf n kn fn sn) (hf : f < n) (h : 5 ≤ kn f) : fn f < f := by
  obtain ⟨_, _, h2, _⟩ := hw f hf
  exact h2 (by omega)
theorem ww_wf_s {n : Nat} {kn fn sn : Nat → Nat} {f : Nat} (hw : ww_wf n kn fn sn) (hf : f < n) (h : ww_h2 (kn f) = true) : sn f < f := by
  obtain ⟨_, _, _, h2, _⟩ := hw f hf
  exact h2 h
