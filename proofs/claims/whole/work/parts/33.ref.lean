/-! Rows that the reference's walks ask for. -/
def ww_is (x : Int32) : Bool := decide (¬ x < 0 ∧ ¬ nI 64 ≤ x)
theorem ww_63 (x : Int32) : (x ≤ nI 63) ↔ ¬ nI 64 ≤ x := by
  rw [Int32.le_iff_toInt_le, Int32.le_iff_toInt_le, nI_toInt (by decide), nI_toInt (by decide)]
  omega
theorem ww_up_cn {nx : Nat → Int64} {g w b wa : Int64} {k : Nat} (hb : b = ww_it (ww_R nx w) k g) (hw : (k = 0 ∧ wa = 0) ∨ ∃ j, k = j + 1 ∧ wa = ww_it (ww_R nx w) j g) (h : ¬ b = wa) (hle : k ≤ ww_cn b + 1) : k + 1 ≤ ww_cn (b ||| (ww_bf nx b &&& w)) + 1 := by
  have h1 : ww_cn b ≤ ww_cn (b ||| (ww_bf nx b &&& w)) := ww_cn_mono (ww_sub_or _ _)
  rcases hw with ⟨h2, h3⟩ | ⟨j, h2, h3⟩
  · have h4 : ww_cn 0 < ww_cn b := ww_sub_lt (fun i hi => by rw [ww_z] at hi; cases hi) (fun e => h (by rw [← e, h3]))
    omega
  · rcases ww_it_up (ww_R_up nx w) g j with q | q
    · exfalso
      apply h
      rw [hb, h2, h3]
      exact q
    · rw [h2] at hb
      rw [← hb] at q
      omega
theorem ww_up_end {nx : Nat → Int64} {g w b wa : Int64} {k : Nat} (hb : b = ww_it (ww_R nx w) k g) (hw : (k = 0 ∧ wa = 0) ∨ ∃ j, k = j + 1 ∧ wa = ww_it (ww_R nx w) j g) (h : b = wa) : b = ww_rc nx g w := by
  rcases hw with ⟨h2, h3⟩ | ⟨j, h2, h3⟩
  · rw [h2] at hb
    have hg : g = 0 := by rw [← h3, ← h]; exact hb.symm
    rw [hg, ww_rc_0, h, h3]
  · have hf : ww_R nx w (ww_it (ww_R nx w) j g) = ww_it (ww_R nx w) j g := by
      have q : ww_it (ww_R nx w) (j + 1) g = ww_it (ww_R nx w) j g := by rw [← h2, ← hb, h, h3]
      exact q
    have e1 : b = ww_it (ww_R nx w) j g := h.trans h3
    rw [e1, ww_rc_it]
    by_cases hj : j ≤ 64
    · have := ww_it_fix hf (64 - j)
      rw [show j + (64 - j) = 64 by omega] at this
      exact this.symm
    · have h64 := ww_it_up64 (ww_R_up nx w) g
      have := ww_it_fix h64 (j - 64)
      rw [show 64 + (j - 64) = j by omega] at this
      exact this
theorem ww_is_63 (x : Int32) : ww_is x = decide (¬ x < 0 ∧ x ≤ nI 63) := by
  unfold ww_is
  rw [decide_eq_decide, ww_63]
theorem ww_mkn_y {p : Nat → Bool} {n : Nat} (h : p n = true) : ww_mkn p n ||| ww_b n = ww_mkn p (n + 1) := (if_pos h).symm
theorem ww_mkn_n {p : Nat → Bool} {n : Nat} (h : p n = false) : ww_mkn p n = ww_mkn p (n + 1) := (if_neg (by rw [h]; decide)).symm
noncomputable def ww_leK (nx : Nat → Int64) (w : Int64) (L0 : Nat → Int64) : Nat → Int64 := ww_wo ww_k64 (ww_fl (ww_l0 nx w) ww_k64 L0)
theorem ww_leK_Ld (nx : Nat → Int64) (w : Int64) (L0 : Nat → Int64) : ww_Ld nx w (ww_leK nx w L0) := by
  unfold ww_leK
  rw [ww_k64_eq]
  exact ww_le_Ld nx w L0
