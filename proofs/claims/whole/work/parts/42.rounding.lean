/-! The reference's rounds beside the class's. -/
/-- starts of rounds: -1 where none, or one less than the reference's number -/
def ww_Br (rs : Nat → Int32) (bq : Nat → Nat) : Prop := ∀ q, q < 64 → (rs q = -1 ∧ bq q = 0) ∨ ∃ v, v < 2 ^ 30 ∧ rs q = nI v ∧ bq q = v + 1
theorem ww_rn_ext {nx : Nat → Int64} {w : Int64} {G : Nat → Int64} {c : Nat} (x : ww_Ro) (k : Nat) : ∀ m, ∃ a, (ww_rn nx w G c (k + m) x).1 = (ww_rn nx w G c k x).1 ++ a := by
  intro m
  induction m with
  | zero => exact ⟨[], by rw [List.append_nil]; rfl⟩
  | succ m ih =>
    obtain ⟨a, ha⟩ := ih
    show ∃ b, (ww_rs1 nx w G c (ww_rn nx w G c (k + m) x)).1 = _
    unfold ww_rs1
    split
    · exact ⟨a ++ (ww_rd nx w G c (ww_rn nx w G c (k + m) x).2.1).1, by
        show (ww_rn nx w G c (k + m) x).1 ++ _ = _
        rw [ha, List.append_assoc]⟩
    · exact ⟨a, ha⟩
theorem ww_rnd_end {nx : Nat → Int64} {w : Int64} {G : Nat → Int64} {c k : Nat} {x : ww_Ro} {x0 sh : ww_Sh} {s : Nat} {bq : Nat → Nat} (hk : k ≤ 64) (hI : ww_Iv x0) (hs : s < 64) (hsh : sh = ww_pus x0 (ww_rn nx w G c k x).1) (hrel : sh.2.1 = false → s = (ww_rn nx w G c k x).2.1 ∧ ww_Br (ww_rn nx w G c k x).2.2 bq) (h : ¬ bq s = 0 ∨ sh.2.1 = true) : sh = ww_pus x0 (ww_rn nx w G c ww_k64 x).1 ∧ (sh.2.1 = false → nI (bq s) - nI 1 = (ww_rn nx w G c ww_k64 x).2.2 (ww_rn nx w G c ww_k64 x).2.1) := by
  rw [ww_k64_eq]
  have hIs : ww_Iv sh := by rw [hsh]; exact ww_Iv_pus hI _
  cases ht : sh.2.1 with
  | true =>
    refine ⟨?_, fun q => by cases q⟩
    obtain ⟨a, ha⟩ := ww_rn_ext (nx := nx) (w := w) (G := G) (c := c) x k (64 - k)
    rw [show k + (64 - k) = 64 by omega] at ha
    rw [ha, ww_pus_app, ← hsh, ww_pus_tl hIs ht]
  | false =>
    obtain ⟨e1, e2⟩ := hrel ht
    have hb : ¬ bq s = 0 := by
      rcases h with h | h
      · exact h
      · rw [ht] at h; cases h
    rcases e2 s hs with ⟨q1, q2⟩ | ⟨v, q1, q2, q3⟩
    · exact absurd q2 hb
    · have hst : ¬ (ww_rn nx w G c k x).2.2 (ww_rn nx w G c k x).2.1 = -1 := by
        rw [← e1, q2]
        exact ww_nI_m1 (by omega)
      have e := ww_rn_stop hst (64 - k)
      rw [show k + (64 - k) = 64 by omega] at e
      rw [e]
      refine ⟨hsh, fun _ => ?_⟩
      rw [← e1, q2, q3, pk_sub (by omega)]
      rfl
theorem ww_rnd_go {nx : Nat → Int64} {w : Int64} {G : Nat → Int64} {c k : Nat} {x : ww_Ro} {s : Nat} {bq : Nat → Nat} (hg : ww_good nx G c w) (hc : c ≤ 3) (hx : ww_m w x.2.1 = true) (hl : x.1.length ≤ 100) (hk : k ≤ 64) (e1 : s = (ww_rn nx w G c k x).2.1) (e2 : ww_Br (ww_rn nx w G c k x).2.2 bq) (hb : bq s = 0) : (ww_rn nx w G c k x).2.2 s = -1 ∧ k < 64 ∧ ww_m w s = true := by
  have hm : ww_m w s = true := by rw [e1]; exact ww_rn_in hg hx k
  have hr : (ww_rn nx w G c k x).2.2 s = -1 := by
    rcases e2 s (ww_lt hm) with ⟨q1, q2⟩ | ⟨v, q1, q2, q3⟩
    · exact q1
    · omega
  refine ⟨hr, ?_, hm⟩
  apply Classical.byContradiction
  intro hn
  have e : k = 64 := by omega
  have := ww_rn_end hg hc hx hl
  rw [← e, ← e1] at this
  exact this hr
theorem ww_go_in {nx : Nat → Int64} {w : Int64} {G : Nat → Int64} {c i s t : Nat} {sh : ww_Sh} (hg : ww_good nx G c w) (hi : i < c) (hm : ww_m w s = true) (h : sh.2.1 = false → t = (ww_rg nx w G i (ww_r1 nx w s)).2) : sh.2.1 = true ∨ ww_m (ww_ly nx w (G i &&& w) (ww_ds nx w (G i &&& w) t)) t = true := by
  cases q : sh.2.1 with
  | true => exact Or.inl rfl
  | false =>
    refine Or.inr ?_
    rw [h q]
    exact ww_gl hg hi (ww_rg_in hg (ww_r1_in hg hm).1 i (by omega))
theorem ww_rnd_step {nx : Nat → Int64} {w : Int64} {G : Nat → Int64} {i t u : Nat} {x0 sh : ww_Sh} {p : List Nat} (hI : ww_Iv x0) (hsh : sh = ww_pus x0 (p ++ (ww_rg nx w G i u).1)) (h : sh.2.1 = false → t = (ww_rg nx w G i u).2) : ww_pus sh (ww_go nx w (G i &&& w) (ww_ds nx w (G i &&& w) t) t) = ww_pus x0 (p ++ (ww_rg nx w G (i + 1) u).1) ∧ ((ww_pus sh (ww_go nx w (G i &&& w) (ww_ds nx w (G i &&& w) t) t)).2.1 = false → ww_gt nx w (G i &&& w) (ww_ds nx w (G i &&& w) t) sh t = (ww_rg nx w G (i + 1) u).2) := by
  have hIs : ww_Iv sh := by rw [hsh]; exact ww_Iv_pus hI _
  have e : ww_pus x0 (p ++ (ww_rg nx w G (i + 1) u).1) = ww_pus sh (ww_go nx w (G i &&& w) (ww_ds nx w (G i &&& w) (ww_rg nx w G i u).2) (ww_rg nx w G i u).2) := by
    show ww_pus x0 (p ++ ((ww_rg nx w G i u).1 ++ _)) = _
    rw [← List.append_assoc, ww_pus_app, ← hsh]
  cases q : sh.2.1 with
  | true =>
    refine ⟨?_, fun r => ?_⟩
    · rw [e, ww_pus_tl hIs q, ww_pus_tl hIs q]
    · rw [ww_pus_tl hIs q, q] at r
      cases r
  | false =>
    have et := h q
    refine ⟨by rw [e, et], fun r => ?_⟩
    rw [ww_gt_gn _ _ _ hIs r, et]
    rfl
theorem ww_sz {x0 : ww_Sh} {p : List Nat} (h0 : x0.1 = 0) (hf : (ww_pus x0 p).2.1 = false) : (ww_pus x0 p).1 = p.length := by
  by_cases q : p.length ≤ 251
  · rw [(ww_pus_sz p (by omega)).1, h0, Nat.zero_add]
  · have := (ww_pus_long (x := x0) p (by omega) (by omega)).1
    rw [hf] at this
    cases this
theorem ww_rnd_next {nx : Nat → Int64} {w : Int64} {G : Nat → Int64} {c k : Nat} {x : ww_Ro} {x0 sh sh2 : ww_Sh} {s t : Nat} {bq : Nat → Nat} (h0 : x0.1 = 0) (hI : ww_Iv x0) (hc : c ≤ 3) (hk : k < 64) (hl1 : 1 ≤ x.1.length) (hl : x.1.length ≤ 100) (e1 : s = (ww_rn nx w G c k x).2.1) (e2 : ww_Br (ww_rn nx w G c k x).2.2 bq) (hr : (ww_rn nx w G c k x).2.2 s = -1) (hsh : sh = ww_pus x0 (ww_rn nx w G c k x).1) (hsh2 : sh2 = ww_pus x0 ((ww_rn nx w G c k x).1 ++ (ww_rg nx w G c (ww_r1 nx w s)).1)) (h : sh2.2.1 = false → t = (ww_rg nx w G c (ww_r1 nx w s)).2) : sh2 = ww_pus x0 (ww_rn nx w G c (k + 1) x).1 ∧ (sh2.2.1 = false → t = (ww_rn nx w G c (k + 1) x).2.1 ∧ ww_Br (ww_rn nx w G c (k + 1) x).2.2 (wz_un bq s sh.1)) := by
  have eY : ww_rn nx w G c (k + 1) x = ((ww_rn nx w G c k x).1 ++ (ww_rg nx w G c (ww_r1 nx w s)).1, (ww_rg nx w G c (ww_r1 nx w s)).2, upd (ww_rn nx w G c k x).2.2 s (nI ((ww_rn nx w G c k x).1.length - 1))) := by
    show ww_rs1 nx w G c (ww_rn nx w G c k x) = _
    unfold ww_rs1
    rw [← e1, if_pos hr]
    rfl
  rw [eY]
  refine ⟨hsh2, fun hf => ⟨h hf, ?_⟩⟩
  have hf1 : sh.2.1 = false := by
    rw [hsh2, ww_pus_app, ← hsh] at hf
    exact ww_tl_mono (by rw [hsh]; exact ww_Iv_pus hI _) _ hf
  have hz : sh.1 = (ww_rn nx w G c k x).1.length := by
    rw [hsh] at hf1 ⊢
    exact ww_sz h0 hf1
  have hlen := ww_rn_len (nx := nx) (w := w) (G := G) (c := c) x k
  have hb : k * (1 + 63 * c) ≤ 64 * (1 + 63 * 3) := Nat.mul_le_mul (by omega) (by omega)
  intro q hq
  show (upd (ww_rn nx w G c k x).2.2 s (nI ((ww_rn nx w G c k x).1.length - 1)) q = -1 ∧ wz_un bq s sh.1 q = 0) ∨ ∃ v, v < 2 ^ 30 ∧ upd (ww_rn nx w G c k x).2.2 s (nI ((ww_rn nx w G c k x).1.length - 1)) q = nI v ∧ wz_un bq s sh.1 q = v + 1
  by_cases e : q = s
  · subst e
    rw [pk_us, wz_un_s]
    exact Or.inr ⟨(ww_rn nx w G c k x).1.length - 1, by omega, rfl, by omega⟩
  · rw [pk_un e, wz_un_n e]
    exact e2 q hq
theorem ww_Iv0 (w0 : Nat → Int32) : ww_Iv (0, false, w0) := ⟨by show 0 ≤ 251; omega, fun q => by cases q⟩
theorem ww_Br0 {bq : Nat → Nat} (h : ∀ q, q < 64 → bq q = 0) : ww_Br (fun _ => -1) bq := fun q hq => Or.inl ⟨rfl, h q hq⟩
theorem ww_un0 {bq : Nat → Nat} {k : Nat} (h : ∀ q, q < k → bq q = 0) : ∀ q, q < k + 1 → wz_un bq k 0 q = 0 := by
  intro q hq
  by_cases e : q = k
  · subst e; exact wz_un_s _ _ _
  · rw [wz_un_n e]; exact h q (by omega)
theorem ww_r1_ne {nx : Nat → Int64} {w : Int64} {G : Nat → Int64} {c s : Nat} (hg : ww_good nx G c w) (hs : ww_m w s = true) : ¬ nx s &&& w = 0 := by
  obtain ⟨t, h1, h2, h3⟩ := (ww_bf_m (ww_lt hs)).mp (hg.1 s hs)
  exact ww_meet.mpr ⟨t, h1, h2, h3⟩
