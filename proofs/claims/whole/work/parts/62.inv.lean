/-! What the law keeps: the class's rows against the reference's. -/
def wl_M (mv : Nat) (mn : Nat → Nat) (bm so : Nat → Int64) : Prop := mv ≤ 16 ∧ (∀ j, j < 5 * mv → mn j < 64) ∧ (∀ s, s < 64 → bm s = ww_fb mn s mv) ∧ ww_So (ww_nxt mn mv) so
def wl_F (n : Nat) (kn fn sn : Nat → Nat) (pb : Nat → Bool) (f2 s2 : Nat → Int32) : Prop := n ≤ 32 ∧ ww_wf n kn fn sn ∧ ww_pb n kn fn sn pb ∧ (∀ i, i < n → ¬ kn i = 1 → f2 i = nI (fn i)) ∧ (∀ i, i < n → ww_h2 (kn i) = true → s2 i = nI (sn i))
def wl_G (n : Nat) (kn fn sn : Nat → Nat) (pb : Nat → Bool) (fc : Nat) (fa : Nat → Nat) (go : Nat → Int64) : Prop := fc ≤ 3 ∧ (∀ i, i < fc → fa i < n ∧ pb (fa i) = true) ∧ (∀ i, i < fc → go i = ww_pv kn fn sn (fa i))
def wl_J (mv : Nat) (mn kn fn sn : Nat → Nat) (n fc : Nat) (go : Nat → Int64) (sc : Nat) (fs : Int64) (fk : Bool) (ho : Nat → Int64) : Prop := sc ≤ n ∧ (fk = true → fs = ww_yy (ww_nxt mn mv) go fc (-1)) ∧ ∀ j, j < sc → ho j = ww_val (ww_nxt mn mv) go fc (ww_yy (ww_nxt mn mv) go fc (-1)) kn fn sn j
def wl_P (le zz : Nat) (lo lp : Int32) (ro wy : Nat → Int32) : Prop := le = zz ∧ zz ≤ 250 ∧ lo = lp ∧ ∀ i, i < zz → ro i = wy i
theorem wl_M_nx {mv : Nat} {mn : Nat → Nat} {bm so : Nat → Int64} (h : wl_M mv mn bm so) : ∀ s, s < 64 → ww_nxt mn mv s = ww_fo (bm s) s := fun s hs => by
  rw [h.2.2.1 s hs]
  rfl
abbrev wl_mn (mn : Nat → Nat) (mv on off se cl an : Nat) : Nat → Nat := wz_un (wz_un (wz_un (wz_un (wz_un mn (5 * mv) on) (5 * mv + 1) off) (5 * mv + 2) se) (5 * mv + 3) cl) (5 * mv + 4) an
theorem wl_mn_old {mn : Nat → Nat} {mv on off se cl an j : Nat} (h : j < 5 * mv) : wl_mn mn mv on off se cl an j = mn j := by
  unfold wl_mn
  rw [wz_un_n (by omega), wz_un_n (by omega), wz_un_n (by omega), wz_un_n (by omega), wz_un_n (by omega)]
theorem wl_mn_new (mn : Nat → Nat) (mv on off se cl an : Nat) : wl_mn mn mv on off se cl an (5 * mv) = on ∧ wl_mn mn mv on off se cl an (5 * mv + 1) = off ∧ wl_mn mn mv on off se cl an (5 * mv + 2) = se ∧ wl_mn mn mv on off se cl an (5 * mv + 3) = cl ∧ wl_mn mn mv on off se cl an (5 * mv + 4) = an := by
  unfold wl_mn
  refine ⟨?_, ?_, ?_, ?_, ?_⟩
  · rw [wz_un_n (by omega), wz_un_n (by omega), wz_un_n (by omega), wz_un_n (by omega), wz_un_s]
  · rw [wz_un_n (by omega), wz_un_n (by omega), wz_un_n (by omega), wz_un_s]
  · rw [wz_un_n (by omega), wz_un_n (by omega), wz_un_s]
  · rw [wz_un_n (by omega), wz_un_s]
  · rw [wz_un_s]
theorem wl_M_move {mv : Nat} {mn : Nat → Nat} {bm so : Nat → Int64} (h : wl_M mv mn bm so) {on off se cl an : Nat} (hon : on < 64) (hoff : off < 64) (hse : se < 64) (hcl : cl < 64) (han : an < 64) (hmv : mv < 16) : wl_M (mv + 1) (wl_mn mn mv on off se cl an) (ww_ad on off se cl an bm ww_k64) (ww_lo (ww_ad on off se cl an bm ww_k64) ww_k64 (ww_fl (fun _ => 0) ww_k64 so)) := by
  obtain ⟨h1, h2, h3, h4⟩ := h
  obtain ⟨e0, e1, e2, e3, e4⟩ := wl_mn_new mn mv on off se cl an
  have hbm : ∀ s, s < 64 → ww_ad on off se cl an bm ww_k64 s = ww_fb (wl_mn mn mv on off se cl an) s (mv + 1) := by
    intro s hs
    rw [show ww_ad on off se cl an bm ww_k64 = ww_ad on off se cl an bm 64 by rw [ww_k64_eq], ww_ad_at hse hcl han bm 64 (Nat.le_refl _) s, if_pos hs]
    show _ = ww_fb (wl_mn mn mv on off se cl an) s mv ||| ww_mv (wl_mn mn mv on off se cl an (5 * mv)) (wl_mn mn mv on off se cl an (5 * mv + 1)) (wl_mn mn mv on off se cl an (5 * mv + 2)) (wl_mn mn mv on off se cl an (5 * mv + 3)) (wl_mn mn mv on off se cl an (5 * mv + 4)) s
    rw [e0, e1, e2, e3, e4, h3 s hs, ww_fb_congr s mv (fun j hj => wl_mn_old hj)]
  refine ⟨by omega, fun j hj => ?_, hbm, fun s hs t ht => ?_⟩
  · by_cases q4 : j = 5 * mv + 4
    · rw [q4, e4]; exact han
    by_cases q3 : j = 5 * mv + 3
    · rw [q3, e3]; exact hcl
    by_cases q2 : j = 5 * mv + 2
    · rw [q2, e2]; exact hse
    by_cases q1 : j = 5 * mv + 1
    · rw [q1, e1]; exact hoff
    by_cases q0 : j = 5 * mv
    · rw [q0, e0]; exact hon
    rw [wl_mn_old (by omega)]
    exact h2 j (by omega)
  · rw [ww_lo_So (ww_ad on off se cl an bm ww_k64) so s hs t ht]
    show ww_m (ww_fo (ww_ad on off se cl an bm ww_k64 s) s) t = ww_m (ww_fo (ww_fb (wl_mn mn mv on off se cl an) s (mv + 1)) s) t
    rw [hbm s hs]
theorem wl_M0 (so : Nat → Int64) : wl_M 0 (fun _ => 0) (fun _ => 0) (ww_lo (fun _ => 0) ww_k64 (ww_fl (fun _ => 0) ww_k64 so)) := by
  refine ⟨by omega, fun j hj => by omega, fun s hs => rfl, fun s hs t ht => ?_⟩
  rw [ww_lo_So (fun _ => 0) so s hs t ht]
  rfl
/-- the parts of a formula that can be made -/
theorem wl_parts {n k : Nat} {y z : Int32} (hn : n ≤ 32) (hk : k ≤ 12) (h : ww_cb n (nI k) y z = true) : ∃ fj gj, (¬ k = 1 → y = nI fj ∧ fj < 32) ∧ (ww_h2 k = true → z = nI gj ∧ gj < 32) ∧ (k = 0 → fj < 6) ∧ (2 ≤ k → fj < n) ∧ (ww_h2 k = true → gj < n) := by
  have h2 : ∃ gj, ww_h2 k = true → z = nI gj ∧ gj < n := by
    cases q : ww_h2 k with
    | false => exact ⟨0, fun e => by cases e⟩
    | true =>
      obtain ⟨g, hg, e⟩ := ww_hs_of (by omega) (ww_cb_second hk h q)
      exact ⟨g, fun _ => ⟨e, hg⟩⟩
  obtain ⟨gj, hg⟩ := h2
  by_cases k1 : k = 1
  · exact ⟨0, gj, fun e => absurd k1 e, fun e => ⟨(hg e).1, by have := (hg e).2; omega⟩, fun e => by omega, fun e => by omega, fun e => (hg e).2⟩
  by_cases k0 : k = 0
  · obtain ⟨a1, a2⟩ := ww_cb_var hk h k0
    obtain ⟨j, hj, e⟩ := nI_of2 (M := nI 5) (n := 5) (by decide) a1 ((ww_5 y).mpr a2)
    exact ⟨j, gj, fun _ => ⟨e, by omega⟩, fun e => ⟨(hg e).1, by have := (hg e).2; omega⟩, fun _ => by omega, fun e => by omega, fun e => (hg e).2⟩
  · obtain ⟨j, hj, e⟩ := ww_hs_of (by omega) (ww_cb_first hk h k0 k1)
    exact ⟨j, gj, fun _ => ⟨e, by omega⟩, fun e => ⟨(hg e).1, by have := (hg e).2; omega⟩, fun e => absurd e k0, fun _ => hj, fun e => (hg e).2⟩
theorem wl_kd {n : Nat} {x y z : Int32} (h : ww_cb n x y z = true) : ∃ k, k ≤ 12 ∧ x = nI k := by
  by_cases q : ¬ x < 0 ∧ x ≤ nI 12
  · exact nI_of2 (M := nI 12) (n := 12) (by decide) q.1 q.2
  · rw [ww_cb_no q] at h
    cases h
theorem wl_pp {pb pb2 : Nat → Bool} {k f g f9 g9 : Nat} (h1 : 2 ≤ k → pb f = pb2 f9) (h2 : ww_h2 k = true → pb g = pb2 g9) : ww_pp pb k f g = ww_pp pb2 k f9 g9 := by
  rcases k with _ | _ | _ | _ | _ | k
  · rfl
  · rfl
  · exact h1 (by omega)
  · show (pb f && pb g) = (pb2 f9 && pb2 g9)
    rw [h1 (by omega), h2 rfl]
  · show (pb f && pb g) = (pb2 f9 && pb2 g9)
    rw [h1 (by omega), h2 rfl]
  · rfl
section WLF
variable {n : Nat} {kn fn sn : Nat → Nat} {pb : Nat → Bool} {f2 s2 : Nat → Int32} {k fj gj : Nat} {y z : Int32}
theorem wl_F_add (h : wl_F n kn fn sn pb f2 s2) (hk : k ≤ 12) (hn : n < 32) (hy : ¬ k = 1 → y = nI fj ∧ fj < 32) (hz : ww_h2 k = true → z = nI gj ∧ gj < 32) (h0 : k = 0 → fj < 6) (h2 : 2 ≤ k → fj < n) (h3 : ww_h2 k = true → gj < n) : wl_F (n + 1) (wz_un kn n k) (wz_un fn n (if k = 1 then 0 else fj)) (wz_un sn n (if ww_h2 k = true then gj else 0)) (wz_ub pb n (ww_pp pb k fj gj)) (upd f2 n y) (upd s2 n z) := by
  obtain ⟨g1, g2, g3, g4, g5⟩ := h
  refine ⟨by omega, fun i hi => ?_, fun i hi => ?_, fun i hi q => ?_, fun i hi q => ?_⟩
  · by_cases e : i = n
    · subst e
      rw [wz_un_s, wz_un_s, wz_un_s]
      refine ⟨hk, fun q => ?_, fun q => ?_, fun q => ?_, fun q => ?_, fun q => ?_⟩
      · rw [if_neg (by omega)]; exact h0 q
      · rw [if_neg (by omega)]; exact h2 q
      · rw [if_pos q]; exact h3 q
      · rw [if_pos q]
      · rw [if_neg (by rw [q]; decide)]
    · rw [wz_un_n e, wz_un_n e, wz_un_n e]
      exact g2 i (by omega)
  · by_cases e : i = n
    · subst e
      rw [wz_un_s, wz_un_s, wz_un_s, wz_ub_s]
      refine wl_pp (fun q => ?_) (fun q => ?_)
      · have := h2 q
        rw [if_neg (by omega)]
        exact (if_neg (by omega)).symm
      · have := h3 q
        rw [if_pos q]
        exact (if_neg (by omega)).symm
    · have hi' : i < n := by omega
      rw [wz_un_n e, wz_un_n e, wz_un_n e]
      have e1 : wz_ub pb n (ww_pp pb k fj gj) i = pb i := if_neg e
      rw [e1, g3 i hi']
      obtain ⟨-, -, w3, w4, -, -⟩ := g2 i hi'
      refine wl_pp (fun q => ?_) (fun q => ?_)
      · have := w3 q
        exact (if_neg (by omega)).symm
      · have := w4 q
        exact (if_neg (by omega)).symm
  · by_cases e : i = n
    · subst e
      rw [wz_un_s] at q
      rw [pk_us, wz_un_s, if_neg q]
      exact (hy q).1
    · rw [wz_un_n e] at q
      rw [pk_un e, wz_un_n e]
      exact g4 i (by omega) q
  · by_cases e : i = n
    · subst e
      rw [wz_un_s] at q
      rw [pk_us, wz_un_s, if_pos q]
      exact (hz q).1
    · rw [wz_un_n e] at q
      rw [pk_un e, wz_un_n e]
      exact g5 i (by omega) q
theorem wl_val_add {nx G : Nat → Int64} {c : Nat} {fair : Int64} {a b d : Nat} (hw : ww_wf n kn fn sn) : ∀ i, i < n → ww_val nx G c fair kn fn sn i = ww_val nx G c fair (wz_un kn n a) (wz_un fn n b) (wz_un sn n d) i :=
  ww_val_congr hw (fun i hi => ⟨(wz_un_n (by omega)).symm, (wz_un_n (by omega)).symm, (wz_un_n (by omega)).symm⟩)
theorem wl_G_add {fc a b d : Nat} {fa : Nat → Nat} {go : Nat → Int64} {v : Bool} (hw : ww_wf n kn fn sn) (h : wl_G n kn fn sn pb fc fa go) : wl_G (n + 1) (wz_un kn n a) (wz_un fn n b) (wz_un sn n d) (wz_ub pb n v) fc fa go := by
  obtain ⟨g1, g2, g3⟩ := h
  refine ⟨g1, fun i hi => ⟨by have := (g2 i hi).1; omega, ?_⟩, fun i hi => ?_⟩
  · have e : wz_ub pb n v (fa i) = pb (fa i) := if_neg (by have := (g2 i hi).1; omega)
    rw [e]
    exact (g2 i hi).2
  · rw [g3 i hi]
    exact wl_val_add hw (fa i) (g2 i hi).1
theorem wl_J_add {mv fc sc a b d : Nat} {mn : Nat → Nat} {go ho : Nat → Int64} {fs : Int64} {fk : Bool} (hw : ww_wf n kn fn sn) (h : wl_J mv mn kn fn sn n fc go sc fs fk ho) : wl_J mv mn (wz_un kn n a) (wz_un fn n b) (wz_un sn n d) (n + 1) fc go sc fs fk ho := by
  obtain ⟨g1, g2, g3⟩ := h
  refine ⟨by omega, g2, fun j hj => ?_⟩
  rw [g3 j hj]
  exact wl_val_add hw j (by omega)
end WLF
theorem wl_J0 {mv n fc : Nat} {mn kn fn sn : Nat → Nat} {go ho : Nat → Int64} {fs : Int64} : wl_J mv mn kn fn sn n fc go 0 fs false ho := ⟨by omega, fun q => by (cases q), fun j hj => by omega⟩
section WLJ
variable {mv n fc sc : Nat} {mn kn fn sn : Nat → Nat} {go ho : Nat → Int64} {fs : Int64} {fk : Bool} {f : Nat}
theorem wl_J_begins (h : wl_J mv mn kn fn sn n fc go sc fs fk ho) : wl_J mv mn kn fn sn n fc go sc (ww_yy (ww_nxt mn mv) go fc (-1)) true ho := ⟨h.1, fun _ => rfl, h.2.2⟩
theorem wl_ho (hw : ww_wf n kn fn sn) (h : wl_J mv mn kn fn sn n fc go sc fs fk ho) (hf : f < n) : ∀ j, (j ≤ f ∨ j < sc) → ww_fr (ww_st (ww_nxt mn mv) go fc (ww_yy (ww_nxt mn mv) go fc (-1)) kn fn sn) sc (f + 1 - sc) ho j = ww_val (ww_nxt mn mv) go fc (ww_yy (ww_nxt mn mv) go fc (-1)) kn fn sn j := fun j hj => by
  have := h.1
  exact ww_fr_val hw h.2.2 (f + 1 - sc) (by omega) j (by omega)
theorem wl_J_settle (hw : ww_wf n kn fn sn) (h : wl_J mv mn kn fn sn n fc go sc fs fk ho) (hf : f < n) : wl_J mv mn kn fn sn n fc go (if sc < f + 1 then f + 1 else sc) (ww_yy (ww_nxt mn mv) go fc (-1)) true (ww_fr (ww_st (ww_nxt mn mv) go fc (ww_yy (ww_nxt mn mv) go fc (-1)) kn fn sn) sc (f + 1 - sc) ho) := by
  refine ⟨?_, fun _ => rfl, fun j hj => wl_ho hw h hf j ?_⟩
  · have := h.1
    split <;> omega
  · by_cases q : sc < f + 1
    · rw [if_pos q] at hj; omega
    · rw [if_neg q] at hj; omega
theorem wl_G_fair {pb : Nat → Bool} {fa : Nat → Nat} {x : Int64} (hw : ww_wf n kn fn sn) (hp : ww_pb n kn fn sn pb) (h : wl_G n kn fn sn pb fc fa go) (hf : f < n) (hpf : pb f = true) (hfc : fc < 3) (hx : x = ww_val (ww_nxt mn mv) go fc (ww_yy (ww_nxt mn mv) go fc (-1)) kn fn sn f) : wl_G n kn fn sn pb (fc + 1) (wz_un fa fc f) (vp_updL go fc x) := by
  obtain ⟨g1, g2, g3⟩ := h
  refine ⟨by omega, fun i hi => ?_, fun i hi => ?_⟩
  · by_cases e : i = fc
    · subst e; rw [wz_un_s]; exact ⟨hf, hpf⟩
    · rw [wz_un_n e]; exact g2 i (by omega)
  · by_cases e : i = fc
    · subst e
      rw [wz_un_s, pk_uLs, hx]
      exact ww_pv_val hw hp f hf hpf
    · rw [wz_un_n e, pk_uLn e]; exact g3 i (by omega)
theorem wl_beg {s1 : Nat} (hw : ww_wf n kn fn sn) (h : wl_J mv mn kn fn sn n fc go sc fs fk ho) (hf : f < n) {ho9 : Nat → Int64} (e9 : ho9 = ww_fr (ww_st (ww_nxt mn mv) go fc (ww_yy (ww_nxt mn mv) go fc (-1)) kn fn sn) sc (f + 1 - sc) ho) : ww_beg (ww_nxt mn mv) go fc (ww_yy (ww_nxt mn mv) go fc (-1)) (kn f) (ho9 (fn f)) (ho9 (sn f)) s1 = ww_beg (ww_nxt mn mv) go fc (ww_yy (ww_nxt mn mv) go fc (-1)) (kn f) (ww_val (ww_nxt mn mv) go fc (ww_yy (ww_nxt mn mv) go fc (-1)) kn fn sn (fn f)) (ww_val (ww_nxt mn mv) go fc (ww_yy (ww_nxt mn mv) go fc (-1)) kn fn sn (sn f)) s1 := by
  subst e9
  by_cases k4 : kn f ≤ 4
  · rw [ww_beg_k4 k4, ww_beg_k4 k4]
  · rw [wl_ho hw h hf (fn f) (Or.inl (Nat.le_of_lt (ww_wf_f hw hf (by omega))))]
    cases q : ww_h2 (kn f) with
    | true => rw [wl_ho hw h hf (sn f) (Or.inl (Nat.le_of_lt (ww_wf_s hw hf q)))]
    | false => exact ww_beg_b q
end WLJ
theorem wl_G0 {n : Nat} {kn fn sn : Nat → Nat} {pb : Nat → Bool} {fa : Nat → Nat} {go : Nat → Int64} : wl_G n kn fn sn pb 0 fa go := ⟨by omega, fun i hi => by omega, fun i hi => by omega⟩
theorem wl_P0 {ro wy : Nat → Int32} : wl_P 0 0 (-1) (-1) ro wy := ⟨rfl, by omega, rfl, fun i hi => by omega⟩
theorem wl_F0 {kn fn sn : Nat → Nat} {pb : Nat → Bool} {f2 s2 : Nat → Int32} : wl_F 0 kn fn sn pb f2 s2 := ⟨by omega, fun i hi => by omega, fun i hi => by omega, fun i hi => by omega, fun i hi => by omega⟩
/-! The way that is shown: the class's row against the reference's. -/
theorem wl_rn {nx : Nat → Int64} {w : Int64} {G : Nat → Int64} {c : Nat} {bl : List Nat} {bh : Nat} {r1 r2 : Nat → Int32} (hr : ∀ i, i < 64 → r1 i = r2 i) (hb : bh < 64) : ∀ k, (ww_rn nx w G c k (bl, bh, r1)).1 = (ww_rn nx w G c k (bl, bh, r2)).1 ∧ (ww_rn nx w G c k (bl, bh, r1)).2.1 = (ww_rn nx w G c k (bl, bh, r2)).2.1 ∧ (ww_rn nx w G c k (bl, bh, r1)).2.1 < 64 ∧ ∀ i, i < 64 → (ww_rn nx w G c k (bl, bh, r1)).2.2 i = (ww_rn nx w G c k (bl, bh, r2)).2.2 i := by
  intro k
  induction k with
  | zero => exact ⟨rfl, rfl, hb, hr⟩
  | succ k ih =>
    obtain ⟨i1, i2, i3, i4⟩ := ih
    show (ww_rs1 nx w G c (ww_rn nx w G c k (bl, bh, r1))).1 = (ww_rs1 nx w G c (ww_rn nx w G c k (bl, bh, r2))).1 ∧ (ww_rs1 nx w G c (ww_rn nx w G c k (bl, bh, r1))).2.1 = (ww_rs1 nx w G c (ww_rn nx w G c k (bl, bh, r2))).2.1 ∧ (ww_rs1 nx w G c (ww_rn nx w G c k (bl, bh, r1))).2.1 < 64 ∧ ∀ i, i < 64 → (ww_rs1 nx w G c (ww_rn nx w G c k (bl, bh, r1))).2.2 i = (ww_rs1 nx w G c (ww_rn nx w G c k (bl, bh, r2))).2.2 i
    generalize ww_rn nx w G c k (bl, bh, r1) = y at i1 i2 i3 i4 ⊢
    generalize ww_rn nx w G c k (bl, bh, r2) = y9 at i1 i2 i4 ⊢
    obtain ⟨p, h, r⟩ := y
    obtain ⟨p9, h9, r9⟩ := y9
    dsimp only at i1 i2 i3 i4
    subst i1
    subst i2
    unfold ww_rs1
    dsimp only
    by_cases q : r h = -1
    · have q9 : r9 h = -1 := by rw [← i4 h i3]; exact q
      rw [if_pos q, if_pos q9]
      refine ⟨rfl, rfl, ?_, fun i hi => ?_⟩
      · exact (ww_rg_congr (nx := nx) (nx2 := nx) (G := G) (G2 := G) (c := c) (fun _ _ => rfl) (fun _ _ => rfl) w (ww_ls_lt _) c (Nat.le_refl _)).2
      · show upd r h _ i = upd r9 h _ i
        by_cases e : i = h
        · subst e; rw [pk_us, pk_us]
        · rw [pk_un e, pk_un e]; exact i4 i hi
    · have q9 : ¬ r9 h = -1 := by rw [← i4 h i3]; exact q
      rw [if_neg q, if_neg q9]
      exact ⟨rfl, rfl, i3, i4⟩
section WLS
variable {nx G : Nat → Int64} {c : Nat} {w : Int64} {bl : List Nat} {bh : Nat} {rf ro wy : Nat → Int32}
theorem wl_fi : ∀ i, i < 64 → ww_fi (-1) ww_k64 rf i = (fun _ => -1 : Nat → Int32) i := fun i hi => by
  rw [ww_fi_at, if_pos (by rw [ww_k64_eq]; exact hi)]
/-- a way that fits -/
theorem wl_fits (hb : bh < 64) (hl : 1 ≤ bl.length) (h : (ww_rn nx w G c ww_k64 (bl, bh, fun _ => -1)).1.length ≤ 251) :
    (ww_pus (0, false, wy) (ww_rn nx w G c ww_k64 (bl, bh, fun _ => -1)).1).2.1 = false ∧
    (ww_aps (0, ro) (ww_rn nx w G c ww_k64 (bl, bh, ww_fi (-1) ww_k64 rf)).1).1 - 1 = (ww_pus (0, false, wy) (ww_rn nx w G c ww_k64 (bl, bh, fun _ => -1)).1).1 - 1 ∧
    (ww_aps (0, ro) (ww_rn nx w G c ww_k64 (bl, bh, ww_fi (-1) ww_k64 rf)).1).1 - 1 ≤ 250 ∧
    wl_P ((ww_aps (0, ro) (ww_rn nx w G c ww_k64 (bl, bh, ww_fi (-1) ww_k64 rf)).1).1 - 1) ((ww_pus (0, false, wy) (ww_rn nx w G c ww_k64 (bl, bh, fun _ => -1)).1).1 - 1)
      ((ww_rn nx w G c ww_k64 (bl, bh, ww_fi (-1) ww_k64 rf)).2.2 (ww_rn nx w G c ww_k64 (bl, bh, ww_fi (-1) ww_k64 rf)).2.1) ((ww_rn nx w G c ww_k64 (bl, bh, fun _ => -1)).2.2 (ww_rn nx w G c ww_k64 (bl, bh, fun _ => -1)).2.1)
      (ww_aps (0, ro) (ww_rn nx w G c ww_k64 (bl, bh, ww_fi (-1) ww_k64 rf)).1).2 (ww_pus (0, false, wy) (ww_rn nx w G c ww_k64 (bl, bh, fun _ => -1)).1).2.2 := by
  obtain ⟨e1, e2, e3, e4⟩ := wl_rn (nx := nx) (w := w) (G := G) (c := c) (bl := bl) (bh := bh) (r1 := ww_fi (-1) ww_k64 rf) (r2 := fun _ => -1) wl_fi hb ww_k64
  have hlo := e4 _ e3
  rw [hlo, e2, e1]
  generalize (ww_rn nx w G c ww_k64 (bl, bh, fun _ => -1)) = y at h ⊢
  have hs := ww_pus_sz (x := (0, false, wy)) y.1 (by show 0 + _ ≤ 251; omega)
  have ha := ww_al ro y.1
  have hsz : (ww_pus (0, false, wy) y.1).1 = y.1.length := by rw [hs.1]; exact Nat.zero_add _
  refine ⟨hs.2, by rw [ha, hsz], by rw [ha]; omega, by rw [ha, hsz], by rw [hsz]; omega, rfl, fun i hi => ?_⟩
  rw [hsz] at hi
  exact (ww_same (x := (0, false, wy)) (y := (0, ro)) y.1 rfl (fun i hi => absurd hi (by show ¬ i < 0; omega)) (by show 0 + _ ≤ 251; omega) i (by show i < 0 + _; omega) (by omega)).symm
/-- a way that is too long -/
theorem wl_long (hb : bh < 64) (h : ¬ (ww_rn nx w G c ww_k64 (bl, bh, fun _ => -1)).1.length ≤ 251) :
    (ww_pus (0, false, wy) (ww_rn nx w G c ww_k64 (bl, bh, fun _ => -1)).1).2.1 = true ∧
    250 < (ww_aps (0, ro) (ww_rn nx w G c ww_k64 (bl, bh, ww_fi (-1) ww_k64 rf)).1).1 - 1 := by
  obtain ⟨e1, -, -, -⟩ := wl_rn (nx := nx) (w := w) (G := G) (c := c) (bl := bl) (bh := bh) (r1 := ww_fi (-1) ww_k64 rf) (r2 := fun _ => -1) wl_fi hb ww_k64
  rw [e1]
  generalize (ww_rn nx w G c ww_k64 (bl, bh, fun _ => -1)) = y at h ⊢
  have hs := ww_pus_long (x := (0, false, wy)) y.1 (by show 0 ≤ 251; omega) (by show 251 < 0 + _; omega)
  rw [ww_al]
  exact ⟨hs.1, by omega⟩
theorem wl_bound (hl : bl.length ≤ 100) (hc : c ≤ 3) : (ww_aps (0, ro) (ww_rn nx w G c ww_k64 (bl, bh, ww_fi (-1) ww_k64 rf)).1).1 - 1 < 2 ^ 30 := by
  rw [ww_al]
  have h1 := (ww_rn_len (nx := nx) (w := w) (G := G) (c := c) (bl, bh, ww_fi (-1) ww_k64 rf) ww_k64).2
  dsimp only at h1
  have h2 : ww_k64 * (1 + 63 * c) ≤ 64 * 190 := by
    rw [ww_k64_eq]
    exact Nat.mul_le_mul_left 64 (by omega)
  omega
end WLS
/-! The law's own numbers. -/
theorem wl_gt {L i : Nat} (hL : L ≤ 100000) (hi : i ≤ 100000) : (nI L - nI 6 < nI i) ↔ L < i + 6 := by
  rw [Int32.lt_iff_toInt_lt, Int32.toInt_sub, nI_toInt (by omega), nI_toInt (by omega), nI_toInt (by omega)]
  have e : ((L : Int) - (6 : Nat)).bmod (2 ^ 32) = (L : Int) - 6 := by
    rw [Int.bmod_eq_of_le (by omega) (by omega)]
    omega
  rw [e]
  omega
theorem wl_15 (x : Int32) : ∃ k, k < 16 ∧ x &&& nI 15 = nI k := by
  refine ⟨x.toBitVec.toNat &&& 15, Nat.lt_of_le_of_lt Nat.and_le_right (by decide), ?_⟩
  apply Int32.toBitVec_inj.mp
  apply BitVec.eq_of_toNat_eq
  have h15 : x.toBitVec.toNat &&& 15 < 2 ^ 32 := Nat.lt_of_le_of_lt Nat.and_le_right (by decide)
  show (x.toBitVec &&& (nI 15).toBitVec).toNat = ((nI (x.toBitVec.toNat &&& 15)).toBitVec).toNat
  rw [BitVec.toNat_and]
  show x.toBitVec.toNat &&& 15 = (x.toBitVec.toNat &&& 15) % 2 ^ 32
  rw [Nat.mod_eq_of_lt h15]
