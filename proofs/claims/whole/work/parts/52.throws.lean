/-! Methods that throw: a start laid anew, the throw, the call, the catch. -/
theorem wx_hears {s T : State} {m : MethodId} {below : List Frame} (ha : s.vm.Alike T.vm) (h : s.hears m below = true) : T.hears m below = true := by
  have e1 : ∀ k, T.vm.method? k = s.vm.method? k := fun k => by rw [ha.method?]
  have e2 : ∀ k, T.code? k = s.code? k := fun k => by rw [State.code?_eq, State.code?_eq, e1]
  cases below with
  | nil =>
    unfold State.hears at h ⊢
    rw [e1]
    exact h
  | cons f r =>
    cases f <;> first | (simp only [State.hears]; done) | (simp only [State.hears] at h ⊢; first | exact h | (rw [e2]; exact h) | (rw [e1]; exact h))
theorem wx_rebase {p : Program} {l : Launch} {e : Env} {R : Room} {s : State} {m : MethodId} {args : Array Value} {below : List Frame} {meth : Method} {c : Code} {T : State} {locs : List Loc} {cells slots : Nat} (X : Stand p l e R s m args below meth c T locs cells slots) {R' : Room} (hf : R'.frames ≤ R.frames) (hl : R'.locals ≤ R.locals) (hc : cells + R'.cells ≤ R.cells) (hs : slots + R'.slots ≤ R.slots) : Stand p l e R' (T.setFrames (.invoking m args :: below)) m args below meth c T [] 0 0 := by
  have hcur := State.cur_lt_of_top X.here.top
  have hF : (T.setFrames (.invoking m args :: below)).frames = .invoking m args :: below := State.frames_setFrames _ hcur
  have hmT : T.vm.method? m = some meth := by rw [X.warmed.alike.method?]; exact X.method
  refine ⟨X.admits, X.cas, X.clock, hF, ?_, wx_hears (s := s) X.warmed.alike X.hears, hmT, X.code, X.here, X.tail, State.WarmedH.refl _, ?_, ?_, ?_⟩
  · obtain ⟨r1, r2, r3, r4⟩ := State.hasRoom_stack X.room
    have r5 := State.hasRoom_real X.room
    have h := X.room
    simp only [State.hasRoom, Bool.and_eq_true, decide_eq_true_eq] at h
    rw [State.localsInUse_invoking X.frames X.method X.code] at r3 r4 r5
    rw [X.frames, List.length_cons] at r1 r2
    have hU := State.localsInUse_invoking (s := T.setFrames (.invoking m args :: below)) hF hmT X.code
    have g1 := X.heapSize
    have g2 := X.used
    simp only [State.hasRoom, Bool.and_eq_true, decide_eq_true_eq, hF, hU, List.length_cons, State.stackLimits_setFrames, State.stackBytes_setFrames, X.limits, X.bytes]
    refine ⟨⟨⟨⟨by omega, by omega, by omega, by omega, by omega, h.1.1.1.2.2.2.2.2⟩, ?_⟩, ?_⟩, X.book⟩
    · have := h.1.1.2
      show T.heap.size + R'.cells ≤ _
      omega
    · have := h.1.2
      show T.slotsUsed + R'.slots ≤ _
      omega
  · rw [State.stackLimits_setFrames]
  · rw [State.stackBytes_setFrames]
  · obtain ⟨t, ht, -⟩ := State.frames_cons hF
    have h := (State.sameButNew.refl (T.setFrames (.invoking m args :: below)) ht).setFrames T.frames (by exact State.cur_lt_of_frames hF)
    obtain ⟨g₀, hg0⟩ := Option.isSome_iff_exists.mp X.here.top
    obtain ⟨r, hr⟩ := State.topJava?_eq_some.mp hg0
    obtain ⟨t2, ht2, -⟩ := State.frames_cons hr
    rw [State.setFrames_setFrames] at h
    have e9 : T.setFrames T.frames = T := by
      rw [hr]
      have := State.setFrames_self ht2
      rw [hr] at this
      exact this
    rw [e9] at h
    exact h
