/-! Moves: what a move makes of a state, in numbers. -/
/-- all states that are as b but for the bits of any -/
def ww_spn (b any : Nat) : Nat → Int64
  | 0 => ww_b b
  | k + 1 => if any &&& 2 ^ k = 0 then ww_spn b any k else ww_spn b any k ||| (ww_spn b any k <<< ((nI (2 ^ k)).toInt64 &&& 63))
def ww_sp (b any : Nat) : Int64 := ww_spn b any 6
def ww_ti (any b t : Nat) : Bool := (t ^^^ b) &&& (63 ^^^ any) == 0
set_option maxRecDepth 100000 in
theorem ww_sp_mk : ∀ any, any < 64 → ∀ b, b < 64 → b &&& any = 0 → ww_sp b any = ww_mk (ww_ti any b) := by decide +kernel
theorem ww_tn {a b : Nat} (ha : a < 64) (hb : b < 64) : a ^^^ b < 64 ∧ a &&& b < 64 ∧ a ||| b < 64 := ⟨Nat.xor_lt_two_pow (n := 6) ha hb, Nat.and_lt_two_pow (n := 6) a hb, Nat.or_lt_two_pow (n := 6) ha hb⟩
theorem ww_nn : ∀ a, a < 64 → ∀ b, b < 64 → nI a &&& (nI b ^^^ (-1)) = nI (a &&& (63 ^^^ b)) := by decide +kernel
theorem ww_nx : ∀ a, a < 64 → ∀ b, b < 64 → nI a ^^^ nI b = nI (a ^^^ b) := by decide +kernel
theorem ww_na : ∀ a, a < 64 → ∀ b, b < 64 → nI a &&& nI b = nI (a &&& b) := by decide +kernel
theorem ww_no : ∀ a, a < 64 → ∀ b, b < 64 → nI a ||| nI b = nI (a ||| b) := by decide +kernel
theorem ww_n0 {a : Nat} (h : a < 64) : nI a = 0 ↔ a = 0 := by
  rw [← nI_0, nI_eq (by omega) (by omega)]
/-- the bits of any don't matter -/
theorem ww_ti_and (any b t : Nat) : ww_ti any (b &&& (63 ^^^ any)) t = ww_ti any b t := by
  unfold ww_ti
  have : (t ^^^ (b &&& (63 ^^^ any))) &&& (63 ^^^ any) = (t ^^^ b) &&& (63 ^^^ any) := by
    apply Nat.eq_of_testBit_eq
    intro i
    simp only [Nat.testBit_and, Nat.testBit_xor]
    cases t.testBit i <;> cases b.testBit i <;> cases (Nat.testBit 63 i) <;> cases any.testBit i <;> rfl
  rw [this]
theorem ww_and_not (b any : Nat) : (b &&& (63 ^^^ any)) &&& any = (b &&& 0) ∨ True := Or.inr trivial
theorem ww_disj : ∀ any, any < 64 → ∀ b, b < 64 → (b &&& (63 ^^^ any)) &&& any = 0 := by decide +kernel
/-- the move is possible in s -/
def ww_ok (on off s : Nat) : Bool := (s &&& on == on) && (s &&& off == 0)
theorem ww_ok1 : ∀ on, on < 64 → ∀ s, s < 64 → (on &&& (63 ^^^ s) == 0) = (s &&& on == on) := by decide +kernel
/-- where it leads -/
def ww_mv (on off se cl an s : Nat) : Int64 := if ww_ok on off s = true then ww_mk (ww_ti an ((s ||| se) &&& (63 ^^^ cl))) else 0
theorem ww_mv_sp {on off se cl an s : Nat} (hse : se < 64) (hcl : cl < 64) (han : an < 64) (hs : s < 64) (h : ww_ok on off s = true) : ww_mv on off se cl an s = ww_sp (((s ||| se) &&& (63 ^^^ cl)) &&& (63 ^^^ an)) an := by
  unfold ww_mv
  rw [if_pos h]
  have h1 := (ww_tn hs hse).2.2
  have h2 : 63 ^^^ cl < 64 := (ww_tn (by decide : 63 < 64) hcl).1
  have h3 : 63 ^^^ an < 64 := (ww_tn (by decide : 63 < 64) han).1
  have h4 := (ww_tn h1 h2).2.1
  have h5 := (ww_tn h4 h3).2.1
  rw [ww_sp_mk an han _ h5 (ww_disj an han _ h4)]
  exact ww_mk_congr (fun t _ => (ww_ti_and an _ t).symm)
/-- the followers by the moves alone: masks five by five -/
def ww_fb (mn : Nat → Nat) (s : Nat) : Nat → Int64
  | 0 => 0
  | i + 1 => ww_fb mn s i ||| ww_mv (mn (5 * i)) (mn (5 * i + 1)) (mn (5 * i + 2)) (mn (5 * i + 3)) (mn (5 * i + 4)) s
def ww_fo (x : Int64) (s : Nat) : Int64 := if x = 0 then ww_b s else x
/-- the followers -/
def ww_nxt (mn : Nat → Nat) (n : Nat) (s : Nat) : Int64 := ww_fo (ww_fb mn s n) s
theorem ww_fb_congr {mn mn2 : Nat → Nat} (s : Nat) : ∀ n, (∀ j, j < 5 * n → mn j = mn2 j) → ww_fb mn s n = ww_fb mn2 s n := by
  intro n
  induction n with
  | zero => intro _; rfl
  | succ n ih =>
    intro h
    unfold ww_fb
    rw [ih (fun j hj => h j (by omega)), h (5 * n) (by omega), h (5 * n + 1) (by omega), h (5 * n + 2) (by omega), h (5 * n + 3) (by omega), h (5 * n + 4) (by omega)]
