/-! Small words on numbers and truth values. -/
def bI (x : Bool) : Int32 := if x then 1 else 0
theorem bI_t : bI true = 1 := rfl
theorem bI_f : bI false = 0 := rfl
theorem bI_0 {x : Bool} : bI x = 0 ↔ x = false := by cases x <;> decide
theorem bI_1 {x : Bool} : bI x = 1 ↔ x = true := by cases x <;> decide
theorem bI_nar (x : Bool) : narrow .boolean (.int (bI x)) = .int (bI x) := by cases x <;> rfl
theorem bI_fit (x : Bool) : fits .boolean (.int (bI x)) = true := by cases x <;> rfl
def inR (x lo hi : Int32) : Bool := !decide (x < lo) && !decide (hi < x)
def wantd (x z n : Int32) : Bool := if z = 0 then decide (x = n) else if z = 1 then !decide (x < n) else !decide (n < x)
theorem inR_of {x M : Int32} {n : Nat} (hM : M.toInt = n) (h : inR x 0 M = true) : ∃ j : Nat, j ≤ n ∧ x = nI j := by
  simp only [inR, Bool.and_eq_true, Bool.not_eq_true', decide_eq_false_iff_not] at h
  exact nI_of2 hM h.1 (Int32.not_lt.mp h.2)
theorem rem4 {k : Nat} (h : k < 2 ^ 31) : nI k - nI k / 4 * 4 = nI (k % 4) := pk_rem (d := 4) h (by decide) (by decide)
theorem rem8 {k : Nat} (h : k < 2 ^ 31) : nI k - nI k / 8 * 8 = nI (k % 8) := pk_rem (d := 8) h (by decide) (by decide)
theorem div8 {k : Nat} (h : k < 2 ^ 31) : nI k / 8 = nI (k / 8) := pk_div (d := 8) h (by decide) (by decide)
