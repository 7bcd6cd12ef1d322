/-! More words for the roads of MockBook's reading methods. -/
theorem inN {x : Int32} {n : Nat} (hn : n ≤ 1000) (h : inR x 0 (nI n - 1) = true) : ∃ j : Nat, j < n ∧ x = nI j := by
  simp only [inR, Bool.and_eq_true, Bool.not_eq_true', decide_eq_false_iff_not] at h
  obtain ⟨j, hj, rfl⟩ := nI_of h.1
  refine ⟨j, ?_, rfl⟩
  have h2 := h.2
  cases n with
  | zero => exact absurd (show nI 0 - 1 < nI j by rw [show nI 0 - 1 = -1 by decide, Int32.lt_iff_toInt_lt, nI_toInt (by omega), show (-1 : Int32).toInt = -1 by decide]; omega) h2
  | succ k =>
    rw [nI_pred, nI_ltI (by omega) (by omega)] at h2
    omega
theorem inN_t {j n : Nat} (hn : n ≤ 1000) (h : j < n) : inR (nI j) 0 (nI n - 1) = true := by
  cases n with
  | zero => omega
  | succ k =>
    simp only [inR, nI_pred, Bool.and_eq_true, Bool.not_eq_true', decide_eq_false_iff_not]
    exact ⟨nI_pos (by omega), nI_nlt (by omega) (by omega)⟩
def xUNEX : Int64 := 20000000000
def xDEEP : Int64 := 20000000001
def xFAIL : Int64 := 40000000000
def xNONE : Int64 := 60000000000
/-- noted: what of an interaction -/
def notA (t : It) (wh : Int32) : Int64 := if wh = 0 then (nI (iMk t)).toInt64 else if wh = 1 then (nI (iMt t)).toInt64 else if wh = 2 then (iX t).1.toInt64 else if wh = 3 then (iX t).2.1.toInt64 else if wh = 4 then (iX t).2.2.toInt64 else if wh = 5 then (nI (iDp t)).toInt64 else if wh = 6 then (iFr t).toInt64 else if wh = 7 then (bI (iVe t)).toInt64 else if wh = 8 then (nI (iRu t) - 1).toInt64 else if wh = 9 then (bI (iLv t)).toInt64 else xNONE
def sNoted (σ : Bk) (x wh : Int32) : Int64 := if inR x 0 (nI (kIs σ).length - 1) then notA ((kIs σ).getD x.toNatClampNeg i0) wh else xNONE
def sAnswer (σ : Bk) (x : Int32) : Int64 := if inR x 0 (nI (kIs σ).length - 1) then iAn ((kIs σ).getD x.toNatClampNeg i0) else xNONE
def sAbout (σ : Bk) (x wh : Int32) : Int32 := if inR x 0 (nI (kRs σ).length - 1) then (if wh = 0 then nI (uAc ((kRs σ).getD x.toNatClampNeg u0)).length else if wh = 1 then nI (uUs ((kRs σ).getD x.toNatClampNeg u0)) else if wh = 2 then bI (uLv ((kRs σ).getD x.toNatClampNeg u0)) else -1) else -1
def qOpen (σ : Bk) (mk : Nat) (i : Nat) : Bool := iLv ((kIs σ).getD i i0) && decide (iMk ((kIs σ).getD i i0) = mk) && !iVe ((kIs σ).getD i i0)
def qUnus (σ : Bk) (i : Nat) : Bool := uLv ((kRs σ).getD i u0) && decide (uUs ((kRs σ).getD i u0) = 0)
def qAsk (σ : Bk) (mk mt : Nat) (i : Nat) : Bool := iAsk (kBu σ) mk mt ((kIs σ).getD i i0)
def qCnt (σ : Bk) (z : Int32) (i : Nat) : Bool := iLv ((kIs σ).getD i i0) && (iVe ((kIs σ).getD i i0) || decide (z = 0))
def qRul (σ : Bk) (i : Nat) : Bool := uLv ((kRs σ).getD i u0)
def sOpen (σ : Bk) (m : Int32) : Int32 := if inR m 0 3 then fst' (qOpen σ m.toNatClampNeg) (kIs σ).length 0 else -1
def sUnused (σ : Bk) : Int32 := fst' (qUnus σ) (kRs σ).length 0
def sCount (σ : Bk) (wh : Int32) : Int32 := if wh = 0 then nI (kIs σ).length else if wh = 1 then nI (cnt (qCnt σ 0) (kIs σ).length) else if wh = 2 then nI (cnt (qCnt σ 1) (kIs σ).length) else if wh = 3 then nI (kRs σ).length else if wh = 4 then nI (cnt (qRul σ) (kRs σ).length) else if wh = 5 then nI (kBu σ).length else -1
theorem cnt_le (q : Nat → Bool) (n : Nat) : cnt q n ≤ n := by
  induction n with
  | zero => exact Nat.le_refl _
  | succ k ih => simp only [cnt]; split <;> omega
