/-! What the calls do to the book: pure functions. -/
def argP (x : X3) (p : Int32) : Int32 := if p = 0 then x.1 else if p = 1 then x.2.1 else x.2.2
def flm4 (x : Int32) : Int32 := if 0 ≤ x ^^^ 4 then x - x / 4 * 4 else if x - x / 4 * 4 = 0 then x - x / 4 * 4 else x - x / 4 * 4 + 4
theorem flm4_and (x : Int32) : flm4 x = x &&& 3 := by
  have hx3 : x &&& 3 = nI (x.toBitVec.toNat % 4) := pk_and x 2 (by decide)
  have hN : x.toBitVec.toNat < 4294967296 := x.toBitVec.isLt
  have hsg : (x ^^^ 4) < 0 ↔ x < 0 := by
    rw [Int32.lt_iff_toInt_lt, Int32.lt_iff_toInt_lt]
    have e1 : (x ^^^ 4).toInt = (x.toBitVec ^^^ (4 : Int32).toBitVec).toInt := by rw [← Int32.toBitVec_xor]; rfl
    have e2 : (0 : Int32).toInt = 0 := by decide
    rw [e1, e2]
    have m1 := BitVec.msb_eq_toInt (x := x.toBitVec ^^^ (4 : Int32).toBitVec)
    have m2 := BitVec.msb_eq_toInt (x := x.toBitVec)
    rw [BitVec.msb_xor, show ((4 : Int32).toBitVec).msb = false by decide, Bool.xor_false] at m1
    have m3 : decide ((x.toBitVec ^^^ (4 : Int32).toBitVec).toInt < 0) = decide (x.toBitVec.toInt < 0) := m1.symm.trans m2
    exact decide_eq_decide.mp m3
  have hxi : x.toInt = if 2 * x.toBitVec.toNat < 4294967296 then (x.toBitVec.toNat : Int) else (x.toBitVec.toNat : Int) - 4294967296 := BitVec.toInt_eq_toNat_cond _
  have h4 : (4 : Int32).toInt = 4 := by decide
  have hs0 : 0 ≤ x.toInt → 0 ≤ x.toInt.tmod 4 := fun h => Int.tmod_nonneg 4 h
  have hs1 : x.toInt < 0 → x.toInt.tmod 4 ≤ 0 := fun h => by
    have h1 := Int.tmod_nonneg 4 (show 0 ≤ -x.toInt by omega)
    rw [Int.neg_tmod] at h1
    omega
  have hq : (x / 4).toInt = x.toInt.tdiv 4 := by
    rw [Int32.toInt_div, h4]
    have hb := Int.mul_tdiv_add_tmod x.toInt 4
    have ht := tmod_bounds (a := x.toInt) (M := 4) (by decide)
    rw [Int.bmod_eq_of_le (by split at hxi <;> omega) (by split at hxi <;> omega)]
  have hqm : (x / 4 * 4).toInt = x.toInt.tdiv 4 * 4 := by
    rw [Int32.toInt_mul, hq, h4]
    have hb := Int.mul_tdiv_add_tmod x.toInt 4
    have ht := tmod_bounds (a := x.toInt) (M := 4) (by decide)
    rw [Int.bmod_eq_of_le (by split at hxi <;> omega) (by split at hxi <;> omega)]
  have hm : (x - x / 4 * 4).toInt = x.toInt.tmod 4 := by
    rw [Int32.toInt_sub, hqm]
    have hb := Int.mul_tdiv_add_tmod x.toInt 4
    have ht := tmod_bounds (a := x.toInt) (M := 4) (by decide)
    rw [Int.bmod_eq_of_le (by split at hxi <;> omega) (by split at hxi <;> omega)]
    omega
  rw [hx3]
  apply Int32.toInt_inj.mp
  rw [nI_toInt (by omega)]
  have hb := Int.mul_tdiv_add_tmod x.toInt 4
  have ht := tmod_bounds (a := x.toInt) (M := 4) (by decide)
  unfold flm4
  by_cases hs : x < 0
  · rw [if_neg (fun q => absurd (hsg.mpr hs) (Int32.not_lt.mpr q))]
    have hneg : x.toInt < 0 := by
      have := Int32.lt_iff_toInt_lt.mp hs
      simpa using this
    have hle : x.toInt.tmod 4 ≤ 0 := hs1 hneg
    by_cases hz : x - x / 4 * 4 = 0
    · rw [if_pos hz, hm]
      have : x.toInt.tmod 4 = 0 := by rw [← hm, hz]; decide
      split at hxi <;> omega
    · rw [if_neg hz]
      have hnz : x.toInt.tmod 4 ≠ 0 := fun q => hz (Int32.toInt_inj.mp (by rw [hm, q]; decide))
      rw [Int32.toInt_add, hm, h4, Int.bmod_eq_of_le (by omega) (by omega)]
      split at hxi <;> omega
  · rw [if_pos (Int32.not_lt.mp (fun q => hs (hsg.mp q))), hm]
    have hpos : 0 ≤ x.toInt := by
      have := Int32.not_lt.mp hs
      simpa using Int32.le_iff_toInt_le.mp this
    have hge : 0 ≤ x.toInt.tmod 4 := Int.tmod_nonneg 4 hpos
    split at hxi <;> omega
def fit1 (k v x : Int32) : Bool := if k = 1 then decide (x = v) else if k = 2 then !decide (x = v) else if k = 3 then decide (x < v) else if k = 4 then decide (v < x) else if k = 5 then decide (x &&& 3 = v &&& 3) else true
/-- the matchers from the place i on, k of them, fit -/
def fitN (ms : List Pr) (x : X3) : Nat → Nat → Bool
  | 0, _ => true
  | k + 1, i => fit1 (ms.getD i (0, 0)).1 (ms.getD i (0, 0)).2 (argP x (nI i)) && fitN ms x k (i + 1)
def fitA (ms : List Pr) (x : X3) : Bool := fitN ms x ms.length 0
/-- the greatest place below n, plus one; 0 if there is none -/
def lst (q : Nat → Bool) : Nat → Nat
  | 0 => 0
  | i + 1 => if q i then i + 1 else lst q i
/-- the least place from i on among k, or -10 -/
def fst' (q : Nat → Bool) : Nat → Nat → Int32
  | 0, _ => -10
  | k + 1, i => if q i then nI i else fst' q k (i + 1)
/-- how many places below n -/
def cnt (q : Nat → Bool) : Nat → Nat
  | 0 => 0
  | i + 1 => cnt q i + (if q i then 1 else 0)
def uAns (r : Ru) (mk mt : Nat) (x : X3) : Bool := uLv r && decide (uMk r = mk) && decide (uMt r = mt) && fitA (uMs r) x
def ruFor (rs : List Ru) (mk mt : Nat) (x : X3) : Nat := lst (fun i => uAns (rs.getD i u0) mk mt x) rs.length
/-- a live interaction of the mock and the method that fits -/
def iAsk (bu : List Pr) (mk mt : Nat) (t : It) : Bool := iLv t && decide (iMk t = mk) && decide (iMt t = mt) && fitA bu (iX t)
