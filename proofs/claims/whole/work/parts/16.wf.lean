/-! What is always so of the book; small words for the roads. -/
theorem dec1 (x : Int32) : x + Int32.ofInt (-1) = x - 1 := by rw [Int32.sub_eq_add_neg]; rfl
theorem bI_ne0 {x : Bool} : ¬ bI x = 0 ↔ x = true := by cases x <;> decide
theorem bI_num (x : Bool) : (if bI x = 0 then 0 else 1) = bI x := by cases x <;> decide
def actOk (mt : Nat) (a : Pr) : Prop := (a.1 = 0 ∨ a.1 = 1 ∨ a.1 = 2 ∨ a.1 = 3 ∨ a.1 = 4) ∧ (a.1 = 1 → ∃ v : Nat, v < mt % 4 ∧ a.2 = nI v) ∧ (a.1 = 4 → ∃ v : Nat, v < 32 ∧ a.2 = nI v)
def wfR (r : Ru) : Prop := uMk r < 4 ∧ uMt r < 8 ∧ uUs r ≤ 160 ∧ (uMs r).length = uMt r % 4 ∧ (uAc r).length ≤ 4 ∧ (∀ j, j < (uAc r).length → actOk (uMt r) ((uAc r).getD j (0, 0))) ∧ ∀ j, j < (uMs r).length → inR ((uMs r).getD j (0, 0)).1 0 5 = true
def wfI (t : It) : Prop := iMk t < 4 ∧ iMt t < 8
def wf (σ : Bk) : Prop := (kRs σ).length ≤ 24 ∧ (kIs σ).length ≤ 160 ∧ (∀ i, i < (kRs σ).length → wfR ((kRs σ).getD i u0)) ∧ (∀ i, i < (kIs σ).length → wfI ((kIs σ).getD i i0) ∧ iRu ((kIs σ).getD i i0) ≤ (kRs σ).length) ∧ (kBu σ).length ≤ 3 ∧ (∀ j, j < (kBu σ).length → inR ((kBu σ).getD j (0, 0)).1 0 5 = true) ∧ kMk σ ≤ (kIs σ).length ∧
  ∀ i, i < (kRs σ).length → uUs ((kRs σ).getD i u0) = cnt (fun k => decide (iRu ((kIs σ).getD k i0) = i + 1)) (kIs σ).length
/-- may the action (k, v) be added to a rule for the method mt -/
def allw (mt : Nat) (k v : Int32) : Bool := if k = 0 ∨ k = 2 ∨ k = 3 then true else if k = 1 then inR v 0 (nI (mt % 4) - 1) else if k = 4 then inR v 0 31 && decide (v.toNatClampNeg % 4 ≤ mt % 4) else false
theorem rem84 {v : Int32} (h : inR v 0 31 = true) : (v - v / 8 * 8) - (v - v / 8 * 8) / 4 * 4 = nI (v.toNatClampNeg % 4) := by
  obtain ⟨j, hj, rfl⟩ := inR_of (M := 31) (n := 31) (by decide) h
  rw [rem8 (by omega), rem4 (by omega), nI_clamp (by omega)]
  congr 1
  omega
theorem plc {u len : Nat} (hu : u ≤ 160) (hl : len ≤ 4) : (if 0 < (if nI len - 1 < nI u then nI len - 1 else nI u) then (if nI len - 1 < nI u then nI len - 1 else nI u) else 0) = nI (min u (len - 1)) := by
  cases len with
  | zero =>
    have h0 : nI 0 - 1 = -1 := by decide
    have h1 : (-1 : Int32) < nI u := by
      rw [Int32.lt_iff_toInt_lt, nI_toInt (by omega), show (-1 : Int32).toInt = -1 by decide]
      omega
    rw [h0, if_pos h1, if_neg (by decide), show min u (0 - 1) = 0 by omega, nI_0]
  | succ k =>
    rw [nI_pred]
    by_cases h : k < u
    · rw [if_pos (nI_lt h (by omega)), show min u (k + 1 - 1) = k by omega]
      by_cases hk : 0 < k
      · rw [if_pos (by rw [← nI_0]; exact nI_lt hk (by omega))]
      · have : k = 0 := by omega
        subst this
        rw [if_neg (by decide), nI_0]
    · rw [if_neg (nI_nlt (by omega) (by omega)), show min u (k + 1 - 1) = u by omega]
      by_cases hk : 0 < u
      · rw [if_pos (by rw [← nI_0]; exact nI_lt hk (by omega))]
      · have : u = 0 := by omega
        subst this
        rw [if_neg (by decide), nI_0]
