/-! The book as a mathematical value, and how the class's cells hold it. -/
abbrev Pr : Type := Int32 × Int32
abbrev X3 : Type := Int32 × Int32 × Int32
/-- a rule: mock, method, matchers, actions, uses, live -/
abbrev Ru : Type := Nat × Nat × List Pr × List Pr × Nat × Bool
/-- an interaction: mock, method, arguments, depth, from, rule's number + 1 (0: none), answer, verified, live -/
abbrev It : Type := Nat × Nat × X3 × Nat × Int32 × Nat × Int64 × Bool × Bool
/-- rules, interactions, strict, buffer, mark + 1 -/
abbrev Bk : Type := List Ru × List It × (Nat → Bool) × List Pr × Nat
abbrev uMk (r : Ru) : Nat := r.1
abbrev uMt (r : Ru) : Nat := r.2.1
abbrev uMs (r : Ru) : List Pr := r.2.2.1
abbrev uAc (r : Ru) : List Pr := r.2.2.2.1
abbrev uUs (r : Ru) : Nat := r.2.2.2.2.1
abbrev uLv (r : Ru) : Bool := r.2.2.2.2.2
abbrev iMk (t : It) : Nat := t.1
abbrev iMt (t : It) : Nat := t.2.1
abbrev iX (t : It) : X3 := t.2.2.1
abbrev iDp (t : It) : Nat := t.2.2.2.1
abbrev iFr (t : It) : Int32 := t.2.2.2.2.1
abbrev iRu (t : It) : Nat := t.2.2.2.2.2.1
abbrev iAn (t : It) : Int64 := t.2.2.2.2.2.2.1
abbrev iVe (t : It) : Bool := t.2.2.2.2.2.2.2.1
abbrev iLv (t : It) : Bool := t.2.2.2.2.2.2.2.2
abbrev kRs (σ : Bk) : List Ru := σ.1
abbrev kIs (σ : Bk) : List It := σ.2.1
abbrev kSt (σ : Bk) : Nat → Bool := σ.2.2.1
abbrev kBu (σ : Bk) : List Pr := σ.2.2.2.1
abbrev kMk (σ : Bk) : Nat := σ.2.2.2.2
def u0 : Ru := (0, 0, [], [], 0, false)
def i0 : It := (0, 0, (0, 0, 0), 0, 0, 0, 0, false, false)
/-- the Matchers object number i at h -/
def rMa (cI : ClassId) (A : gW) (i h : Nat) (ms : List Pr) : Prop := ∃ (hk hv : Nat) (fk fv : Nat → Int32), A (5, i) = some (h, .inr (1, [.ref hk, .ref hv, .int (nI ms.length)])) ∧ A (6, i) = some (hk, .inl (cI, 3, .inl fk)) ∧ A (7, i) = some (hv, .inl (cI, 3, .inl fv)) ∧ ms.length ≤ 3 ∧ ∀ j, j < ms.length → fk j = (ms.getD j (0, 0)).1 ∧ fv j = (ms.getD j (0, 0)).2
/-- the Rule number i at h, its Matchers at hm -/
def rRu (cI : ClassId) (A : gW) (i h hm : Nat) (r : Ru) : Prop := ∃ (hk hv : Nat) (fk fv : Nat → Int32), A (8, i) = some (h, .inr (2, [.int (nI (uMk r)), .int (nI (uMt r)), .ref hm, .ref hk, .ref hv, .int (nI (uAc r).length), .int (nI (uUs r)), .int (bI (uLv r))])) ∧ A (9, i) = some (hk, .inl (cI, 4, .inl fk)) ∧ A (10, i) = some (hv, .inl (cI, 4, .inl fv)) ∧ (uAc r).length ≤ 4 ∧ ∀ j, j < (uAc r).length ∨ j = 0 → fk j = ((uAc r).getD j (0, 0)).1 ∧ fv j = ((uAc r).getD j (0, 0)).2
/-- the Interaction number i at h -/
def rIn (A : gW) (i h : Nat) (t : It) : Prop := A (11, i) = some (h, .inr (3, [.int (nI (iMk t)), .int (nI (iMt t)), .int (iX t).1, .int (iX t).2.1, .int (iX t).2.2, .int (nI (iDp t)), .int (iFr t), .int (nI (iRu t) - 1), .long (iAn t), .int (bI (iVe t)), .int (bI (iLv t))]))
/-- the list number w at h: n objects of the class ci, named (kk, 0), (kk, 1) .., at ad 0, ad 1 .. -/
def rAL (cO : ClassId) (e0 : Nat) (A : gW) (w kk ci h n : Nat) (ad : Nat → Nat) : Prop := ∃ (mo : Int32) (q cap : Nat) (f : Nat → Option Nat), A (1, w) = some (h, .inr (4, [.int mo, .ref q, .int (nI n)])) ∧ (n = 0 ∧ q = e0 ∨ (A (2, w) = some (q, .inl (cO, cap, .inr (.inr (.inr (.inr f))))) ∧ 2 ≤ cap ∧ n ≤ cap ∧ cap ≤ 240 ∧ ∀ i, i < n → f i = some (ad i))) ∧ A (3, 0) = some (e0, gE cO) ∧ ∀ i, i < n → ∃ fs, A (kk, i) = some (ad i, .inr (ci, fs))
def rBk (cI cZ cO : ClassId) (e0 : Nat) (A : gW) (h : Nat) (σ : Bk) : Prop := ∃ (hr hi hs hb : Nat) (aR aI aM : Nat → Nat) (fs : Nat → Int32),
  A (0, 0) = some (h, .inr (0, [.ref hr, .ref hi, .ref hs, .ref hb, .int (nI (kMk σ) - 1)])) ∧
  rAL cO e0 A 0 8 2 hr (kRs σ).length aR ∧ rAL cO e0 A 1 11 3 hi (kIs σ).length aI ∧
  A (4, 0) = some (hs, .inl (cZ, 4, .inl fs)) ∧ (∀ j, j < 4 → fs j = bI (kSt σ j)) ∧
  rMa cI A (kRs σ).length hb (kBu σ) ∧
  (∀ i, i < (kRs σ).length → rMa cI A i (aM i) (uMs ((kRs σ).getD i u0)) ∧ rRu cI A i (aR i) (aM i) ((kRs σ).getD i u0)) ∧
  (∀ i, i < (kIs σ).length → rIn A i (aI i) ((kIs σ).getD i i0))
