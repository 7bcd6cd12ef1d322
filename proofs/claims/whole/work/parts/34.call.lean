/-! A call and what it passes on: the pure function, and what stays so on the way. -/
def uAct (r : Ru) : Pr := (uAc r).getD (min (uUs r) ((uAc r).length - 1)) (0, 0)
def uUse (r : Ru) : Ru := (uMk r, uMt r, uMs r, uAc r, uUs r + 1, uLv r)
/-- what an action that doesn't pass answers -/
def ansA (k v : Int32) (x : X3) (us : Nat) : Int64 := if k = 1 then (argP x v).toInt64 else if k = 2 then (nI us).toInt64 else if k = 3 then xFAIL + v.toInt64 else v.toInt64
/-- the answer to an interaction (number i, mock mk, arguments x, depth dp, rule r1 - 1): the rules behind it, what was noted more, the answer -/
def respG (st : Nat → Bool) (inner : List Ru → Nat → Nat → Nat → X3 → Nat → Int32 → List Ru × List It × Int64) (rs : List Ru) (n1 i mk : Nat) (x : X3) (dp r1 : Nat) : List Ru × List It × Int64 :=
  if r1 = 0 then (rs, [], if st mk then xUNEX else 0)
  else if (uAct (rs.getD (r1 - 1) u0)).1 = 4 then inner (rs.set (r1 - 1) (uUse (rs.getD (r1 - 1) u0))) n1 ((uAct (rs.getD (r1 - 1) u0)).2.toNatClampNeg / 8) ((uAct (rs.getD (r1 - 1) u0)).2.toNatClampNeg % 8) x (dp + 1) (nI i)
  else (rs.set (r1 - 1) (uUse (rs.getD (r1 - 1) u0)), [], ansA (uAct (rs.getD (r1 - 1) u0)).1 (uAct (rs.getD (r1 - 1) u0)).2 x (uUs (rs.getD (r1 - 1) u0)))
/-- a call at the number n -/
def calS (st : Nat → Bool) : Nat → List Ru → Nat → Nat → Nat → X3 → Nat → Int32 → List Ru × List It × Int64
  | 0 => fun rs _ _ _ _ _ _ => (rs, [], xDEEP)
  | f + 1 => fun rs n mk mt x dp fr =>
    if 160 ≤ n then (rs, [], xDEEP) else
      ((respG st (calS st f) rs (n + 1) n mk (cut mt x) dp (ruFor rs mk mt (cut mt x))).1,
       (mk, mt, cut mt x, dp, fr, ruFor rs mk mt (cut mt x), (respG st (calS st f) rs (n + 1) n mk (cut mt x) dp (ruFor rs mk mt (cut mt x))).2.2, false, true) :: (respG st (calS st f) rs (n + 1) n mk (cut mt x) dp (ruFor rs mk mt (cut mt x))).2.1,
       (respG st (calS st f) rs (n + 1) n mk (cut mt x) dp (ruFor rs mk mt (cut mt x))).2.2)
def wfC (σ : Bk) (u : Nat) : Prop := (kRs σ).length ≤ 24 ∧ (kIs σ).length ≤ 160 ∧ (∀ i, i < (kRs σ).length → wfR ((kRs σ).getD i u0) ∧ uUs ((kRs σ).getD i u0) ≤ u) ∧ ∀ i, i < (kIs σ).length → wfI ((kIs σ).getD i i0) ∧ iRu ((kIs σ).getD i i0) ≤ (kRs σ).length
theorem wf.C {σ : Bk} (h : wf σ) : wfC σ (kIs σ).length := ⟨h.1, h.2.1, fun i hi => ⟨h.2.2.1 i hi, by rw [h.2.2.2.2.2.2.2 i hi]; exact cnt_le _ _⟩, h.2.2.2.1⟩
theorem lst_le (q : Nat → Bool) (n : Nat) : lst q n ≤ n := by
  induction n with
  | zero => exact Nat.le_refl _
  | succ k ih => unfold lst; split <;> omega
theorem ruFor_le (rs : List Ru) (mk mt : Nat) (x : X3) : ruFor rs mk mt x ≤ rs.length := lst_le _ _
theorem wfC.it {σ : Bk} {u : Nat} (h : wfC σ u) (hn : (kIs σ).length < 160) {t : It} (ht : wfI t) (hr : iRu t ≤ (kRs σ).length) : wfC (kRs σ, kIs σ ++ [t], kSt σ, kBu σ, kMk σ) u := by
  refine ⟨h.1, by show (kIs σ ++ [t]).length ≤ 160; simp; omega, h.2.2.1, fun i hi => ?_⟩
  have hi' : i < (kIs σ).length + 1 := by have h9 : i < (kIs σ ++ [t]).length := hi; simpa using h9
  show wfI ((kIs σ ++ [t]).getD i i0) ∧ iRu ((kIs σ ++ [t]).getD i i0) ≤ (kRs σ).length
  by_cases e : i = (kIs σ).length
  · rw [e, getD_r]; exact ⟨ht, hr⟩
  · rw [getD_l (by omega)]; exact h.2.2.2 i (by omega)
theorem wfC.use {σ : Bk} {u k : Nat} (h : wfC σ u) (hk : k < (kRs σ).length) (hu : u + 1 ≤ (kIs σ).length) : wfC ((kRs σ).set k (uUse ((kRs σ).getD k u0)), kIs σ, kSt σ, kBu σ, kMk σ) (kIs σ).length := by
  refine ⟨by show ((kRs σ).set k _).length ≤ 24; rw [List.length_set]; exact h.1, h.2.1, fun i hi => ?_, fun i hi => ?_⟩
  · have hi' : i < (kRs σ).length := by have h9 : i < ((kRs σ).set k (uUse ((kRs σ).getD k u0))).length := hi; rw [List.length_set] at h9; exact h9
    show wfR (((kRs σ).set k (uUse ((kRs σ).getD k u0))).getD i u0) ∧ uUs (((kRs σ).set k (uUse ((kRs σ).getD k u0))).getD i u0) ≤ (kIs σ).length
    have h2 := h.2.1
    rw [getD_set hk]
    by_cases e : i = k
    · rw [if_pos e]
      obtain ⟨⟨a1, a2, a3, a4, a5, a6, a7⟩, hu2⟩ := h.2.2.1 k hk
      exact ⟨⟨a1, a2, by show uUs ((kRs σ).getD k u0) + 1 ≤ 160; omega, a4, a5, a6, a7⟩, by show uUs ((kRs σ).getD k u0) + 1 ≤ (kIs σ).length; omega⟩
    · rw [if_neg e]
      have := h.2.2.1 i hi'
      exact ⟨this.1, by omega⟩
  · show wfI ((kIs σ).getD i i0) ∧ iRu ((kIs σ).getD i i0) ≤ ((kRs σ).set k (uUse ((kRs σ).getD k u0))).length
    rw [List.length_set]
    exact h.2.2.2 i hi
theorem set_l {α : Type} (l : List α) (x y : α) : (l ++ [x]).set l.length y = l ++ [y] := by simp
theorem set_m {α : Type} (l r : List α) (x y : α) : (l ++ [x] ++ r).set l.length y = l ++ (y :: r) := by simp
theorem getD_m {α : Type} (l r : List α) (x d : α) : (l ++ [x] ++ r).getD l.length d = x := by simp [List.getD_eq_getElem?_getD]
theorem inR_m1 (M : Int32) : inR (nI 0 - 1) 0 M = false := by
  unfold inR
  rw [show decide (nI 0 - 1 < 0) = true by decide]
  rfl
theorem uAct_ok {r : Ru} (h : wfR r) (hk : (uAct r).1 = 4) : ∃ v : Nat, v < 32 ∧ (uAct r).2 = nI v := by
  obtain ⟨-, -, -, -, -, a6, -⟩ := h
  by_cases h0 : (uAc r).length = 0
  · have e0 : uAct r = (0, 0) := by
      unfold uAct
      rw [List.length_eq_zero_iff.mp h0]
      rfl
    rw [e0] at hk
    exact absurd hk (by decide)
  · exact (a6 (min (uUs r) ((uAc r).length - 1)) (by omega)).2.2 hk
