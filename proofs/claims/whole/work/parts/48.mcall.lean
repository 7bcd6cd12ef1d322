/-! The reference's call: how its rows change, what it answers. -/
def nF (F : Nat → Nat → Int32) (n mk mt dp : Nat) (fr : Int32) : Nat → Nat → Int32 := va_up (va_up (va_up (va_up (va_up (va_up F 13 (upd (F 13) n (nI mk))) 14 (upd (F 14) n (nI mt))) 16 (upd (F 16) n (nI dp))) 17 (upd (F 17) n fr)) 20 (upd (F 20) n 1)) 18 (upd (F 18) n (-1))
def aF (F : Nat → Nat → Int32) (n : Nat) (x : X3) : Nat → Nat → Int32 := va_up (va_up (va_up F 15 (upd (F 15) (3 * n) x.1)) 15 (upd (upd (F 15) (3 * n) x.1) (3 * n + 1) x.2.1)) 15 (upd (upd (upd (F 15) (3 * n) x.1) (3 * n + 1) x.2.1) (3 * n + 2) x.2.2)
def sF (F : Nat → Nat → Int32) (n mk mt dp : Nat) (fr : Int32) (x : X3) (r1 : Nat) : Nat → Nat → Int32 := va_up (aF (nF F n mk mt dp fr) n x) 18 (upd (aF (nF F n mk mt dp fr) n x 18) n (nI r1 - 1))
/-- the number of an action, or -1 -/
def actN (rs : List Ru) (r1 : Nat) : Int32 := if r1 = 0 then -1 else if (uAc (rs.getD (r1 - 1) u0)).length = 0 then -1 else nI (4 * (r1 - 1) + min (uUs (rs.getD (r1 - 1) u0)) ((uAc (rs.getD (r1 - 1) u0)).length - 1))
def plainS (st : Nat → Bool) (rs : List Ru) (r1 mk : Nat) (x : X3) : Int64 := if r1 = 0 then (if st mk then xUNEX else 0) else if (uAct (rs.getD (r1 - 1) u0)).1 = 4 then xDEEP else ansA (uAct (rs.getD (r1 - 1) u0)).1 (uAct (rs.getD (r1 - 1) u0)).2 x (uUs (rs.getD (r1 - 1) u0))
/-- from where the d-th of a chain that begins at n0 was called -/
def kv (n0 : Nat) : Nat → Int32
  | 0 => -1
  | d + 1 => nI (n0 + d)
theorem mRep.step {F : Nat → Nat → Int32} {G : Nat → Int64} {σ : Bk} {gn n mk mt dp r1 : Nat} {fr : Int32} {x : X3} {ans : Int64} (hR : mRep F G σ gn) (hn : (kIs σ).length = n) (h160 : n < 160) (hgn : gn ≤ n) : mRep (sF F n mk mt dp fr x r1) G (kRs σ, kIs σ ++ [(mk, mt, x, dp, fr, r1, ans, false, true)], kSt σ, kBu σ, kMk σ) gn := by
  obtain ⟨r0, r1', r2, r3, r4, r5, r6⟩ := hR
  have q13 : sF F n mk mt dp fr x r1 13 = upd (F 13) n (nI mk) := rfl
  have q14 : sF F n mk mt dp fr x r1 14 = upd (F 14) n (nI mt) := rfl
  have q15 : sF F n mk mt dp fr x r1 15 = upd (upd (upd (F 15) (3 * n) x.1) (3 * n + 1) x.2.1) (3 * n + 2) x.2.2 := rfl
  have q16 : sF F n mk mt dp fr x r1 16 = upd (F 16) n (nI dp) := rfl
  have q17 : sF F n mk mt dp fr x r1 17 = upd (F 17) n fr := rfl
  have q18 : sF F n mk mt dp fr x r1 18 = upd (upd (F 18) n (-1)) n (nI r1 - 1) := rfl
  have q20 : sF F n mk mt dp fr x r1 20 = upd (F 20) n 1 := rfl
  have q21 : sF F n mk mt dp fr x r1 21 = F 21 := rfl
  refine ⟨r0, r1', r2, r3, fun i hi => ?_, fun i h1 h2 => ?_, fun i hi => ?_⟩
  · have hi' : i < (kIs σ).length + 1 := by have h9 : i < (kIs σ ++ [(mk, mt, x, dp, fr, r1, ans, false, true)]).length := hi; simpa using h9
    show mIn _ i ((kIs σ ++ [(mk, mt, x, dp, fr, r1, ans, false, true)]).getD i i0)
    by_cases e : i = (kIs σ).length
    · rw [e, getD_r, hn]
      refine ⟨by rw [q13, pk_us], by rw [q14, pk_us], fun j hj => ?_, by rw [q16, pk_us], by rw [q17, pk_us], by rw [q18, pk_us], by rw [q20, pk_us]; rfl, by rw [q21]; exact r5 n (by omega) h160⟩
      rw [q15]
      rcases (by omega : j = 0 ∨ j = 1 ∨ j = 2) with rfl | rfl | rfl
      · rw [pk_un (by omega), pk_un (by omega), argP_0]; exact pk_us
      · rw [pk_un (by omega), argP_1]; exact pk_us
      · rw [argP_2]; exact pk_us
    · rw [getD_l (by omega)]
      obtain ⟨a1, a2, a3, a4, a5, a6, a7, a8⟩ := r4 i (by omega)
      have hne : i ≠ n := by omega
      refine ⟨by rw [q13, pk_un hne]; exact a1, by rw [q14, pk_un hne]; exact a2, fun j hj => ?_, by rw [q16, pk_un hne]; exact a4, by rw [q17, pk_un hne]; exact a5, by rw [q18, pk_un hne, pk_un hne]; exact a6, by rw [q20, pk_un hne]; exact a7, by rw [q21]; exact a8⟩
      rw [q15, pk_un (by omega), pk_un (by omega), pk_un (by omega)]
      exact a3 j hj
  · rw [q21]
    exact r5 i (by have h9 : (kIs σ ++ [(mk, mt, x, dp, fr, r1, ans, false, true)]).length ≤ i := h1; simp at h9; omega) h2
  · show G i = iAn ((kIs σ ++ [(mk, mt, x, dp, fr, r1, ans, false, true)]).getD i i0)
    rw [getD_l (by omega)]
    exact r6 i hi
theorem up_self (F : Nat → Nat → Int32) (k i : Nat) {v : Int32} (h : F k i = v) : va_up F k (upd (F k) i v) = F := by
  funext q j
  by_cases e : q = k
  · rw [e, va_up_self]
    by_cases e2 : j = i
    · rw [e2, pk_us, h]
    · rw [pk_un e2]
  · rw [up_ne e]
theorem uAct_00 {r : Ru} (h : (uAc r).length = 0) : uAct r = (0, 0) := by
  unfold uAct
  rw [List.length_eq_zero_iff.mp h]
  rfl
theorem actN_0 (rs : List Ru) : actN rs 0 = -1 := rfl
theorem actN_e {rs : List Ru} {r : Nat} (h : (uAc (rs.getD r u0)).length = 0) : actN rs (r + 1) = -1 := by
  unfold actN
  rw [if_neg (by omega), Nat.add_sub_cancel, if_pos h]
theorem actN_p {rs : List Ru} {r : Nat} (h : ¬ (uAc (rs.getD r u0)).length = 0) : actN rs (r + 1) = nI (4 * r + min (uUs (rs.getD r u0)) ((uAc (rs.getD r u0)).length - 1)) := by
  unfold actN
  rw [if_neg (by omega), Nat.add_sub_cancel, if_neg h]
theorem plainS_0 (st : Nat → Bool) (rs : List Ru) (mk : Nat) (x : X3) : plainS st rs 0 mk x = if st mk then xUNEX else 0 := rfl
theorem plainS_e {st : Nat → Bool} {rs : List Ru} {r mk : Nat} {x : X3} (h : (uAc (rs.getD r u0)).length = 0) : plainS st rs (r + 1) mk x = 0 := by
  unfold plainS
  rw [if_neg (by omega), Nat.add_sub_cancel, uAct_00 h, if_neg (by decide)]
  rfl
theorem plainS_4 {st : Nat → Bool} {rs : List Ru} {r mk : Nat} {x : X3} (h : (uAct (rs.getD r u0)).1 = 4) : plainS st rs (r + 1) mk x = xDEEP := by
  unfold plainS
  rw [if_neg (by omega), Nat.add_sub_cancel, if_pos h]
theorem plainS_p {st : Nat → Bool} {rs : List Ru} {r mk : Nat} {x : X3} (h : ¬ (uAct (rs.getD r u0)).1 = 4) : plainS st rs (r + 1) mk x = ansA (uAct (rs.getD r u0)).1 (uAct (rs.getD r u0)).2 x (uUs (rs.getD r u0)) := by
  unfold plainS
  rw [if_neg (by omega), Nat.add_sub_cancel, if_neg h]
/-! the pure call, step by step -/
section RG
variable {st : Nat → Bool} {inner : List Ru → Nat → Nat → Nat → X3 → Nat → Int32 → List Ru × List It × Int64} {rs : List Ru} {n1 i mk : Nat} {x : X3} {dp r : Nat}
theorem respG_0 : respG st inner rs n1 i mk x dp 0 = (rs, [], plainS st rs 0 mk x) := rfl
theorem respG_n (h : ¬ (uAct (rs.getD r u0)).1 = 4) : respG st inner rs n1 i mk x dp (r + 1) = (rs.set r (uUse (rs.getD r u0)), [], plainS st rs (r + 1) mk x) := by
  rw [plainS_p h]
  unfold respG
  rw [if_neg (by omega), Nat.add_sub_cancel, if_neg h]
theorem respG_4 {v : Nat} (h : (uAct (rs.getD r u0)).1 = 4) (hv : (uAct (rs.getD r u0)).2 = nI v) (h32 : v < 32) : respG st inner rs n1 i mk x dp (r + 1) = inner (rs.set r (uUse (rs.getD r u0))) n1 (v / 8) (v % 8) x (dp + 1) (nI i) := by
  unfold respG
  rw [if_neg (by omega), Nat.add_sub_cancel, if_pos h, hv, nI_clamp (by omega)]
end RG
theorem calS_s {st : Nat → Bool} {f n mk mt dp : Nat} {rs : List Ru} {x : X3} {fr : Int32} (hn : n < 160) : calS st (f + 1) rs n mk mt x dp fr = ((respG st (calS st f) rs (n + 1) n mk (cut mt x) dp (ruFor rs mk mt (cut mt x))).1, (mk, mt, cut mt x, dp, fr, ruFor rs mk mt (cut mt x), (respG st (calS st f) rs (n + 1) n mk (cut mt x) dp (ruFor rs mk mt (cut mt x))).2.2, false, true) :: (respG st (calS st f) rs (n + 1) n mk (cut mt x) dp (ruFor rs mk mt (cut mt x))).2.1, (respG st (calS st f) rs (n + 1) n mk (cut mt x) dp (ruFor rs mk mt (cut mt x))).2.2) := by
  show (if 160 ≤ n then _ else _) = _
  rw [if_neg (by omega)]
theorem calS_f {st : Nat → Bool} {f n mk mt dp : Nat} {rs : List Ru} {x : X3} {fr : Int32} (hn : 160 ≤ n) : calS st f rs n mk mt x dp fr = (rs, [], xDEEP) := by
  cases f with
  | zero => rfl
  | succ f =>
    show (if 160 ≤ n then _ else _) = _
    rw [if_pos hn]
/-- what is so of rules and interactions while a call is under way: uses are counted over all but the last -/
def wfU (rs : List Ru) (P : List It) (u : Nat) : Prop := rs.length ≤ 24 ∧ P.length ≤ 160 ∧ (∀ r, r < rs.length → wfR (rs.getD r u0)) ∧ (∀ k, k < P.length → wfI (P.getD k i0) ∧ iRu (P.getD k i0) ≤ rs.length) ∧ ∀ r, r < rs.length → uUs (rs.getD r u0) = cnt (fun k => decide (iRu (P.getD k i0) = r + 1)) u
theorem cnt_cg {q q' : Nat → Bool} {n : Nat} (h : ∀ k, k < n → q k = q' k) : cnt q n = cnt q' n := by
  induction n with
  | zero => rfl
  | succ n ih =>
    show cnt q n + (if q n then 1 else 0) = cnt q' n + (if q' n then 1 else 0)
    rw [ih (fun k hk => h k (by omega)), h n (by omega)]
theorem wfU.snoc {rs : List Ru} {P : List It} {t : It} (h : wfU rs P P.length) (h160 : P.length < 160) (ht : wfI t) (hr : iRu t ≤ rs.length) : wfU rs (P ++ [t]) P.length := by
  obtain ⟨a1, a2, a3, a4, a5⟩ := h
  refine ⟨a1, by simp; omega, a3, fun k hk => ?_, fun r hr => ?_⟩
  · have hk' : k < P.length + 1 := by simpa using hk
    by_cases e : k = P.length
    · rw [e, getD_r]; exact ⟨ht, hr⟩
    · rw [getD_l (by omega)]; exact a4 k (by omega)
  · rw [a5 r hr]
    exact cnt_cg (fun k hk => by rw [getD_l hk])
theorem wfU.use {rs : List Ru} {P : List It} {i r : Nat} (h : wfU rs P i) (hi : i + 1 = P.length) (hr : iRu (P.getD i i0) = r + 1) : wfU (rs.set r (uUse (rs.getD r u0))) P P.length := by
  obtain ⟨a1, a2, a3, a4, a5⟩ := h
  have hr' : r < rs.length := by have := (a4 i (by omega)).2; omega
  have hc : ∀ q, q < rs.length → uUs ((rs.set r (uUse (rs.getD r u0))).getD q u0) = cnt (fun k => decide (iRu (P.getD k i0) = q + 1)) (i + 1) := fun q hq => by
    rw [getD_set hr']
    show _ = cnt (fun k => decide (iRu (P.getD k i0) = q + 1)) i + (if decide (iRu (P.getD i i0) = q + 1) then 1 else 0)
    rw [hr, ← a5 q hq]
    by_cases e : q = r
    · rw [if_pos e, e]; simp [uUse]
    · rw [if_neg e, if_neg (by simp; omega)]; rfl
  refine ⟨by rw [List.length_set]; exact a1, a2, fun q hq => ?_, fun k hk => by rw [List.length_set]; exact a4 k hk, fun q hq => ?_⟩
  · rw [List.length_set] at hq
    have h1 := hc q hq
    have h2 := cnt_le (fun k => decide (iRu (P.getD k i0) = q + 1)) (i + 1)
    have h3 : wfR ((rs.set r (uUse (rs.getD r u0))).getD q u0) ∨ True := Or.inr trivial
    rw [getD_set hr'] at h1 ⊢
    by_cases e : q = r
    · rw [if_pos e] at h1 ⊢
      obtain ⟨b1, b2, b3, b4, b5, b6, b7⟩ := a3 r hr'
      exact ⟨b1, b2, by omega, b4, b5, b6, b7⟩
    · rw [if_neg e]; exact a3 q hq
  · rw [List.length_set] at hq
    rw [← hi]; exact hc q hq
/-- nothing was used: the uses up to the last count for all -/
theorem wfU.no {rs : List Ru} {P : List It} {i : Nat} (h : wfU rs P i) (hi : i + 1 = P.length) (hr : iRu (P.getD i i0) = 0) : wfU rs P P.length := by
  obtain ⟨a1, a2, a3, a4, a5⟩ := h
  refine ⟨a1, a2, a3, a4, fun q hq => ?_⟩
  rw [← hi]
  show _ = cnt (fun k => decide (iRu (P.getD k i0) = q + 1)) i + (if decide (iRu (P.getD i i0) = q + 1) then 1 else 0)
  rw [hr, if_neg (by simp)]
  exact a5 q hq
theorem wf.U {σ : Bk} (h : wf σ) : wfU (kRs σ) (kIs σ) (kIs σ).length := ⟨h.1, h.2.1, h.2.2.1, h.2.2.2.1, h.2.2.2.2.2.2.2⟩
theorem ruLeU {rs : List Ru} {P : List It} {u : Nat} (h : wfU rs P u) (k : Nat) : iRu (P.getD k i0) ≤ 1000 := by
  by_cases hk : k < P.length
  · have := (h.2.2.2.1 k hk).2
    have := h.1
    omega
  · rw [List.getD_eq_getElem?_getD, List.getElem?_eq_none (by omega)]
    exact Nat.zero_le _
theorem kv_p {n0 d : Nat} : kv n0 (d + 1) = nI (n0 + d) := rfl
theorem cut_0 {mt : Nat} (x : X3) (h : mt % 4 = 0) : cut mt x = (0, 0, 0) := by simp [cut, h]
theorem cut_1 {mt : Nat} (x : X3) (h : mt % 4 = 1) : cut mt x = (x.1, 0, 0) := by simp [cut, h]
theorem cut_2 {mt : Nat} (x : X3) (h : mt % 4 = 2) : cut mt x = (x.1, x.2.1, 0) := by simp [cut, h]
theorem cut_3 {mt : Nat} (x : X3) (h : mt % 4 = 3) : cut mt x = (x.1, x.2.1, x.2.2) := by simp [cut, h]
