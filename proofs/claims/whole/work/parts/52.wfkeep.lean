/-! What is always so of the book stays so. -/
theorem wf0 : wf ([], [], fun _ => false, [], 0) := ⟨by decide, by decide, fun _ hj => absurd hj (Nat.not_lt_zero _), fun _ hj => absurd hj (Nat.not_lt_zero _), by decide, fun _ hj => absurd hj (Nat.not_lt_zero _), by decide, fun _ hj => absurd hj (Nat.not_lt_zero _)⟩
theorem wf.drop {σ : Bk} (h : wf σ) : wf (sDrop σ) := ⟨h.1, h.2.1, h.2.2.1, h.2.2.2.1, Nat.zero_le _, fun _ hj => absurd hj (Nat.not_lt_zero _), h.2.2.2.2.2.2.1, h.2.2.2.2.2.2.2⟩
theorem wf.rewind {σ : Bk} (h : wf σ) : wf (sRewind σ).1 := ⟨h.1, h.2.1, h.2.2.1, h.2.2.2.1, h.2.2.2.2.1, h.2.2.2.2.2.1, Nat.zero_le _, h.2.2.2.2.2.2.2⟩
theorem wf.strict {σ : Bk} (h : wf σ) (m : Int32) (on : Bool) : wf (sStrict σ m on).1 := by
  unfold sStrict
  split
  · exact h
  · exact h
theorem wf.matcher {σ : Bk} (h : wf σ) (k v : Int32) : wf (sMatcher σ k v).1 := by
  unfold sMatcher
  by_cases hk : inR k 0 5 = true
  · rw [if_pos hk]
    by_cases h3 : 3 ≤ (kBu σ).length
    · rw [if_pos h3]; exact h
    · rw [if_neg h3]
      refine ⟨h.1, h.2.1, h.2.2.1, h.2.2.2.1, by show (kBu σ ++ [(k, v)]).length ≤ 3; rw [lenS]; omega, fun j hj => ?_, h.2.2.2.2.2.2.1, h.2.2.2.2.2.2.2⟩
      have hj' : j < (kBu σ).length + 1 := by have h9 : j < (kBu σ ++ [(k, v)]).length := hj; rw [lenS] at h9; exact h9
      show inR ((kBu σ ++ [(k, v)]).getD j (0, 0)).1 0 5 = true
      by_cases e : j = (kBu σ).length
      · rw [e, getD_r]; exact hk
      · rw [getD_l (by omega)]; exact h.2.2.2.2.2.1 j (by omega)
  · rw [if_neg hk]; exact h
theorem wf.rule {σ : Bk} (h : wf σ) (m t : Int32) : wf (sRule σ m t).1 := by
  unfold sRule
  by_cases hm : (inR m 0 3 && inR t 0 7) = true
  · rw [if_pos hm]
    rw [Bool.and_eq_true] at hm
    obtain ⟨mk, hmk, rfl⟩ := inR_of (M := 3) (n := 3) (by decide) hm.1
    obtain ⟨mt, hmt, rfl⟩ := inR_of (M := 7) (n := 7) (by decide) hm.2
    rw [nI_clamp (show mk < 2 ^ 31 by omega), nI_clamp (show mt < 2 ^ 31 by omega)]
    by_cases hb : (kBu σ).length = mt % 4
    · rw [if_pos hb]
      by_cases h24 : 24 ≤ (kRs σ).length
      · rw [if_pos h24]; exact h
      · rw [if_neg h24]
        obtain ⟨w1, w2, w3, w4, w5, w6, w7, w8⟩ := h
        have hz : cnt (fun k => decide (iRu ((kIs σ).getD k i0) = (kRs σ).length + 1)) (kIs σ).length = 0 := by
          have : ∀ n, n ≤ (kIs σ).length → cnt (fun k => decide (iRu ((kIs σ).getD k i0) = (kRs σ).length + 1)) n = 0 := by
            intro n
            induction n with
            | zero => exact fun _ => rfl
            | succ n ih =>
              intro hn
              show cnt _ n + (if decide (iRu ((kIs σ).getD n i0) = (kRs σ).length + 1) then 1 else 0) = 0
              have := (w4 n (by omega)).2
              rw [ih (by omega), if_neg (fun q9 => by have := of_decide_eq_true q9; omega)]
          exact this _ (Nat.le_refl _)
        refine ⟨by show (kRs σ ++ [(mk, mt, kBu σ, [], 0, true)]).length ≤ 24; rw [lenS]; omega, w2, fun i hi => ?_, fun i hi => ⟨(w4 i hi).1, ?_⟩, Nat.zero_le _, fun _ hj => absurd hj (Nat.not_lt_zero _), w7, fun i hi => ?_⟩
        · have hi' : i < (kRs σ).length + 1 := by have h9 : i < (kRs σ ++ [(mk, mt, kBu σ, [], 0, true)]).length := hi; rw [lenS] at h9; exact h9
          show wfR ((kRs σ ++ [(mk, mt, kBu σ, [], 0, true)]).getD i u0)
          by_cases e : i = (kRs σ).length
          · rw [e, getD_r]
            exact ⟨by show mk < 4; omega, by show mt < 8; omega, Nat.zero_le _, hb, Nat.zero_le _, fun _ hj => absurd hj (Nat.not_lt_zero _), w6⟩
          · rw [getD_l (by omega)]; exact w3 i (by omega)
        · show iRu ((kIs σ).getD i i0) ≤ (kRs σ ++ [(mk, mt, kBu σ, [], 0, true)]).length
          rw [lenS]
          have := (w4 i hi).2
          omega
        · have hi' : i < (kRs σ).length + 1 := by have h9 : i < (kRs σ ++ [(mk, mt, kBu σ, [], 0, true)]).length := hi; rw [lenS] at h9; exact h9
          show uUs ((kRs σ ++ [(mk, mt, kBu σ, [], 0, true)]).getD i u0) = cnt (fun k => decide (iRu ((kIs σ).getD k i0) = i + 1)) (kIs σ).length
          by_cases e : i = (kRs σ).length
          · rw [e, getD_r, hz]
          · rw [getD_l (by omega)]; exact w8 i (by omega)
    · rw [if_neg hb]; exact h
  · rw [if_neg hm]; exact h
theorem allw_ok {mt : Nat} {k v : Int32} (h : allw mt k v = true) : actOk mt (k, v) := by
  by_cases h0 : k < 0
  · rw [allw_lo h0] at h; cases h
  · by_cases h4 : k ≤ 4
    · obtain ⟨j, hj, rfl⟩ := nI_of2 (M := 4) (n := 4) (by decide) h0 h4
      rcases (by omega : j = 0 ∨ j = 1 ∨ j = 2 ∨ j = 3 ∨ j = 4) with rfl | rfl | rfl | rfl | rfl
      · exact ⟨Or.inl rfl, fun e => absurd e (show ¬ nI 0 = 1 by decide), fun e => absurd e (show ¬ nI 0 = 4 by decide)⟩
      · refine ⟨Or.inr (Or.inl rfl), fun _ => ?_, fun e => absurd e (show ¬ nI 1 = 4 by decide)⟩
        rw [allw_1] at h
        obtain ⟨q, hq, e⟩ := inN (by omega) h
        exact ⟨q, hq, e⟩
      · exact ⟨Or.inr (Or.inr (Or.inl rfl)), fun e => absurd e (show ¬ nI 2 = 1 by decide), fun e => absurd e (show ¬ nI 2 = 4 by decide)⟩
      · exact ⟨Or.inr (Or.inr (Or.inr (Or.inl rfl))), fun e => absurd e (show ¬ nI 3 = 1 by decide), fun e => absurd e (show ¬ nI 3 = 4 by decide)⟩
      · refine ⟨Or.inr (Or.inr (Or.inr (Or.inr rfl))), fun e => absurd e (show ¬ nI 4 = 1 by decide), fun _ => ?_⟩
        rw [allw_4, Bool.and_eq_true] at h
        obtain ⟨q, hq, e⟩ := inR_of (M := 31) (n := 31) (by decide) h.1
        exact ⟨q, by omega, e⟩
    · rw [allw_hi h4] at h; cases h
theorem wf.thn {σ : Bk} (h : wf σ) (x k v : Int32) : wf (sThen σ x k v).1 := by
  unfold sThen
  by_cases hx : inR x 0 (nI (kRs σ).length - 1) = true
  · rw [if_pos hx]
    have hl := h.1
    obtain ⟨j, hj, rfl⟩ := inN (by omega) hx
    rw [nI_clamp (show j < 2 ^ 31 by omega)]
    by_cases ha : (uLv ((kRs σ).getD j u0) && allw (uMt ((kRs σ).getD j u0)) k v) = true
    · rw [if_pos ha]
      rw [Bool.and_eq_true] at ha
      by_cases h4 : 4 ≤ (uAc ((kRs σ).getD j u0)).length
      · rw [if_pos h4]; exact h
      · rw [if_neg h4]
        obtain ⟨w1, w2, w3, w4, w5, w6, w7, w8⟩ := h
        have hlen : ((kRs σ).set j (uAdd ((kRs σ).getD j u0) k v)).length = (kRs σ).length := List.length_set
        refine ⟨by show ((kRs σ).set j (uAdd ((kRs σ).getD j u0) k v)).length ≤ 24; rw [hlen]; exact w1, w2, fun i hi => ?_, fun i hi => ⟨(w4 i hi).1, by show _ ≤ ((kRs σ).set j (uAdd ((kRs σ).getD j u0) k v)).length; rw [hlen]; exact (w4 i hi).2⟩, w5, w6, w7, fun i hi => ?_⟩
        · have hi' : i < (kRs σ).length := by rw [← hlen]; exact hi
          show wfR (((kRs σ).set j (uAdd ((kRs σ).getD j u0) k v)).getD i u0)
          rw [getD_set hj]
          by_cases e : i = j
          · rw [if_pos e]
            obtain ⟨a1, a2, a3, a4, a5, a6, a7⟩ := w3 j hj
            refine ⟨a1, a2, a3, a4, by show (uAc ((kRs σ).getD j u0) ++ [(k, v)]).length ≤ 4; rw [lenS]; omega, fun q hq => ?_, a7⟩
            have hq' : q < (uAc ((kRs σ).getD j u0)).length + 1 := by have h9 : q < (uAc ((kRs σ).getD j u0) ++ [(k, v)]).length := hq; rw [lenS] at h9; exact h9
            show actOk (uMt ((kRs σ).getD j u0)) ((uAc ((kRs σ).getD j u0) ++ [(k, v)]).getD q (0, 0))
            by_cases eq : q = (uAc ((kRs σ).getD j u0)).length
            · rw [eq, getD_r]; exact allw_ok ha.2
            · rw [getD_l (by omega)]; exact a6 q (by omega)
          · rw [if_neg e]; exact w3 i hi'
        · have hi' : i < (kRs σ).length := by rw [← hlen]; exact hi
          show uUs (((kRs σ).set j (uAdd ((kRs σ).getD j u0) k v)).getD i u0) = _
          rw [getD_set hj]
          by_cases e : i = j
          · rw [if_pos e]; rw [e] at hi' ⊢; exact w8 j hj
          · rw [if_neg e]; exact w8 i hi'
    · rw [if_neg ha]; exact h
  · rw [if_neg hx]; exact h
/-- interactions change, but not what they are and which rule they used -/
theorem wf.its {σ : Bk} (h : wf σ) {is : List It} {bu : List Pr} {m : Nat} (hl : is.length = (kIs σ).length) (hi : ∀ k, k < (kIs σ).length → iMk (is.getD k i0) = iMk ((kIs σ).getD k i0) ∧ iMt (is.getD k i0) = iMt ((kIs σ).getD k i0) ∧ iRu (is.getD k i0) = iRu ((kIs σ).getD k i0)) (hbu : bu.length ≤ 3 ∧ ∀ j, j < bu.length → inR (bu.getD j (0, 0)).1 0 5 = true) (hm : m ≤ (kIs σ).length) : wf (kRs σ, is, kSt σ, bu, m) := by
  obtain ⟨w1, w2, w3, w4, w5, w6, w7, w8⟩ := h
  refine ⟨w1, by show is.length ≤ 160; omega, w3, fun i h9 => ?_, hbu.1, hbu.2, by show m ≤ is.length; omega, fun i h9 => ?_⟩
  · obtain ⟨e1, e2, e3⟩ := hi i (by rw [← hl]; exact h9)
    have h8 := w4 i (by rw [← hl]; exact h9)
    exact ⟨⟨by show iMk (is.getD i i0) < 4; rw [e1]; exact h8.1.1, by show iMt (is.getD i i0) < 8; rw [e2]; exact h8.1.2⟩, by show iRu (is.getD i i0) ≤ (kRs σ).length; rw [e3]; exact h8.2⟩
  · show uUs ((kRs σ).getD i u0) = cnt (fun k => decide (iRu (is.getD k i0) = i + 1)) is.length
    rw [w8 i h9, hl]
    exact cnt_cg (fun k hk => by rw [(hi k hk).2.2])
theorem getD_map {α : Type} {g : α → α} {l : List α} {d : α} {k : Nat} (hk : k < l.length) : (l.map g).getD k d = g (l.getD k d) := by
  simp [List.getD_eq_getElem?_getD, hk]
theorem wf.verify {σ : Bk} (h : wf σ) (m t md n : Int32) : wf (sVerify σ m t md n).1 := by
  unfold sVerify
  have e0 : ([] : List Pr).length ≤ 3 ∧ ∀ j, j < ([] : List Pr).length → inR (([] : List Pr).getD j (0, 0)).1 0 5 = true := ⟨by decide, fun _ hj => absurd hj (Nat.not_lt_zero _)⟩
  split
  · split
    · split
      · refine h.its (by rw [List.length_map]) (fun k hk => ?_) e0 h.2.2.2.2.2.2.1
        rw [getD_map hk]
        unfold gVer
        split <;> exact ⟨rfl, rfl, rfl⟩
      · exact h.drop
    · exact h
  · exact h
theorem wf.inOrder {σ : Bk} (h : wf σ) (m t : Int32) : wf (sInOrder σ m t).1 := by
  unfold sInOrder
  split
  · split
    · split
      · exact h.drop
      · rename_i hne
        have w7 := h.2.2.2.2.2.2.1
        have w2 := h.2.1
        obtain ⟨j, h1, h2, h3⟩ := (fst_or (qAsk σ m.toNatClampNeg t.toNatClampNeg) ((kIs σ).length - kMk σ) (kMk σ)).resolve_left hne
        rw [h3, nI_clamp (show j < 2 ^ 31 by omega)]
        refine h.its List.length_set (fun k hk => ?_) ⟨by decide, fun _ hj => absurd hj (Nat.not_lt_zero _)⟩ (by omega)
        rw [getD_set (show j < (kIs σ).length by omega)]
        by_cases e : k = j
        · rw [if_pos e, e]; exact ⟨rfl, rfl, rfl⟩
        · rw [if_neg e]; exact ⟨rfl, rfl, rfl⟩
    · exact h
  · exact h
theorem wf.reset {σ : Bk} (h : wf σ) (m : Int32) : wf (sReset σ m).1 := by
  unfold sReset
  split
  · have h2 : wf (kRs σ, (kIs σ).map (gEndI m.toNatClampNeg), kSt σ, kBu σ, kMk σ) := by
      refine h.its (by rw [List.length_map]) (fun k hk => ?_) ⟨h.2.2.2.2.1, h.2.2.2.2.2.1⟩ h.2.2.2.2.2.2.1
      rw [getD_map hk]
      unfold gEndI
      split <;> exact ⟨rfl, rfl, rfl⟩
    obtain ⟨w1, w2, w3, w4, w5, w6, w7, w8⟩ := h2
    have hg : ∀ i, i < (kRs σ).length → ((kRs σ).map (gEndR m.toNatClampNeg)).getD i u0 = (kRs σ).getD i u0 ∨ ((kRs σ).map (gEndR m.toNatClampNeg)).getD i u0 = uEnd ((kRs σ).getD i u0) := fun i hi => by
      rw [getD_map hi]
      unfold gEndR
      split
      · exact Or.inr rfl
      · exact Or.inl rfl
    have hlen : ((kRs σ).map (gEndR m.toNatClampNeg)).length = (kRs σ).length := List.length_map _
    refine ⟨by show ((kRs σ).map (gEndR m.toNatClampNeg)).length ≤ 24; rw [hlen]; exact w1, w2, fun i hi => ?_, fun i hi => ⟨(w4 i hi).1, by show _ ≤ ((kRs σ).map (gEndR m.toNatClampNeg)).length; rw [hlen]; exact (w4 i hi).2⟩, w5, w6, w7, fun i hi => ?_⟩
    · have hi' : i < (kRs σ).length := by rw [← hlen]; exact hi
      show wfR (((kRs σ).map (gEndR m.toNatClampNeg)).getD i u0)
      rcases hg i hi' with e | e
      · rw [e]; exact w3 i hi'
      · rw [e]; exact w3 i hi'
    · have hi' : i < (kRs σ).length := by rw [← hlen]; exact hi
      show uUs (((kRs σ).map (gEndR m.toNatClampNeg)).getD i u0) = _
      rcases hg i hi' with e | e
      · rw [e]; exact w8 i hi'
      · rw [e]; exact w8 i hi'
  · exact h
theorem calU {st : Nat → Bool} (f : Nat) : ∀ (rs : List Ru) (P : List It) (n mk mt dp : Nat) (x : X3) (fr : Int32), wfU rs P P.length → P.length = n → mk < 4 → mt < 8 → wfU (calS st f rs n mk mt x dp fr).1 (P ++ (calS st f rs n mk mt x dp fr).2.1) (P ++ (calS st f rs n mk mt x dp fr).2.1).length := by
  induction f with
  | zero =>
    intro rs P n mk mt dp x fr h hn b1 b2
    show wfU rs (P ++ []) (P ++ []).length
    rw [List.append_nil]; exact h
  | succ f ih =>
    intro rs P n mk mt dp x fr h hn b1 b2
    by_cases h160 : 160 ≤ n
    · rw [calS_f h160]
      show wfU rs (P ++ []) (P ++ []).length
      rw [List.append_nil]; exact h
    · rw [calS_s (by omega)]
      obtain ⟨r1, hr1⟩ : ∃ z, z = ruFor rs mk mt (cut mt x) := ⟨_, rfl⟩
      have hrl : r1 ≤ rs.length := by rw [hr1]; exact ruFor_le _ _ _ _
      rw [← hr1]
      obtain ⟨ans, hans⟩ : ∃ z, z = (respG st (calS st f) rs (n + 1) n mk (cut mt x) dp r1).2.2 := ⟨_, rfl⟩
      rw [← hans]
      obtain ⟨t, ht⟩ : ∃ z : It, z = (mk, mt, cut mt x, dp, fr, r1, ans, false, true) := ⟨_, rfl⟩
      rw [← ht]
      show wfU (respG st (calS st f) rs (n + 1) n mk (cut mt x) dp r1).1 (P ++ t :: (respG st (calS st f) rs (n + 1) n mk (cut mt x) dp r1).2.1) (P ++ t :: (respG st (calS st f) rs (n + 1) n mk (cut mt x) dp r1).2.1).length
      rw [show P ++ t :: (respG st (calS st f) rs (n + 1) n mk (cut mt x) dp r1).2.1 = (P ++ [t]) ++ (respG st (calS st f) rs (n + 1) n mk (cut mt x) dp r1).2.1 by simp]
      have hs : wfU rs (P ++ [t]) P.length := h.snoc (by omega) (by rw [ht]; exact ⟨b1, b2⟩) (by rw [ht]; exact hrl)
      have hp1 : P.length + 1 = (P ++ [t]).length := (lenS _ _).symm
      have hlast : iRu ((P ++ [t]).getD P.length i0) = r1 := by rw [getD_r, ht]
      cases r1 with
      | zero =>
        rw [respG_0]
        show wfU rs ((P ++ [t]) ++ []) ((P ++ [t]) ++ []).length
        rw [List.append_nil]; exact hs.no hp1 hlast
      | succ r =>
        by_cases h4 : (uAct (rs.getD r u0)).1 = 4
        · obtain ⟨v, hv, hve⟩ := uAct_ok (h.2.2.1 r (by omega)) h4
          rw [respG_4 h4 hve hv]
          exact ih _ (P ++ [t]) (n + 1) (v / 8) (v % 8) _ _ _ (hs.use hp1 hlast) (by rw [lenS, hn]) (by omega) (by omega)
        · rw [respG_n h4]
          show wfU (rs.set r (uUse (rs.getD r u0))) ((P ++ [t]) ++ []) ((P ++ [t]) ++ []).length
          rw [List.append_nil]; exact hs.use hp1 hlast
theorem wf.call {σ : Bk} (h : wf σ) (m t xa xb xc : Int32) : wf (sCall σ m t xa xb xc).1 := by
  unfold sCall
  by_cases hm : (inR m 0 3 && inR t 0 7) = true
  · rw [if_pos hm]
    rw [Bool.and_eq_true] at hm
    obtain ⟨mk, hmk, rfl⟩ := inR_of (M := 3) (n := 3) (by decide) hm.1
    obtain ⟨mt, hmt, rfl⟩ := inR_of (M := 7) (n := 7) (by decide) hm.2
    rw [nI_clamp (show mk < 2 ^ 31 by omega), nI_clamp (show mt < 2 ^ 31 by omega)]
    by_cases h160 : 160 ≤ (kIs σ).length
    · rw [if_pos h160]; exact h
    · rw [if_neg h160]
      have hU := calU (st := kSt σ) 4 (kRs σ) (kIs σ) (kIs σ).length mk mt 0 (xa, xb, xc) (-1) h.U rfl (by omega) (by omega)
      obtain ⟨a1, a2, a3, a4, a5⟩ := hU
      refine ⟨a1, a2, a3, a4, h.2.2.2.2.1, h.2.2.2.2.2.1, ?_, a5⟩
      show kMk σ ≤ (kIs σ ++ _).length
      rw [List.length_append]
      have := h.2.2.2.2.2.2.1
      omega
  · rw [if_neg hm]; exact h
