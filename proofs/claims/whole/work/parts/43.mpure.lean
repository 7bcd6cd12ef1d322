/-! What the reference's writes do to the book that its cells hold. -/
theorem mRep.bu0 {F : Nat → Nat → Int32} {G : Nat → Int64} {σ : Bk} {gn m : Nat} (hR : mRep F G σ gn) : mRep F G (kRs σ, kIs σ, kSt σ, [], m) gn :=
  ⟨fun j hj => absurd hj (Nat.not_lt_zero j), hR.2⟩
theorem mRep.mat {F : Nat → Nat → Int32} {G : Nat → Int64} {σ : Bk} {gn : Nat} {k v : Int32} (hR : mRep F G σ gn) : mRep (va_up (va_up F 0 (upd (F 0) (kBu σ).length k)) 1 (upd (F 1) (kBu σ).length v)) G (kRs σ, kIs σ, kSt σ, kBu σ ++ [(k, v)], kMk σ) gn :=
  ⟨fun _ hj => snocA hR.1 hj, hR.2⟩
theorem mRep.st {F : Nat → Nat → Int32} {G : Nat → Int64} {σ : Bk} {gn j : Nat} {v : Bool} (hR : mRep F G σ gn) : mRep (va_up F 12 (upd (F 12) j (bI v))) G (kRs σ, kIs σ, va_up (kSt σ) j v, kBu σ, kMk σ) gn := by
  refine ⟨hR.1, hR.2.1, hR.2.2.1, fun i hi => ?_, hR.2.2.2.2⟩
  show upd (F 12) j (bI v) i = bI (va_up (kSt σ) j v i)
  unfold upd va_up
  by_cases h : i = j
  · rw [if_pos h, if_pos h]
  · rw [if_neg h, if_neg h]
    exact hR.2.2.2.1 i hi
/-- an interaction's cells change -/
theorem mRep.it {F F' : Nat → Nat → Int32} {G : Nat → Int64} {σ : Bk} {gn i : Nat} {t : It} (hR : mRep F G σ gn) (hi : i < (kIs σ).length) (hlo : ∀ k, k ≤ 12 → F' k = F k) (hk : ∀ k j, j ≠ i → k = 13 ∨ k = 14 ∨ k = 16 ∨ k = 17 ∨ k = 18 ∨ k = 20 ∨ k = 21 → F' k j = F k j) (h15 : F' 15 = F 15) (ht : mIn F' i t) (ha : iAn t = iAn ((kIs σ).getD i i0)) : mRep F' G (kRs σ, (kIs σ).set i t, kSt σ, kBu σ, kMk σ) gn := by
  obtain ⟨r0, r1, r2, r3, r4, r5, r6⟩ := hR
  refine ⟨fun j hj => ?_, fun j hj => ?_, fun j h1 h2 => ?_, fun j hj => ?_, fun j hj => ?_, fun j h1 h2 => ?_, fun j hj => ?_⟩
  · rw [hlo 0 (by omega), hlo 1 (by omega)]; exact r0 j hj
  · have := r1 j hj
    unfold mRu at this ⊢
    rw [hlo 3 (by omega), hlo 4 (by omega), hlo 5 (by omega), hlo 6 (by omega), hlo 7 (by omega), hlo 8 (by omega), hlo 9 (by omega), hlo 10 (by omega)]; exact this
  · rw [hlo 10 (by omega)]; exact r2 j h1 h2
  · rw [hlo 12 (by omega)]; exact r3 j hj
  · have hj' : j < (kIs σ).length := by have h9 : j < ((kIs σ).set i t).length := hj; rw [List.length_set] at h9; exact h9
    show mIn F' j (((kIs σ).set i t).getD j i0)
    rw [getD_set hi]
    by_cases e : j = i
    · rw [if_pos e, e]; exact ht
    · rw [if_neg e]
      have := r4 j hj'
      unfold mIn at this ⊢
      rw [hk 13 j e (by omega), hk 14 j e (by omega), hk 16 j e (by omega), hk 17 j e (by omega), hk 18 j e (by omega), hk 20 j e (by omega), hk 21 j e (by omega), h15]
      exact this
  · have h1' : (kIs σ).length ≤ j := by have h9 : ((kIs σ).set i t).length ≤ j := h1; rw [List.length_set] at h9; exact h9
    rw [hk 21 j (by omega) (by omega)]; exact r5 j h1' h2
  · show G j = iAn (((kIs σ).set i t).getD j i0)
    rw [getD_set hi]
    by_cases e : j = i
    · rw [if_pos e, ha, ← e]; exact r6 j hj
    · rw [if_neg e]; exact r6 j hj
theorem up_ne {F : Nat → Nat → Int32} {a : Nat} {f : Nat → Int32} {k : Nat} (h : k ≠ a) : va_up F a f k = F k := if_neg h
theorem up_at {F : Nat → Nat → Int32} {a i : Nat} {v : Int32} {k j : Nat} (h : j ≠ i) : va_up F a (upd (F a) i v) k j = F k j := by
  by_cases e : k = a
  · rw [e, va_up_self, pk_un h]
  · rw [up_ne e]
theorem mRep.ver {F : Nat → Nat → Int32} {G : Nat → Int64} {σ : Bk} {gn i : Nat} (hR : mRep F G σ gn) (hi : i < (kIs σ).length) : mRep (va_up F 21 (upd (F 21) i 1)) G (kRs σ, (kIs σ).set i (iVer ((kIs σ).getD i i0)), kSt σ, kBu σ, kMk σ) gn := by
  refine hR.it hi (fun k hk => up_ne (by omega)) (fun k j hj _ => up_at hj) rfl ?_ rfl
  obtain ⟨a1, a2, a3, a4, a5, a6, a7, a8⟩ := hR.2.2.2.2.1 i hi
  exact ⟨a1, a2, a3, a4, a5, a6, a7, pk_us⟩
theorem mRep.endI {F : Nat → Nat → Int32} {G : Nat → Int64} {σ : Bk} {gn i : Nat} (hR : mRep F G σ gn) (hi : i < (kIs σ).length) : mRep (va_up F 20 (upd (F 20) i 0)) G (kRs σ, (kIs σ).set i (iEnd ((kIs σ).getD i i0)), kSt σ, kBu σ, kMk σ) gn := by
  refine hR.it hi (fun k hk => up_ne (by omega)) (fun k j hj _ => up_at hj) rfl ?_ rfl
  obtain ⟨a1, a2, a3, a4, a5, a6, a7, a8⟩ := hR.2.2.2.2.1 i hi
  exact ⟨a1, a2, a3, a4, a5, a6, pk_us, a8⟩
/-- a rule's cells change -/
theorem mRep.ru {F F' : Nat → Nat → Int32} {G : Nat → Int64} {σ : Bk} {gn i : Nat} {r : Ru} (hR : mRep F G σ gn) (hi : i < (kRs σ).length) (hl24 : (kRs σ).length ≤ 24) (h01 : F' 0 = F 0 ∧ F' 1 = F 1) (hhi : ∀ k, 12 ≤ k → F' k = F k) (hk : ∀ k j, j ≠ i → k = 3 ∨ k = 4 ∨ k = 5 ∨ k = 10 → F' k j = F k j) (h67 : F' 6 = F 6 ∧ F' 7 = F 7) (h89 : ∀ j q, j ≠ i → q < 4 → F' 8 (4 * j + q) = F 8 (4 * j + q) ∧ F' 9 (4 * j + q) = F 9 (4 * j + q)) (hl4 : ∀ j, j < (kRs σ).length → (uAc ((kRs σ).getD j u0)).length ≤ 4) (hr : mRu F' i r) : mRep F' G ((kRs σ).set i r, kIs σ, kSt σ, kBu σ, kMk σ) gn := by
  obtain ⟨r0, r1, r2, r3, r4, r5, r6⟩ := hR
  refine ⟨fun j hj => ?_, fun j hj => ?_, fun j h1 h2 => ?_, fun j hj => ?_, fun j hj => ?_, fun j h1 h2 => ?_, r6⟩
  · rw [h01.1, h01.2]; exact r0 j hj
  · have hj' : j < (kRs σ).length := by have h9 : j < ((kRs σ).set i r).length := hj; rw [List.length_set] at h9; exact h9
    show mRu F' j (((kRs σ).set i r).getD j u0)
    rw [getD_set hi]
    by_cases e : j = i
    · rw [if_pos e, e]; exact hr
    · rw [if_neg e]
      obtain ⟨a1, a2, a3, a4, a5, a6⟩ := r1 j hj'
      refine ⟨?_, ?_, ?_, ?_, ?_, fun q hq => ?_⟩
      · rw [hk 3 j e (by omega)]; exact a1
      · rw [hk 4 j e (by omega)]; exact a2
      · rw [hk 5 j e (by omega)]; exact a3
      · rw [hk 10 j e (by omega)]; exact a4
      · rw [h67.1, h67.2]; exact a5
      · have := hl4 j hj'
        have h9 := h89 j q e (by omega)
        rw [h9.1, h9.2]; exact a6 q hq
  · have h1' : (kRs σ).length ≤ j := by have h9 : ((kRs σ).set i r).length ≤ j := h1; rw [List.length_set] at h9; exact h9
    rw [hk 10 j (by omega) (by omega)]; exact r2 j h1' h2
  · rw [hhi 12 (by omega)]; exact r3 j hj
  · have := r4 j hj
    unfold mIn at this ⊢
    rw [hhi 13 (by omega), hhi 14 (by omega), hhi 15 (by omega), hhi 16 (by omega), hhi 17 (by omega), hhi 18 (by omega), hhi 20 (by omega), hhi 21 (by omega)]
    exact this
  · rw [hhi 21 (by omega)]; exact r5 j h1 h2
theorem wf.l4 {σ : Bk} (hw : wf σ) : ∀ j, j < (kRs σ).length → (uAc ((kRs σ).getD j u0)).length ≤ 4 := fun j hj => (hw.2.2.1 j hj).2.2.2.2.1
theorem mRep.endR {F : Nat → Nat → Int32} {G : Nat → Int64} {σ : Bk} {gn i : Nat} (hR : mRep F G σ gn) (hi : i < (kRs σ).length) (hl24 : (kRs σ).length ≤ 24) (hl4 : ∀ j, j < (kRs σ).length → (uAc ((kRs σ).getD j u0)).length ≤ 4) : mRep (va_up F 5 (upd (F 5) i 0)) G ((kRs σ).set i (uEnd ((kRs σ).getD i u0)), kIs σ, kSt σ, kBu σ, kMk σ) gn := by
  refine hR.ru hi hl24 ⟨rfl, rfl⟩ (fun k hk => up_ne (by omega)) (fun k j hj _ => up_at hj) ⟨rfl, rfl⟩ (fun _ _ _ _ => ⟨rfl, rfl⟩) hl4 ?_
  obtain ⟨a1, a2, a3, a4, a5, a6⟩ := hR.2.1 i hi
  exact ⟨a1, a2, pk_us, a4, a5, a6⟩
theorem mRep.use {F : Nat → Nat → Int32} {G : Nat → Int64} {σ : Bk} {gn i : Nat} (hR : mRep F G σ gn) (hi : i < (kRs σ).length) : mRep F G ((kRs σ).set i (uUse ((kRs σ).getD i u0)), kIs σ, kSt σ, kBu σ, kMk σ) gn := by
  obtain ⟨r0, r1, r2, r3, r4, r5, r6⟩ := hR
  refine ⟨r0, fun j hj => ?_, fun j h1 h2 => r2 j (by have h9 : ((kRs σ).set i (uUse ((kRs σ).getD i u0))).length ≤ j := h1; rw [List.length_set] at h9; exact h9) h2, r3, r4, r5, r6⟩
  have hj' : j < (kRs σ).length := by have h9 : j < ((kRs σ).set i (uUse ((kRs σ).getD i u0))).length := hj; rw [List.length_set] at h9; exact h9
  show mRu F j (((kRs σ).set i (uUse ((kRs σ).getD i u0))).getD j u0)
  rw [getD_set hi]
  by_cases e : j = i
  · rw [if_pos e, e]; exact r1 i hi
  · rw [if_neg e]; exact r1 j hj'
theorem mRep.act {F : Nat → Nat → Int32} {G : Nat → Int64} {σ : Bk} {gn j : Nat} {k v : Int32} (hR : mRep F G σ gn) (hw : wf σ) (hj : j < (kRs σ).length) (h4 : (uAc ((kRs σ).getD j u0)).length < 4) : mRep (va_up (va_up (va_up F 8 (upd (F 8) (4 * j + (uAc ((kRs σ).getD j u0)).length) k)) 9 (upd (F 9) (4 * j + (uAc ((kRs σ).getD j u0)).length) v)) 10 (upd (F 10) j (nI ((uAc ((kRs σ).getD j u0)).length + 1)))) G ((kRs σ).set j (uAdd ((kRs σ).getD j u0) k v), kIs σ, kSt σ, kBu σ, kMk σ) gn := by
  refine hR.ru hj hw.1 ⟨rfl, rfl⟩ (fun q hq => ?_) (fun q i hi hq => ?_) ⟨rfl, rfl⟩ (fun i q hi hq => ⟨?_, ?_⟩) hw.l4 ?_
  · rw [up_ne (by omega), up_ne (by omega), up_ne (by omega)]
  · rcases hq with rfl | rfl | rfl | rfl
    · rfl
    · rfl
    · rfl
    · exact pk_un hi
  · exact pk_un (by omega)
  · exact pk_un (by omega)
  · obtain ⟨a1, a2, a3, a4, a5, a6⟩ := hR.2.1 j hj
    refine ⟨a1, a2, a3, ?_, a5, fun q hq => ?_⟩
    · show upd (F 10) j _ j = nI (uAc ((kRs σ).getD j u0) ++ [(k, v)]).length
      rw [pk_us, len1, nI_1]
    · have hq' : q < (uAc ((kRs σ).getD j u0)).length + 1 := by have h9 : q < (uAc ((kRs σ).getD j u0) ++ [(k, v)]).length := hq; simpa using h9
      show upd (F 8) (4 * j + (uAc ((kRs σ).getD j u0)).length) k (4 * j + q) = ((uAc ((kRs σ).getD j u0) ++ [(k, v)]).getD q (0, 0)).1 ∧ upd (F 9) (4 * j + (uAc ((kRs σ).getD j u0)).length) v (4 * j + q) = ((uAc ((kRs σ).getD j u0) ++ [(k, v)]).getD q (0, 0)).2
      by_cases e : q = (uAc ((kRs σ).getD j u0)).length
      · rw [e, pk_us, pk_us, getD_r]; exact ⟨rfl, rfl⟩
      · rw [pk_un (by omega), pk_un (by omega), getD_l (by omega)]; exact a6 q (by omega)
/-- a rule more -/
theorem mRep.ar {F F' : Nat → Nat → Int32} {G : Nat → Int64} {σ : Bk} {gn : Nat} {r : Ru} (hR : mRep F G σ gn) (hl24 : (kRs σ).length < 24) (hw : ∀ j, j < (kRs σ).length → (uMs ((kRs σ).getD j u0)).length ≤ 3) (hold : ∀ i, i < (kRs σ).length → F' 3 i = F 3 i ∧ F' 4 i = F 4 i ∧ F' 5 i = F 5 i) (h6 : ∀ x, x < 3 * (kRs σ).length → F' 6 x = F 6 x ∧ F' 7 x = F 7 x) (h8 : F' 8 = F 8 ∧ F' 9 = F 9 ∧ F' 10 = F 10) (hhi : F' 12 = F 12 ∧ F' 13 = F 13 ∧ F' 14 = F 14 ∧ F' 15 = F 15 ∧ F' 16 = F 16 ∧ F' 17 = F 17 ∧ F' 18 = F 18 ∧ F' 20 = F 20 ∧ F' 21 = F 21) (hr : mRu F' (kRs σ).length r) : mRep F' G (kRs σ ++ [r], kIs σ, kSt σ, [], kMk σ) gn := by
  obtain ⟨r0, r1, r2, r3, r4, r5, r6⟩ := hR
  obtain ⟨q12, q13, q14, q15, q16, q17, q18, q20, q21⟩ := hhi
  refine ⟨fun j hj => absurd hj (Nat.not_lt_zero j), fun j hj => ?_, fun j h1 h2 => ?_, fun j hj => ?_, fun j hj => ?_, fun j h1 h2 => ?_, r6⟩
  · have hj' : j < (kRs σ).length + 1 := by have h9 : j < (kRs σ ++ [r]).length := hj; simpa using h9
    show mRu F' j ((kRs σ ++ [r]).getD j u0)
    by_cases e : j = (kRs σ).length
    · rw [e, getD_r]; exact hr
    · rw [getD_l (by omega)]
      obtain ⟨a1, a2, a3, a4, a5, a6⟩ := r1 j (by omega)
      obtain ⟨o1, o2, o3⟩ := hold j (by omega)
      refine ⟨by rw [o1]; exact a1, by rw [o2]; exact a2, by rw [o3]; exact a3, by rw [h8.2.2]; exact a4, fun q hq => ?_, by rw [h8.1, h8.2.1]; exact a6⟩
      have := hw j (by omega)
      have h9 := h6 (3 * j + q) (by omega)
      rw [h9.1, h9.2]; exact a5 q hq
  · rw [h8.2.2]
    exact r2 j (by have h9 : (kRs σ ++ [r]).length ≤ j := h1; simp at h9; omega) h2
  · rw [q12]; exact r3 j hj
  · have := r4 j hj
    unfold mIn at this ⊢
    rw [q13, q14, q15, q16, q17, q18, q20, q21]; exact this
  · rw [q21]; exact r5 j h1 h2
/-! what an action may be -/
theorem allw_lo {mt : Nat} {k v : Int32} (h : k < 0) : allw mt k v = false := by
  have n0 : ¬ k = 0 := fun e => by rw [e] at h; exact absurd h (by decide)
  have n1 : ¬ k = 1 := fun e => by rw [e] at h; exact absurd h (by decide)
  have n2 : ¬ k = 2 := fun e => by rw [e] at h; exact absurd h (by decide)
  have n3 : ¬ k = 3 := fun e => by rw [e] at h; exact absurd h (by decide)
  have n4 : ¬ k = 4 := fun e => by rw [e] at h; exact absurd h (by decide)
  simp [allw, n0, n1, n2, n3, n4]
theorem allw_hi {mt : Nat} {k v : Int32} (h : ¬ k ≤ 4) : allw mt k v = false := by
  have n0 : ¬ k = 0 := fun e => by rw [e] at h; exact absurd (by decide) h
  have n1 : ¬ k = 1 := fun e => by rw [e] at h; exact absurd (by decide) h
  have n2 : ¬ k = 2 := fun e => by rw [e] at h; exact absurd (by decide) h
  have n3 : ¬ k = 3 := fun e => by rw [e] at h; exact absurd (by decide) h
  have n4 : ¬ k = 4 := fun e => by rw [e] at h; exact absurd (by decide) h
  simp [allw, n0, n1, n2, n3, n4]
theorem allw_0 (mt : Nat) (v : Int32) : allw mt (nI 0) v = true := rfl
theorem allw_2 (mt : Nat) (v : Int32) : allw mt (nI 2) v = true := rfl
theorem allw_3 (mt : Nat) (v : Int32) : allw mt (nI 3) v = true := rfl
theorem allw_1 (mt : Nat) (v : Int32) : allw mt (nI 1) v = inR v 0 (nI (mt % 4) - 1) := rfl
theorem allw_4 (mt : Nat) (v : Int32) : allw mt (nI 4) v = (inR v 0 31 && decide (v.toNatClampNeg % 4 ≤ mt % 4)) := rfl
theorem abN {wh : Int32} (h : wh < 0 ∨ ¬ wh ≤ 2) : ¬ wh = 0 ∧ ¬ wh = 1 ∧ ¬ wh = 2 := by
  refine ⟨fun e => ?_, fun e => ?_, fun e => ?_⟩ <;> (rw [e] at h; exact absurd h (by decide))
theorem ab2 {wh : Int32} (h : ¬ wh < 0) (h2 : wh ≤ 2) (h0 : ¬ wh = 0) (h1 : ¬ wh = 1) : wh = 2 := by
  obtain ⟨j, hj, rfl⟩ := nI_of2 (M := 2) (n := 2) (by decide) h h2
  rcases (by omega : j = 0 ∨ j = 1 ∨ j = 2) with rfl | rfl | rfl
  · exact absurd rfl h0
  · exact absurd rfl h1
  · rfl
theorem nIm1_le {a b : Nat} (ha : a < 2 ^ 30) (hb : b < 2 ^ 30) : nI a - 1 ≤ nI b - 1 ↔ a ≤ b := by
  rw [Int32.le_iff_toInt_le, show (nI a - 1 : Int32) = nI a - nI 1 from rfl, show (nI b - 1 : Int32) = nI b - nI 1 from rfl, pk_sub_toInt ha (by decide), pk_sub_toInt hb (by decide)]
  omega
