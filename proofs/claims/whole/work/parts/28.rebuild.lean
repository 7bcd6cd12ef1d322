/-! The book's picture, put together again behind a change. -/
/-- names from 20 on (the reference's) have not changed -/
def gO (A A' : gW) : Prop := ∀ k : gN, 20 ≤ k.1 → A' k = A k
theorem gO.rf {A : gW} : gO A A := fun _ _ => rfl
theorem gO.trans {A B C : gW} (h : gO A B) (h2 : gO B C) : gO A C := fun k hk => (h2 k hk).trans (h k hk)
theorem gF.out {ks : List Nat} {i : Nat} {A A' : gW} (h : gF ks i A A') (hk : ks.all (fun k => decide (k < 20)) = true) : gO A A' := fun k hk2 => h k (fun z => by
  have := List.all_eq_true.mp hk _ z.1
  simp at this
  omega)
def rBq (cI cZ cO : ClassId) (e0 : Nat) (A : gW) (h ra ia sa ua : Nat) (aR aI aM : Nat → Nat) (fs : Nat → Int32) (σ : Bk) : Prop :=
  A (0, 0) = some (h, .inr (0, [.ref ra, .ref ia, .ref sa, .ref ua, .int (nI (kMk σ) - 1)])) ∧
  rAL cO e0 A 0 8 2 ra (kRs σ).length aR ∧ rAL cO e0 A 1 11 3 ia (kIs σ).length aI ∧
  A (4, 0) = some (sa, .inl (cZ, 4, .inl fs)) ∧ (∀ j, j < 4 → fs j = bI (kSt σ j)) ∧
  rMa cI A (kRs σ).length ua (kBu σ) ∧
  (∀ i, i < (kRs σ).length → rMa cI A i (aM i) (uMs ((kRs σ).getD i u0)) ∧ rRu cI A i (aR i) (aM i) ((kRs σ).getD i u0)) ∧
  (∀ i, i < (kIs σ).length → rIn A i (aI i) ((kIs σ).getD i i0))
section RB
variable {cI cZ cO : ClassId} {e0 : Nat} {A A2 : gW} {h ra ia sa ua : Nat} {aR aI aM : Nat → Nat} {fs : Nat → Int32} {σ : Bk}
theorem rBq.k (q : rBq cI cZ cO e0 A h ra ia sa ua aR aI aM fs σ) : rBk cI cZ cO e0 A h σ := ⟨ra, ia, sa, ua, aR, aI, aM, fs, q⟩
theorem rBq.bu (q : rBq cI cZ cO e0 A h ra ia sa ua aR aI aM fs σ) {ms : List Pr} (hF : gF [5, 6, 7] (kRs σ).length A A2) (hm : rMa cI A2 (kRs σ).length ua ms) : rBq cI cZ cO e0 A2 h ra ia sa ua aR aI aM fs (kRs σ, kIs σ, kSt σ, ms, kMk σ) := by
  obtain ⟨q1, q2, q3, q4, q5, q6, q7, q8⟩ := q
  exact ⟨(hF.at rfl).trans q1, q2.keep' (hF.at rfl) (hF.at rfl) (hF.at rfl) (fun i hi => hF.at rfl), q3.keep' (hF.at rfl) (hF.at rfl) (hF.at rfl) (fun i hi => hF.at rfl), (hF.at rfl).trans q4, q5, hm, fun i hi => ⟨(q7 i hi).1.keep (hF.at2 (Nat.ne_of_lt hi)) (hF.at2 (Nat.ne_of_lt hi)) (hF.at2 (Nat.ne_of_lt hi)), (q7 i hi).2.keep (hF.at rfl) (hF.at rfl) (hF.at rfl)⟩, fun i hi => (q8 i hi).keep (hF.at rfl)⟩
theorem rBq.ma (q : rBq cI cZ cO e0 A h ra ia sa ua aR aI aM fs σ) {m : Nat} (hF : gF [0] 0 A A2) (fB : A2 (0, 0) = some (h, .inr (0, [.ref ra, .ref ia, .ref sa, .ref ua, .int (nI m - 1)]))) : rBq cI cZ cO e0 A2 h ra ia sa ua aR aI aM fs (kRs σ, kIs σ, kSt σ, kBu σ, m) := by
  obtain ⟨q1, q2, q3, q4, q5, q6, q7, q8⟩ := q
  exact ⟨fB, q2.keep' (hF.at rfl) (hF.at rfl) (hF.at rfl) (fun i hi => hF.at rfl), q3.keep' (hF.at rfl) (hF.at rfl) (hF.at rfl) (fun i hi => hF.at rfl), (hF.at rfl).trans q4, q5, q6.keep (hF.at rfl) (hF.at rfl) (hF.at rfl), fun i hi => ⟨(q7 i hi).1.keep (hF.at rfl) (hF.at rfl) (hF.at rfl), (q7 i hi).2.keep (hF.at rfl) (hF.at rfl) (hF.at rfl)⟩, fun i hi => (q8 i hi).keep (hF.at rfl)⟩
theorem rBq.st (q : rBq cI cZ cO e0 A h ra ia sa ua aR aI aM fs σ) {j : Nat} {v : Bool} (hF : gF [4] 0 A A2) (fS : A2 (4, 0) = some (sa, .inl (cZ, 4, .inl (upd fs j (bI v))))) : rBq cI cZ cO e0 A2 h ra ia sa ua aR aI aM (upd fs j (bI v)) (kRs σ, kIs σ, va_up (kSt σ) j v, kBu σ, kMk σ) := by
  obtain ⟨q1, q2, q3, q4, q5, q6, q7, q8⟩ := q
  refine ⟨(hF.at rfl).trans q1, q2.keep' (hF.at rfl) (hF.at rfl) (hF.at rfl) (fun i hi => hF.at rfl), q3.keep' (hF.at rfl) (hF.at rfl) (hF.at rfl) (fun i hi => hF.at rfl), fS, fun k hk => ?_, q6.keep (hF.at rfl) (hF.at rfl) (hF.at rfl), fun i hi => ⟨(q7 i hi).1.keep (hF.at rfl) (hF.at rfl) (hF.at rfl), (q7 i hi).2.keep (hF.at rfl) (hF.at rfl) (hF.at rfl)⟩, fun i hi => (q8 i hi).keep (hF.at rfl)⟩
  show upd fs j (bI v) k = bI (va_up (kSt σ) j v k)
  unfold upd va_up
  split
  · rfl
  · exact q5 k hk
theorem getD_set {α : Type} {l : List α} {i j : Nat} {x d : α} (hi : i < l.length) : (l.set i x).getD j d = if j = i then x else l.getD j d := by
  simp only [List.getD_eq_getElem?_getD, List.getElem?_set]
  by_cases e : i = j
  · subst e; simp [hi]
  · simp [e, Ne.symm e]
theorem rBq.it (q : rBq cI cZ cO e0 A h ra ia sa ua aR aI aM fs σ) {i : Nat} {t : It} (hi : i < (kIs σ).length) (hF : gF [11] i A A2) (ht : rIn A2 i (aI i) t) : rBq cI cZ cO e0 A2 h ra ia sa ua aR aI aM fs (kRs σ, (kIs σ).set i t, kSt σ, kBu σ, kMk σ) := by
  obtain ⟨q1, q2, q3, q4, q5, q6, q7, q8⟩ := q
  refine ⟨(hF.at rfl).trans q1, q2.keep' (hF.at rfl) (hF.at rfl) (hF.at rfl) (fun i hi => hF.at rfl), ?_, (hF.at rfl).trans q4, q5, q6.keep (hF.at rfl) (hF.at rfl) (hF.at rfl), fun i hi => ⟨(q7 i hi).1.keep (hF.at rfl) (hF.at rfl) (hF.at rfl), (q7 i hi).2.keep (hF.at rfl) (hF.at rfl) (hF.at rfl)⟩, fun j hj => ?_⟩
  · show rAL cO e0 A2 1 11 3 ia ((kIs σ).set i t).length aI
    rw [List.length_set]
    refine q3.keep (hF.at rfl) (hF.at rfl) (hF.at rfl) (fun j hj a fs hfs => ?_)
    by_cases e : j = i
    · subst e
      have e1 : a = aI j := by
        have := (q8 j hj).symm.trans hfs
        injection this with this
        injection this with this
        exact this.symm
      subst e1
      exact ⟨_, ht⟩
    · exact ⟨fs, (hF.at2 e).trans hfs⟩
  · show rIn A2 j (aI j) (((kIs σ).set i t).getD j i0)
    have hj' : j < (kIs σ).length := by have h9 : j < ((kIs σ).set i t).length := hj; rw [List.length_set] at h9; exact h9
    rw [getD_set hi]
    by_cases e : j = i
    · rw [if_pos e, e]; exact ht
    · rw [if_neg e]; exact (q8 j hj').keep (hF.at2 e)
theorem rBq.ru (q : rBq cI cZ cO e0 A h ra ia sa ua aR aI aM fs σ) {i : Nat} {r : Ru} (hi : i < (kRs σ).length) (hF : gF [8, 9, 10] i A A2) (hr : rRu cI A2 i (aR i) (aM i) r) (hms : uMs r = uMs ((kRs σ).getD i u0)) : rBq cI cZ cO e0 A2 h ra ia sa ua aR aI aM fs ((kRs σ).set i r, kIs σ, kSt σ, kBu σ, kMk σ) := by
  obtain ⟨q1, q2, q3, q4, q5, q6, q7, q8⟩ := q
  refine ⟨(hF.at rfl).trans q1, ?_, q3.keep' (hF.at rfl) (hF.at rfl) (hF.at rfl) (fun i hi => hF.at rfl), (hF.at rfl).trans q4, q5, ?_, fun j hj => ?_, fun i hi => (q8 i hi).keep (hF.at rfl)⟩
  · show rAL cO e0 A2 0 8 2 ra ((kRs σ).set i r).length aR
    rw [List.length_set]
    refine q2.keep (hF.at rfl) (hF.at rfl) (hF.at rfl) (fun j hj a fs hfs => ?_)
    by_cases e : j = i
    · subst e
      obtain ⟨_, _, _, _, g1, -⟩ := (q7 j hj).2
      have e1 : a = aR j := by
        have := g1.symm.trans hfs
        injection this with this
        injection this with this
        exact this.symm
      subst e1
      obtain ⟨_, _, _, _, g2, -⟩ := hr
      exact ⟨_, g2⟩
    · exact ⟨fs, (hF.at2 e).trans hfs⟩
  · show rMa cI A2 ((kRs σ).set i r).length ua (kBu σ)
    rw [List.length_set]
    exact q6.keep (hF.at rfl) (hF.at rfl) (hF.at rfl)
  · show rMa cI A2 j (aM j) (uMs (((kRs σ).set i r).getD j u0)) ∧ rRu cI A2 j (aR j) (aM j) (((kRs σ).set i r).getD j u0)
    have hj' : j < (kRs σ).length := by have h9 : j < ((kRs σ).set i r).length := hj; rw [List.length_set] at h9; exact h9
    rw [getD_set hi]
    by_cases e : j = i
    · subst e
      rw [if_pos rfl, hms]
      exact ⟨(q7 j hj').1.keep (hF.at rfl) (hF.at rfl) (hF.at rfl), hr⟩
    · rw [if_neg e]
      exact ⟨(q7 j hj').1.keep (hF.at rfl) (hF.at rfl) (hF.at rfl), (q7 j hj').2.keep (hF.at2 e) (hF.at2 e) (hF.at2 e)⟩
theorem rBq.ai (q : rBq cI cZ cO e0 A h ra ia sa ua aR aI aM fs σ) {A1 : gW} {x : Nat} {t : It} (hF1 : gF [11] (kIs σ).length A A1) (hF2 : gF [1, 2, 12] 1 A1 A2) (hL : rAL cO e0 A2 1 11 3 ia ((kIs σ).length + 1) (va_up aI (kIs σ).length x)) (ht : rIn A1 (kIs σ).length x t) : rBq cI cZ cO e0 A2 h ra ia sa ua aR (va_up aI (kIs σ).length x) aM fs (kRs σ, kIs σ ++ [t], kSt σ, kBu σ, kMk σ) := by
  obtain ⟨q1, q2, q3, q4, q5, q6, q7, q8⟩ := q
  have at1 : ∀ n j, n ≠ 11 → n ≠ 1 → n ≠ 2 → n ≠ 12 → A2 (n, j) = A (n, j) := fun n j h1 h2 h3 h4 => (hF2 (n, j) (fun z => by simp at z; omega)).trans (hF1 (n, j) (fun z => by simp at z; omega))
  have at0 : ∀ n, n ≠ 11 → A2 (n, 0) = A (n, 0) := fun n h1 => (hF2 (n, 0) (fun z => by simp at z)).trans (hF1 (n, 0) (fun z => by simp at z; omega))
  have ati : ∀ j, j < (kIs σ).length → A2 (11, j) = A (11, j) := fun j hj => (hF2 (11, j) (fun z => by simp at z)).trans (hF1 (11, j) (fun z => by simp at z; omega))
  refine ⟨(at1 0 0 (by decide) (by decide) (by decide) (by decide)).trans q1, q2.keep' (at0 1 (by decide)) (at0 2 (by decide)) (at0 3 (by decide)) (fun i hi => at1 8 i (by decide) (by decide) (by decide) (by decide)), ?_, (at0 4 (by decide)).trans q4, q5, q6.keep (at1 _ _ (by decide) (by decide) (by decide) (by decide)) (at1 _ _ (by decide) (by decide) (by decide) (by decide)) (at1 _ _ (by decide) (by decide) (by decide) (by decide)), fun i hi => ⟨(q7 i hi).1.keep (at1 _ _ (by decide) (by decide) (by decide) (by decide)) (at1 _ _ (by decide) (by decide) (by decide) (by decide)) (at1 _ _ (by decide) (by decide) (by decide) (by decide)), (q7 i hi).2.keep (at1 _ _ (by decide) (by decide) (by decide) (by decide)) (at1 _ _ (by decide) (by decide) (by decide) (by decide)) (at1 _ _ (by decide) (by decide) (by decide) (by decide))⟩, fun j hj => ?_⟩
  · show rAL cO e0 A2 1 11 3 ia (kIs σ ++ [t]).length _
    rw [List.length_append]
    exact hL
  · have hj' : j < (kIs σ).length + 1 := by have h9 : j < (kIs σ ++ [t]).length := hj; simpa using h9
    show rIn A2 j (va_up aI (kIs σ).length x j) ((kIs σ ++ [t]).getD j i0)
    by_cases e : j = (kIs σ).length
    · rw [e, getD_r, va_up, if_pos rfl]
      exact ht.keep (hF2 (11, _) (fun z => by simp at z))
    · rw [getD_l (by omega), va_up, if_neg e]
      exact (q8 j (by omega)).keep (ati j (by omega))
theorem rBq.ar (q : rBq cI cZ cO e0 A h ra ia sa ua aR aI aM fs σ) {A1 A3 : gW} {x u2 : Nat} {r : Ru} (hF1 : gF [8, 9, 10] (kRs σ).length A A1) (hF2 : gF [1, 2, 12] 0 A1 A2) (hF3 : gF [5, 6, 7] ((kRs σ).length + 1) A2 A3) {A4 : gW} (hF4 : gF [0] 0 A3 A4) (hL : rAL cO e0 A2 0 8 2 ra ((kRs σ).length + 1) (va_up aR (kRs σ).length x)) (hr : rRu cI A1 (kRs σ).length x ua r) (hms : uMs r = kBu σ) (hm : rMa cI A3 ((kRs σ).length + 1) u2 []) (fB : A4 (0, 0) = some (h, .inr (0, [.ref ra, .ref ia, .ref sa, .ref u2, .int (nI (kMk σ) - 1)]))) : rBq cI cZ cO e0 A4 h ra ia sa u2 (va_up aR (kRs σ).length x) aI (va_up aM (kRs σ).length ua) fs (kRs σ ++ [r], kIs σ, kSt σ, [], kMk σ) := by
  obtain ⟨q1, q2, q3, q4, q5, q6, q7, q8⟩ := q
  have at4 : ∀ n j, n ≠ 0 → A4 (n, j) = A3 (n, j) := fun n j h1 => hF4 (n, j) (fun z => by simp at z; omega)
  have at3 : ∀ n j, n ≠ 5 ∧ n ≠ 6 ∧ n ≠ 7 ∨ j ≤ (kRs σ).length → A3 (n, j) = A2 (n, j) := fun n j h1 => hF3 (n, j) (fun z => by simp at z; omega)
  have at2 : ∀ n j, n ≠ 1 ∧ n ≠ 2 ∧ n ≠ 12 ∨ j ≠ 0 → A2 (n, j) = A1 (n, j) := fun n j h1 => hF2 (n, j) (fun z => by simp at z; omega)
  have at1 : ∀ n j, n ≠ 8 ∧ n ≠ 9 ∧ n ≠ 10 ∨ j ≠ (kRs σ).length → A1 (n, j) = A (n, j) := fun n j h1 => hF1 (n, j) (fun z => by simp at z; omega)
  have all : ∀ n j, n ≠ 0 → (n ≠ 5 ∧ n ≠ 6 ∧ n ≠ 7 ∨ j ≤ (kRs σ).length) → (n ≠ 1 ∧ n ≠ 2 ∧ n ≠ 12 ∨ j ≠ 0) → (n ≠ 8 ∧ n ≠ 9 ∧ n ≠ 10 ∨ j ≠ (kRs σ).length) → A4 (n, j) = A (n, j) := fun n j h1 h2 h3 h4 => (at4 n j h1).trans ((at3 n j h2).trans ((at2 n j h3).trans (at1 n j h4)))
  refine ⟨fB, ?_, q3.keep' (all _ _ (by omega) (by omega) (by omega) (by omega)) (all _ _ (by omega) (by omega) (by omega) (by omega)) (all _ _ (by omega) (by omega) (by omega) (by omega)) (fun i hi => all _ _ (by omega) (by omega) (by omega) (by omega)), (all _ _ (by omega) (by omega) (by omega) (by omega)).trans q4, q5, ?_, fun j hj => ?_, fun i hi => (q8 i hi).keep (all _ _ (by omega) (by omega) (by omega) (by omega))⟩
  · show rAL cO e0 A4 0 8 2 ra (kRs σ ++ [r]).length _
    rw [List.length_append]
    exact hL.keep' ((at4 _ _ (by omega)).trans (at3 _ _ (by omega))) ((at4 _ _ (by omega)).trans (at3 _ _ (by omega))) ((at4 _ _ (by omega)).trans (at3 _ _ (by omega))) (fun i hi => (at4 _ _ (by omega)).trans (at3 _ _ (by omega)))
  · show rMa cI A4 (kRs σ ++ [r]).length u2 []
    rw [List.length_append]
    exact hm.keep (at4 _ _ (by omega)) (at4 _ _ (by omega)) (at4 _ _ (by omega))
  · have hj' : j < (kRs σ).length + 1 := by have h9 : j < (kRs σ ++ [r]).length := hj; simpa using h9
    show rMa cI A4 j (va_up aM (kRs σ).length ua j) (uMs ((kRs σ ++ [r]).getD j u0)) ∧ rRu cI A4 j (va_up aR (kRs σ).length x j) (va_up aM (kRs σ).length ua j) ((kRs σ ++ [r]).getD j u0)
    by_cases e : j = (kRs σ).length
    · rw [e, getD_r, va_up, va_up, if_pos rfl, if_pos rfl, hms]
      exact ⟨q6.keep (all _ _ (by omega) (by omega) (by omega) (by omega)) (all _ _ (by omega) (by omega) (by omega) (by omega)) (all _ _ (by omega) (by omega) (by omega) (by omega)), hr.keep ((at4 _ _ (by omega)).trans ((at3 _ _ (by omega)).trans (at2 _ _ (by omega)))) ((at4 _ _ (by omega)).trans ((at3 _ _ (by omega)).trans (at2 _ _ (by omega)))) ((at4 _ _ (by omega)).trans ((at3 _ _ (by omega)).trans (at2 _ _ (by omega))))⟩
    · rw [getD_l (by omega), va_up, va_up, if_neg e, if_neg e]
      exact ⟨(q7 j (by omega)).1.keep (all _ _ (by omega) (by omega) (by omega) (by omega)) (all _ _ (by omega) (by omega) (by omega) (by omega)) (all _ _ (by omega) (by omega) (by omega) (by omega)), (q7 j (by omega)).2.keep (all _ _ (by omega) (by omega) (by omega) (by omega)) (all _ _ (by omega) (by omega) (by omega) (by omega)) (all _ _ (by omega) (by omega) (by omega) (by omega))⟩
end RB
