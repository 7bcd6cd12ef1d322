/-! Frames by names, and how the parts of the picture stay. -/
/-- only names of the kinds ks with the number i have changed -/
def gF (ks : List Nat) (i : Nat) (A A' : gW) : Prop := ∀ k : gN, ¬ (k.1 ∈ ks ∧ k.2 = i) → A' k = A k
theorem gF.rf {ks : List Nat} {i : Nat} {A : gW} : gF ks i A A := fun _ _ => rfl
theorem gF_U {ks : List Nat} {i n : Nat} {A A1 : gW} {x : Nat × va_E} (h : gF ks i A A1) (hn : n ∈ ks) : gF ks i A (gU A1 (n, i) x) := fun k hk => by
  rw [gU_n (fun e => hk (by rw [e]; exact ⟨hn, rfl⟩))]
  exact h k hk
theorem gF.at {ks : List Nat} {i n j : Nat} {A A' : gW} (h : gF ks i A A') (hn : ks.contains n = false) : A' (n, j) = A (n, j) := h (n, j) (fun e => by simp at hn; exact hn e.1)
theorem gF.at2 {ks : List Nat} {i n j : Nat} {A A' : gW} (h : gF ks i A A') (hn : j ≠ i) : A' (n, j) = A (n, j) := h (n, j) (fun e => hn e.2)
theorem rMa.keep {cI : ClassId} {A A' : gW} {i h : Nat} {ms : List Pr} (hm : rMa cI A i h ms) (e5 : A' (5, i) = A (5, i)) (e6 : A' (6, i) = A (6, i)) (e7 : A' (7, i) = A (7, i)) : rMa cI A' i h ms := by
  obtain ⟨hk, hv, fk, fv, f1, f2, f3, f4⟩ := hm
  exact ⟨hk, hv, fk, fv, e5.trans f1, e6.trans f2, e7.trans f3, f4⟩
theorem rRu.keep {cI : ClassId} {A A' : gW} {i h hm : Nat} {r : Ru} (hr : rRu cI A i h hm r) (e8 : A' (8, i) = A (8, i)) (e9 : A' (9, i) = A (9, i)) (e10 : A' (10, i) = A (10, i)) : rRu cI A' i h hm r := by
  obtain ⟨hk, hv, fk, fv, f1, f2, f3, f4⟩ := hr
  exact ⟨hk, hv, fk, fv, e8.trans f1, e9.trans f2, e10.trans f3, f4⟩
theorem rIn.keep {A A' : gW} {i h : Nat} {t : It} (hi : rIn A i h t) (e : A' (11, i) = A (11, i)) : rIn A' i h t := e.trans hi
theorem rAL.keep {cO : ClassId} {e0 : Nat} {A A' : gW} {w kk ci h n : Nat} {ad : Nat → Nat} (hL : rAL cO e0 A w kk ci h n ad) (e1 : A' (1, w) = A (1, w)) (e2 : A' (2, w) = A (2, w)) (e3 : A' (3, 0) = A (3, 0)) (ek : ∀ i, i < n → ∀ a fs, A (kk, i) = some (a, .inr (ci, fs)) → ∃ fs', A' (kk, i) = some (a, .inr (ci, fs'))) : rAL cO e0 A' w kk ci h n ad := by
  obtain ⟨mo, q, cap, f, f1, f2, f3, f4⟩ := hL
  refine ⟨mo, q, cap, f, e1.trans f1, ?_, e3.trans f3, fun i hi => ?_⟩
  · rcases f2 with h | ⟨g1, g2⟩
    · exact Or.inl h
    · exact Or.inr ⟨e2.trans g1, g2⟩
  · obtain ⟨fs, hfs⟩ := f4 i hi
    exact ek i hi _ _ hfs
theorem rAL.keep' {cO : ClassId} {e0 : Nat} {A A' : gW} {w kk ci h n : Nat} {ad : Nat → Nat} (hL : rAL cO e0 A w kk ci h n ad) (e1 : A' (1, w) = A (1, w)) (e2 : A' (2, w) = A (2, w)) (e3 : A' (3, 0) = A (3, 0)) (ek : ∀ i, i < n → A' (kk, i) = A (kk, i)) : rAL cO e0 A' w kk ci h n ad :=
  hL.keep e1 e2 e3 (fun i hi a fs h => ⟨fs, (ek i hi).trans h⟩)
theorem getD_l {α : Type} {l : List α} {x d : α} {j : Nat} (h : j < l.length) : (l ++ [x]).getD j d = l.getD j d := by
  simp [List.getD_eq_getElem?_getD, List.getElem?_append_left h]
theorem getD_r {α : Type} {l : List α} {x d : α} : (l ++ [x]).getD l.length d = x := by
  simp [List.getD_eq_getElem?_getD]
theorem snocA {fk fv : Nat → Int32} {l : List Pr} {k v : Int32} {j : Nat} (h : ∀ j, j < l.length → fk j = (l.getD j (0, 0)).1 ∧ fv j = (l.getD j (0, 0)).2) (hj : j < (l ++ [(k, v)]).length) : upd fk l.length k j = ((l ++ [(k, v)]).getD j (0, 0)).1 ∧ upd fv l.length v j = ((l ++ [(k, v)]).getD j (0, 0)).2 := by
  by_cases e : j = l.length
  · subst e
    rw [getD_r, pk_us, pk_us]
    exact ⟨rfl, rfl⟩
  · have hl : j < l.length := by simp at hj; omega
    rw [getD_l hl, pk_un e, pk_un e]
    exact h j hl
theorem len1 {α : Type} (l : List α) (x : α) : nI (l ++ [x]).length = nI l.length + 1 := by rw [nI_1]; simp
/-- arguments that aren't taken count as 0 -/
def cut (mt : Nat) (x : X3) : X3 := (if 0 < mt % 4 then x.1 else 0, if 1 < mt % 4 then x.2.1 else 0, if 2 < mt % 4 then x.2.2 else 0)
