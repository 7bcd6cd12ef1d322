/-! The reference's cells: one object (20, 0), its arrays (21 + k, 0) by the number k of the field; what they hold as functions. -/
def mArr : Nat → Bool := fun k => match k with
  | 2 => false
  | 11 => false
  | 19 => false
  | 22 => false
  | 23 => false
  | k => decide (k < 22)
def mLen : Nat → Nat := fun k => match k with
  | 0 => 3
  | 1 => 3
  | 3 => 24
  | 4 => 24
  | 5 => 24
  | 6 => 72
  | 7 => 72
  | 8 => 96
  | 9 => 96
  | 10 => 24
  | 12 => 4
  | 15 => 480
  | _ => 160
def mTy (cI cZ : ClassId) : Nat → ClassId := fun k => match k with
  | 5 => cZ
  | 12 => cZ
  | 20 => cZ
  | 21 => cZ
  | _ => cI
def mObj (ad : Nat → Nat) (bn rn nn m1 : Nat) : List Value := [.ref (ad 0), .ref (ad 1), .int (nI bn), .ref (ad 3), .ref (ad 4), .ref (ad 5), .ref (ad 6), .ref (ad 7), .ref (ad 8), .ref (ad 9), .ref (ad 10), .int (nI rn), .ref (ad 12), .ref (ad 13), .ref (ad 14), .ref (ad 15), .ref (ad 16), .ref (ad 17), .ref (ad 18), .ref (ad 19), .ref (ad 20), .ref (ad 21), .int (nI nn), .int (nI m1 - 1)]
def rMM (cI cZ cL : ClassId) (A : gW) (h : Nat) (ad : Nat → Nat) (F : Nat → Nat → Int32) (G : Nat → Int64) (bn rn nn m1 : Nat) : Prop :=
  A (20, 0) = some (h, .inr (5, mObj ad bn rn nn m1)) ∧ (∀ k, mArr k = true → A (21 + k, 0) = some (ad k, .inl (mTy cI cZ k, mLen k, .inl (F k)))) ∧ A (40, 0) = some (ad 19, .inl (cL, 160, .inr (.inl G)))
section MM
variable {cI cZ cL : ClassId} {A : gW} {h : Nat} {ad : Nat → Nat} {F : Nat → Nat → Int32} {G : Nat → Int64} {bn rn nn m1 : Nat}
theorem rMM.put (hM : rMM cI cZ cL A h ad F G bn rn nn m1) (k : Nat) (hk : mArr k = true) (f : Nat → Int32) : rMM cI cZ cL (gU A (21 + k, 0) (ad k, .inl (mTy cI cZ k, mLen k, .inl f))) h ad (va_up F k f) G bn rn nn m1 := by
  refine ⟨(gU_n (gne (show (20 : Nat) ≠ 21 + k by omega))).trans hM.1, fun j hj => ?_, ?_⟩
  · by_cases e : j = k
    · subst e
      rw [gU_s, va_up, if_pos rfl]
    · rw [gU_n (gne (show 21 + j ≠ 21 + k by omega)), va_up, if_neg e]
      exact hM.2.1 j hj
  · have : k ≠ 19 := fun e => by rw [e] at hk; cases hk
    exact (gU_n (gne (show (40 : Nat) ≠ 21 + k by omega))).trans hM.2.2
theorem rMM.res (hM : rMM cI cZ cL A h ad F G bn rn nn m1) (f : Nat → Int64) : rMM cI cZ cL (gU A (40, 0) (ad 19, .inl (cL, 160, .inr (.inl f)))) h ad F f bn rn nn m1 := by
  refine ⟨(gU_n (gne (show (20 : Nat) ≠ 40 by omega))).trans hM.1, fun j hj => ?_, gU_s⟩
  have : j ≠ 19 := fun e => by rw [e] at hj; cases hj
  exact (gU_n (gne (show 21 + j ≠ 40 by omega))).trans (hM.2.1 j hj)
theorem rMM.obj (hM : rMM cI cZ cL A h ad F G bn rn nn m1) {b2 r2 n2 m2 : Nat} : rMM cI cZ cL (gU A (20, 0) (h, .inr (5, mObj ad b2 r2 n2 m2))) h ad F G b2 r2 n2 m2 :=
  ⟨gU_s, fun j hj => (gU_n (gne (show 21 + j ≠ 20 by omega))).trans (hM.2.1 j hj), (gU_n (gne (show (40 : Nat) ≠ 20 by omega))).trans hM.2.2⟩
end MM
def mRu (F : Nat → Nat → Int32) (i : Nat) (r : Ru) : Prop := F 3 i = nI (uMk r) ∧ F 4 i = nI (uMt r) ∧ F 5 i = bI (uLv r) ∧ F 10 i = nI (uAc r).length ∧ (∀ j, j < (uMs r).length → F 6 (3 * i + j) = ((uMs r).getD j (0, 0)).1 ∧ F 7 (3 * i + j) = ((uMs r).getD j (0, 0)).2) ∧ ∀ j, j < (uAc r).length → F 8 (4 * i + j) = ((uAc r).getD j (0, 0)).1 ∧ F 9 (4 * i + j) = ((uAc r).getD j (0, 0)).2
def mIn (F : Nat → Nat → Int32) (i : Nat) (t : It) : Prop := F 13 i = nI (iMk t) ∧ F 14 i = nI (iMt t) ∧ (∀ j, j < 3 → F 15 (3 * i + j) = argP (iX t) (nI j)) ∧ F 16 i = nI (iDp t) ∧ F 17 i = iFr t ∧ F 18 i = nI (iRu t) - 1 ∧ F 20 i = bI (iLv t) ∧ F 21 i = bI (iVe t)
/-- the functions hold the book; answers are known below gn -/
def mRep (F : Nat → Nat → Int32) (G : Nat → Int64) (σ : Bk) (gn : Nat) : Prop :=
  (∀ j, j < (kBu σ).length → F 0 j = ((kBu σ).getD j (0, 0)).1 ∧ F 1 j = ((kBu σ).getD j (0, 0)).2) ∧
  (∀ i, i < (kRs σ).length → mRu F i ((kRs σ).getD i u0)) ∧
  (∀ i, (kRs σ).length ≤ i → i < 24 → F 10 i = 0) ∧
  (∀ j, j < 4 → F 12 j = bI (kSt σ j)) ∧
  (∀ i, i < (kIs σ).length → mIn F i ((kIs σ).getD i i0)) ∧
  (∀ i, (kIs σ).length ≤ i → i < 160 → F 21 i = 0) ∧
  ∀ i, i < gn → G i = iAn ((kIs σ).getD i i0)
def rMo (cI cZ cL : ClassId) (A : gW) (h : Nat) (σ : Bk) : Prop := ∃ (ad : Nat → Nat) (F : Nat → Nat → Int32) (G : Nat → Int64), rMM cI cZ cL A h ad F G (kBu σ).length (kRs σ).length (kIs σ).length (kMk σ) ∧ mRep F G σ (kIs σ).length
/-- names below 20 have not changed -/
def gL (A A' : gW) : Prop := ∀ k : gN, k.1 < 20 → A' k = A k
theorem gL.rf {A : gW} : gL A A := fun _ _ => rfl
theorem gL.trans {A B C : gW} (h : gL A B) (h2 : gL B C) : gL A C := fun k hk => (h2 k hk).trans (h k hk)
theorem gL.U {A A1 : gW} {n : Nat} {x : Nat × va_E} (h : gL A A1) (hn : 20 ≤ n) : gL A (gU A1 (n, 0) x) := fun k hk => (gU_n (fun e => by rw [e] at hk; simp at hk; omega)).trans (h k hk)
theorem nIm1 {a r : Nat} (ha : a < 2 ^ 30) (hr : r < 2 ^ 30) : nI a - 1 = nI r ↔ a = r + 1 := by
  cases a with
  | zero => exact ⟨fun e => by
      have := congrArg Int32.toInt e
      rw [show nI 0 - 1 = -1 by decide, nI_toInt (by omega), show (-1 : Int32).toInt = -1 by decide] at this
      omega, fun e => by omega⟩
  | succ k => rw [nI_pred, nI_eq (by omega) (by omega)]; omega
