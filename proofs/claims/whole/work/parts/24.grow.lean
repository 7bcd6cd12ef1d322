/-! Rows for the growing of a list: a cell that is set while the heap may have grown, names changed, a copy of references. -/
theorem gP.set2 {D : va_G} {cl : List vw_C} {b : Nat} {A : gW} {H H1 : Heap} (h : gP D cl b A H) {n : gN} {a : Nat} {x x' : va_E} (hn : A n = some (a, x)) (hb : b ≤ a) (z : H.size ≤ H1.size) (he : va_at D cl (a, x') H1) (oq : ∀ q : Nat, q < H.size → q ≠ a → H1[q]? = H[q]?) : gP D cl b (gU A n (a, x')) H1 := by
  refine ⟨Nat.le_trans h.1 z, fun k y w hk => ?_, fun k j y w v hk hj => ?_⟩
  · by_cases hkn : k = n
    · subst hkn
      rw [gU_s] at hk
      cases hk
      exact ⟨Or.inl he, Or.inl hb⟩
    · rw [gU_n hkn] at hk
      obtain ⟨h1, h2⟩ := h.2.1 k y w hk
      exact ⟨h1.kept (oq y h1.lt (fun q => hkn (h.2.2 k n y w x hk (by rw [q]; exact hn)))), h2⟩
  · by_cases hkn : k = n
    · by_cases hjn : j = n
      · rw [hkn, hjn]
      · subst hkn
        rw [gU_s] at hk
        rw [gU_n hjn] at hj
        cases hk
        exact absurd (h.2.2 j k a v x hj hn) hjn
    · by_cases hjn : j = n
      · subst hjn
        rw [gU_s] at hj
        rw [gU_n hkn] at hk
        cases hj
        exact absurd (h.2.2 k j a w x hk hn) hkn
      · rw [gU_n hkn] at hk
        rw [gU_n hjn] at hj
        exact h.2.2 k j y w v hk hj
/-- the cell named n' is now named n -/
def gRen (A : gW) (n n' : gN) : gW := fun k => if k = n then A n' else if k = n' then none else A k
theorem gP.ren {D : va_G} {cl : List vw_C} {b : Nat} {A : gW} {H : Heap} (h : gP D cl b A H) (n n' : gN) : gP D cl b (gRen A n n') H := by
  have key : ∀ k a x, gRen A n n' k = some (a, x) → ∃ k0, A k0 = some (a, x) ∧ (k = n ∧ k0 = n' ∨ k ≠ n ∧ k ≠ n' ∧ k0 = k) := by
    intro k a x hk
    unfold gRen at hk
    by_cases h1 : k = n
    · rw [if_pos h1] at hk
      exact ⟨n', hk, Or.inl ⟨h1, rfl⟩⟩
    · rw [if_neg h1] at hk
      by_cases h2 : k = n'
      · rw [if_pos h2] at hk; cases hk
      · rw [if_neg h2] at hk
        exact ⟨k, hk, Or.inr ⟨h1, h2, rfl⟩⟩
  refine ⟨h.1, fun k a x hk => ?_, fun k j a x y hk hj => ?_⟩
  · obtain ⟨k0, h1, -⟩ := key k a x hk
    exact h.2.1 k0 a x h1
  · obtain ⟨k0, h1, h2⟩ := key k a x hk
    obtain ⟨j0, h3, h4⟩ := key j a y hj
    have e := h.2.2 k0 j0 a x y h1 h3
    rcases h2 with ⟨h2, h5⟩ | ⟨h2, h5, h6⟩ <;> rcases h4 with ⟨h4, h7⟩ | ⟨h4, h7, h8⟩
    · rw [h2, h4]
    · exact absurd (h8.symm.trans (e.symm.trans h5)) h7
    · exact absurd (h6.symm.trans (e.trans h7)) h5
    · rw [← h6, ← h8]; exact e
/-- an object of ours may lie in a row of Objects -/
theorem g_any {D : va_G} {tys : List (ClassId × FieldType)} {b e0 : Nat} {s : State} {H0 H : Heap} {A : gW} (hK : gK D tys b e0 s H0) (hP : gP D classes b A H) {n : gN} {a ci : Nat} {fs : List Value} (hn : A n = some (a, .inr (ci, fs))) (hci : ci = 2 ∨ ci = 3) : va_Any "java/lang/Object" s H a := by
  rcases hci with rfl | rfl
  · exact va_rAny (q0 := 0) (r := (R_Ru, F_Ru, 8)) hK.1 (hP.one hn) rfl rfl (fun comp c0 h1 h2 => vb_asgC (hK.2.1 (.castable R_Ru R_Ob) (by decide +kernel)) comp c0 h1 h2)
  · exact va_rAny (q0 := 0) (r := (R_In, F_In, 11)) hK.1 (hP.one hn) rfl rfl (fun comp c0 h1 h2 => vb_asgC (hK.2.1 (.castable R_In R_Ob) (by decide +kernel)) comp c0 h1 h2)
section GCP
variable {p : Program} {l : Launch} {e : Env} {R : Room} {s : State} {m : MethodId} {args : Array Value} {below : List Frame} {meth : Method} {c : Code} {H : Heap} {cells slots : Nat} {Q : State → Prop}
variable {cc : ByteArray} {pc : Nat} {ls : Array Slot} {rest : List Value} {D : va_G} {cl : List vw_C} {b : Nat} {tys : List (ClassId × FieldType)} {A : gW} {H0 : Heap}
theorem g_copy (hexec : p.tables.exec = Jvm.exec) (hb : c.code = cc) (hml : c.maxLocals = ls.size) {own : String} {index : Nat} (hown : s.vm.findClass own = some m.cls) (hlink : (Cond.methodLink own index arraycopyName).before args s = true) (hnat : (Cond.native arraycopyName).before args s = true) (hstat : (Cond.static arraycopyName).before args s = true) (hini : (Cond.initialized "java/lang/System").before args s = true)
    (hK : va_K D cl tys s) (hP : gP D cl b A H) (hS : gS b H0 H []) (t0 : Nat) {n0 n1 : gN} {a0 a : Nat} {cO : ClassId} {N0 N1 : Nat} {f g : Nat → Option Nat} {E : String} (ha0 : A n0 = some (a0, .inl (cO, N0, .inr (.inr (.inr (.inr f)))))) (ha1 : A n1 = some (a, .inl (cO, N1, .inr (.inr (.inr (.inr g)))))) (hne : n0 ≠ n1) (h0 : 0 < N0) (h1 : 0 < N1) (ht0 : tys[t0]? = some (cO, .object E))
    {k : Nat} (hk0 : k ≤ N0) (hk1 : k ≤ N1) (hk : k < 2 ^ 31) (hel : ∀ i : Nat, i < k → ∀ y : Nat, f i = some y → va_Any E s H y)
    (hframes : 1 ≤ R.frames) (hlocals : (rest.map fun v => v.category).sum + (nativeFrameWords "java/lang/System" "arraycopy" 5 + 11) ≤ R.locals) (hdg : decode cc pc = .ok (.invokestatic index, 3))
    (kk : ∀ (H1 : Heap) (locs1 : List Loc), gP D cl b (gU A n1 (a, .inl (cO, N1, .inr (.inr (.inr (.inr (va_cpy f g 0 0 k))))))) H1 → gS b H0 H1 locs1 → W p l e R s m args below meth c H1 locs1 cells slots Q (F0 m (pc + 3) ls rest)) : W p l e R s m args below meth c H [] cells slots Q (F0 m pc ls (.int (nI k) :: .int 0 :: .ref a :: .int 0 :: .ref a0 :: rest)) := by
  have hb0 : b ≤ a0 := hP.qa ha0 h0
  have hb1 : b ≤ a := hP.qa ha1 h1
  have hap : a0 ≠ a := hP.apart ha0 ha1 hne
  have hD : va_D (fun q => q = a0 ∨ q = a) [(a0, .inl (cO, N0, .inr (.inr (.inr (.inr f))))), (a, .inl (cO, N1, .inr (.inr (.inr (.inr g)))))] := by
    refine ⟨fun i j p q hi hj hpq => ?_, fun k q hk => ?_⟩
    · match i, j, hi, hj with
      | 0, 0, _, _ => rfl
      | 1, 1, _, _ => rfl
      | 0, 1, hi, hj => cases hi; cases hj; exact absurd hpq hap
      | 1, 0, hi, hj => cases hi; cases hj; exact absurd hpq.symm hap
      | i + 2, _, hi, _ => simp at hi
      | _, j + 2, _, hj => simp at hj
    · match k, hk with
      | 0, hk => cases hk; exact Or.inl rfl
      | 1, hk => cases hk; exact Or.inr rfl
      | k + 2, hk => simp at hk
  have hz : (0 : Int32).toNatClampNeg = 0 := by decide
  have hc : (nI k).toNatClampNeg = k := nI_clamp hk
  refine va_copyM (A := fun q => q = a0 ∨ q = a) (H0 := H) hexec hb hml hown hlink hnat hstat hini hK (hP.two ha0 ha1 (gEq h0) (gEq h1)) hD va_S.rf 0 1 t0 t0 rfl rfl ht0 ht0 (by decide) (by decide) (nI_pos hk) (by rw [hz, hc]; omega) (by rw [hz, hc]; omega) (fun i hi y hy => hel i (by rw [hc] at hi; exact hi) y (by rw [hz, Nat.zero_add] at hy; exact hy)) hframes hlocals hdg (fun H1 locs1 hP1 hD1 hS1 => ?_)
  rw [hz, hc] at hP1
  have q0 : H1[a0]? = H[a0]? := (hP1 0 (a0, .inl (cO, N0, .inr (.inr (.inr (.inr f))))) rfl).trans ((hP.two ha0 ha1 (gEq h0) (gEq h1)) 0 _ rfl).symm
  refine kk H1 locs1 (hP.set2 ha1 hb1 hS1.1 (hP1 1 _ rfl) (fun q hq hqa => ?_)) ⟨Nat.le_trans hS.1 hS1.1, fun q hq hn => ?_, fun q hq => ?_⟩
  · by_cases e0 : q = a0
    · rw [e0]; exact q0
    · exact hS1.2.1 q hq (fun z => z.elim e0 hqa)
  · exact (hS1.2.1 q (Nat.lt_of_lt_of_le hq hS.1) (fun z => hn (z.elim (fun e => by rw [e]; exact hb0) (fun e => by rw [e]; exact hb1)))).trans (hS.2.1 q hq hn)
  · exact (hS1.2.2 q hq).elim (fun e => by show b ≤ q.base; rw [e]; exact hb0) (fun e => by show b ≤ q.base; rw [e]; exact hb1)
end GCP
theorem grw {n : Nat} (h2 : 2 ≤ n) (h : n ≤ 1000) : nI n + (if nI 1 < nI (n / 2) then nI (n / 2) else nI 1) = nI (n + n / 2) := by
  by_cases c : 1 < n / 2
  · rw [if_pos (nI_lt c (by omega)), nI_add]
  · rw [if_neg (nI_nlt (by omega) (by decide)), nI_add]
    congr 1
    omega
theorem mi1 {C : String} {a a' : Nat} {U : State} (h : va_Mi C a U) (h' : va_Mi C a' U) : a = a' := by
  obtain ⟨c, k, h1, h2, h3⟩ := h
  obtain ⟨c', k', g1, g2, g3⟩ := h'
  cases h1.symm.trans g1
  cases h2.symm.trans g2
  exact Option.some.inj (h3.symm.trans g3)
