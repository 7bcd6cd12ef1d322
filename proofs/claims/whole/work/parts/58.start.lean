theorem emptyRow {args : Array Value} {s : State} {t : Term} {a : Addr} {cell : Cell} {k : Class} {comp : ClassId} {ty : FieldType} (ht : t.eval args s none [] s = some (.ref a)) (hc : s.heap[a]? = some cell) (hk : s.vm.classes[cell.cls]? = some k) (hkind : k.kind = .array comp ty) (hun : cell.vm ≠ .unknown) (hst : cell.vm.isStatics = false) (hq : (Cond.eq (.length t) (.int 0)).before args s = true) : cell.slots.size = 0 := by
  have harrAt : s.arrayAt? a = some cell := by simp [State.arrayAt?, hc, hk, hkind, hun, hst]
  by_cases hb : cell.slots.size < 2147483648
  · have hlen : (Term.length t).eval args s none [] s = some (.int cell.slots.size.toInt32) := by simp [Term.eval, ht, harrAt, hb]
    have hv := Cond.eq_ints (args := args) (first := s) (o := none) (idx := []) (s := s) hlen (show (Term.int 0).eval args s none [] s = some (.int 0) from rfl)
    have h00 : cell.slots.size.toInt32 = 0 := by simpa [Cond.before, Cond.holds, hv] using hq
    have := congrArg Int32.toInt h00
    rw [Int32.toInt_ofNat_small hb] at this
    have e0 : (0 : Int32).toInt = 0 := rfl
    rw [e0] at this
    omega
  · exfalso
    simp [Cond.before, Cond.holds, Cond.value, Term.eval, ht, harrAt, hb] at hq
theorem gNW_tbl : ∀ w ∈ gNW, w ∈ lw_tbl := by decide +kernel
theorem gNW_on : ∀ w ∈ gNW, w.onTables = true := by decide +kernel
abbrev sDE : Term := .static "java/util/ArrayList" "DEFAULTCAPACITY_EMPTY_ELEMENTDATA" "[Ljava/lang/Object;"
theorem gK_start {s : State} {bS : Nat} (hts0 : ∀ w ∈ lw_tbl, w.before #[Value.ref bS] s = true) (hgv : (Jvm.Cond.and given_1 narrow_1).before #[Value.ref bS] s = true) : ∃ (D : va_G) (cI cZ cO cL : ClassId) (e0 : Nat) (cell : Cell), gK D [(cI, .int), (cZ, .boolean), (cO, .object "java/lang/Object"), (cL, .long)] s.heap.size e0 s s.heap ∧ s.heap[e0]? = some cell ∧ cell.cls = cO ∧ cell.slots.size = 0 ∧ ∀ k, cell.vm ≠ .statics k := by
  have hts : ∀ w ∈ TT, w.before #[Value.ref bS] s = true := fun w h9 => hts0 w (TT_tbl w h9)
  obtain ⟨c0, i0', hK0⟩ := u_known (C := R_MB) (T := F_MB) (N := 5) (n := 5) hts i_MB (hts _ k_16)
  obtain ⟨c1, i1', hK1⟩ := u_known (C := R_Ma) (T := F_Ma) (N := 3) (n := 3) hts i_Ma (hts _ k_50)
  obtain ⟨c2, i2', hK2⟩ := u_known (C := R_Ru) (T := F_Ru) (N := 8) (n := 8) hts i_Ru (hts _ k_125)
  obtain ⟨c3, i3', hK3⟩ := u_known (C := R_In) (T := F_In) (N := 11) (n := 11) hts i_In (hts _ k_264)
  obtain ⟨c4, i4', hK4⟩ := u_known (C := R_AL) (T := F_AL) (N := 3) (n := 3) hts i_AL (hts _ k_24)
  obtain ⟨c5, i5', hK5⟩ := u_known (C := R_MM) (T := F_MM) (N := 24) (n := 24) hts i_MM (hts _ k_438)
  obtain ⟨dC, dI, hKc⟩ : ∃ (dC : Nat → ClassId) (dI : Nat → Nat → Nat), ∀ (k : Nat) (q : vw_C), classes[k]? = some q → u_Kn s q.1 q.2.1 q.2.2 (dC k) (dI k) := by
    refine ⟨fun k => if k = 0 then c0 else if k = 1 then c1 else if k = 2 then c2 else if k = 3 then c3 else if k = 4 then c4 else c5, fun k => if k = 0 then i0' else if k = 1 then i1' else if k = 2 then i2' else if k = 3 then i3' else if k = 4 then i4' else i5', ?_⟩
    intro k q hq
    match k, hq with
    | 0, hq => cases hq; exact hK0
    | 1, hq => cases hq; exact hK1
    | 2, hq => cases hq; exact hK2
    | 3, hq => cases hq; exact hK3
    | 4, hq => cases hq; exact hK4
    | 5, hq => cases hq; exact hK5
    | k + 6, hq => simp [classes] at hq
  obtain ⟨cI, kI, pI, hI1, hI2, hI3⟩ := Cond.arrayClass_spec (hts _ k_67)
  obtain ⟨cZ, kZ, pZ, hZ1, hZ2, hZ3⟩ := Cond.arrayClass_spec (hts _ k_66)
  obtain ⟨cL, kL, pL, hL1, hL2, hL3⟩ := Cond.arrayClass_spec (hts _ k_516)
  have hov : (Cond.arrayOver (.object "java/lang/Object")).before #[Value.ref bS] s = true := hts0 _ (by decide +kernel)
  obtain ⟨pO, cO, kO, hO1, hO2, hO3, hO4, hO5⟩ := Cond.arrayOver_spec hov
  have hs := flat_of_before _ hgv
  obtain ⟨e0, cX, cell, kX, hv, hX1, hX2, hX3, hX4, hX5, -⟩ := Cond.exactly_spec (hs (.exactly sDE "[Ljava/lang/Object;") (by decide +kernel))
  have hcX : cX = cO := Option.some.inj (hX1.symm.trans hO5)
  subst hcX
  have hun := (Cond.arrayOf_spec (hs (.arrayOf sDE (.object "java/lang/Object")) (by decide +kernel)) hv hX2).2
  have hsz := emptyRow hv hX2 (by rw [hX5]; exact hO3) hO4 hun hX4 (hs (.eq (.length sDE) (.int 0)) (by decide +kernel))
  refine ⟨(dC, dI), cI, cZ, cX, cL, e0, cell, ⟨⟨hKc, fun k q hk => ?_⟩, fun w hw => va_Nw.of (gNW_on w hw) (hts0 w (gNW_tbl w hw)), va_AO.of hov, va_Zof (hts0 (.laysStatic "java/util/ArrayList" "DEFAULTCAPACITY_EMPTY_ELEMENTDATA" "[Ljava/lang/Object;") (by decide +kernel)) (hts0 (.initialized "java/util/ArrayList") (by decide +kernel)) hv (fun a ha => Nat.not_le.mpr ha), va_Dc.of (hts0 (.declares ⟨"java/lang/Object", "getClass", "()Ljava/lang/Class;"⟩) (by decide +kernel)), va_Mi.of (hs (.isRef (.mirror "[Ljava/lang/Object;")) (by decide +kernel))⟩, hX2, hX5, hsz, fun k hk => by rw [hk] at hX4; cases hX4⟩
  match k, hk with
  | 0, hk => cases hk; exact ⟨fun n z => ⟨fun k h => (by cases h), kI, hI2, pI, hI3⟩, hI1⟩
  | 1, hk => cases hk; exact ⟨fun n z => ⟨fun k h => (by cases h), kZ, hZ2, pZ, hZ3⟩, hZ1⟩
  | 2, hk => cases hk; exact ⟨fun n z => ⟨fun k h => (by cases h), kO, hO3, pO, hO4⟩, kO, pO, hO3, hO4, hO1, hO5⟩
  | 3, hk => cases hk; exact ⟨fun n z => ⟨fun k h => (by cases h), kL, hL2, pL, hL3⟩, hL1⟩
  | k + 4, hk => simp at hk
set_option maxHeartbeats 4000000 in
set_option maxRecDepth 100000 in
theorem whole_start {p : Program} {e : Env} {s : State} {m : MethodId} {below : List Frame} {meth : Method} {c : Code} (l : Launch) {bS L : Nat} {xs : Nat → Int32} (hL : L ≤ 3072) (C0 : lw_At p s m meth c bS L xs) : W p l e room_1 s m #[Value.ref bS] below meth c s.heap [] 0 0 (lw_Z below #[Value.ref bS] s) (entryFrame m ([Value.ref bS] : List Value).toArray 4) := by
  obtain ⟨hx, hb, hr, hml, hown, hts0, hX, hbl, hlocks, hgv⟩ := id C0
  have hts : ∀ w ∈ TT, w.before #[Value.ref bS] s = true := fun w h9 => hts0 w (TT_tbl w h9)
  obtain ⟨D, cI, cZ, cO, cL, e0, cell, hK, hc1, hc2, hc3, hc4⟩ := gK_start hts0 hgv
  obtain ⟨b, hbe⟩ : ∃ z : Nat, z = s.heap.size := ⟨_, rfl⟩
  rw [← hbe] at hK
  obtain ⟨A, eA⟩ : ∃ z : gW, z = fun n => if n = (3, 0) then some (e0, gE cO) else none := ⟨_, rfl⟩
  have fE : A (3, 0) = some (e0, .inl (cO, 0, .inr (.inr (.inr (.inr fun _ => none))))) := by rw [eA]; rfl
  have hone : ∀ n x, A n = some x → n = (3, 0) ∧ x = (e0, gE cO) := fun n x hn => by
    rw [eA] at hn
    by_cases e : n = (3, 0)
    · exact ⟨e, by rw [e] at hn; exact (Option.some.inj hn).symm⟩
    · have h9 : (none : Option (Nat × va_E)) = some x := (if_neg e).symm.trans hn
      cases h9
  have hP : gP D classes b A s.heap := ⟨by omega, fun n a x hn => by
    obtain ⟨-, e2⟩ := hone n _ hn
    cases e2
    exact ⟨Or.inr ⟨cO, cell, rfl, hc1, hc2, hc3, hc4⟩, Or.inr ⟨cO, rfl⟩⟩, fun n k a x y hn hk => (hone n _ hn).1.trans (hone k _ hk).1.symm⟩
  have hS : gS b s.heap s.heap [] := va_S.rf
  have hl := lv_entry ([.ref bS]) (n := 4) (Nat.le_of_ble_eq_true rfl)
  rw [lg_entry_eq]
  generalize (lg_sl ([.ref bS]) ++ List.replicate (4 - (lg_sl ([.ref bS])).length) Slot.unset).toArray = ls at hl ⊢
  have hl : lv_has ls 4 [(0, .ref bS)] := hl
  refine g_new (ci := 0) (fs := [.null, .null, .null, .null, .int 0]) hx hb hts i_MB t_MB t_MB_ok hown (hts _ k_15) (hts _ k_16) (hts _ k_1) hK.1 hP hS (0, 0) rfl (fun j hj => by rcases (show j = 0 ∨ j = 1 ∨ j = 2 ∨ j = 3 ∨ j = 4 by omega) with rfl | rfl | rfl | rfl | rfl <;> rfl) (by decide) (by decide) d_law_0 (fun q1 H hP hS => ?_)
  refine W.widen (k := 1) (n := 5) (by decide) (by decide) ?_
  obtain ⟨A2, eA2⟩ : ∃ z, z = gU A (0, 0) (q1, .inr (0, [.null, .null, .null, .null, .int 0])) := ⟨_, rfl⟩
  replace hP : gP D classes b A2 H := by rw [eA2]; exact hP
  have f3 : A2 (3, 0) = some (e0, .inl (cO, 0, .inr (.inr (.inr (.inr (fun _ => none)))))) := (by rw [eA2]; exact gU_n (gne (show (3 : Nat) ≠ 0 by decide)) : A2 (3, 0) = A (3, 0)).trans fE
  have f4 : A2 (0, 0) = some (q1, .inr (0, [.null, .null, .null, .null, .int 0])) := by rw [eA2]; exact gU_s
  refine lv_dup hx hb d_law_3 rfl ?_
  refine g_cv (B := fun A2 H => gP D classes b A2 H) (g_runI (b := q1) (As := []) (rest := [.ref q1]) ⟨hx, hb, hml, hown, hts⟩ (c_MB_init l f4 f3) st_MB_init k_17 ⟨rfl, rfl, by decide, by decide⟩ (gI.pre hK hS hP _) rfl hl.1 rfl (Nat.le_of_ble_eq_true rfl) d_law_4 ⟨by decide, by decide⟩) hS (fun A5 H locs hp6 hP hS => ?_)
  replace hP : gP D classes b A5 H := hP
  obtain ⟨hB, go⟩ := hp6
  refine lv_astore_n (lv' := [(1, .ref q1), (0, .ref bS)]) hx hb d_law_7 rfl hl (by decide) rfl (fun ls hl => ?_)
  refine g_new (ci := 5) (fs := [.null, .null, .int 0, .null, .null, .null, .null, .null, .null, .null, .null, .int 0, .null, .null, .null, .null, .null, .null, .null, .null, .null, .null, .int 0, .int 0]) hx hb hts i_MM t_MM t_MM_ok hown (hts _ k_437) (hts _ k_438) (hts _ k_6) hK.1 hP hS (20, 0) rfl (fun j hj => by rcases (show j = 0 ∨ j = 1 ∨ j = 2 ∨ j = 3 ∨ j = 4 ∨ j = 5 ∨ j = 6 ∨ j = 7 ∨ j = 8 ∨ j = 9 ∨ j = 10 ∨ j = 11 ∨ j = 12 ∨ j = 13 ∨ j = 14 ∨ j = 15 ∨ j = 16 ∨ j = 17 ∨ j = 18 ∨ j = 19 ∨ j = 20 ∨ j = 21 ∨ j = 22 ∨ j = 23 by omega) with rfl | rfl | rfl | rfl | rfl | rfl | rfl | rfl | rfl | rfl | rfl | rfl | rfl | rfl | rfl | rfl | rfl | rfl | rfl | rfl | rfl | rfl | rfl | rfl <;> rfl) (by decide) (by decide) d_law_8 (fun q7 H hP hS => ?_)
  refine W.widen (k := 8) (n := 48) (by decide) (by decide) ?_
  obtain ⟨A8, eA8⟩ : ∃ z, z = gU A5 (20, 0) (q7, .inr (5, [.null, .null, .int 0, .null, .null, .null, .null, .null, .null, .null, .null, .int 0, .null, .null, .null, .null, .null, .null, .null, .null, .null, .null, .int 0, .int 0])) := ⟨_, rfl⟩
  replace hP : gP D classes b A8 H := by rw [eA8]; exact hP
  have f9 : A8 (20, 0) = some (q7, .inr (5, [.null, .null, .int 0, .null, .null, .null, .null, .null, .null, .null, .null, .int 0, .null, .null, .null, .null, .null, .null, .null, .null, .null, .null, .int 0, .int 0])) := by rw [eA8]; exact gU_s
  have glN : gL A5 A8 := by rw [eA8]; exact gL.rf.U (by decide)
  refine lv_dup hx hb d_law_11 rfl ?_
  refine g_cv (B := fun A2 H => gP D classes b A2 H) (g_runI (b := q7) (As := []) (rest := [.ref q7]) ⟨hx, hb, hml, hown, hts⟩ (c_MM_init l f9) st_MM_init k_439 ⟨rfl, rfl, by decide, by decide⟩ (gI.pre hK hS hP _) rfl hl.1 rfl (Nat.le_of_ble_eq_true rfl) d_law_12 ⟨by decide, by decide⟩) hS (fun A10 H locs hp11 hP hS => ?_)
  replace hP : gP D classes b A10 H := hP
  obtain ⟨hMo, gl⟩ := hp11
  replace hB := (hB.keep glN).keep gl
  refine lv_astore_n (lv' := [(2, .ref q7), (1, .ref q1), (0, .ref bS)]) hx hb d_law_15 rfl hl (by decide) rfl (fun ls hl => ?_)
  refine lv_iconst (v := 0) hx hb d_law_16 (by decide) ?_
  refine lv_istore_n (lv' := [(3, .int 0), (2, .ref q7), (1, .ref q1), (0, .ref bS)]) hx hb d_law_17 rfl hl (by decide) rfl (fun ls hl => ?_)
  refine W.widen (k := 100 + 8 * 0) (n := 5000 + 1004 * 0) (by decide) (by decide) ?_
  exact law_loop l hL C0 hbe hK 512 0 _ _ _ _ _ rfl hP hS hB hMo wf0 (lv_sub hl [0, 1, 2, 3] rfl)
