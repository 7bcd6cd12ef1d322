theorem rAL.snoc {cO : ClassId} {e0 : Nat} {A : gW} {w kk ci h n r cap x : Nat} {mo : Int32} {f : Nat → Option Nat} {ad : Nat → Nat} (fL : A (1, w) = some (h, .inr (4, [.int mo, .ref r, .int (nI n + 1)]))) (fA : A (2, w) = some (r, .inl (cO, cap, .inr (.inr (.inr (.inr (va_up f n (some x)))))))) (hc : n < cap) (hc2 : 2 ≤ cap) (hc3 : cap ≤ 240) (hf : ∀ i, i < n → f i = some (ad i)) (fE : A (3, 0) = some (e0, gE cO)) (hel : ∀ i, i < n → ∃ fs, A (kk, i) = some (ad i, .inr (ci, fs))) {fsx : List Value} (hx : A (kk, n) = some (x, .inr (ci, fsx))) : rAL cO e0 A w kk ci h (n + 1) (va_up ad n x) := by
  refine ⟨mo, r, cap, va_up f n (some x), by rw [← nI_1]; exact fL, Or.inr ⟨fA, hc2, hc, hc3, fun i hi => ?_⟩, fE, fun i hi => ?_⟩
  · by_cases e : i = n
    · simp [va_up, e]
    · simp only [va_up, if_neg e]; exact hf i (by omega)
  · by_cases e : i = n
    · subst e; exact ⟨fsx, by simp only [va_up, if_true]; exact hx⟩
    · simp only [va_up, if_neg e]; exact hel i (by omega)
set_option maxHeartbeats 4000000 in
set_option maxRecDepth 100000 in
theorem c_AL_grow (l : Launch) {D : va_G} {cI cZ cO cL : ClassId} {b e0 : Nat} {A : gW} {w h q n kk ci : Nat} {mo : Int32} {f : Nat → Option Nat} {ad : Nat → Nat} (fL : A (1, w) = some (h, .inr (4, [.int mo, .ref q, .int (nI n)]))) (hq : n = 0 ∧ q = e0 ∨ (A (2, w) = some (q, .inl (cO, n, .inr (.inr (.inr (.inr f))))) ∧ 2 ≤ n ∧ ∀ i, i < n → f i = some (ad i))) (fE : A (3, 0) = some (e0, gE cO)) (hel : ∀ i, i < n → ∃ fs, A (kk, i) = some (ad i, .inr (ci, fs))) (hn : n < 160) (hkk : kk ≠ 1 ∧ kk ≠ 2 ∧ kk ≠ 12) (hci : ci = 2 ∨ ci = 3) : Met l y_AL_grow (Cond.code y_AL_grow b_AL_grow 1 (some (.array (.object "java/lang/Object"))) :: TT) ({ frames := 4, cells := 1, slots := 240, locals := 107 }) (va_Pc [.ref h] (gI D [(cI, .int), (cZ, .boolean), (cO, .object "java/lang/Object"), (cL, .long)] b e0 A)) (va_Qr (fun _ : gW => True) (fun A2 r t => gP D classes b A2 t.heap ∧ A2 (1, w) = some (h, .inr (4, [.int mo, .ref r, .int (nI n)])) ∧ (∃ (cap2 : Nat) (f2 : Nat → Option Nat), A2 (2, w) = some (r, .inl (cO, cap2, .inr (.inr (.inr (.inr f2))))) ∧ n < cap2 ∧ 2 ≤ cap2 ∧ cap2 ≤ 240 ∧ ∀ i, i < n → f2 i = some (ad i)) ∧ gF [1, 2, 12] w A A2) (fun q => b ≤ q)) 1 240 (fun q => b ≤ q) := by
  refine Met.ofG (own := R_AL) (by decide +kernel) rfl (Nat.le_of_ble_eq_true rfl) ?_
  intro p e s m below meth c ls hx hb hr hlk hml hown hnm hts hI hl
  have hl : lv_has ls 1 [(0, .ref h)] := hl
  have hS : gS b s.heap s.heap [] := va_S.rf
  obtain ⟨hP, hK⟩ := hI
  rcases hq with ⟨rfl, rfl⟩ | ⟨fA, hn2, hfi⟩
  · skip
    have fE2 : A (3, 0) = some (q, .inl (cO, 0, .inr (.inr (.inr (.inr fun _ => none))))) := fE
    refine lv_aload_n hx hb d_AL_grow_0 rfl (lv_at hl 0 rfl) ?_
    refine lv_aload_n hx hb d_AL_grow_1 rfl (lv_at hl 0 rfl) ?_
    refine g_get hx hb hts i_AL hown hK.1 hP fL rfl 2 (by decide) (hts _ k_38) (fun _ h9 => h9) rfl d_AL_grow_2 ?_
    refine lv_iconst (v := 1) hx hb d_AL_grow_5 (by decide) ?_
    refine lv_iadd hx hb d_AL_grow_6 ?_
    rw [nI_1]
    refine g_cr (B := fun A2 r H => gP D classes b A2 H ∧ A2 (1, w) = some (h, .inr (4, [.int mo, .ref r, .int (nI 0)])) ∧ (∃ (cap2 : Nat) (f2 : Nat → Option Nat), A2 (2, w) = some (r, .inl (cO, cap2, .inr (.inr (.inr (.inr f2))))) ∧ 2 ≤ cap2 ∧ cap2 ≤ 240 ∧ ∀ i, i < 0 → f2 i = (fun _ => none) i) ∧ gF [1, 2, 12] w A A2) (g_runV (As := [.int (nI 1)]) (rest := []) ⟨hx, hb, hml, hown, hts⟩ (c_AL_growI0 l (fun _ => none) fL fE2) st_AL_growI k_173 ⟨rfl, rfl, by decide, by decide⟩ rfl (gI.preV hK hS hP fL rfl _) rfl hl.1 rfl (Nat.le_of_ble_eq_true rfl) d_AL_grow_7 ⟨by decide, by decide⟩) hS (fun A1 r H locs _ hp2 hS => ?_)
    obtain ⟨hP, fL2, ⟨cap2, f2, fA2, hc1, hc2, hf2⟩, gN1⟩ := hp2
    refine W.widen (k := 1) (n := 240) (by decide) (by decide) ?_
    refine W.widen (k := 1) (n := 240) (by decide) (by decide) ?_
    exact W.aret hx hb hr (Or.inr ⟨_, rfl⟩) (Or.inr ⟨_, rfl⟩) (fun t ht _ => ⟨⟨A1, r, rfl, trivial, ⟨(show gP D classes b A1 t.heap by rw [ht]; exact hP), fL2, ⟨cap2, f2, fA2, by omega, hc1, hc2, fun i hi => absurd hi (Nat.not_lt_zero i)⟩, gN1⟩⟩, hS.F ht⟩) hS.2.2 d_AL_grow_10
  · skip
    refine lv_aload_n hx hb d_AL_grow_0 rfl (lv_at hl 0 rfl) ?_
    refine lv_aload_n hx hb d_AL_grow_1 rfl (lv_at hl 0 rfl) ?_
    refine g_get hx hb hts i_AL hown hK.1 hP fL rfl 2 (by decide) (hts _ k_38) (fun _ h9 => h9) rfl d_AL_grow_2 ?_
    refine lv_iconst (v := 1) hx hb d_AL_grow_5 (by decide) ?_
    refine lv_iadd hx hb d_AL_grow_6 ?_
    rw [nI_1]
    refine g_cr (B := fun A2 r H => gP D classes b A2 H ∧ A2 (1, w) = some (h, .inr (4, [.int mo, .ref r, .int (nI n)])) ∧ (∃ (cap2 : Nat) (f2 : Nat → Option Nat), A2 (2, w) = some (r, .inl (cO, cap2, .inr (.inr (.inr (.inr f2))))) ∧ n < cap2 ∧ cap2 ≤ 240 ∧ ∀ i, i < n → f2 i = f i) ∧ gF [1, 2, 12] w A A2) (g_runV (As := [.int (nI (n + 1))]) (rest := []) ⟨hx, hb, hml, hown, hts⟩ (c_AL_growI l fL fA hn2 hn hkk.2.2 hci hfi hel) st_AL_growI k_173 ⟨rfl, rfl, by decide, by decide⟩ rfl (gI.preV hK hS hP fL rfl _) rfl hl.1 rfl (Nat.le_of_ble_eq_true rfl) d_AL_grow_7 ⟨by decide, by decide⟩) hS (fun A3 r H locs _ hp4 hS => ?_)
    obtain ⟨hP, fL2, ⟨cap2, f2, fA2, hc1, hc2, hf2⟩, gN1⟩ := hp4
    refine W.widen (k := 1) (n := 240) (by decide) (by decide) ?_
    refine W.widen (k := 1) (n := 240) (by decide) (by decide) ?_
    exact W.aret hx hb hr (Or.inr ⟨_, rfl⟩) (Or.inr ⟨_, rfl⟩) (fun t ht _ => ⟨⟨A3, r, rfl, trivial, ⟨(show gP D classes b A3 t.heap by rw [ht]; exact hP), fL2, ⟨cap2, f2, fA2, hc1, by omega, hc2, fun i hi => (hf2 i hi).trans (hfi i hi)⟩, gN1⟩⟩, hS.F ht⟩) hS.2.2 d_AL_grow_10
set_option maxHeartbeats 4000000 in
set_option maxRecDepth 100000 in
theorem c_AL_add3 (l : Launch) {D : va_G} {cI cZ cO cL : ClassId} {b e0 : Nat} {A : gW} {w h q n cap kk ci : Nat} {mo : Int32} {f : Nat → Option Nat} {ad : Nat → Nat} (fL : A (1, w) = some (h, .inr (4, [.int mo, .ref q, .int (nI n)]))) (hq : n = 0 ∧ q = e0 ∨ (A (2, w) = some (q, .inl (cO, cap, .inr (.inr (.inr (.inr f))))) ∧ 2 ≤ cap ∧ n ≤ cap ∧ cap ≤ 240 ∧ ∀ i, i < n → f i = some (ad i))) (fE : A (3, 0) = some (e0, gE cO)) (hel : ∀ i, i < n → ∃ fs, A (kk, i) = some (ad i, .inr (ci, fs))) (hn : n < 160) (hkk : kk ≠ 1 ∧ kk ≠ 2 ∧ kk ≠ 12) (hci : ci = 2 ∨ ci = 3) {x : Nat} {fsx : List Value} (hx0 : A (kk, n) = some (x, .inr (ci, fsx))) : Met l y_AL_add3 (Cond.code y_AL_add3 b_AL_add3 4 none :: TT) ({ frames := 5, cells := 1, slots := 240, locals := 127 }) (va_Pc [.ref h, .ref x, .ref q, .int (nI n)] (gI D [(cI, .int), (cZ, .boolean), (cO, .object "java/lang/Object"), (cL, .long)] b e0 A)) (va_Qv (fun A2 : gW => rAL cO e0 A2 w kk ci h (n + 1) (va_up ad n x) ∧ gF [1, 2, 12] w A A2) (fun A2 t => gP D classes b A2 t.heap) (fun q => b ≤ q)) 1 240 (fun q => b ≤ q) := by
  refine Met.ofG (own := R_AL) (by decide +kernel) rfl (Nat.le_of_ble_eq_true rfl) ?_
  intro p e s m below meth c ls hx hb hr hlk hml hown hnm hts hI hl
  have hl : lv_has ls 4 [(0, .ref h), (1, .ref x), (2, .ref q), (3, .int (nI n))] := hl
  have hS : gS b s.heap s.heap [] := va_S.rf
  obtain ⟨hP, hK⟩ := hI
  rcases hq with ⟨h0, hq0⟩ | ⟨fA, hc2, hnc, hc3, hfi⟩
  · skip
    have fE2 : A (3, 0) = some (q, .inl (cO, 0, .inr (.inr (.inr (.inr fun _ => none))))) := by rw [hq0]; exact fE
    refine lv_iload_n hx hb d_AL_add3_0 rfl (lv_at hl 3 rfl) ?_
    refine lv_aload_n hx hb d_AL_add3_1 rfl (lv_at hl 2 rfl) ?_
    refine g_alen (v := nI (0)) hx hb hK.1 hP 2 fE2 rfl rfl d_AL_add3_2 ?_
    refine lv_icmp_ne (tgt := 11) hx hb d_AL_add3_3 (by decide) (fun h9 => absurd h9 (fun z => z (by rw [h0]))) (fun _ => ?_)
    refine lv_aload_n hx hb d_AL_add3_6 rfl (lv_at hl 0 rfl) ?_
    refine g_cr (B := fun A2 r H => gP D classes b A2 H ∧ A2 (1, w) = some (h, .inr (4, [.int mo, .ref r, .int (nI n)])) ∧ (∃ (cap2 : Nat) (f2 : Nat → Option Nat), A2 (2, w) = some (r, .inl (cO, cap2, .inr (.inr (.inr (.inr f2))))) ∧ n < cap2 ∧ 2 ≤ cap2 ∧ cap2 ≤ 240 ∧ ∀ i, i < n → f2 i = some (ad i)) ∧ gF [1, 2, 12] w A A2) (g_runV (As := []) (rest := []) ⟨hx, hb, hml, hown, hts⟩ (c_AL_grow l (f := f) (ad := ad) (kk := kk) (ci := ci) fL (Or.inl ⟨h0, hq0⟩) fE hel hn hkk hci) st_AL_grow k_169 ⟨rfl, rfl, by decide, by decide⟩ rfl (gI.preV hK hS hP fL rfl _) rfl hl.1 rfl (Nat.le_of_ble_eq_true rfl) d_AL_add3_7 ⟨by decide, by decide⟩) hS (fun A2 r H locs _ hp3 hS => ?_)
    obtain ⟨hP, fL2, ⟨cap2, f2, fA2, hc1, hcc, hc4, hf2⟩, gN1⟩ := hp3
    refine W.widen (k := 1) (n := 240) (by decide) (by decide) ?_
    have fX : A2 (kk, n) = some (x, .inr (ci, fsx)) := (gN1 (kk, n) (fun z => by simp at z; omega)).trans hx0
    refine lv_astore_n (lv' := [(2, .ref r), (0, .ref h), (1, .ref x), (3, .int (nI n))]) hx hb d_AL_add3_10 rfl hl (by decide) rfl (fun ls hl => ?_)
    refine lv_aload_n hx hb d_AL_add3_11 rfl (lv_at hl 0 rfl) ?_
    refine lv_iload_n hx hb d_AL_add3_12 rfl (lv_at hl 3 rfl) ?_
    refine lv_aload_n hx hb d_AL_add3_13 rfl (lv_at hl 2 rfl) ?_
    refine g_aast (k := n) hx hb hK.1 hP hS 2 fA2 rfl (g_any hK hP fX hci)  (vp_in_nI (show n < cap2 by omega) (by omega)) (nI_clamp (show n < 2 ^ 31 by omega)) d_AL_add3_14 (fun H locs hP hS => ?_)
    obtain ⟨A4, eA4⟩ : ∃ z, z = gU A2 (2, w) (r, .inl (cO, cap2, .inr (.inr (.inr (.inr (va_up f2 (n) (some x))))))) := ⟨_, rfl⟩
    replace hP : gP D classes b A4 H := by rw [eA4]; exact hP
    have f5 : A4 (1, w) = some (h, .inr (4, [.int mo, .ref r, .int (nI n)])) := (by rw [eA4]; exact gU_n (gne (show (1 : Nat) ≠ 2 by decide)) : A4 (1, w) = A2 (1, w)).trans fL2
    have f6 : A4 (2, w) = some (r, .inl (cO, cap2, .inr (.inr (.inr (.inr (va_up f2 (n) (some x))))))) := by rw [eA4]; exact gU_s
    have gA4 : gF [1, 2, 12] w A A4 := by rw [eA4]; exact gF_U gN1 (by decide)
    refine lv_aload_n hx hb d_AL_add3_15 rfl (lv_at hl 1 rfl) ?_
    refine lv_iload_n hx hb d_AL_add3_16 rfl (lv_at hl 3 rfl) ?_
    refine lv_iconst (v := 1) hx hb d_AL_add3_17 (by decide) ?_
    refine lv_iadd hx hb d_AL_add3_18 ?_
    refine g_put (ty := .int) (v := .int ((nI n) + 1)) hx hb hts i_AL t_AL t_AL_ok n_AL hown hK.1 hP hS f5 rfl 2 (by decide) (hts _ k_38) (fun _ h9 => h9) rfl (by decide +kernel) rfl rfl (Nat.le_of_ble_eq_true rfl) d_AL_add3_19 (fun H locs hP hS => ?_)
    obtain ⟨A7, eA7⟩ : ∃ z, z = gU A4 (1, w) (h, .inr (4, [.int mo, .ref r, .int ((nI n) + 1)])) := ⟨_, rfl⟩
    replace hP : gP D classes b A7 H := by rw [eA7]; exact hP
    have f8 : A7 (2, w) = some (r, .inl (cO, cap2, .inr (.inr (.inr (.inr (va_up f2 (n) (some x))))))) := (by rw [eA7]; exact gU_n (gne (show (2 : Nat) ≠ 1 by decide)) : A7 (2, w) = A4 (2, w)).trans f6
    have f9 : A7 (1, w) = some (h, .inr (4, [.int mo, .ref r, .int ((nI n) + 1)])) := by rw [eA7]; exact gU_s
    have gA7 : gF [1, 2, 12] w A A7 := by rw [eA7]; exact gF_U gA4 (by decide)
    refine W.widen (k := 1) (n := 240) (by decide) (by decide) ?_
    exact W.vret hx hb hr (fun t ht _ => ⟨⟨A7, rfl, ⟨rAL.snoc (f := f2) f9 f8 hc1 hcc hc4 hf2 ((gA7.at (n := 3) (j := 0) (by decide)).trans fE) (fun i hi => (hel i hi).elim fun fs h => ⟨fs, (gA7 (kk, i) (fun z => by simp at z; omega)).trans h⟩) ((gA7 (kk, n) (fun z => by simp at z; omega)).trans hx0), gA7⟩, show gP D classes b A7 t.heap by rw [ht]; exact hP⟩, hS.F ht⟩) hS.2.2 d_AL_add3_22
  · by_cases hfull : n = cap
    · subst hfull
      refine lv_iload_n hx hb d_AL_add3_0 rfl (lv_at hl 3 rfl) ?_
      refine lv_aload_n hx hb d_AL_add3_1 rfl (lv_at hl 2 rfl) ?_
      refine g_alen (v := nI (n)) hx hb hK.1 hP 2 fA rfl rfl d_AL_add3_2 ?_
      refine lv_icmp_ne (tgt := 11) hx hb d_AL_add3_3 (by decide) (fun h9 => absurd h9 (fun z => z rfl)) (fun _ => ?_)
      refine lv_aload_n hx hb d_AL_add3_6 rfl (lv_at hl 0 rfl) ?_
      refine g_cr (B := fun A2 r H => gP D classes b A2 H ∧ A2 (1, w) = some (h, .inr (4, [.int mo, .ref r, .int (nI n)])) ∧ (∃ (cap2 : Nat) (f2 : Nat → Option Nat), A2 (2, w) = some (r, .inl (cO, cap2, .inr (.inr (.inr (.inr f2))))) ∧ n < cap2 ∧ 2 ≤ cap2 ∧ cap2 ≤ 240 ∧ ∀ i, i < n → f2 i = some (ad i)) ∧ gF [1, 2, 12] w A A2) (g_runV (As := []) (rest := []) ⟨hx, hb, hml, hown, hts⟩ (c_AL_grow l (f := f) fL (Or.inr ⟨fA, hc2, hfi⟩) fE hel hn hkk hci) st_AL_grow k_169 ⟨rfl, rfl, by decide, by decide⟩ rfl (gI.preV hK hS hP fL rfl _) rfl hl.1 rfl (Nat.le_of_ble_eq_true rfl) d_AL_add3_7 ⟨by decide, by decide⟩) hS (fun A11 r H locs _ hp12 hS => ?_)
      obtain ⟨hP, fL2, ⟨cap2, f2, fA2, hc1, hcc, hc4, hf2⟩, gN1⟩ := hp12
      refine W.widen (k := 1) (n := 240) (by decide) (by decide) ?_
      have fX : A11 (kk, n) = some (x, .inr (ci, fsx)) := (gN1 (kk, n) (fun z => by simp at z; omega)).trans hx0
      refine lv_astore_n (lv' := [(2, .ref r), (0, .ref h), (1, .ref x), (3, .int (nI n))]) hx hb d_AL_add3_10 rfl hl (by decide) rfl (fun ls hl => ?_)
      refine lv_aload_n hx hb d_AL_add3_11 rfl (lv_at hl 0 rfl) ?_
      refine lv_iload_n hx hb d_AL_add3_12 rfl (lv_at hl 3 rfl) ?_
      refine lv_aload_n hx hb d_AL_add3_13 rfl (lv_at hl 2 rfl) ?_
      refine g_aast (k := n) hx hb hK.1 hP hS 2 fA2 rfl (g_any hK hP fX hci)  (vp_in_nI (show n < cap2 by omega) (by omega)) (nI_clamp (show n < 2 ^ 31 by omega)) d_AL_add3_14 (fun H locs hP hS => ?_)
      obtain ⟨A13, eA13⟩ : ∃ z, z = gU A11 (2, w) (r, .inl (cO, cap2, .inr (.inr (.inr (.inr (va_up f2 (n) (some x))))))) := ⟨_, rfl⟩
      replace hP : gP D classes b A13 H := by rw [eA13]; exact hP
      have f14 : A13 (1, w) = some (h, .inr (4, [.int mo, .ref r, .int (nI n)])) := (by rw [eA13]; exact gU_n (gne (show (1 : Nat) ≠ 2 by decide)) : A13 (1, w) = A11 (1, w)).trans fL2
      have f15 : A13 (2, w) = some (r, .inl (cO, cap2, .inr (.inr (.inr (.inr (va_up f2 (n) (some x))))))) := by rw [eA13]; exact gU_s
      have gA13 : gF [1, 2, 12] w A A13 := by rw [eA13]; exact gF_U gN1 (by decide)
      refine lv_aload_n hx hb d_AL_add3_15 rfl (lv_at hl 1 rfl) ?_
      refine lv_iload_n hx hb d_AL_add3_16 rfl (lv_at hl 3 rfl) ?_
      refine lv_iconst (v := 1) hx hb d_AL_add3_17 (by decide) ?_
      refine lv_iadd hx hb d_AL_add3_18 ?_
      refine g_put (ty := .int) (v := .int ((nI n) + 1)) hx hb hts i_AL t_AL t_AL_ok n_AL hown hK.1 hP hS f14 rfl 2 (by decide) (hts _ k_38) (fun _ h9 => h9) rfl (by decide +kernel) rfl rfl (Nat.le_of_ble_eq_true rfl) d_AL_add3_19 (fun H locs hP hS => ?_)
      obtain ⟨A16, eA16⟩ : ∃ z, z = gU A13 (1, w) (h, .inr (4, [.int mo, .ref r, .int ((nI n) + 1)])) := ⟨_, rfl⟩
      replace hP : gP D classes b A16 H := by rw [eA16]; exact hP
      have f17 : A16 (2, w) = some (r, .inl (cO, cap2, .inr (.inr (.inr (.inr (va_up f2 (n) (some x))))))) := (by rw [eA16]; exact gU_n (gne (show (2 : Nat) ≠ 1 by decide)) : A16 (2, w) = A13 (2, w)).trans f15
      have f18 : A16 (1, w) = some (h, .inr (4, [.int mo, .ref r, .int ((nI n) + 1)])) := by rw [eA16]; exact gU_s
      have gA16 : gF [1, 2, 12] w A A16 := by rw [eA16]; exact gF_U gA13 (by decide)
      refine W.widen (k := 1) (n := 240) (by decide) (by decide) ?_
      exact W.vret hx hb hr (fun t ht _ => ⟨⟨A16, rfl, ⟨rAL.snoc (f := f2) f18 f17 hc1 hcc hc4 hf2 ((gA16.at (n := 3) (j := 0) (by decide)).trans fE) (fun i hi => (hel i hi).elim fun fs h => ⟨fs, (gA16 (kk, i) (fun z => by simp at z; omega)).trans h⟩) ((gA16 (kk, n) (fun z => by simp at z; omega)).trans hx0), gA16⟩, show gP D classes b A16 t.heap by rw [ht]; exact hP⟩, hS.F ht⟩) hS.2.2 d_AL_add3_22
    · skip
      refine lv_iload_n hx hb d_AL_add3_0 rfl (lv_at hl 3 rfl) ?_
      refine lv_aload_n hx hb d_AL_add3_1 rfl (lv_at hl 2 rfl) ?_
      refine g_alen (v := nI (cap)) hx hb hK.1 hP 2 fA rfl rfl d_AL_add3_2 ?_
      refine lv_icmp_ne (tgt := 11) hx hb d_AL_add3_3 (by decide) (fun _ => ?_) (fun h9 => absurd h9 (fun z => hfull ((nI_eq (by omega) (by omega)).mp z)))
      refine lv_aload_n hx hb d_AL_add3_11 rfl (lv_at hl 2 rfl) ?_
      refine lv_iload_n hx hb d_AL_add3_12 rfl (lv_at hl 3 rfl) ?_
      refine lv_aload_n hx hb d_AL_add3_13 rfl (lv_at hl 1 rfl) ?_
      refine g_aast (k := n) hx hb hK.1 hP hS 2 fA rfl (g_any hK hP hx0 hci)  (vp_in_nI (show n < cap by omega) (by omega)) (nI_clamp (show n < 2 ^ 31 by omega)) d_AL_add3_14 (fun H locs hP hS => ?_)
      obtain ⟨A20, eA20⟩ : ∃ z, z = gU A (2, w) (q, .inl (cO, cap, .inr (.inr (.inr (.inr (va_up f (n) (some x))))))) := ⟨_, rfl⟩
      replace hP : gP D classes b A20 H := by rw [eA20]; exact hP
      have f21 : A20 (1, w) = some (h, .inr (4, [.int mo, .ref q, .int (nI n)])) := (by rw [eA20]; exact gU_n (gne (show (1 : Nat) ≠ 2 by decide)) : A20 (1, w) = A (1, w)).trans fL
      have f22 : A20 (2, w) = some (q, .inl (cO, cap, .inr (.inr (.inr (.inr (va_up f (n) (some x))))))) := by rw [eA20]; exact gU_s
      have gA20 : gF [1, 2, 12] w A A20 := by rw [eA20]; exact gF_U gF.rf (by decide)
      refine lv_aload_n hx hb d_AL_add3_15 rfl (lv_at hl 0 rfl) ?_
      refine lv_iload_n hx hb d_AL_add3_16 rfl (lv_at hl 3 rfl) ?_
      refine lv_iconst (v := 1) hx hb d_AL_add3_17 (by decide) ?_
      refine lv_iadd hx hb d_AL_add3_18 ?_
      refine g_put (ty := .int) (v := .int ((nI n) + 1)) hx hb hts i_AL t_AL t_AL_ok n_AL hown hK.1 hP hS f21 rfl 2 (by decide) (hts _ k_38) (fun _ h9 => h9) rfl (by decide +kernel) rfl rfl (Nat.le_of_ble_eq_true rfl) d_AL_add3_19 (fun H locs hP hS => ?_)
      obtain ⟨A23, eA23⟩ : ∃ z, z = gU A20 (1, w) (h, .inr (4, [.int mo, .ref q, .int ((nI n) + 1)])) := ⟨_, rfl⟩
      replace hP : gP D classes b A23 H := by rw [eA23]; exact hP
      have f24 : A23 (2, w) = some (q, .inl (cO, cap, .inr (.inr (.inr (.inr (va_up f (n) (some x))))))) := (by rw [eA23]; exact gU_n (gne (show (2 : Nat) ≠ 1 by decide)) : A23 (2, w) = A20 (2, w)).trans f22
      have f25 : A23 (1, w) = some (h, .inr (4, [.int mo, .ref q, .int ((nI n) + 1)])) := by rw [eA23]; exact gU_s
      have gA23 : gF [1, 2, 12] w A A23 := by rw [eA23]; exact gF_U gA20 (by decide)
      refine W.widen (k := 1) (n := 240) (by decide) (by decide) ?_
      exact W.vret hx hb hr (fun t ht _ => ⟨⟨A23, rfl, ⟨rAL.snoc (f := f) f25 f24 (by omega) hc2 hc3 hfi ((gA23.at (n := 3) (j := 0) (by decide)).trans fE) (fun i hi => (hel i hi).elim fun fs h => ⟨fs, (gA23 (kk, i) (fun z => by simp at z; omega)).trans h⟩) ((gA23 (kk, n) (fun z => by simp at z; omega)).trans hx0), gA23⟩, show gP D classes b A23 t.heap by rw [ht]; exact hP⟩, hS.F ht⟩) hS.2.2 d_AL_add3_22
