set_option maxHeartbeats 4000000 in
set_option maxRecDepth 100000 in
theorem c_MM_matcher (l : Launch) {D : va_G} {cI cZ cO cL : ClassId} {b e0 : Nat} {A : gW} {h : Nat} {σ : Bk} (hB : rMo cI cZ cL A h σ) (hw : wf σ) (k v : Int32) : Met l y_MM_matcher (Cond.code y_MM_matcher b_MM_matcher 3 (some .int) :: TT) ({ frames := 0, cells := 0, slots := 0, locals := 0 }) (va_Pc [.ref h, .int k, .int v] (gI D [(cI, .int), (cZ, .boolean), (cO, .object "java/lang/Object"), (cL, .long)] b e0 A)) (va_Qi (fun (z : Int32) (A2 : gW) => z = (sMatcher σ k v).2 ∧ rMo cI cZ cL A2 h (sMatcher σ k v).1 ∧ gL A A2) (fun A2 t => gP D classes b A2 t.heap) (fun q => b ≤ q)) 0 0 (fun q => b ≤ q) := by
  refine Met.ofG (own := R_MM) (by decide +kernel) rfl (Nat.le_of_ble_eq_true rfl) ?_
  intro p e s m below meth c ls hx hb hr hlk hml hown hnm hts hI hl
  have hl : lv_has ls 3 [(0, .ref h), (1, .int k), (2, .int v)] := hl
  have hS : gS b s.heap s.heap [] := va_S.rf
  obtain ⟨hP, hK⟩ := hI
  obtain ⟨ad, F, G, hM, hR⟩ := id hB
  obtain ⟨hb0, hru, hrz, hst, hit, hiz, hgn⟩ := id hR
  obtain ⟨w1, w2, w3, w4, w5, w6, w7, w8⟩ := id hw
  refine lv_iload_n hx hb d_MM_matcher_0 rfl (lv_at hl 1 rfl) ?_
  refine lv_if_lt (tgt := 9) hx hb d_MM_matcher_1 (by decide) (fun c1 => ?_) (fun c1 => ?_)
  · skip
    refine lv_iconst (v := (-1)) hx hb d_MM_matcher_9 (by decide) ?_
    have e9 : sMatcher σ k v = (σ, -1) := by simp_all [sMatcher, inR, ← Int32.not_lt]
    refine W.widen (k := 0) (n := 0) (by decide) (by decide) ?_
    exact W.iret hx hb hr (fun t ht _ => ⟨⟨_, A, rfl, ⟨by rw [e9], by rw [e9]; exact hB, gL.rf⟩, show gP D classes b A t.heap by rw [ht]; exact hP⟩, hS.F ht⟩) hS.2.2 d_MM_matcher_10
  · skip
    refine lv_iload_n hx hb d_MM_matcher_4 rfl (lv_at hl 1 rfl) ?_
    refine lv_iconst (v := 5) hx hb d_MM_matcher_5 (by decide) ?_
    refine lv_icmp_le (tgt := 11) hx hb d_MM_matcher_6 (by decide) (fun c2 => ?_) (fun c2 => ?_)
    · skip
      refine lv_aload_n hx hb d_MM_matcher_11 rfl (lv_at hl 0 rfl) ?_
      refine g_get hx hb hts i_MM hown hK.1 hP (show A (20, 0) = some (h, .inr (5, [.ref (ad 0), .ref (ad 1), .int (nI ((kBu σ).length)), .ref (ad 3), .ref (ad 4), .ref (ad 5), .ref (ad 6), .ref (ad 7), .ref (ad 8), .ref (ad 9), .ref (ad 10), .int (nI ((kRs σ).length)), .ref (ad 12), .ref (ad 13), .ref (ad 14), .ref (ad 15), .ref (ad 16), .ref (ad 17), .ref (ad 18), .ref (ad 19), .ref (ad 20), .ref (ad 21), .int (nI ((kIs σ).length)), .int (nI (kMk σ) - 1)])) from hM.1) rfl 2 (by decide) (hts _ k_445) (fun _ h9 => h9) rfl d_MM_matcher_12 ?_
      refine lv_iconst (v := 3) hx hb d_MM_matcher_15 (by decide) ?_
      refine lv_icmp_ne (tgt := 22) hx hb d_MM_matcher_16 (by decide) (fun c3 => ?_) (fun c3 => ?_)
      · skip
        replace c3 : ¬ (kBu σ).length = 3 := fun q => c3 ((nI_eq (a := (kBu σ).length) (b := 3) (by omega) (by decide)).mpr q)
        refine lv_aload_n hx hb d_MM_matcher_22 rfl (lv_at hl 0 rfl) ?_
        refine g_get hx hb hts i_MM hown hK.1 hP (show A (20, 0) = some (h, .inr (5, [.ref (ad 0), .ref (ad 1), .int (nI ((kBu σ).length)), .ref (ad 3), .ref (ad 4), .ref (ad 5), .ref (ad 6), .ref (ad 7), .ref (ad 8), .ref (ad 9), .ref (ad 10), .int (nI ((kRs σ).length)), .ref (ad 12), .ref (ad 13), .ref (ad 14), .ref (ad 15), .ref (ad 16), .ref (ad 17), .ref (ad 18), .ref (ad 19), .ref (ad 20), .ref (ad 21), .int (nI ((kIs σ).length)), .int (nI (kMk σ) - 1)])) from hM.1) rfl 0 (by decide) (hts _ k_443) (fun _ h9 => h9) rfl d_MM_matcher_23 ?_
        refine lv_aload_n hx hb d_MM_matcher_26 rfl (lv_at hl 0 rfl) ?_
        refine g_get hx hb hts i_MM hown hK.1 hP (show A (20, 0) = some (h, .inr (5, [.ref (ad 0), .ref (ad 1), .int (nI ((kBu σ).length)), .ref (ad 3), .ref (ad 4), .ref (ad 5), .ref (ad 6), .ref (ad 7), .ref (ad 8), .ref (ad 9), .ref (ad 10), .int (nI ((kRs σ).length)), .ref (ad 12), .ref (ad 13), .ref (ad 14), .ref (ad 15), .ref (ad 16), .ref (ad 17), .ref (ad 18), .ref (ad 19), .ref (ad 20), .ref (ad 21), .int (nI ((kIs σ).length)), .int (nI (kMk σ) - 1)])) from hM.1) rfl 2 (by decide) (hts _ k_445) (fun _ h9 => h9) rfl d_MM_matcher_27 ?_
        refine lv_iload_n hx hb d_MM_matcher_30 rfl (lv_at hl 1 rfl) ?_
        refine g_iast (k := (kBu σ).length) hx hb hK.1 hP hS 0 (show A (21, 0) = some (ad 0, .inl (cI, 3, .inl (F 0))) from hM.2.1 0 rfl) rfl (vp_in_nI (show (kBu σ).length < 3 by omega) (by omega)) (nI_clamp (show (kBu σ).length < 2 ^ 31 by omega)) d_MM_matcher_31 (fun H locs hP hS => ?_)
        obtain ⟨A4, eA4⟩ : ∃ z, z = gU A (21, 0) (ad 0, .inl (cI, 3, .inl (upd (F 0) ((kBu σ).length) (k)))) := ⟨_, rfl⟩
        replace hP : gP D classes b A4 H := by rw [eA4]; exact hP
        have hM5 : rMM cI cZ cL A4 h ad (va_up F 0 (upd (F 0) ((kBu σ).length) (k))) G ((kBu σ).length) ((kRs σ).length) ((kIs σ).length) (kMk σ) := by rw [eA4]; exact hM.put 0 rfl _
        have glA4 : gL A A4 := by rw [eA4]; exact gL.rf.U (by decide)
        refine lv_aload_n hx hb d_MM_matcher_32 rfl (lv_at hl 0 rfl) ?_
        refine g_get hx hb hts i_MM hown hK.1 hP (show A4 (20, 0) = some (h, .inr (5, [.ref (ad 0), .ref (ad 1), .int (nI ((kBu σ).length)), .ref (ad 3), .ref (ad 4), .ref (ad 5), .ref (ad 6), .ref (ad 7), .ref (ad 8), .ref (ad 9), .ref (ad 10), .int (nI ((kRs σ).length)), .ref (ad 12), .ref (ad 13), .ref (ad 14), .ref (ad 15), .ref (ad 16), .ref (ad 17), .ref (ad 18), .ref (ad 19), .ref (ad 20), .ref (ad 21), .int (nI ((kIs σ).length)), .int (nI (kMk σ) - 1)])) from hM5.1) rfl 1 (by decide) (hts _ k_444) (fun _ h9 => h9) rfl d_MM_matcher_33 ?_
        refine lv_aload_n hx hb d_MM_matcher_36 rfl (lv_at hl 0 rfl) ?_
        refine g_get hx hb hts i_MM hown hK.1 hP (show A4 (20, 0) = some (h, .inr (5, [.ref (ad 0), .ref (ad 1), .int (nI ((kBu σ).length)), .ref (ad 3), .ref (ad 4), .ref (ad 5), .ref (ad 6), .ref (ad 7), .ref (ad 8), .ref (ad 9), .ref (ad 10), .int (nI ((kRs σ).length)), .ref (ad 12), .ref (ad 13), .ref (ad 14), .ref (ad 15), .ref (ad 16), .ref (ad 17), .ref (ad 18), .ref (ad 19), .ref (ad 20), .ref (ad 21), .int (nI ((kIs σ).length)), .int (nI (kMk σ) - 1)])) from hM5.1) rfl 2 (by decide) (hts _ k_445) (fun _ h9 => h9) rfl d_MM_matcher_37 ?_
        refine lv_iload_n hx hb d_MM_matcher_40 rfl (lv_at hl 2 rfl) ?_
        refine g_iast (k := (kBu σ).length) hx hb hK.1 hP hS 0 (show A4 (22, 0) = some (ad 1, .inl (cI, 3, .inl (F 1))) from hM5.2.1 1 rfl) rfl (vp_in_nI (show (kBu σ).length < 3 by omega) (by omega)) (nI_clamp (show (kBu σ).length < 2 ^ 31 by omega)) d_MM_matcher_41 (fun H locs hP hS => ?_)
        obtain ⟨A6, eA6⟩ : ∃ z, z = gU A4 (22, 0) (ad 1, .inl (cI, 3, .inl (upd (F 1) ((kBu σ).length) (v)))) := ⟨_, rfl⟩
        replace hP : gP D classes b A6 H := by rw [eA6]; exact hP
        have hM7 : rMM cI cZ cL A6 h ad (va_up (va_up F 0 (upd (F 0) ((kBu σ).length) (k))) 1 (upd (F 1) ((kBu σ).length) (v))) G ((kBu σ).length) ((kRs σ).length) ((kIs σ).length) (kMk σ) := by rw [eA6]; exact hM5.put 1 rfl _
        have glA6 : gL A A6 := by rw [eA6]; exact glA4.U (by decide)
        refine lv_aload_n hx hb d_MM_matcher_42 rfl (lv_at hl 0 rfl) ?_
        refine lv_dup hx hb d_MM_matcher_43 rfl ?_
        refine g_get hx hb hts i_MM hown hK.1 hP (show A6 (20, 0) = some (h, .inr (5, [.ref (ad 0), .ref (ad 1), .int (nI ((kBu σ).length)), .ref (ad 3), .ref (ad 4), .ref (ad 5), .ref (ad 6), .ref (ad 7), .ref (ad 8), .ref (ad 9), .ref (ad 10), .int (nI ((kRs σ).length)), .ref (ad 12), .ref (ad 13), .ref (ad 14), .ref (ad 15), .ref (ad 16), .ref (ad 17), .ref (ad 18), .ref (ad 19), .ref (ad 20), .ref (ad 21), .int (nI ((kIs σ).length)), .int (nI (kMk σ) - 1)])) from hM7.1) rfl 2 (by decide) (hts _ k_445) (fun _ h9 => h9) rfl d_MM_matcher_44 ?_
        refine lv_iconst (v := 1) hx hb d_MM_matcher_47 (by decide) ?_
        refine lv_iadd hx hb d_MM_matcher_48 ?_
        rw [nI_1 _]
        refine g_put (ty := .int) (v := .int (nI ((kBu σ).length + 1))) hx hb hts i_MM t_MM t_MM_ok n_MM hown hK.1 hP hS (show A6 (20, 0) = some (h, .inr (5, [.ref (ad 0), .ref (ad 1), .int (nI ((kBu σ).length)), .ref (ad 3), .ref (ad 4), .ref (ad 5), .ref (ad 6), .ref (ad 7), .ref (ad 8), .ref (ad 9), .ref (ad 10), .int (nI ((kRs σ).length)), .ref (ad 12), .ref (ad 13), .ref (ad 14), .ref (ad 15), .ref (ad 16), .ref (ad 17), .ref (ad 18), .ref (ad 19), .ref (ad 20), .ref (ad 21), .int (nI ((kIs σ).length)), .int (nI (kMk σ) - 1)])) from hM7.1) rfl 2 (by decide) (hts _ k_445) (fun _ h9 => h9) rfl (by decide +kernel) rfl rfl (Nat.le_of_ble_eq_true rfl) d_MM_matcher_49 (fun H locs hP hS => ?_)
        obtain ⟨A8, eA8⟩ : ∃ z, z = gU A6 (20, 0) (h, .inr (5, [.ref (ad 0), .ref (ad 1), .int (nI ((kBu σ).length + 1)), .ref (ad 3), .ref (ad 4), .ref (ad 5), .ref (ad 6), .ref (ad 7), .ref (ad 8), .ref (ad 9), .ref (ad 10), .int (nI ((kRs σ).length)), .ref (ad 12), .ref (ad 13), .ref (ad 14), .ref (ad 15), .ref (ad 16), .ref (ad 17), .ref (ad 18), .ref (ad 19), .ref (ad 20), .ref (ad 21), .int (nI ((kIs σ).length)), .int (nI (kMk σ) - 1)])) := ⟨_, rfl⟩
        replace hP : gP D classes b A8 H := by rw [eA8]; exact hP
        have hM9 : rMM cI cZ cL A8 h ad (va_up (va_up F 0 (upd (F 0) ((kBu σ).length) (k))) 1 (upd (F 1) ((kBu σ).length) (v))) G ((kBu σ).length + 1) ((kRs σ).length) ((kIs σ).length) ((kMk σ)) := by rw [eA8]; exact hM7.obj
        have glA8 : gL A A8 := by rw [eA8]; exact glA6.U (by decide)
        refine lv_aload_n hx hb d_MM_matcher_52 rfl (lv_at hl 0 rfl) ?_
        refine g_get hx hb hts i_MM hown hK.1 hP (show A8 (20, 0) = some (h, .inr (5, [.ref (ad 0), .ref (ad 1), .int (nI ((kBu σ).length + 1)), .ref (ad 3), .ref (ad 4), .ref (ad 5), .ref (ad 6), .ref (ad 7), .ref (ad 8), .ref (ad 9), .ref (ad 10), .int (nI ((kRs σ).length)), .ref (ad 12), .ref (ad 13), .ref (ad 14), .ref (ad 15), .ref (ad 16), .ref (ad 17), .ref (ad 18), .ref (ad 19), .ref (ad 20), .ref (ad 21), .int (nI ((kIs σ).length)), .int (nI ((kMk σ)) - 1)])) from hM9.1) rfl 2 (by decide) (hts _ k_445) (fun _ h9 => h9) rfl d_MM_matcher_53 ?_
        have e9 : sMatcher σ k v = ((kRs σ, kIs σ, kSt σ, kBu σ ++ [(k, v)], kMk σ), nI ((kBu σ).length + 1)) := by unfold sMatcher; rw [if_pos (by simp_all [inR, ← Int32.not_lt]), if_neg (by omega), len1, nI_1]
        refine W.widen (k := 0) (n := 0) (by decide) (by decide) ?_
        exact W.iret hx hb hr (fun t ht _ => ⟨⟨_, A8, rfl, ⟨by rw [e9], by rw [e9]; exact ⟨ad, (va_up (va_up F 0 (upd (F 0) ((kBu σ).length) (k))) 1 (upd (F 1) ((kBu σ).length) (v))), G, (by rw [show (kBu σ ++ [(k, v)]).length = (kBu σ).length + 1 by simp]; exact hM9), hR.mat⟩, glA8⟩, show gP D classes b A8 t.heap by rw [ht]; exact hP⟩, hS.F ht⟩) hS.2.2 d_MM_matcher_56
      · skip
        replace c3 : (kBu σ).length = 3 := (nI_eq (a := (kBu σ).length) (b := 3) (by omega) (by decide)).mp c3
        refine lv_bipush (v := (-2)) hx hb d_MM_matcher_19 (by decide) ?_
        have e9 : sMatcher σ k v = (σ, -2) := by unfold sMatcher; rw [if_pos (by simp_all [inR, ← Int32.not_lt]), if_pos (by omega)]
        refine W.widen (k := 0) (n := 0) (by decide) (by decide) ?_
        exact W.iret hx hb hr (fun t ht _ => ⟨⟨_, A, rfl, ⟨by rw [e9], by rw [e9]; exact hB, gL.rf⟩, show gP D classes b A t.heap by rw [ht]; exact hP⟩, hS.F ht⟩) hS.2.2 d_MM_matcher_21
    · skip
      refine lv_iconst (v := (-1)) hx hb d_MM_matcher_9 (by decide) ?_
      have e9 : sMatcher σ k v = (σ, -1) := by simp_all [sMatcher, inR, ← Int32.not_lt]
      refine W.widen (k := 0) (n := 0) (by decide) (by decide) ?_
      exact W.iret hx hb hr (fun t ht _ => ⟨⟨_, A, rfl, ⟨by rw [e9], by rw [e9]; exact hB, gL.rf⟩, show gP D classes b A t.heap by rw [ht]; exact hP⟩, hS.F ht⟩) hS.2.2 d_MM_matcher_10
set_option maxHeartbeats 4000000 in
set_option maxRecDepth 100000 in
theorem c_MM_drop (l : Launch) {D : va_G} {cI cZ cO cL : ClassId} {b e0 : Nat} {A : gW} {h : Nat} {σ : Bk} (hB : rMo cI cZ cL A h σ) (hw : wf σ)  : Met l y_MM_drop (Cond.code y_MM_drop b_MM_drop 1 none :: TT) ({ frames := 0, cells := 0, slots := 0, locals := 0 }) (va_Pc [.ref h] (gI D [(cI, .int), (cZ, .boolean), (cO, .object "java/lang/Object"), (cL, .long)] b e0 A)) (va_Qv (fun A2 : gW => rMo cI cZ cL A2 h (sDrop σ) ∧ gL A A2) (fun A2 t => gP D classes b A2 t.heap) (fun q => b ≤ q)) 0 0 (fun q => b ≤ q) := by
  refine Met.ofG (own := R_MM) (by decide +kernel) rfl (Nat.le_of_ble_eq_true rfl) ?_
  intro p e s m below meth c ls hx hb hr hlk hml hown hnm hts hI hl
  have hl : lv_has ls 1 [(0, .ref h)] := hl
  have hS : gS b s.heap s.heap [] := va_S.rf
  obtain ⟨hP, hK⟩ := hI
  obtain ⟨ad, F, G, hM, hR⟩ := id hB
  obtain ⟨hb0, hru, hrz, hst, hit, hiz, hgn⟩ := id hR
  obtain ⟨w1, w2, w3, w4, w5, w6, w7, w8⟩ := id hw
  refine lv_aload_n hx hb d_MM_drop_0 rfl (lv_at hl 0 rfl) ?_
  refine lv_iconst (v := 0) hx hb d_MM_drop_1 (by decide) ?_
  refine g_put (ty := .int) (v := .int 0) hx hb hts i_MM t_MM t_MM_ok n_MM hown hK.1 hP hS (show A (20, 0) = some (h, .inr (5, [.ref (ad 0), .ref (ad 1), .int (nI ((kBu σ).length)), .ref (ad 3), .ref (ad 4), .ref (ad 5), .ref (ad 6), .ref (ad 7), .ref (ad 8), .ref (ad 9), .ref (ad 10), .int (nI ((kRs σ).length)), .ref (ad 12), .ref (ad 13), .ref (ad 14), .ref (ad 15), .ref (ad 16), .ref (ad 17), .ref (ad 18), .ref (ad 19), .ref (ad 20), .ref (ad 21), .int (nI ((kIs σ).length)), .int (nI (kMk σ) - 1)])) from hM.1) rfl 2 (by decide) (hts _ k_445) (fun _ h9 => h9) rfl (by decide +kernel) rfl rfl (Nat.le_of_ble_eq_true rfl) d_MM_drop_2 (fun H locs hP hS => ?_)
  obtain ⟨A1, eA1⟩ : ∃ z, z = gU A (20, 0) (h, .inr (5, [.ref (ad 0), .ref (ad 1), .int 0, .ref (ad 3), .ref (ad 4), .ref (ad 5), .ref (ad 6), .ref (ad 7), .ref (ad 8), .ref (ad 9), .ref (ad 10), .int (nI ((kRs σ).length)), .ref (ad 12), .ref (ad 13), .ref (ad 14), .ref (ad 15), .ref (ad 16), .ref (ad 17), .ref (ad 18), .ref (ad 19), .ref (ad 20), .ref (ad 21), .int (nI ((kIs σ).length)), .int (nI (kMk σ) - 1)])) := ⟨_, rfl⟩
  replace hP : gP D classes b A1 H := by rw [eA1]; exact hP
  have hM2 : rMM cI cZ cL A1 h ad F G 0 ((kRs σ).length) ((kIs σ).length) ((kMk σ)) := by rw [eA1]; exact hM.obj
  have glA1 : gL A A1 := by rw [eA1]; exact gL.rf.U (by decide)
  refine W.widen (k := 0) (n := 0) (by decide) (by decide) ?_
  exact W.vret hx hb hr (fun t ht _ => ⟨⟨A1, rfl, ⟨⟨ad, F, G, hM2, hR.bu0⟩, glA1⟩, show gP D classes b A1 t.heap by rw [ht]; exact hP⟩, hS.F ht⟩) hS.2.2 d_MM_drop_5
set_option maxHeartbeats 4000000 in
set_option maxRecDepth 100000 in
theorem c_MM_rewind (l : Launch) {D : va_G} {cI cZ cO cL : ClassId} {b e0 : Nat} {A : gW} {h : Nat} {σ : Bk} (hB : rMo cI cZ cL A h σ) (hw : wf σ)  : Met l y_MM_rewind (Cond.code y_MM_rewind b_MM_rewind 2 (some .int) :: TT) ({ frames := 0, cells := 0, slots := 0, locals := 0 }) (va_Pc [.ref h] (gI D [(cI, .int), (cZ, .boolean), (cO, .object "java/lang/Object"), (cL, .long)] b e0 A)) (va_Qi (fun (z : Int32) (A2 : gW) => z = (sRewind σ).2 ∧ rMo cI cZ cL A2 h (sRewind σ).1 ∧ gL A A2) (fun A2 t => gP D classes b A2 t.heap) (fun q => b ≤ q)) 0 0 (fun q => b ≤ q) := by
  refine Met.ofG (own := R_MM) (by decide +kernel) rfl (Nat.le_of_ble_eq_true rfl) ?_
  intro p e s m below meth c ls hx hb hr hlk hml hown hnm hts hI hl
  have hl : lv_has ls 2 [(0, .ref h)] := hl
  have hS : gS b s.heap s.heap [] := va_S.rf
  obtain ⟨hP, hK⟩ := hI
  obtain ⟨ad, F, G, hM, hR⟩ := id hB
  obtain ⟨hb0, hru, hrz, hst, hit, hiz, hgn⟩ := id hR
  obtain ⟨w1, w2, w3, w4, w5, w6, w7, w8⟩ := id hw
  refine lv_aload_n hx hb d_MM_rewind_0 rfl (lv_at hl 0 rfl) ?_
  refine g_get hx hb hts i_MM hown hK.1 hP (show A (20, 0) = some (h, .inr (5, [.ref (ad 0), .ref (ad 1), .int (nI ((kBu σ).length)), .ref (ad 3), .ref (ad 4), .ref (ad 5), .ref (ad 6), .ref (ad 7), .ref (ad 8), .ref (ad 9), .ref (ad 10), .int (nI ((kRs σ).length)), .ref (ad 12), .ref (ad 13), .ref (ad 14), .ref (ad 15), .ref (ad 16), .ref (ad 17), .ref (ad 18), .ref (ad 19), .ref (ad 20), .ref (ad 21), .int (nI ((kIs σ).length)), .int (nI (kMk σ) - 1)])) from hM.1) rfl 23 (by decide) (hts _ k_466) (fun _ h9 => h9) rfl d_MM_rewind_1 ?_
  refine lv_istore_n (lv' := [(1, .int (nI (kMk σ) - 1)), (0, .ref h)]) hx hb d_MM_rewind_4 rfl hl (by decide) rfl (fun ls hl => ?_)
  refine lv_aload_n hx hb d_MM_rewind_5 rfl (lv_at hl 1 rfl) ?_
  refine lv_iconst (v := (-1)) hx hb d_MM_rewind_6 (by decide) ?_
  refine g_put (ty := .int) (v := .int (-1)) hx hb hts i_MM t_MM t_MM_ok n_MM hown hK.1 hP hS (show A (20, 0) = some (h, .inr (5, [.ref (ad 0), .ref (ad 1), .int (nI ((kBu σ).length)), .ref (ad 3), .ref (ad 4), .ref (ad 5), .ref (ad 6), .ref (ad 7), .ref (ad 8), .ref (ad 9), .ref (ad 10), .int (nI ((kRs σ).length)), .ref (ad 12), .ref (ad 13), .ref (ad 14), .ref (ad 15), .ref (ad 16), .ref (ad 17), .ref (ad 18), .ref (ad 19), .ref (ad 20), .ref (ad 21), .int (nI ((kIs σ).length)), .int (nI (kMk σ) - 1)])) from hM.1) rfl 23 (by decide) (hts _ k_466) (fun _ h9 => h9) rfl (by decide +kernel) rfl rfl (Nat.le_of_ble_eq_true rfl) d_MM_rewind_7 (fun H locs hP hS => ?_)
  obtain ⟨A1, eA1⟩ : ∃ z, z = gU A (20, 0) (h, .inr (5, [.ref (ad 0), .ref (ad 1), .int (nI ((kBu σ).length)), .ref (ad 3), .ref (ad 4), .ref (ad 5), .ref (ad 6), .ref (ad 7), .ref (ad 8), .ref (ad 9), .ref (ad 10), .int (nI ((kRs σ).length)), .ref (ad 12), .ref (ad 13), .ref (ad 14), .ref (ad 15), .ref (ad 16), .ref (ad 17), .ref (ad 18), .ref (ad 19), .ref (ad 20), .ref (ad 21), .int (nI ((kIs σ).length)), .int (-1)])) := ⟨_, rfl⟩
  replace hP : gP D classes b A1 H := by rw [eA1]; exact hP
  have hM2 : rMM cI cZ cL A1 h ad F G ((kBu σ).length) ((kRs σ).length) ((kIs σ).length) 0 := by rw [eA1, show (-1 : Int32) = nI 0 - 1 by decide]; exact hM.obj
  have glA1 : gL A A1 := by rw [eA1]; exact gL.rf.U (by decide)
  refine lv_iload_n hx hb d_MM_rewind_10 rfl (lv_at hl 0 rfl) ?_
  have e9 : sRewind σ = ((kRs σ, kIs σ, kSt σ, kBu σ, 0), nI (kMk σ) - 1) := by rfl
  refine W.widen (k := 0) (n := 0) (by decide) (by decide) ?_
  exact W.iret hx hb hr (fun t ht _ => ⟨⟨_, A1, rfl, ⟨by rw [e9], by rw [e9]; exact ⟨ad, F, G, hM2, hR⟩, glA1⟩, show gP D classes b A1 t.heap by rw [ht]; exact hP⟩, hS.F ht⟩) hS.2.2 d_MM_rewind_11
set_option maxHeartbeats 4000000 in
set_option maxRecDepth 100000 in
theorem c_MM_strict (l : Launch) {D : va_G} {cI cZ cO cL : ClassId} {b e0 : Nat} {A : gW} {h : Nat} {σ : Bk} (hB : rMo cI cZ cL A h σ) (hw : wf σ) (x : Int32) (on : Bool) : Met l y_MM_strict (Cond.code y_MM_strict b_MM_strict 4 (some .int) :: TT) ({ frames := 0, cells := 0, slots := 0, locals := 0 }) (va_Pc [.ref h, .int x, .int (bI on)] (gI D [(cI, .int), (cZ, .boolean), (cO, .object "java/lang/Object"), (cL, .long)] b e0 A)) (va_Qi (fun (z : Int32) (A2 : gW) => z = (sStrict σ x on).2 ∧ rMo cI cZ cL A2 h (sStrict σ x on).1 ∧ gL A A2) (fun A2 t => gP D classes b A2 t.heap) (fun q => b ≤ q)) 0 0 (fun q => b ≤ q) := by
  refine Met.ofG (own := R_MM) (by decide +kernel) rfl (Nat.le_of_ble_eq_true rfl) ?_
  intro p e s m below meth c ls hx hb hr hlk hml hown hnm hts hI hl
  have hl : lv_has ls 4 [(0, .ref h), (1, .int x), (2, .int (bI on))] := hl
  have hS : gS b s.heap s.heap [] := va_S.rf
  obtain ⟨hP, hK⟩ := hI
  obtain ⟨ad, F, G, hM, hR⟩ := id hB
  obtain ⟨hb0, hru, hrz, hst, hit, hiz, hgn⟩ := id hR
  obtain ⟨w1, w2, w3, w4, w5, w6, w7, w8⟩ := id hw
  refine lv_iload_n hx hb d_MM_strict_0 rfl (lv_at hl 1 rfl) ?_
  refine lv_if_lt (tgt := 9) hx hb d_MM_strict_1 (by decide) (fun c1 => ?_) (fun c1 => ?_)
  · skip
    refine lv_iconst (v := (-1)) hx hb d_MM_strict_9 (by decide) ?_
    have e9 : sStrict σ x on = (σ, -1) := by simp_all [sStrict, inR, ← Int32.not_lt]
    refine W.widen (k := 0) (n := 0) (by decide) (by decide) ?_
    exact W.iret hx hb hr (fun t ht _ => ⟨⟨_, A, rfl, ⟨by rw [e9], by rw [e9]; exact hB, gL.rf⟩, show gP D classes b A t.heap by rw [ht]; exact hP⟩, hS.F ht⟩) hS.2.2 d_MM_strict_10
  · skip
    refine lv_iload_n hx hb d_MM_strict_4 rfl (lv_at hl 1 rfl) ?_
    refine lv_iconst (v := 3) hx hb d_MM_strict_5 (by decide) ?_
    refine lv_icmp_le (tgt := 11) hx hb d_MM_strict_6 (by decide) (fun c2 => ?_) (fun c2 => ?_)
    · skip
      have hin0 : inR x 0 3 = true := by simp_all [inR, ← Int32.not_lt]
      obtain ⟨mk, hmk, rfl⟩ := inR_of (M := 3) (n := 3) (by decide) hin0
      have hcl := nI_clamp (show mk < 2 ^ 31 by omega)
      refine lv_aload_n hx hb d_MM_strict_11 rfl (lv_at hl 0 rfl) ?_
      refine g_get hx hb hts i_MM hown hK.1 hP (show A (20, 0) = some (h, .inr (5, [.ref (ad 0), .ref (ad 1), .int (nI ((kBu σ).length)), .ref (ad 3), .ref (ad 4), .ref (ad 5), .ref (ad 6), .ref (ad 7), .ref (ad 8), .ref (ad 9), .ref (ad 10), .int (nI ((kRs σ).length)), .ref (ad 12), .ref (ad 13), .ref (ad 14), .ref (ad 15), .ref (ad 16), .ref (ad 17), .ref (ad 18), .ref (ad 19), .ref (ad 20), .ref (ad 21), .int (nI ((kIs σ).length)), .int (nI (kMk σ) - 1)])) from hM.1) rfl 12 (by decide) (hts _ k_455) (fun _ h9 => h9) rfl d_MM_strict_12 ?_
      refine lv_iload_n hx hb d_MM_strict_15 rfl (lv_at hl 1 rfl) ?_
      refine g_zald (v := bI (kSt σ mk)) hx hb hK.1 hP 1 (show A (33, 0) = some (ad 12, .inl (cZ, 4, .inl (F 12))) from hM.2.1 12 rfl) rfl (vp_in_nI (show mk < 4 by omega) (by omega)) (by rw [(nI_clamp (show mk < 2 ^ 31 by omega))]; exact hst mk (by omega)) d_MM_strict_16 ?_
      refine lv_if_eq (tgt := 24) hx hb d_MM_strict_17 (by decide) (fun c3 => ?_) (fun c3 => ?_)
      · skip
        rw [bI_0] at c3
        refine lv_iconst (v := 0) hx hb d_MM_strict_24 (by decide) ?_
        refine lv_istore_n (lv' := [(3, .int 0), (0, .ref h), (1, .int (nI mk)), (2, .int (bI on))]) hx hb d_MM_strict_25 rfl hl (by decide) rfl (fun ls hl => ?_)
        refine lv_aload_n hx hb d_MM_strict_26 rfl (lv_at hl 1 rfl) ?_
        refine g_get hx hb hts i_MM hown hK.1 hP (show A (20, 0) = some (h, .inr (5, [.ref (ad 0), .ref (ad 1), .int (nI ((kBu σ).length)), .ref (ad 3), .ref (ad 4), .ref (ad 5), .ref (ad 6), .ref (ad 7), .ref (ad 8), .ref (ad 9), .ref (ad 10), .int (nI ((kRs σ).length)), .ref (ad 12), .ref (ad 13), .ref (ad 14), .ref (ad 15), .ref (ad 16), .ref (ad 17), .ref (ad 18), .ref (ad 19), .ref (ad 20), .ref (ad 21), .int (nI ((kIs σ).length)), .int (nI (kMk σ) - 1)])) from hM.1) rfl 12 (by decide) (hts _ k_455) (fun _ h9 => h9) rfl d_MM_strict_27 ?_
        refine lv_iload_n hx hb d_MM_strict_30 rfl (lv_at hl 2 rfl) ?_
        refine lv_iload_n hx hb d_MM_strict_31 rfl (lv_at hl 3 rfl) ?_
        refine g_zast (k := mk) hx hb hK.1 hP hS 1 (show A (33, 0) = some (ad 12, .inl (cZ, 4, .inl (F 12))) from hM.2.1 12 rfl) rfl (vp_in_nI (show mk < 4 by omega) (by omega)) (nI_clamp (show mk < 2 ^ 31 by omega)) (bI_nar _) d_MM_strict_32 (fun H locs hP hS => ?_)
        obtain ⟨A4, eA4⟩ : ∃ z, z = gU A (33, 0) (ad 12, .inl (cZ, 4, .inl (upd (F 12) (mk) (bI on)))) := ⟨_, rfl⟩
        replace hP : gP D classes b A4 H := by rw [eA4]; exact hP
        have hM5 : rMM cI cZ cL A4 h ad (va_up F 12 (upd (F 12) (mk) (bI on))) G ((kBu σ).length) ((kRs σ).length) ((kIs σ).length) (kMk σ) := by rw [eA4]; exact hM.put 12 rfl _
        have glA4 : gL A A4 := by rw [eA4]; exact gL.rf.U (by decide)
        refine lv_iload_n hx hb d_MM_strict_33 rfl (lv_at hl 0 rfl) ?_
        have e9 : sStrict σ (nI mk) on = ((kRs σ, kIs σ, va_up (kSt σ) mk on, kBu σ, kMk σ), 0) := by unfold sStrict; rw [if_pos hin0, hcl]; simp_all [bI]
        refine W.widen (k := 0) (n := 0) (by decide) (by decide) ?_
        exact W.iret hx hb hr (fun t ht _ => ⟨⟨_, A4, rfl, ⟨by rw [e9], by rw [e9]; exact ⟨ad, (va_up F 12 (upd (F 12) (mk) (bI on))), G, hM5, hR.st⟩, glA4⟩, show gP D classes b A4 t.heap by rw [ht]; exact hP⟩, hS.F ht⟩) hS.2.2 d_MM_strict_34
      · skip
        rw [bI_0] at c3
        refine lv_iconst (v := 1) hx hb d_MM_strict_20 (by decide) ?_
        refine lv_goto (tgt := 25) hx hb d_MM_strict_21 (by decide) ?_
        refine lv_istore_n (lv' := [(3, .int 1), (0, .ref h), (1, .int (nI mk)), (2, .int (bI on))]) hx hb d_MM_strict_25 rfl hl (by decide) rfl (fun ls hl => ?_)
        refine lv_aload_n hx hb d_MM_strict_26 rfl (lv_at hl 1 rfl) ?_
        refine g_get hx hb hts i_MM hown hK.1 hP (show A (20, 0) = some (h, .inr (5, [.ref (ad 0), .ref (ad 1), .int (nI ((kBu σ).length)), .ref (ad 3), .ref (ad 4), .ref (ad 5), .ref (ad 6), .ref (ad 7), .ref (ad 8), .ref (ad 9), .ref (ad 10), .int (nI ((kRs σ).length)), .ref (ad 12), .ref (ad 13), .ref (ad 14), .ref (ad 15), .ref (ad 16), .ref (ad 17), .ref (ad 18), .ref (ad 19), .ref (ad 20), .ref (ad 21), .int (nI ((kIs σ).length)), .int (nI (kMk σ) - 1)])) from hM.1) rfl 12 (by decide) (hts _ k_455) (fun _ h9 => h9) rfl d_MM_strict_27 ?_
        refine lv_iload_n hx hb d_MM_strict_30 rfl (lv_at hl 2 rfl) ?_
        refine lv_iload_n hx hb d_MM_strict_31 rfl (lv_at hl 3 rfl) ?_
        refine g_zast (k := mk) hx hb hK.1 hP hS 1 (show A (33, 0) = some (ad 12, .inl (cZ, 4, .inl (F 12))) from hM.2.1 12 rfl) rfl (vp_in_nI (show mk < 4 by omega) (by omega)) (nI_clamp (show mk < 2 ^ 31 by omega)) (bI_nar _) d_MM_strict_32 (fun H locs hP hS => ?_)
        obtain ⟨A6, eA6⟩ : ∃ z, z = gU A (33, 0) (ad 12, .inl (cZ, 4, .inl (upd (F 12) (mk) (bI on)))) := ⟨_, rfl⟩
        replace hP : gP D classes b A6 H := by rw [eA6]; exact hP
        have hM7 : rMM cI cZ cL A6 h ad (va_up F 12 (upd (F 12) (mk) (bI on))) G ((kBu σ).length) ((kRs σ).length) ((kIs σ).length) (kMk σ) := by rw [eA6]; exact hM.put 12 rfl _
        have glA6 : gL A A6 := by rw [eA6]; exact gL.rf.U (by decide)
        refine lv_iload_n hx hb d_MM_strict_33 rfl (lv_at hl 0 rfl) ?_
        have e9 : sStrict σ (nI mk) on = ((kRs σ, kIs σ, va_up (kSt σ) mk on, kBu σ, kMk σ), 1) := by unfold sStrict; rw [if_pos hin0, hcl]; simp_all [bI]
        refine W.widen (k := 0) (n := 0) (by decide) (by decide) ?_
        exact W.iret hx hb hr (fun t ht _ => ⟨⟨_, A6, rfl, ⟨by rw [e9], by rw [e9]; exact ⟨ad, (va_up F 12 (upd (F 12) (mk) (bI on))), G, hM7, hR.st⟩, glA6⟩, show gP D classes b A6 t.heap by rw [ht]; exact hP⟩, hS.F ht⟩) hS.2.2 d_MM_strict_34
    · skip
      refine lv_iconst (v := (-1)) hx hb d_MM_strict_9 (by decide) ?_
      have e9 : sStrict σ x on = (σ, -1) := by simp_all [sStrict, inR, ← Int32.not_lt]
      refine W.widen (k := 0) (n := 0) (by decide) (by decide) ?_
      exact W.iret hx hb hr (fun t ht _ => ⟨⟨_, A, rfl, ⟨by rw [e9], by rw [e9]; exact hB, gL.rf⟩, show gP D classes b A t.heap by rw [ht]; exact hP⟩, hS.F ht⟩) hS.2.2 d_MM_strict_10
set_option maxHeartbeats 4000000 in
set_option maxRecDepth 100000 in
theorem c_MM_then (l : Launch) {D : va_G} {cI cZ cO cL : ClassId} {b e0 : Nat} {A : gW} {h : Nat} {σ : Bk} (hB : rMo cI cZ cL A h σ) (hw : wf σ) (x k v : Int32) : Met l y_MM_then (Cond.code y_MM_then b_MM_then 5 (some .int) :: TT) ({ frames := 0, cells := 0, slots := 0, locals := 0 }) (va_Pc [.ref h, .int x, .int k, .int v] (gI D [(cI, .int), (cZ, .boolean), (cO, .object "java/lang/Object"), (cL, .long)] b e0 A)) (va_Qi (fun (z : Int32) (A2 : gW) => z = (sThen σ x k v).2 ∧ rMo cI cZ cL A2 h (sThen σ x k v).1 ∧ gL A A2) (fun A2 t => gP D classes b A2 t.heap) (fun q => b ≤ q)) 0 0 (fun q => b ≤ q) := by
  refine Met.ofG (own := R_MM) (by decide +kernel) rfl (Nat.le_of_ble_eq_true rfl) ?_
  intro p e s m below meth c ls hx hb hr hlk hml hown hnm hts hI hl
  have hl : lv_has ls 5 [(0, .ref h), (1, .int x), (2, .int k), (3, .int v)] := hl
  have hS : gS b s.heap s.heap [] := va_S.rf
  obtain ⟨hP, hK⟩ := hI
  obtain ⟨ad, F, G, hM, hR⟩ := id hB
  obtain ⟨hb0, hru, hrz, hst, hit, hiz, hgn⟩ := id hR
  obtain ⟨w1, w2, w3, w4, w5, w6, w7, w8⟩ := id hw
  refine lv_iload_n hx hb d_MM_then_0 rfl (lv_at hl 1 rfl) ?_
  refine lv_if_lt (tgt := 30) hx hb d_MM_then_1 (by decide) (fun c1 => ?_) (fun c1 => ?_)
  · skip
    refine lv_iconst (v := (-1)) hx hb d_MM_then_30 (by decide) ?_
    have e9 : sThen σ x k v = (σ, -1) := by unfold sThen; rw [if_neg (by rw [inM0 c1]; decide)]
    refine W.widen (k := 0) (n := 0) (by decide) (by decide) ?_
    exact W.iret hx hb hr (fun t ht _ => ⟨⟨_, A, rfl, ⟨by rw [e9], by rw [e9]; exact hB, gL.rf⟩, show gP D classes b A t.heap by rw [ht]; exact hP⟩, hS.F ht⟩) hS.2.2 d_MM_then_31
  · skip
    refine lv_iload_n hx hb d_MM_then_4 rfl (lv_at hl 1 rfl) ?_
    refine lv_aload_n hx hb d_MM_then_5 rfl (lv_at hl 0 rfl) ?_
    refine g_get hx hb hts i_MM hown hK.1 hP (show A (20, 0) = some (h, .inr (5, [.ref (ad 0), .ref (ad 1), .int (nI ((kBu σ).length)), .ref (ad 3), .ref (ad 4), .ref (ad 5), .ref (ad 6), .ref (ad 7), .ref (ad 8), .ref (ad 9), .ref (ad 10), .int (nI ((kRs σ).length)), .ref (ad 12), .ref (ad 13), .ref (ad 14), .ref (ad 15), .ref (ad 16), .ref (ad 17), .ref (ad 18), .ref (ad 19), .ref (ad 20), .ref (ad 21), .int (nI ((kIs σ).length)), .int (nI (kMk σ) - 1)])) from hM.1) rfl 11 (by decide) (hts _ k_454) (fun _ h9 => h9) rfl d_MM_then_6 ?_
    refine lv_icmp_ge (tgt := 30) hx hb d_MM_then_9 (by decide) (fun c2 => ?_) (fun c2 => ?_)
    · skip
      refine lv_iconst (v := (-1)) hx hb d_MM_then_30 (by decide) ?_
      have e9 : sThen σ x k v = (σ, -1) := by unfold sThen; rw [if_neg (by rw [inM1 c2 (by omega)]; decide)]
      refine W.widen (k := 0) (n := 0) (by decide) (by decide) ?_
      exact W.iret hx hb hr (fun t ht _ => ⟨⟨_, A, rfl, ⟨by rw [e9], by rw [e9]; exact hB, gL.rf⟩, show gP D classes b A t.heap by rw [ht]; exact hP⟩, hS.F ht⟩) hS.2.2 d_MM_then_31
    · skip
      obtain ⟨j, hj, rfl⟩ := inM c1 c2 (show (kRs σ).length ≤ 1000 by omega)
      have hcl := nI_clamp (show j < 2 ^ 31 by omega)
      have hjn := inN_t (show (kRs σ).length ≤ 1000 by omega) hj
      refine lv_aload_n hx hb d_MM_then_12 rfl (lv_at hl 0 rfl) ?_
      refine g_get hx hb hts i_MM hown hK.1 hP (show A (20, 0) = some (h, .inr (5, [.ref (ad 0), .ref (ad 1), .int (nI ((kBu σ).length)), .ref (ad 3), .ref (ad 4), .ref (ad 5), .ref (ad 6), .ref (ad 7), .ref (ad 8), .ref (ad 9), .ref (ad 10), .int (nI ((kRs σ).length)), .ref (ad 12), .ref (ad 13), .ref (ad 14), .ref (ad 15), .ref (ad 16), .ref (ad 17), .ref (ad 18), .ref (ad 19), .ref (ad 20), .ref (ad 21), .int (nI ((kIs σ).length)), .int (nI (kMk σ) - 1)])) from hM.1) rfl 5 (by decide) (hts _ k_448) (fun _ h9 => h9) rfl d_MM_then_13 ?_
      refine lv_iload_n hx hb d_MM_then_16 rfl (lv_at hl 1 rfl) ?_
      obtain ⟨bz3a, bz3b, bz3c, bz3d, bz3e, -⟩ := w3 j (by omega)
      refine g_zald (v := bI (uLv ((kRs σ).getD j u0))) hx hb hK.1 hP 1 (show A (26, 0) = some (ad 5, .inl (cZ, 24, .inl (F 5))) from hM.2.1 5 rfl) rfl (vp_in_nI (show j < 24 by omega) (by omega)) (by rw [(nI_clamp (show j < 2 ^ 31 by omega))]; exact (hru j (by omega)).2.2.1) d_MM_then_17 ?_
      refine lv_if_eq (tgt := 30) hx hb d_MM_then_18 (by decide) (fun c4 => ?_) (fun c4 => ?_)
      · skip
        rw [bI_0] at c4
        refine lv_iconst (v := (-1)) hx hb d_MM_then_30 (by decide) ?_
        have e9 : sThen σ (nI j) k v = (σ, -1) := by unfold sThen; rw [if_pos hjn, hcl, c4]; rfl
        refine W.widen (k := 0) (n := 0) (by decide) (by decide) ?_
        exact W.iret hx hb hr (fun t ht _ => ⟨⟨_, A, rfl, ⟨by rw [e9], by rw [e9]; exact hB, gL.rf⟩, show gP D classes b A t.heap by rw [ht]; exact hP⟩, hS.F ht⟩) hS.2.2 d_MM_then_31
      · skip
        rw [bI_0] at c4
        have hlv : ¬ uLv ((kRs σ).getD j u0) = false := c4
        refine lv_iload_n hx hb d_MM_then_21 rfl (lv_at hl 2 rfl) ?_
        refine lv_if_lt (tgt := 30) hx hb d_MM_then_22 (by decide) (fun c5 => ?_) (fun c5 => ?_)
        · skip
          refine lv_iconst (v := (-1)) hx hb d_MM_then_30 (by decide) ?_
          have e9 : sThen σ (nI j) k v = (σ, -1) := by unfold sThen; rw [if_pos hjn, hcl, allw_lo c5, Bool.and_false]; rfl
          refine W.widen (k := 0) (n := 0) (by decide) (by decide) ?_
          exact W.iret hx hb hr (fun t ht _ => ⟨⟨_, A, rfl, ⟨by rw [e9], by rw [e9]; exact hB, gL.rf⟩, show gP D classes b A t.heap by rw [ht]; exact hP⟩, hS.F ht⟩) hS.2.2 d_MM_then_31
        · skip
          refine lv_iload_n hx hb d_MM_then_25 rfl (lv_at hl 2 rfl) ?_
          refine lv_iconst (v := 4) hx hb d_MM_then_26 (by decide) ?_
          refine lv_icmp_le (tgt := 32) hx hb d_MM_then_27 (by decide) (fun c6 => ?_) (fun c6 => ?_)
          · skip
            have hin0 : inR k 0 4 = true := by simp_all [inR, ← Int32.not_lt]
            obtain ⟨kk, hkk, rfl⟩ := inR_of (M := 4) (n := 4) (by decide) hin0
            rcases (by omega : kk = 0 ∨ kk = 1 ∨ kk = 2 ∨ kk = 3 ∨ kk = 4) with rfl | rfl | rfl | rfl | rfl
            · skip
              have hal := allw_0 (uMt ((kRs σ).getD j u0)) v
              refine lv_aload_n hx hb d_MM_then_32 rfl (lv_at hl 0 rfl) ?_
              refine g_get hx hb hts i_MM hown hK.1 hP (show A (20, 0) = some (h, .inr (5, [.ref (ad 0), .ref (ad 1), .int (nI ((kBu σ).length)), .ref (ad 3), .ref (ad 4), .ref (ad 5), .ref (ad 6), .ref (ad 7), .ref (ad 8), .ref (ad 9), .ref (ad 10), .int (nI ((kRs σ).length)), .ref (ad 12), .ref (ad 13), .ref (ad 14), .ref (ad 15), .ref (ad 16), .ref (ad 17), .ref (ad 18), .ref (ad 19), .ref (ad 20), .ref (ad 21), .int (nI ((kIs σ).length)), .int (nI (kMk σ) - 1)])) from hM.1) rfl 4 (by decide) (hts _ k_447) (fun _ h9 => h9) rfl d_MM_then_33 ?_
              refine lv_iload_n hx hb d_MM_then_36 rfl (lv_at hl 1 rfl) ?_
              obtain ⟨bz7a, bz7b, bz7c, bz7d, bz7e, -⟩ := w3 j (by omega)
              refine g_iald (v := nI (uMt ((kRs σ).getD j u0))) hx hb hK.1 hP 0 (show A (25, 0) = some (ad 4, .inl (cI, 24, .inl (F 4))) from hM.2.1 4 rfl) rfl (vp_in_nI (show j < 24 by omega) (by omega)) (by rw [(nI_clamp (show j < 2 ^ 31 by omega))]; exact (hru j (by omega)).2.1) d_MM_then_37 ?_
              refine lv_iconst (v := 4) hx hb d_MM_then_38 (by decide) ?_
              refine lv_irem hx hb d_MM_then_39 (by decide) ?_
              rw [rem4 (show uMt ((kRs σ).getD j u0) < 2 ^ 31 by omega)]
              refine lv_istore (lv' := [(4, .int (nI ((uMt ((kRs σ).getD j u0)) % 4))), (0, .ref h), (1, .int (nI j)), (2, .int (nI 0)), (3, .int v)]) hx hb d_MM_then_40 hl (by decide) rfl (fun ls hl => ?_)
              refine lv_iload_n hx hb d_MM_then_42 rfl (lv_at hl 3 rfl) ?_
              refine lv_iconst (v := 1) hx hb d_MM_then_43 (by decide) ?_
              refine lv_icmp_ne (tgt := 59) hx hb d_MM_then_44 (by decide) (fun _ => ?_) (fun h9 => absurd h9 (by decide))
              refine lv_iload_n hx hb d_MM_then_59 rfl (lv_at hl 3 rfl) ?_
              refine lv_iconst (v := 4) hx hb d_MM_then_60 (by decide) ?_
              refine lv_icmp_ne (tgt := 84) hx hb d_MM_then_61 (by decide) (fun _ => ?_) (fun h9 => absurd h9 (by decide))
              refine lv_aload_n hx hb d_MM_then_84 rfl (lv_at hl 1 rfl) ?_
              refine g_get hx hb hts i_MM hown hK.1 hP (show A (20, 0) = some (h, .inr (5, [.ref (ad 0), .ref (ad 1), .int (nI ((kBu σ).length)), .ref (ad 3), .ref (ad 4), .ref (ad 5), .ref (ad 6), .ref (ad 7), .ref (ad 8), .ref (ad 9), .ref (ad 10), .int (nI ((kRs σ).length)), .ref (ad 12), .ref (ad 13), .ref (ad 14), .ref (ad 15), .ref (ad 16), .ref (ad 17), .ref (ad 18), .ref (ad 19), .ref (ad 20), .ref (ad 21), .int (nI ((kIs σ).length)), .int (nI (kMk σ) - 1)])) from hM.1) rfl 10 (by decide) (hts _ k_453) (fun _ h9 => h9) rfl d_MM_then_85 ?_
              refine lv_iload_n hx hb d_MM_then_88 rfl (lv_at hl 2 rfl) ?_
              obtain ⟨bz10a, bz10b, bz10c, bz10d, bz10e, -⟩ := w3 j (by omega)
              refine g_iald (v := nI (uAc ((kRs σ).getD j u0)).length) hx hb hK.1 hP 0 (show A (31, 0) = some (ad 10, .inl (cI, 24, .inl (F 10))) from hM.2.1 10 rfl) rfl (vp_in_nI (show j < 24 by omega) (by omega)) (by rw [(nI_clamp (show j < 2 ^ 31 by omega))]; exact (hru j (by omega)).2.2.2.1) d_MM_then_89 ?_
              refine lv_iconst (v := 4) hx hb d_MM_then_90 (by decide) ?_
              refine lv_icmp_ne (tgt := 97) hx hb d_MM_then_91 (by decide) (fun c11 => ?_) (fun c11 => ?_)
              · skip
                replace c11 : ¬ (uAc ((kRs σ).getD j u0)).length = 4 := fun q => c11 ((nI_eq (a := (uAc ((kRs σ).getD j u0)).length) (b := 4) (by omega) (by decide)).mpr q)
                refine lv_aload_n hx hb d_MM_then_97 rfl (lv_at hl 1 rfl) ?_
                refine g_get hx hb hts i_MM hown hK.1 hP (show A (20, 0) = some (h, .inr (5, [.ref (ad 0), .ref (ad 1), .int (nI ((kBu σ).length)), .ref (ad 3), .ref (ad 4), .ref (ad 5), .ref (ad 6), .ref (ad 7), .ref (ad 8), .ref (ad 9), .ref (ad 10), .int (nI ((kRs σ).length)), .ref (ad 12), .ref (ad 13), .ref (ad 14), .ref (ad 15), .ref (ad 16), .ref (ad 17), .ref (ad 18), .ref (ad 19), .ref (ad 20), .ref (ad 21), .int (nI ((kIs σ).length)), .int (nI (kMk σ) - 1)])) from hM.1) rfl 8 (by decide) (hts _ k_451) (fun _ h9 => h9) rfl d_MM_then_98 ?_
                refine lv_iconst (v := 4) hx hb d_MM_then_101 (by decide) ?_
                refine lv_iload_n hx hb d_MM_then_102 rfl (lv_at hl 2 rfl) ?_
                refine lv_imul hx hb d_MM_then_103 ?_
                rw [mul4 _]
                refine lv_aload_n hx hb d_MM_then_104 rfl (lv_at hl 1 rfl) ?_
                refine g_get hx hb hts i_MM hown hK.1 hP (show A (20, 0) = some (h, .inr (5, [.ref (ad 0), .ref (ad 1), .int (nI ((kBu σ).length)), .ref (ad 3), .ref (ad 4), .ref (ad 5), .ref (ad 6), .ref (ad 7), .ref (ad 8), .ref (ad 9), .ref (ad 10), .int (nI ((kRs σ).length)), .ref (ad 12), .ref (ad 13), .ref (ad 14), .ref (ad 15), .ref (ad 16), .ref (ad 17), .ref (ad 18), .ref (ad 19), .ref (ad 20), .ref (ad 21), .int (nI ((kIs σ).length)), .int (nI (kMk σ) - 1)])) from hM.1) rfl 10 (by decide) (hts _ k_453) (fun _ h9 => h9) rfl d_MM_then_105 ?_
                refine lv_iload_n hx hb d_MM_then_108 rfl (lv_at hl 2 rfl) ?_
                obtain ⟨bz12a, bz12b, bz12c, bz12d, bz12e, -⟩ := w3 j (by omega)
                refine g_iald (v := nI (uAc ((kRs σ).getD j u0)).length) hx hb hK.1 hP 0 (show A (31, 0) = some (ad 10, .inl (cI, 24, .inl (F 10))) from hM.2.1 10 rfl) rfl (vp_in_nI (show j < 24 by omega) (by omega)) (by rw [(nI_clamp (show j < 2 ^ 31 by omega))]; exact (hru j (by omega)).2.2.2.1) d_MM_then_109 ?_
                refine lv_iadd hx hb d_MM_then_110 ?_
                rw [nI_add _ _]
                refine lv_iload_n hx hb d_MM_then_111 rfl (lv_at hl 3 rfl) ?_
                refine g_iast (k := 4 * j + ((uAc ((kRs σ).getD j u0)).length)) hx hb hK.1 hP hS 0 (show A (29, 0) = some (ad 8, .inl (cI, 96, .inl (F 8))) from hM.2.1 8 rfl) rfl (vp_in_nI (show 4 * j + ((uAc ((kRs σ).getD j u0)).length) < 96 by omega) (by omega)) (nI_clamp (show 4 * j + ((uAc ((kRs σ).getD j u0)).length) < 2 ^ 31 by omega)) d_MM_then_112 (fun H locs hP hS => ?_)
                obtain ⟨A13, eA13⟩ : ∃ z, z = gU A (29, 0) (ad 8, .inl (cI, 96, .inl (upd (F 8) (4 * j + ((uAc ((kRs σ).getD j u0)).length)) (nI 0)))) := ⟨_, rfl⟩
                replace hP : gP D classes b A13 H := by rw [eA13]; exact hP
                have hM14 : rMM cI cZ cL A13 h ad (va_up F 8 (upd (F 8) (4 * j + ((uAc ((kRs σ).getD j u0)).length)) (nI 0))) G ((kBu σ).length) ((kRs σ).length) ((kIs σ).length) (kMk σ) := by rw [eA13]; exact hM.put 8 rfl _
                have glA13 : gL A A13 := by rw [eA13]; exact gL.rf.U (by decide)
                refine lv_aload_n hx hb d_MM_then_113 rfl (lv_at hl 1 rfl) ?_
                refine g_get hx hb hts i_MM hown hK.1 hP (show A13 (20, 0) = some (h, .inr (5, [.ref (ad 0), .ref (ad 1), .int (nI ((kBu σ).length)), .ref (ad 3), .ref (ad 4), .ref (ad 5), .ref (ad 6), .ref (ad 7), .ref (ad 8), .ref (ad 9), .ref (ad 10), .int (nI ((kRs σ).length)), .ref (ad 12), .ref (ad 13), .ref (ad 14), .ref (ad 15), .ref (ad 16), .ref (ad 17), .ref (ad 18), .ref (ad 19), .ref (ad 20), .ref (ad 21), .int (nI ((kIs σ).length)), .int (nI (kMk σ) - 1)])) from hM14.1) rfl 9 (by decide) (hts _ k_452) (fun _ h9 => h9) rfl d_MM_then_114 ?_
                refine lv_iconst (v := 4) hx hb d_MM_then_117 (by decide) ?_
                refine lv_iload_n hx hb d_MM_then_118 rfl (lv_at hl 2 rfl) ?_
                refine lv_imul hx hb d_MM_then_119 ?_
                rw [mul4 _]
                refine lv_aload_n hx hb d_MM_then_120 rfl (lv_at hl 1 rfl) ?_
                refine g_get hx hb hts i_MM hown hK.1 hP (show A13 (20, 0) = some (h, .inr (5, [.ref (ad 0), .ref (ad 1), .int (nI ((kBu σ).length)), .ref (ad 3), .ref (ad 4), .ref (ad 5), .ref (ad 6), .ref (ad 7), .ref (ad 8), .ref (ad 9), .ref (ad 10), .int (nI ((kRs σ).length)), .ref (ad 12), .ref (ad 13), .ref (ad 14), .ref (ad 15), .ref (ad 16), .ref (ad 17), .ref (ad 18), .ref (ad 19), .ref (ad 20), .ref (ad 21), .int (nI ((kIs σ).length)), .int (nI (kMk σ) - 1)])) from hM14.1) rfl 10 (by decide) (hts _ k_453) (fun _ h9 => h9) rfl d_MM_then_121 ?_
                refine lv_iload_n hx hb d_MM_then_124 rfl (lv_at hl 2 rfl) ?_
                obtain ⟨bz15a, bz15b, bz15c, bz15d, bz15e, -⟩ := w3 j (by omega)
                refine g_iald (v := nI (uAc ((kRs σ).getD j u0)).length) hx hb hK.1 hP 0 (show A13 (31, 0) = some (ad 10, .inl (cI, 24, .inl (F 10))) from hM14.2.1 10 rfl) rfl (vp_in_nI (show j < 24 by omega) (by omega)) (by rw [(nI_clamp (show j < 2 ^ 31 by omega))]; exact (hru j (by omega)).2.2.2.1) d_MM_then_125 ?_
                refine lv_iadd hx hb d_MM_then_126 ?_
                rw [nI_add _ _]
                refine lv_iload_n hx hb d_MM_then_127 rfl (lv_at hl 4 rfl) ?_
                refine g_iast (k := 4 * j + ((uAc ((kRs σ).getD j u0)).length)) hx hb hK.1 hP hS 0 (show A13 (30, 0) = some (ad 9, .inl (cI, 96, .inl (F 9))) from hM14.2.1 9 rfl) rfl (vp_in_nI (show 4 * j + ((uAc ((kRs σ).getD j u0)).length) < 96 by omega) (by omega)) (nI_clamp (show 4 * j + ((uAc ((kRs σ).getD j u0)).length) < 2 ^ 31 by omega)) d_MM_then_128 (fun H locs hP hS => ?_)
                obtain ⟨A16, eA16⟩ : ∃ z, z = gU A13 (30, 0) (ad 9, .inl (cI, 96, .inl (upd (F 9) (4 * j + ((uAc ((kRs σ).getD j u0)).length)) (v)))) := ⟨_, rfl⟩
                replace hP : gP D classes b A16 H := by rw [eA16]; exact hP
                have hM17 : rMM cI cZ cL A16 h ad (va_up (va_up F 8 (upd (F 8) (4 * j + ((uAc ((kRs σ).getD j u0)).length)) (nI 0))) 9 (upd (F 9) (4 * j + ((uAc ((kRs σ).getD j u0)).length)) (v))) G ((kBu σ).length) ((kRs σ).length) ((kIs σ).length) (kMk σ) := by rw [eA16]; exact hM14.put 9 rfl _
                have glA16 : gL A A16 := by rw [eA16]; exact glA13.U (by decide)
                refine lv_aload_n hx hb d_MM_then_129 rfl (lv_at hl 1 rfl) ?_
                refine g_get hx hb hts i_MM hown hK.1 hP (show A16 (20, 0) = some (h, .inr (5, [.ref (ad 0), .ref (ad 1), .int (nI ((kBu σ).length)), .ref (ad 3), .ref (ad 4), .ref (ad 5), .ref (ad 6), .ref (ad 7), .ref (ad 8), .ref (ad 9), .ref (ad 10), .int (nI ((kRs σ).length)), .ref (ad 12), .ref (ad 13), .ref (ad 14), .ref (ad 15), .ref (ad 16), .ref (ad 17), .ref (ad 18), .ref (ad 19), .ref (ad 20), .ref (ad 21), .int (nI ((kIs σ).length)), .int (nI (kMk σ) - 1)])) from hM17.1) rfl 10 (by decide) (hts _ k_453) (fun _ h9 => h9) rfl d_MM_then_130 ?_
                refine lv_iload_n hx hb d_MM_then_133 rfl (lv_at hl 2 rfl) ?_
                refine lv_dup2_11 hx hb d_MM_then_134 rfl rfl ?_
                obtain ⟨bz18a, bz18b, bz18c, bz18d, bz18e, -⟩ := w3 j (by omega)
                refine g_iald (v := nI (uAc ((kRs σ).getD j u0)).length) hx hb hK.1 hP 0 (show A16 (31, 0) = some (ad 10, .inl (cI, 24, .inl (F 10))) from hM17.2.1 10 rfl) rfl (vp_in_nI (show j < 24 by omega) (by omega)) (by rw [(nI_clamp (show j < 2 ^ 31 by omega))]; exact (hru j (by omega)).2.2.2.1) d_MM_then_135 ?_
                refine lv_iconst (v := 1) hx hb d_MM_then_136 (by decide) ?_
                refine lv_iadd hx hb d_MM_then_137 ?_
                rw [nI_1 _]
                refine g_iast (k := j) hx hb hK.1 hP hS 0 (show A16 (31, 0) = some (ad 10, .inl (cI, 24, .inl (F 10))) from hM17.2.1 10 rfl) rfl (vp_in_nI (show j < 24 by omega) (by omega)) (nI_clamp (show j < 2 ^ 31 by omega)) d_MM_then_138 (fun H locs hP hS => ?_)
                obtain ⟨A19, eA19⟩ : ∃ z, z = gU A16 (31, 0) (ad 10, .inl (cI, 24, .inl (upd (F 10) (j) (nI ((uAc ((kRs σ).getD j u0)).length + 1))))) := ⟨_, rfl⟩
                replace hP : gP D classes b A19 H := by rw [eA19]; exact hP
                have hM20 : rMM cI cZ cL A19 h ad (va_up (va_up (va_up F 8 (upd (F 8) (4 * j + ((uAc ((kRs σ).getD j u0)).length)) (nI 0))) 9 (upd (F 9) (4 * j + ((uAc ((kRs σ).getD j u0)).length)) (v))) 10 (upd (F 10) (j) (nI ((uAc ((kRs σ).getD j u0)).length + 1)))) G ((kBu σ).length) ((kRs σ).length) ((kIs σ).length) (kMk σ) := by rw [eA19]; exact hM17.put 10 rfl _
                have glA19 : gL A A19 := by rw [eA19]; exact glA16.U (by decide)
                refine lv_aload_n hx hb d_MM_then_139 rfl (lv_at hl 1 rfl) ?_
                refine g_get hx hb hts i_MM hown hK.1 hP (show A19 (20, 0) = some (h, .inr (5, [.ref (ad 0), .ref (ad 1), .int (nI ((kBu σ).length)), .ref (ad 3), .ref (ad 4), .ref (ad 5), .ref (ad 6), .ref (ad 7), .ref (ad 8), .ref (ad 9), .ref (ad 10), .int (nI ((kRs σ).length)), .ref (ad 12), .ref (ad 13), .ref (ad 14), .ref (ad 15), .ref (ad 16), .ref (ad 17), .ref (ad 18), .ref (ad 19), .ref (ad 20), .ref (ad 21), .int (nI ((kIs σ).length)), .int (nI (kMk σ) - 1)])) from hM20.1) rfl 10 (by decide) (hts _ k_453) (fun _ h9 => h9) rfl d_MM_then_140 ?_
                refine lv_iload_n hx hb d_MM_then_143 rfl (lv_at hl 2 rfl) ?_
                refine g_iald (v := nI ((uAc ((kRs σ).getD j u0)).length + 1)) hx hb hK.1 hP 0 (show A19 (31, 0) = some (ad 10, .inl (cI, 24, .inl (upd (F 10) (j) (nI ((uAc ((kRs σ).getD j u0)).length + 1))))) from hM20.2.1 10 rfl) rfl (vp_in_nI (show j < 24 by omega) (by omega)) (by rw [(nI_clamp (show j < 2 ^ 31 by omega))]; exact pk_us) d_MM_then_144 ?_
                have e9 : sThen σ (nI j) (nI 0) v = (((kRs σ).set j (uAdd ((kRs σ).getD j u0) (nI 0) v), kIs σ, kSt σ, kBu σ, kMk σ), nI ((uAc ((kRs σ).getD j u0)).length + 1)) := by unfold sThen; rw [if_pos hjn, hcl, hal, Bool.and_true, if_pos (by simpa using hlv), if_neg (by omega), len1, nI_1]
                refine W.widen (k := 0) (n := 0) (by decide) (by decide) ?_
                exact W.iret hx hb hr (fun t ht _ => ⟨⟨_, A19, rfl, ⟨by rw [e9], by rw [e9]; exact ⟨ad, (va_up (va_up (va_up F 8 (upd (F 8) (4 * j + ((uAc ((kRs σ).getD j u0)).length)) (nI 0))) 9 (upd (F 9) (4 * j + ((uAc ((kRs σ).getD j u0)).length)) (v))) 10 (upd (F 10) (j) (nI ((uAc ((kRs σ).getD j u0)).length + 1)))), G, (by rw [show ((kRs σ).set j (uAdd ((kRs σ).getD j u0) (nI 0) v)).length = (kRs σ).length from List.length_set]; exact hM20), hR.act hw hj (by omega)⟩, glA19⟩, show gP D classes b A19 t.heap by rw [ht]; exact hP⟩, hS.F ht⟩) hS.2.2 d_MM_then_145
              · skip
                replace c11 : (uAc ((kRs σ).getD j u0)).length = 4 := (nI_eq (a := (uAc ((kRs σ).getD j u0)).length) (b := 4) (by omega) (by decide)).mp c11
                refine lv_bipush (v := (-2)) hx hb d_MM_then_94 (by decide) ?_
                have e9 : sThen σ (nI j) (nI 0) v = (σ, -2) := by unfold sThen; rw [if_pos hjn, hcl, hal, Bool.and_true, if_pos (by simpa using hlv), if_pos (by omega)]
                refine W.widen (k := 0) (n := 0) (by decide) (by decide) ?_
                exact W.iret hx hb hr (fun t ht _ => ⟨⟨_, A, rfl, ⟨by rw [e9], by rw [e9]; exact hB, gL.rf⟩, show gP D classes b A t.heap by rw [ht]; exact hP⟩, hS.F ht⟩) hS.2.2 d_MM_then_96
            · skip
              refine lv_aload_n hx hb d_MM_then_32 rfl (lv_at hl 0 rfl) ?_
              refine g_get hx hb hts i_MM hown hK.1 hP (show A (20, 0) = some (h, .inr (5, [.ref (ad 0), .ref (ad 1), .int (nI ((kBu σ).length)), .ref (ad 3), .ref (ad 4), .ref (ad 5), .ref (ad 6), .ref (ad 7), .ref (ad 8), .ref (ad 9), .ref (ad 10), .int (nI ((kRs σ).length)), .ref (ad 12), .ref (ad 13), .ref (ad 14), .ref (ad 15), .ref (ad 16), .ref (ad 17), .ref (ad 18), .ref (ad 19), .ref (ad 20), .ref (ad 21), .int (nI ((kIs σ).length)), .int (nI (kMk σ) - 1)])) from hM.1) rfl 4 (by decide) (hts _ k_447) (fun _ h9 => h9) rfl d_MM_then_33 ?_
              refine lv_iload_n hx hb d_MM_then_36 rfl (lv_at hl 1 rfl) ?_
              obtain ⟨bz21a, bz21b, bz21c, bz21d, bz21e, -⟩ := w3 j (by omega)
              refine g_iald (v := nI (uMt ((kRs σ).getD j u0))) hx hb hK.1 hP 0 (show A (25, 0) = some (ad 4, .inl (cI, 24, .inl (F 4))) from hM.2.1 4 rfl) rfl (vp_in_nI (show j < 24 by omega) (by omega)) (by rw [(nI_clamp (show j < 2 ^ 31 by omega))]; exact (hru j (by omega)).2.1) d_MM_then_37 ?_
              refine lv_iconst (v := 4) hx hb d_MM_then_38 (by decide) ?_
              refine lv_irem hx hb d_MM_then_39 (by decide) ?_
              rw [rem4 (show uMt ((kRs σ).getD j u0) < 2 ^ 31 by omega)]
              refine lv_istore (lv' := [(4, .int (nI ((uMt ((kRs σ).getD j u0)) % 4))), (0, .ref h), (1, .int (nI j)), (2, .int (nI 1)), (3, .int v)]) hx hb d_MM_then_40 hl (by decide) rfl (fun ls hl => ?_)
              refine lv_iload_n hx hb d_MM_then_42 rfl (lv_at hl 3 rfl) ?_
              refine lv_iconst (v := 1) hx hb d_MM_then_43 (by decide) ?_
              refine lv_icmp_ne (tgt := 59) hx hb d_MM_then_44 (by decide) (fun h9 => absurd h9 (by decide)) (fun _ => ?_)
              refine lv_iload_n hx hb d_MM_then_47 rfl (lv_at hl 4 rfl) ?_
              refine lv_if_lt (tgt := 57) hx hb d_MM_then_48 (by decide) (fun c23 => ?_) (fun c23 => ?_)
              · skip
                refine lv_iconst (v := (-1)) hx hb d_MM_then_57 (by decide) ?_
                have e9 : sThen σ (nI j) (nI 1) v = (σ, -1) := by unfold sThen; rw [if_pos hjn, hcl, allw_1, inM0 c23, Bool.and_false]; rfl
                refine W.widen (k := 0) (n := 0) (by decide) (by decide) ?_
                exact W.iret hx hb hr (fun t ht _ => ⟨⟨_, A, rfl, ⟨by rw [e9], by rw [e9]; exact hB, gL.rf⟩, show gP D classes b A t.heap by rw [ht]; exact hP⟩, hS.F ht⟩) hS.2.2 d_MM_then_58
              · skip
                refine lv_iload_n hx hb d_MM_then_51 rfl (lv_at hl 4 rfl) ?_
                refine lv_iload hx hb d_MM_then_52 (lv_at hl 0 rfl) ?_
                refine lv_icmp_lt (tgt := 59) hx hb d_MM_then_54 (by decide) (fun c24 => ?_) (fun c24 => ?_)
                · skip
                  obtain ⟨vv, hvv, rfl⟩ := inM c23 (Int32.not_le.mpr c24) (show uMt ((kRs σ).getD j u0) % 4 ≤ 1000 by omega)
                  have hal : allw (uMt ((kRs σ).getD j u0)) (nI 1) (nI vv) = true := (allw_1 _ _).trans (inN_t (by omega) hvv)
                  refine lv_iload_n hx hb d_MM_then_59 rfl (lv_at hl 3 rfl) ?_
                  refine lv_iconst (v := 4) hx hb d_MM_then_60 (by decide) ?_
                  refine lv_icmp_ne (tgt := 84) hx hb d_MM_then_61 (by decide) (fun _ => ?_) (fun h9 => absurd h9 (by decide))
                  refine lv_aload_n hx hb d_MM_then_84 rfl (lv_at hl 1 rfl) ?_
                  refine g_get hx hb hts i_MM hown hK.1 hP (show A (20, 0) = some (h, .inr (5, [.ref (ad 0), .ref (ad 1), .int (nI ((kBu σ).length)), .ref (ad 3), .ref (ad 4), .ref (ad 5), .ref (ad 6), .ref (ad 7), .ref (ad 8), .ref (ad 9), .ref (ad 10), .int (nI ((kRs σ).length)), .ref (ad 12), .ref (ad 13), .ref (ad 14), .ref (ad 15), .ref (ad 16), .ref (ad 17), .ref (ad 18), .ref (ad 19), .ref (ad 20), .ref (ad 21), .int (nI ((kIs σ).length)), .int (nI (kMk σ) - 1)])) from hM.1) rfl 10 (by decide) (hts _ k_453) (fun _ h9 => h9) rfl d_MM_then_85 ?_
                  refine lv_iload_n hx hb d_MM_then_88 rfl (lv_at hl 2 rfl) ?_
                  obtain ⟨bz26a, bz26b, bz26c, bz26d, bz26e, -⟩ := w3 j (by omega)
                  refine g_iald (v := nI (uAc ((kRs σ).getD j u0)).length) hx hb hK.1 hP 0 (show A (31, 0) = some (ad 10, .inl (cI, 24, .inl (F 10))) from hM.2.1 10 rfl) rfl (vp_in_nI (show j < 24 by omega) (by omega)) (by rw [(nI_clamp (show j < 2 ^ 31 by omega))]; exact (hru j (by omega)).2.2.2.1) d_MM_then_89 ?_
                  refine lv_iconst (v := 4) hx hb d_MM_then_90 (by decide) ?_
                  refine lv_icmp_ne (tgt := 97) hx hb d_MM_then_91 (by decide) (fun c27 => ?_) (fun c27 => ?_)
                  · skip
                    replace c27 : ¬ (uAc ((kRs σ).getD j u0)).length = 4 := fun q => c27 ((nI_eq (a := (uAc ((kRs σ).getD j u0)).length) (b := 4) (by omega) (by decide)).mpr q)
                    refine lv_aload_n hx hb d_MM_then_97 rfl (lv_at hl 1 rfl) ?_
                    refine g_get hx hb hts i_MM hown hK.1 hP (show A (20, 0) = some (h, .inr (5, [.ref (ad 0), .ref (ad 1), .int (nI ((kBu σ).length)), .ref (ad 3), .ref (ad 4), .ref (ad 5), .ref (ad 6), .ref (ad 7), .ref (ad 8), .ref (ad 9), .ref (ad 10), .int (nI ((kRs σ).length)), .ref (ad 12), .ref (ad 13), .ref (ad 14), .ref (ad 15), .ref (ad 16), .ref (ad 17), .ref (ad 18), .ref (ad 19), .ref (ad 20), .ref (ad 21), .int (nI ((kIs σ).length)), .int (nI (kMk σ) - 1)])) from hM.1) rfl 8 (by decide) (hts _ k_451) (fun _ h9 => h9) rfl d_MM_then_98 ?_
                    refine lv_iconst (v := 4) hx hb d_MM_then_101 (by decide) ?_
                    refine lv_iload_n hx hb d_MM_then_102 rfl (lv_at hl 2 rfl) ?_
                    refine lv_imul hx hb d_MM_then_103 ?_
                    rw [mul4 _]
                    refine lv_aload_n hx hb d_MM_then_104 rfl (lv_at hl 1 rfl) ?_
                    refine g_get hx hb hts i_MM hown hK.1 hP (show A (20, 0) = some (h, .inr (5, [.ref (ad 0), .ref (ad 1), .int (nI ((kBu σ).length)), .ref (ad 3), .ref (ad 4), .ref (ad 5), .ref (ad 6), .ref (ad 7), .ref (ad 8), .ref (ad 9), .ref (ad 10), .int (nI ((kRs σ).length)), .ref (ad 12), .ref (ad 13), .ref (ad 14), .ref (ad 15), .ref (ad 16), .ref (ad 17), .ref (ad 18), .ref (ad 19), .ref (ad 20), .ref (ad 21), .int (nI ((kIs σ).length)), .int (nI (kMk σ) - 1)])) from hM.1) rfl 10 (by decide) (hts _ k_453) (fun _ h9 => h9) rfl d_MM_then_105 ?_
                    refine lv_iload_n hx hb d_MM_then_108 rfl (lv_at hl 2 rfl) ?_
                    obtain ⟨bz28a, bz28b, bz28c, bz28d, bz28e, -⟩ := w3 j (by omega)
                    refine g_iald (v := nI (uAc ((kRs σ).getD j u0)).length) hx hb hK.1 hP 0 (show A (31, 0) = some (ad 10, .inl (cI, 24, .inl (F 10))) from hM.2.1 10 rfl) rfl (vp_in_nI (show j < 24 by omega) (by omega)) (by rw [(nI_clamp (show j < 2 ^ 31 by omega))]; exact (hru j (by omega)).2.2.2.1) d_MM_then_109 ?_
                    refine lv_iadd hx hb d_MM_then_110 ?_
                    rw [nI_add _ _]
                    refine lv_iload_n hx hb d_MM_then_111 rfl (lv_at hl 3 rfl) ?_
                    refine g_iast (k := 4 * j + ((uAc ((kRs σ).getD j u0)).length)) hx hb hK.1 hP hS 0 (show A (29, 0) = some (ad 8, .inl (cI, 96, .inl (F 8))) from hM.2.1 8 rfl) rfl (vp_in_nI (show 4 * j + ((uAc ((kRs σ).getD j u0)).length) < 96 by omega) (by omega)) (nI_clamp (show 4 * j + ((uAc ((kRs σ).getD j u0)).length) < 2 ^ 31 by omega)) d_MM_then_112 (fun H locs hP hS => ?_)
                    obtain ⟨A29, eA29⟩ : ∃ z, z = gU A (29, 0) (ad 8, .inl (cI, 96, .inl (upd (F 8) (4 * j + ((uAc ((kRs σ).getD j u0)).length)) (nI 1)))) := ⟨_, rfl⟩
                    replace hP : gP D classes b A29 H := by rw [eA29]; exact hP
                    have hM30 : rMM cI cZ cL A29 h ad (va_up F 8 (upd (F 8) (4 * j + ((uAc ((kRs σ).getD j u0)).length)) (nI 1))) G ((kBu σ).length) ((kRs σ).length) ((kIs σ).length) (kMk σ) := by rw [eA29]; exact hM.put 8 rfl _
                    have glA29 : gL A A29 := by rw [eA29]; exact gL.rf.U (by decide)
                    refine lv_aload_n hx hb d_MM_then_113 rfl (lv_at hl 1 rfl) ?_
                    refine g_get hx hb hts i_MM hown hK.1 hP (show A29 (20, 0) = some (h, .inr (5, [.ref (ad 0), .ref (ad 1), .int (nI ((kBu σ).length)), .ref (ad 3), .ref (ad 4), .ref (ad 5), .ref (ad 6), .ref (ad 7), .ref (ad 8), .ref (ad 9), .ref (ad 10), .int (nI ((kRs σ).length)), .ref (ad 12), .ref (ad 13), .ref (ad 14), .ref (ad 15), .ref (ad 16), .ref (ad 17), .ref (ad 18), .ref (ad 19), .ref (ad 20), .ref (ad 21), .int (nI ((kIs σ).length)), .int (nI (kMk σ) - 1)])) from hM30.1) rfl 9 (by decide) (hts _ k_452) (fun _ h9 => h9) rfl d_MM_then_114 ?_
                    refine lv_iconst (v := 4) hx hb d_MM_then_117 (by decide) ?_
                    refine lv_iload_n hx hb d_MM_then_118 rfl (lv_at hl 2 rfl) ?_
                    refine lv_imul hx hb d_MM_then_119 ?_
                    rw [mul4 _]
                    refine lv_aload_n hx hb d_MM_then_120 rfl (lv_at hl 1 rfl) ?_
                    refine g_get hx hb hts i_MM hown hK.1 hP (show A29 (20, 0) = some (h, .inr (5, [.ref (ad 0), .ref (ad 1), .int (nI ((kBu σ).length)), .ref (ad 3), .ref (ad 4), .ref (ad 5), .ref (ad 6), .ref (ad 7), .ref (ad 8), .ref (ad 9), .ref (ad 10), .int (nI ((kRs σ).length)), .ref (ad 12), .ref (ad 13), .ref (ad 14), .ref (ad 15), .ref (ad 16), .ref (ad 17), .ref (ad 18), .ref (ad 19), .ref (ad 20), .ref (ad 21), .int (nI ((kIs σ).length)), .int (nI (kMk σ) - 1)])) from hM30.1) rfl 10 (by decide) (hts _ k_453) (fun _ h9 => h9) rfl d_MM_then_121 ?_
                    refine lv_iload_n hx hb d_MM_then_124 rfl (lv_at hl 2 rfl) ?_
                    obtain ⟨bz31a, bz31b, bz31c, bz31d, bz31e, -⟩ := w3 j (by omega)
                    refine g_iald (v := nI (uAc ((kRs σ).getD j u0)).length) hx hb hK.1 hP 0 (show A29 (31, 0) = some (ad 10, .inl (cI, 24, .inl (F 10))) from hM30.2.1 10 rfl) rfl (vp_in_nI (show j < 24 by omega) (by omega)) (by rw [(nI_clamp (show j < 2 ^ 31 by omega))]; exact (hru j (by omega)).2.2.2.1) d_MM_then_125 ?_
                    refine lv_iadd hx hb d_MM_then_126 ?_
                    rw [nI_add _ _]
                    refine lv_iload_n hx hb d_MM_then_127 rfl (lv_at hl 4 rfl) ?_
                    refine g_iast (k := 4 * j + ((uAc ((kRs σ).getD j u0)).length)) hx hb hK.1 hP hS 0 (show A29 (30, 0) = some (ad 9, .inl (cI, 96, .inl (F 9))) from hM30.2.1 9 rfl) rfl (vp_in_nI (show 4 * j + ((uAc ((kRs σ).getD j u0)).length) < 96 by omega) (by omega)) (nI_clamp (show 4 * j + ((uAc ((kRs σ).getD j u0)).length) < 2 ^ 31 by omega)) d_MM_then_128 (fun H locs hP hS => ?_)
                    obtain ⟨A32, eA32⟩ : ∃ z, z = gU A29 (30, 0) (ad 9, .inl (cI, 96, .inl (upd (F 9) (4 * j + ((uAc ((kRs σ).getD j u0)).length)) (nI vv)))) := ⟨_, rfl⟩
                    replace hP : gP D classes b A32 H := by rw [eA32]; exact hP
                    have hM33 : rMM cI cZ cL A32 h ad (va_up (va_up F 8 (upd (F 8) (4 * j + ((uAc ((kRs σ).getD j u0)).length)) (nI 1))) 9 (upd (F 9) (4 * j + ((uAc ((kRs σ).getD j u0)).length)) (nI vv))) G ((kBu σ).length) ((kRs σ).length) ((kIs σ).length) (kMk σ) := by rw [eA32]; exact hM30.put 9 rfl _
                    have glA32 : gL A A32 := by rw [eA32]; exact glA29.U (by decide)
                    refine lv_aload_n hx hb d_MM_then_129 rfl (lv_at hl 1 rfl) ?_
                    refine g_get hx hb hts i_MM hown hK.1 hP (show A32 (20, 0) = some (h, .inr (5, [.ref (ad 0), .ref (ad 1), .int (nI ((kBu σ).length)), .ref (ad 3), .ref (ad 4), .ref (ad 5), .ref (ad 6), .ref (ad 7), .ref (ad 8), .ref (ad 9), .ref (ad 10), .int (nI ((kRs σ).length)), .ref (ad 12), .ref (ad 13), .ref (ad 14), .ref (ad 15), .ref (ad 16), .ref (ad 17), .ref (ad 18), .ref (ad 19), .ref (ad 20), .ref (ad 21), .int (nI ((kIs σ).length)), .int (nI (kMk σ) - 1)])) from hM33.1) rfl 10 (by decide) (hts _ k_453) (fun _ h9 => h9) rfl d_MM_then_130 ?_
                    refine lv_iload_n hx hb d_MM_then_133 rfl (lv_at hl 2 rfl) ?_
                    refine lv_dup2_11 hx hb d_MM_then_134 rfl rfl ?_
                    obtain ⟨bz34a, bz34b, bz34c, bz34d, bz34e, -⟩ := w3 j (by omega)
                    refine g_iald (v := nI (uAc ((kRs σ).getD j u0)).length) hx hb hK.1 hP 0 (show A32 (31, 0) = some (ad 10, .inl (cI, 24, .inl (F 10))) from hM33.2.1 10 rfl) rfl (vp_in_nI (show j < 24 by omega) (by omega)) (by rw [(nI_clamp (show j < 2 ^ 31 by omega))]; exact (hru j (by omega)).2.2.2.1) d_MM_then_135 ?_
                    refine lv_iconst (v := 1) hx hb d_MM_then_136 (by decide) ?_
                    refine lv_iadd hx hb d_MM_then_137 ?_
                    rw [nI_1 _]
                    refine g_iast (k := j) hx hb hK.1 hP hS 0 (show A32 (31, 0) = some (ad 10, .inl (cI, 24, .inl (F 10))) from hM33.2.1 10 rfl) rfl (vp_in_nI (show j < 24 by omega) (by omega)) (nI_clamp (show j < 2 ^ 31 by omega)) d_MM_then_138 (fun H locs hP hS => ?_)
                    obtain ⟨A35, eA35⟩ : ∃ z, z = gU A32 (31, 0) (ad 10, .inl (cI, 24, .inl (upd (F 10) (j) (nI ((uAc ((kRs σ).getD j u0)).length + 1))))) := ⟨_, rfl⟩
                    replace hP : gP D classes b A35 H := by rw [eA35]; exact hP
                    have hM36 : rMM cI cZ cL A35 h ad (va_up (va_up (va_up F 8 (upd (F 8) (4 * j + ((uAc ((kRs σ).getD j u0)).length)) (nI 1))) 9 (upd (F 9) (4 * j + ((uAc ((kRs σ).getD j u0)).length)) (nI vv))) 10 (upd (F 10) (j) (nI ((uAc ((kRs σ).getD j u0)).length + 1)))) G ((kBu σ).length) ((kRs σ).length) ((kIs σ).length) (kMk σ) := by rw [eA35]; exact hM33.put 10 rfl _
                    have glA35 : gL A A35 := by rw [eA35]; exact glA32.U (by decide)
                    refine lv_aload_n hx hb d_MM_then_139 rfl (lv_at hl 1 rfl) ?_
                    refine g_get hx hb hts i_MM hown hK.1 hP (show A35 (20, 0) = some (h, .inr (5, [.ref (ad 0), .ref (ad 1), .int (nI ((kBu σ).length)), .ref (ad 3), .ref (ad 4), .ref (ad 5), .ref (ad 6), .ref (ad 7), .ref (ad 8), .ref (ad 9), .ref (ad 10), .int (nI ((kRs σ).length)), .ref (ad 12), .ref (ad 13), .ref (ad 14), .ref (ad 15), .ref (ad 16), .ref (ad 17), .ref (ad 18), .ref (ad 19), .ref (ad 20), .ref (ad 21), .int (nI ((kIs σ).length)), .int (nI (kMk σ) - 1)])) from hM36.1) rfl 10 (by decide) (hts _ k_453) (fun _ h9 => h9) rfl d_MM_then_140 ?_
                    refine lv_iload_n hx hb d_MM_then_143 rfl (lv_at hl 2 rfl) ?_
                    refine g_iald (v := nI ((uAc ((kRs σ).getD j u0)).length + 1)) hx hb hK.1 hP 0 (show A35 (31, 0) = some (ad 10, .inl (cI, 24, .inl (upd (F 10) (j) (nI ((uAc ((kRs σ).getD j u0)).length + 1))))) from hM36.2.1 10 rfl) rfl (vp_in_nI (show j < 24 by omega) (by omega)) (by rw [(nI_clamp (show j < 2 ^ 31 by omega))]; exact pk_us) d_MM_then_144 ?_
                    have e9 : sThen σ (nI j) (nI 1) (nI vv) = (((kRs σ).set j (uAdd ((kRs σ).getD j u0) (nI 1) (nI vv)), kIs σ, kSt σ, kBu σ, kMk σ), nI ((uAc ((kRs σ).getD j u0)).length + 1)) := by unfold sThen; rw [if_pos hjn, hcl, hal, Bool.and_true, if_pos (by simpa using hlv), if_neg (by omega), len1, nI_1]
                    refine W.widen (k := 0) (n := 0) (by decide) (by decide) ?_
                    exact W.iret hx hb hr (fun t ht _ => ⟨⟨_, A35, rfl, ⟨by rw [e9], by rw [e9]; exact ⟨ad, (va_up (va_up (va_up F 8 (upd (F 8) (4 * j + ((uAc ((kRs σ).getD j u0)).length)) (nI 1))) 9 (upd (F 9) (4 * j + ((uAc ((kRs σ).getD j u0)).length)) (nI vv))) 10 (upd (F 10) (j) (nI ((uAc ((kRs σ).getD j u0)).length + 1)))), G, (by rw [show ((kRs σ).set j (uAdd ((kRs σ).getD j u0) (nI 1) (nI vv))).length = (kRs σ).length from List.length_set]; exact hM36), hR.act hw hj (by omega)⟩, glA35⟩, show gP D classes b A35 t.heap by rw [ht]; exact hP⟩, hS.F ht⟩) hS.2.2 d_MM_then_145
                  · skip
                    replace c27 : (uAc ((kRs σ).getD j u0)).length = 4 := (nI_eq (a := (uAc ((kRs σ).getD j u0)).length) (b := 4) (by omega) (by decide)).mp c27
                    refine lv_bipush (v := (-2)) hx hb d_MM_then_94 (by decide) ?_
                    have e9 : sThen σ (nI j) (nI 1) (nI vv) = (σ, -2) := by unfold sThen; rw [if_pos hjn, hcl, hal, Bool.and_true, if_pos (by simpa using hlv), if_pos (by omega)]
                    refine W.widen (k := 0) (n := 0) (by decide) (by decide) ?_
                    exact W.iret hx hb hr (fun t ht _ => ⟨⟨_, A, rfl, ⟨by rw [e9], by rw [e9]; exact hB, gL.rf⟩, show gP D classes b A t.heap by rw [ht]; exact hP⟩, hS.F ht⟩) hS.2.2 d_MM_then_96
                · skip
                  refine lv_iconst (v := (-1)) hx hb d_MM_then_57 (by decide) ?_
                  have e9 : sThen σ (nI j) (nI 1) v = (σ, -1) := by unfold sThen; rw [if_pos hjn, hcl, allw_1, inM1 (Int32.not_lt.mp c24) (by omega), Bool.and_false]; rfl
                  refine W.widen (k := 0) (n := 0) (by decide) (by decide) ?_
                  exact W.iret hx hb hr (fun t ht _ => ⟨⟨_, A, rfl, ⟨by rw [e9], by rw [e9]; exact hB, gL.rf⟩, show gP D classes b A t.heap by rw [ht]; exact hP⟩, hS.F ht⟩) hS.2.2 d_MM_then_58
            · skip
              have hal := allw_2 (uMt ((kRs σ).getD j u0)) v
              refine lv_aload_n hx hb d_MM_then_32 rfl (lv_at hl 0 rfl) ?_
              refine g_get hx hb hts i_MM hown hK.1 hP (show A (20, 0) = some (h, .inr (5, [.ref (ad 0), .ref (ad 1), .int (nI ((kBu σ).length)), .ref (ad 3), .ref (ad 4), .ref (ad 5), .ref (ad 6), .ref (ad 7), .ref (ad 8), .ref (ad 9), .ref (ad 10), .int (nI ((kRs σ).length)), .ref (ad 12), .ref (ad 13), .ref (ad 14), .ref (ad 15), .ref (ad 16), .ref (ad 17), .ref (ad 18), .ref (ad 19), .ref (ad 20), .ref (ad 21), .int (nI ((kIs σ).length)), .int (nI (kMk σ) - 1)])) from hM.1) rfl 4 (by decide) (hts _ k_447) (fun _ h9 => h9) rfl d_MM_then_33 ?_
              refine lv_iload_n hx hb d_MM_then_36 rfl (lv_at hl 1 rfl) ?_
              obtain ⟨bz37a, bz37b, bz37c, bz37d, bz37e, -⟩ := w3 j (by omega)
              refine g_iald (v := nI (uMt ((kRs σ).getD j u0))) hx hb hK.1 hP 0 (show A (25, 0) = some (ad 4, .inl (cI, 24, .inl (F 4))) from hM.2.1 4 rfl) rfl (vp_in_nI (show j < 24 by omega) (by omega)) (by rw [(nI_clamp (show j < 2 ^ 31 by omega))]; exact (hru j (by omega)).2.1) d_MM_then_37 ?_
              refine lv_iconst (v := 4) hx hb d_MM_then_38 (by decide) ?_
              refine lv_irem hx hb d_MM_then_39 (by decide) ?_
              rw [rem4 (show uMt ((kRs σ).getD j u0) < 2 ^ 31 by omega)]
              refine lv_istore (lv' := [(4, .int (nI ((uMt ((kRs σ).getD j u0)) % 4))), (0, .ref h), (1, .int (nI j)), (2, .int (nI 2)), (3, .int v)]) hx hb d_MM_then_40 hl (by decide) rfl (fun ls hl => ?_)
              refine lv_iload_n hx hb d_MM_then_42 rfl (lv_at hl 3 rfl) ?_
              refine lv_iconst (v := 1) hx hb d_MM_then_43 (by decide) ?_
              refine lv_icmp_ne (tgt := 59) hx hb d_MM_then_44 (by decide) (fun _ => ?_) (fun h9 => absurd h9 (by decide))
              refine lv_iload_n hx hb d_MM_then_59 rfl (lv_at hl 3 rfl) ?_
              refine lv_iconst (v := 4) hx hb d_MM_then_60 (by decide) ?_
              refine lv_icmp_ne (tgt := 84) hx hb d_MM_then_61 (by decide) (fun _ => ?_) (fun h9 => absurd h9 (by decide))
              refine lv_aload_n hx hb d_MM_then_84 rfl (lv_at hl 1 rfl) ?_
              refine g_get hx hb hts i_MM hown hK.1 hP (show A (20, 0) = some (h, .inr (5, [.ref (ad 0), .ref (ad 1), .int (nI ((kBu σ).length)), .ref (ad 3), .ref (ad 4), .ref (ad 5), .ref (ad 6), .ref (ad 7), .ref (ad 8), .ref (ad 9), .ref (ad 10), .int (nI ((kRs σ).length)), .ref (ad 12), .ref (ad 13), .ref (ad 14), .ref (ad 15), .ref (ad 16), .ref (ad 17), .ref (ad 18), .ref (ad 19), .ref (ad 20), .ref (ad 21), .int (nI ((kIs σ).length)), .int (nI (kMk σ) - 1)])) from hM.1) rfl 10 (by decide) (hts _ k_453) (fun _ h9 => h9) rfl d_MM_then_85 ?_
              refine lv_iload_n hx hb d_MM_then_88 rfl (lv_at hl 2 rfl) ?_
              obtain ⟨bz40a, bz40b, bz40c, bz40d, bz40e, -⟩ := w3 j (by omega)
              refine g_iald (v := nI (uAc ((kRs σ).getD j u0)).length) hx hb hK.1 hP 0 (show A (31, 0) = some (ad 10, .inl (cI, 24, .inl (F 10))) from hM.2.1 10 rfl) rfl (vp_in_nI (show j < 24 by omega) (by omega)) (by rw [(nI_clamp (show j < 2 ^ 31 by omega))]; exact (hru j (by omega)).2.2.2.1) d_MM_then_89 ?_
              refine lv_iconst (v := 4) hx hb d_MM_then_90 (by decide) ?_
              refine lv_icmp_ne (tgt := 97) hx hb d_MM_then_91 (by decide) (fun c41 => ?_) (fun c41 => ?_)
              · skip
                replace c41 : ¬ (uAc ((kRs σ).getD j u0)).length = 4 := fun q => c41 ((nI_eq (a := (uAc ((kRs σ).getD j u0)).length) (b := 4) (by omega) (by decide)).mpr q)
                refine lv_aload_n hx hb d_MM_then_97 rfl (lv_at hl 1 rfl) ?_
                refine g_get hx hb hts i_MM hown hK.1 hP (show A (20, 0) = some (h, .inr (5, [.ref (ad 0), .ref (ad 1), .int (nI ((kBu σ).length)), .ref (ad 3), .ref (ad 4), .ref (ad 5), .ref (ad 6), .ref (ad 7), .ref (ad 8), .ref (ad 9), .ref (ad 10), .int (nI ((kRs σ).length)), .ref (ad 12), .ref (ad 13), .ref (ad 14), .ref (ad 15), .ref (ad 16), .ref (ad 17), .ref (ad 18), .ref (ad 19), .ref (ad 20), .ref (ad 21), .int (nI ((kIs σ).length)), .int (nI (kMk σ) - 1)])) from hM.1) rfl 8 (by decide) (hts _ k_451) (fun _ h9 => h9) rfl d_MM_then_98 ?_
                refine lv_iconst (v := 4) hx hb d_MM_then_101 (by decide) ?_
                refine lv_iload_n hx hb d_MM_then_102 rfl (lv_at hl 2 rfl) ?_
                refine lv_imul hx hb d_MM_then_103 ?_
                rw [mul4 _]
                refine lv_aload_n hx hb d_MM_then_104 rfl (lv_at hl 1 rfl) ?_
                refine g_get hx hb hts i_MM hown hK.1 hP (show A (20, 0) = some (h, .inr (5, [.ref (ad 0), .ref (ad 1), .int (nI ((kBu σ).length)), .ref (ad 3), .ref (ad 4), .ref (ad 5), .ref (ad 6), .ref (ad 7), .ref (ad 8), .ref (ad 9), .ref (ad 10), .int (nI ((kRs σ).length)), .ref (ad 12), .ref (ad 13), .ref (ad 14), .ref (ad 15), .ref (ad 16), .ref (ad 17), .ref (ad 18), .ref (ad 19), .ref (ad 20), .ref (ad 21), .int (nI ((kIs σ).length)), .int (nI (kMk σ) - 1)])) from hM.1) rfl 10 (by decide) (hts _ k_453) (fun _ h9 => h9) rfl d_MM_then_105 ?_
                refine lv_iload_n hx hb d_MM_then_108 rfl (lv_at hl 2 rfl) ?_
                obtain ⟨bz42a, bz42b, bz42c, bz42d, bz42e, -⟩ := w3 j (by omega)
                refine g_iald (v := nI (uAc ((kRs σ).getD j u0)).length) hx hb hK.1 hP 0 (show A (31, 0) = some (ad 10, .inl (cI, 24, .inl (F 10))) from hM.2.1 10 rfl) rfl (vp_in_nI (show j < 24 by omega) (by omega)) (by rw [(nI_clamp (show j < 2 ^ 31 by omega))]; exact (hru j (by omega)).2.2.2.1) d_MM_then_109 ?_
                refine lv_iadd hx hb d_MM_then_110 ?_
                rw [nI_add _ _]
                refine lv_iload_n hx hb d_MM_then_111 rfl (lv_at hl 3 rfl) ?_
                refine g_iast (k := 4 * j + ((uAc ((kRs σ).getD j u0)).length)) hx hb hK.1 hP hS 0 (show A (29, 0) = some (ad 8, .inl (cI, 96, .inl (F 8))) from hM.2.1 8 rfl) rfl (vp_in_nI (show 4 * j + ((uAc ((kRs σ).getD j u0)).length) < 96 by omega) (by omega)) (nI_clamp (show 4 * j + ((uAc ((kRs σ).getD j u0)).length) < 2 ^ 31 by omega)) d_MM_then_112 (fun H locs hP hS => ?_)
                obtain ⟨A43, eA43⟩ : ∃ z, z = gU A (29, 0) (ad 8, .inl (cI, 96, .inl (upd (F 8) (4 * j + ((uAc ((kRs σ).getD j u0)).length)) (nI 2)))) := ⟨_, rfl⟩
                replace hP : gP D classes b A43 H := by rw [eA43]; exact hP
                have hM44 : rMM cI cZ cL A43 h ad (va_up F 8 (upd (F 8) (4 * j + ((uAc ((kRs σ).getD j u0)).length)) (nI 2))) G ((kBu σ).length) ((kRs σ).length) ((kIs σ).length) (kMk σ) := by rw [eA43]; exact hM.put 8 rfl _
                have glA43 : gL A A43 := by rw [eA43]; exact gL.rf.U (by decide)
                refine lv_aload_n hx hb d_MM_then_113 rfl (lv_at hl 1 rfl) ?_
                refine g_get hx hb hts i_MM hown hK.1 hP (show A43 (20, 0) = some (h, .inr (5, [.ref (ad 0), .ref (ad 1), .int (nI ((kBu σ).length)), .ref (ad 3), .ref (ad 4), .ref (ad 5), .ref (ad 6), .ref (ad 7), .ref (ad 8), .ref (ad 9), .ref (ad 10), .int (nI ((kRs σ).length)), .ref (ad 12), .ref (ad 13), .ref (ad 14), .ref (ad 15), .ref (ad 16), .ref (ad 17), .ref (ad 18), .ref (ad 19), .ref (ad 20), .ref (ad 21), .int (nI ((kIs σ).length)), .int (nI (kMk σ) - 1)])) from hM44.1) rfl 9 (by decide) (hts _ k_452) (fun _ h9 => h9) rfl d_MM_then_114 ?_
                refine lv_iconst (v := 4) hx hb d_MM_then_117 (by decide) ?_
                refine lv_iload_n hx hb d_MM_then_118 rfl (lv_at hl 2 rfl) ?_
                refine lv_imul hx hb d_MM_then_119 ?_
                rw [mul4 _]
                refine lv_aload_n hx hb d_MM_then_120 rfl (lv_at hl 1 rfl) ?_
                refine g_get hx hb hts i_MM hown hK.1 hP (show A43 (20, 0) = some (h, .inr (5, [.ref (ad 0), .ref (ad 1), .int (nI ((kBu σ).length)), .ref (ad 3), .ref (ad 4), .ref (ad 5), .ref (ad 6), .ref (ad 7), .ref (ad 8), .ref (ad 9), .ref (ad 10), .int (nI ((kRs σ).length)), .ref (ad 12), .ref (ad 13), .ref (ad 14), .ref (ad 15), .ref (ad 16), .ref (ad 17), .ref (ad 18), .ref (ad 19), .ref (ad 20), .ref (ad 21), .int (nI ((kIs σ).length)), .int (nI (kMk σ) - 1)])) from hM44.1) rfl 10 (by decide) (hts _ k_453) (fun _ h9 => h9) rfl d_MM_then_121 ?_
                refine lv_iload_n hx hb d_MM_then_124 rfl (lv_at hl 2 rfl) ?_
                obtain ⟨bz45a, bz45b, bz45c, bz45d, bz45e, -⟩ := w3 j (by omega)
                refine g_iald (v := nI (uAc ((kRs σ).getD j u0)).length) hx hb hK.1 hP 0 (show A43 (31, 0) = some (ad 10, .inl (cI, 24, .inl (F 10))) from hM44.2.1 10 rfl) rfl (vp_in_nI (show j < 24 by omega) (by omega)) (by rw [(nI_clamp (show j < 2 ^ 31 by omega))]; exact (hru j (by omega)).2.2.2.1) d_MM_then_125 ?_
                refine lv_iadd hx hb d_MM_then_126 ?_
                rw [nI_add _ _]
                refine lv_iload_n hx hb d_MM_then_127 rfl (lv_at hl 4 rfl) ?_
                refine g_iast (k := 4 * j + ((uAc ((kRs σ).getD j u0)).length)) hx hb hK.1 hP hS 0 (show A43 (30, 0) = some (ad 9, .inl (cI, 96, .inl (F 9))) from hM44.2.1 9 rfl) rfl (vp_in_nI (show 4 * j + ((uAc ((kRs σ).getD j u0)).length) < 96 by omega) (by omega)) (nI_clamp (show 4 * j + ((uAc ((kRs σ).getD j u0)).length) < 2 ^ 31 by omega)) d_MM_then_128 (fun H locs hP hS => ?_)
                obtain ⟨A46, eA46⟩ : ∃ z, z = gU A43 (30, 0) (ad 9, .inl (cI, 96, .inl (upd (F 9) (4 * j + ((uAc ((kRs σ).getD j u0)).length)) (v)))) := ⟨_, rfl⟩
                replace hP : gP D classes b A46 H := by rw [eA46]; exact hP
                have hM47 : rMM cI cZ cL A46 h ad (va_up (va_up F 8 (upd (F 8) (4 * j + ((uAc ((kRs σ).getD j u0)).length)) (nI 2))) 9 (upd (F 9) (4 * j + ((uAc ((kRs σ).getD j u0)).length)) (v))) G ((kBu σ).length) ((kRs σ).length) ((kIs σ).length) (kMk σ) := by rw [eA46]; exact hM44.put 9 rfl _
                have glA46 : gL A A46 := by rw [eA46]; exact glA43.U (by decide)
                refine lv_aload_n hx hb d_MM_then_129 rfl (lv_at hl 1 rfl) ?_
                refine g_get hx hb hts i_MM hown hK.1 hP (show A46 (20, 0) = some (h, .inr (5, [.ref (ad 0), .ref (ad 1), .int (nI ((kBu σ).length)), .ref (ad 3), .ref (ad 4), .ref (ad 5), .ref (ad 6), .ref (ad 7), .ref (ad 8), .ref (ad 9), .ref (ad 10), .int (nI ((kRs σ).length)), .ref (ad 12), .ref (ad 13), .ref (ad 14), .ref (ad 15), .ref (ad 16), .ref (ad 17), .ref (ad 18), .ref (ad 19), .ref (ad 20), .ref (ad 21), .int (nI ((kIs σ).length)), .int (nI (kMk σ) - 1)])) from hM47.1) rfl 10 (by decide) (hts _ k_453) (fun _ h9 => h9) rfl d_MM_then_130 ?_
                refine lv_iload_n hx hb d_MM_then_133 rfl (lv_at hl 2 rfl) ?_
                refine lv_dup2_11 hx hb d_MM_then_134 rfl rfl ?_
                obtain ⟨bz48a, bz48b, bz48c, bz48d, bz48e, -⟩ := w3 j (by omega)
                refine g_iald (v := nI (uAc ((kRs σ).getD j u0)).length) hx hb hK.1 hP 0 (show A46 (31, 0) = some (ad 10, .inl (cI, 24, .inl (F 10))) from hM47.2.1 10 rfl) rfl (vp_in_nI (show j < 24 by omega) (by omega)) (by rw [(nI_clamp (show j < 2 ^ 31 by omega))]; exact (hru j (by omega)).2.2.2.1) d_MM_then_135 ?_
                refine lv_iconst (v := 1) hx hb d_MM_then_136 (by decide) ?_
                refine lv_iadd hx hb d_MM_then_137 ?_
                rw [nI_1 _]
                refine g_iast (k := j) hx hb hK.1 hP hS 0 (show A46 (31, 0) = some (ad 10, .inl (cI, 24, .inl (F 10))) from hM47.2.1 10 rfl) rfl (vp_in_nI (show j < 24 by omega) (by omega)) (nI_clamp (show j < 2 ^ 31 by omega)) d_MM_then_138 (fun H locs hP hS => ?_)
                obtain ⟨A49, eA49⟩ : ∃ z, z = gU A46 (31, 0) (ad 10, .inl (cI, 24, .inl (upd (F 10) (j) (nI ((uAc ((kRs σ).getD j u0)).length + 1))))) := ⟨_, rfl⟩
                replace hP : gP D classes b A49 H := by rw [eA49]; exact hP
                have hM50 : rMM cI cZ cL A49 h ad (va_up (va_up (va_up F 8 (upd (F 8) (4 * j + ((uAc ((kRs σ).getD j u0)).length)) (nI 2))) 9 (upd (F 9) (4 * j + ((uAc ((kRs σ).getD j u0)).length)) (v))) 10 (upd (F 10) (j) (nI ((uAc ((kRs σ).getD j u0)).length + 1)))) G ((kBu σ).length) ((kRs σ).length) ((kIs σ).length) (kMk σ) := by rw [eA49]; exact hM47.put 10 rfl _
                have glA49 : gL A A49 := by rw [eA49]; exact glA46.U (by decide)
                refine lv_aload_n hx hb d_MM_then_139 rfl (lv_at hl 1 rfl) ?_
                refine g_get hx hb hts i_MM hown hK.1 hP (show A49 (20, 0) = some (h, .inr (5, [.ref (ad 0), .ref (ad 1), .int (nI ((kBu σ).length)), .ref (ad 3), .ref (ad 4), .ref (ad 5), .ref (ad 6), .ref (ad 7), .ref (ad 8), .ref (ad 9), .ref (ad 10), .int (nI ((kRs σ).length)), .ref (ad 12), .ref (ad 13), .ref (ad 14), .ref (ad 15), .ref (ad 16), .ref (ad 17), .ref (ad 18), .ref (ad 19), .ref (ad 20), .ref (ad 21), .int (nI ((kIs σ).length)), .int (nI (kMk σ) - 1)])) from hM50.1) rfl 10 (by decide) (hts _ k_453) (fun _ h9 => h9) rfl d_MM_then_140 ?_
                refine lv_iload_n hx hb d_MM_then_143 rfl (lv_at hl 2 rfl) ?_
                refine g_iald (v := nI ((uAc ((kRs σ).getD j u0)).length + 1)) hx hb hK.1 hP 0 (show A49 (31, 0) = some (ad 10, .inl (cI, 24, .inl (upd (F 10) (j) (nI ((uAc ((kRs σ).getD j u0)).length + 1))))) from hM50.2.1 10 rfl) rfl (vp_in_nI (show j < 24 by omega) (by omega)) (by rw [(nI_clamp (show j < 2 ^ 31 by omega))]; exact pk_us) d_MM_then_144 ?_
                have e9 : sThen σ (nI j) (nI 2) v = (((kRs σ).set j (uAdd ((kRs σ).getD j u0) (nI 2) v), kIs σ, kSt σ, kBu σ, kMk σ), nI ((uAc ((kRs σ).getD j u0)).length + 1)) := by unfold sThen; rw [if_pos hjn, hcl, hal, Bool.and_true, if_pos (by simpa using hlv), if_neg (by omega), len1, nI_1]
                refine W.widen (k := 0) (n := 0) (by decide) (by decide) ?_
                exact W.iret hx hb hr (fun t ht _ => ⟨⟨_, A49, rfl, ⟨by rw [e9], by rw [e9]; exact ⟨ad, (va_up (va_up (va_up F 8 (upd (F 8) (4 * j + ((uAc ((kRs σ).getD j u0)).length)) (nI 2))) 9 (upd (F 9) (4 * j + ((uAc ((kRs σ).getD j u0)).length)) (v))) 10 (upd (F 10) (j) (nI ((uAc ((kRs σ).getD j u0)).length + 1)))), G, (by rw [show ((kRs σ).set j (uAdd ((kRs σ).getD j u0) (nI 2) v)).length = (kRs σ).length from List.length_set]; exact hM50), hR.act hw hj (by omega)⟩, glA49⟩, show gP D classes b A49 t.heap by rw [ht]; exact hP⟩, hS.F ht⟩) hS.2.2 d_MM_then_145
              · skip
                replace c41 : (uAc ((kRs σ).getD j u0)).length = 4 := (nI_eq (a := (uAc ((kRs σ).getD j u0)).length) (b := 4) (by omega) (by decide)).mp c41
                refine lv_bipush (v := (-2)) hx hb d_MM_then_94 (by decide) ?_
                have e9 : sThen σ (nI j) (nI 2) v = (σ, -2) := by unfold sThen; rw [if_pos hjn, hcl, hal, Bool.and_true, if_pos (by simpa using hlv), if_pos (by omega)]
                refine W.widen (k := 0) (n := 0) (by decide) (by decide) ?_
                exact W.iret hx hb hr (fun t ht _ => ⟨⟨_, A, rfl, ⟨by rw [e9], by rw [e9]; exact hB, gL.rf⟩, show gP D classes b A t.heap by rw [ht]; exact hP⟩, hS.F ht⟩) hS.2.2 d_MM_then_96
            · skip
              have hal := allw_3 (uMt ((kRs σ).getD j u0)) v
              refine lv_aload_n hx hb d_MM_then_32 rfl (lv_at hl 0 rfl) ?_
              refine g_get hx hb hts i_MM hown hK.1 hP (show A (20, 0) = some (h, .inr (5, [.ref (ad 0), .ref (ad 1), .int (nI ((kBu σ).length)), .ref (ad 3), .ref (ad 4), .ref (ad 5), .ref (ad 6), .ref (ad 7), .ref (ad 8), .ref (ad 9), .ref (ad 10), .int (nI ((kRs σ).length)), .ref (ad 12), .ref (ad 13), .ref (ad 14), .ref (ad 15), .ref (ad 16), .ref (ad 17), .ref (ad 18), .ref (ad 19), .ref (ad 20), .ref (ad 21), .int (nI ((kIs σ).length)), .int (nI (kMk σ) - 1)])) from hM.1) rfl 4 (by decide) (hts _ k_447) (fun _ h9 => h9) rfl d_MM_then_33 ?_
              refine lv_iload_n hx hb d_MM_then_36 rfl (lv_at hl 1 rfl) ?_
              obtain ⟨bz51a, bz51b, bz51c, bz51d, bz51e, -⟩ := w3 j (by omega)
              refine g_iald (v := nI (uMt ((kRs σ).getD j u0))) hx hb hK.1 hP 0 (show A (25, 0) = some (ad 4, .inl (cI, 24, .inl (F 4))) from hM.2.1 4 rfl) rfl (vp_in_nI (show j < 24 by omega) (by omega)) (by rw [(nI_clamp (show j < 2 ^ 31 by omega))]; exact (hru j (by omega)).2.1) d_MM_then_37 ?_
              refine lv_iconst (v := 4) hx hb d_MM_then_38 (by decide) ?_
              refine lv_irem hx hb d_MM_then_39 (by decide) ?_
              rw [rem4 (show uMt ((kRs σ).getD j u0) < 2 ^ 31 by omega)]
              refine lv_istore (lv' := [(4, .int (nI ((uMt ((kRs σ).getD j u0)) % 4))), (0, .ref h), (1, .int (nI j)), (2, .int (nI 3)), (3, .int v)]) hx hb d_MM_then_40 hl (by decide) rfl (fun ls hl => ?_)
              refine lv_iload_n hx hb d_MM_then_42 rfl (lv_at hl 3 rfl) ?_
              refine lv_iconst (v := 1) hx hb d_MM_then_43 (by decide) ?_
              refine lv_icmp_ne (tgt := 59) hx hb d_MM_then_44 (by decide) (fun _ => ?_) (fun h9 => absurd h9 (by decide))
              refine lv_iload_n hx hb d_MM_then_59 rfl (lv_at hl 3 rfl) ?_
              refine lv_iconst (v := 4) hx hb d_MM_then_60 (by decide) ?_
              refine lv_icmp_ne (tgt := 84) hx hb d_MM_then_61 (by decide) (fun _ => ?_) (fun h9 => absurd h9 (by decide))
              refine lv_aload_n hx hb d_MM_then_84 rfl (lv_at hl 1 rfl) ?_
              refine g_get hx hb hts i_MM hown hK.1 hP (show A (20, 0) = some (h, .inr (5, [.ref (ad 0), .ref (ad 1), .int (nI ((kBu σ).length)), .ref (ad 3), .ref (ad 4), .ref (ad 5), .ref (ad 6), .ref (ad 7), .ref (ad 8), .ref (ad 9), .ref (ad 10), .int (nI ((kRs σ).length)), .ref (ad 12), .ref (ad 13), .ref (ad 14), .ref (ad 15), .ref (ad 16), .ref (ad 17), .ref (ad 18), .ref (ad 19), .ref (ad 20), .ref (ad 21), .int (nI ((kIs σ).length)), .int (nI (kMk σ) - 1)])) from hM.1) rfl 10 (by decide) (hts _ k_453) (fun _ h9 => h9) rfl d_MM_then_85 ?_
              refine lv_iload_n hx hb d_MM_then_88 rfl (lv_at hl 2 rfl) ?_
              obtain ⟨bz54a, bz54b, bz54c, bz54d, bz54e, -⟩ := w3 j (by omega)
              refine g_iald (v := nI (uAc ((kRs σ).getD j u0)).length) hx hb hK.1 hP 0 (show A (31, 0) = some (ad 10, .inl (cI, 24, .inl (F 10))) from hM.2.1 10 rfl) rfl (vp_in_nI (show j < 24 by omega) (by omega)) (by rw [(nI_clamp (show j < 2 ^ 31 by omega))]; exact (hru j (by omega)).2.2.2.1) d_MM_then_89 ?_
              refine lv_iconst (v := 4) hx hb d_MM_then_90 (by decide) ?_
              refine lv_icmp_ne (tgt := 97) hx hb d_MM_then_91 (by decide) (fun c55 => ?_) (fun c55 => ?_)
              · skip
                replace c55 : ¬ (uAc ((kRs σ).getD j u0)).length = 4 := fun q => c55 ((nI_eq (a := (uAc ((kRs σ).getD j u0)).length) (b := 4) (by omega) (by decide)).mpr q)
                refine lv_aload_n hx hb d_MM_then_97 rfl (lv_at hl 1 rfl) ?_
                refine g_get hx hb hts i_MM hown hK.1 hP (show A (20, 0) = some (h, .inr (5, [.ref (ad 0), .ref (ad 1), .int (nI ((kBu σ).length)), .ref (ad 3), .ref (ad 4), .ref (ad 5), .ref (ad 6), .ref (ad 7), .ref (ad 8), .ref (ad 9), .ref (ad 10), .int (nI ((kRs σ).length)), .ref (ad 12), .ref (ad 13), .ref (ad 14), .ref (ad 15), .ref (ad 16), .ref (ad 17), .ref (ad 18), .ref (ad 19), .ref (ad 20), .ref (ad 21), .int (nI ((kIs σ).length)), .int (nI (kMk σ) - 1)])) from hM.1) rfl 8 (by decide) (hts _ k_451) (fun _ h9 => h9) rfl d_MM_then_98 ?_
                refine lv_iconst (v := 4) hx hb d_MM_then_101 (by decide) ?_
                refine lv_iload_n hx hb d_MM_then_102 rfl (lv_at hl 2 rfl) ?_
                refine lv_imul hx hb d_MM_then_103 ?_
                rw [mul4 _]
                refine lv_aload_n hx hb d_MM_then_104 rfl (lv_at hl 1 rfl) ?_
                refine g_get hx hb hts i_MM hown hK.1 hP (show A (20, 0) = some (h, .inr (5, [.ref (ad 0), .ref (ad 1), .int (nI ((kBu σ).length)), .ref (ad 3), .ref (ad 4), .ref (ad 5), .ref (ad 6), .ref (ad 7), .ref (ad 8), .ref (ad 9), .ref (ad 10), .int (nI ((kRs σ).length)), .ref (ad 12), .ref (ad 13), .ref (ad 14), .ref (ad 15), .ref (ad 16), .ref (ad 17), .ref (ad 18), .ref (ad 19), .ref (ad 20), .ref (ad 21), .int (nI ((kIs σ).length)), .int (nI (kMk σ) - 1)])) from hM.1) rfl 10 (by decide) (hts _ k_453) (fun _ h9 => h9) rfl d_MM_then_105 ?_
                refine lv_iload_n hx hb d_MM_then_108 rfl (lv_at hl 2 rfl) ?_
                obtain ⟨bz56a, bz56b, bz56c, bz56d, bz56e, -⟩ := w3 j (by omega)
                refine g_iald (v := nI (uAc ((kRs σ).getD j u0)).length) hx hb hK.1 hP 0 (show A (31, 0) = some (ad 10, .inl (cI, 24, .inl (F 10))) from hM.2.1 10 rfl) rfl (vp_in_nI (show j < 24 by omega) (by omega)) (by rw [(nI_clamp (show j < 2 ^ 31 by omega))]; exact (hru j (by omega)).2.2.2.1) d_MM_then_109 ?_
                refine lv_iadd hx hb d_MM_then_110 ?_
                rw [nI_add _ _]
                refine lv_iload_n hx hb d_MM_then_111 rfl (lv_at hl 3 rfl) ?_
                refine g_iast (k := 4 * j + ((uAc ((kRs σ).getD j u0)).length)) hx hb hK.1 hP hS 0 (show A (29, 0) = some (ad 8, .inl (cI, 96, .inl (F 8))) from hM.2.1 8 rfl) rfl (vp_in_nI (show 4 * j + ((uAc ((kRs σ).getD j u0)).length) < 96 by omega) (by omega)) (nI_clamp (show 4 * j + ((uAc ((kRs σ).getD j u0)).length) < 2 ^ 31 by omega)) d_MM_then_112 (fun H locs hP hS => ?_)
                obtain ⟨A57, eA57⟩ : ∃ z, z = gU A (29, 0) (ad 8, .inl (cI, 96, .inl (upd (F 8) (4 * j + ((uAc ((kRs σ).getD j u0)).length)) (nI 3)))) := ⟨_, rfl⟩
                replace hP : gP D classes b A57 H := by rw [eA57]; exact hP
                have hM58 : rMM cI cZ cL A57 h ad (va_up F 8 (upd (F 8) (4 * j + ((uAc ((kRs σ).getD j u0)).length)) (nI 3))) G ((kBu σ).length) ((kRs σ).length) ((kIs σ).length) (kMk σ) := by rw [eA57]; exact hM.put 8 rfl _
                have glA57 : gL A A57 := by rw [eA57]; exact gL.rf.U (by decide)
                refine lv_aload_n hx hb d_MM_then_113 rfl (lv_at hl 1 rfl) ?_
                refine g_get hx hb hts i_MM hown hK.1 hP (show A57 (20, 0) = some (h, .inr (5, [.ref (ad 0), .ref (ad 1), .int (nI ((kBu σ).length)), .ref (ad 3), .ref (ad 4), .ref (ad 5), .ref (ad 6), .ref (ad 7), .ref (ad 8), .ref (ad 9), .ref (ad 10), .int (nI ((kRs σ).length)), .ref (ad 12), .ref (ad 13), .ref (ad 14), .ref (ad 15), .ref (ad 16), .ref (ad 17), .ref (ad 18), .ref (ad 19), .ref (ad 20), .ref (ad 21), .int (nI ((kIs σ).length)), .int (nI (kMk σ) - 1)])) from hM58.1) rfl 9 (by decide) (hts _ k_452) (fun _ h9 => h9) rfl d_MM_then_114 ?_
                refine lv_iconst (v := 4) hx hb d_MM_then_117 (by decide) ?_
                refine lv_iload_n hx hb d_MM_then_118 rfl (lv_at hl 2 rfl) ?_
                refine lv_imul hx hb d_MM_then_119 ?_
                rw [mul4 _]
                refine lv_aload_n hx hb d_MM_then_120 rfl (lv_at hl 1 rfl) ?_
                refine g_get hx hb hts i_MM hown hK.1 hP (show A57 (20, 0) = some (h, .inr (5, [.ref (ad 0), .ref (ad 1), .int (nI ((kBu σ).length)), .ref (ad 3), .ref (ad 4), .ref (ad 5), .ref (ad 6), .ref (ad 7), .ref (ad 8), .ref (ad 9), .ref (ad 10), .int (nI ((kRs σ).length)), .ref (ad 12), .ref (ad 13), .ref (ad 14), .ref (ad 15), .ref (ad 16), .ref (ad 17), .ref (ad 18), .ref (ad 19), .ref (ad 20), .ref (ad 21), .int (nI ((kIs σ).length)), .int (nI (kMk σ) - 1)])) from hM58.1) rfl 10 (by decide) (hts _ k_453) (fun _ h9 => h9) rfl d_MM_then_121 ?_
                refine lv_iload_n hx hb d_MM_then_124 rfl (lv_at hl 2 rfl) ?_
                obtain ⟨bz59a, bz59b, bz59c, bz59d, bz59e, -⟩ := w3 j (by omega)
                refine g_iald (v := nI (uAc ((kRs σ).getD j u0)).length) hx hb hK.1 hP 0 (show A57 (31, 0) = some (ad 10, .inl (cI, 24, .inl (F 10))) from hM58.2.1 10 rfl) rfl (vp_in_nI (show j < 24 by omega) (by omega)) (by rw [(nI_clamp (show j < 2 ^ 31 by omega))]; exact (hru j (by omega)).2.2.2.1) d_MM_then_125 ?_
                refine lv_iadd hx hb d_MM_then_126 ?_
                rw [nI_add _ _]
                refine lv_iload_n hx hb d_MM_then_127 rfl (lv_at hl 4 rfl) ?_
                refine g_iast (k := 4 * j + ((uAc ((kRs σ).getD j u0)).length)) hx hb hK.1 hP hS 0 (show A57 (30, 0) = some (ad 9, .inl (cI, 96, .inl (F 9))) from hM58.2.1 9 rfl) rfl (vp_in_nI (show 4 * j + ((uAc ((kRs σ).getD j u0)).length) < 96 by omega) (by omega)) (nI_clamp (show 4 * j + ((uAc ((kRs σ).getD j u0)).length) < 2 ^ 31 by omega)) d_MM_then_128 (fun H locs hP hS => ?_)
                obtain ⟨A60, eA60⟩ : ∃ z, z = gU A57 (30, 0) (ad 9, .inl (cI, 96, .inl (upd (F 9) (4 * j + ((uAc ((kRs σ).getD j u0)).length)) (v)))) := ⟨_, rfl⟩
                replace hP : gP D classes b A60 H := by rw [eA60]; exact hP
                have hM61 : rMM cI cZ cL A60 h ad (va_up (va_up F 8 (upd (F 8) (4 * j + ((uAc ((kRs σ).getD j u0)).length)) (nI 3))) 9 (upd (F 9) (4 * j + ((uAc ((kRs σ).getD j u0)).length)) (v))) G ((kBu σ).length) ((kRs σ).length) ((kIs σ).length) (kMk σ) := by rw [eA60]; exact hM58.put 9 rfl _
                have glA60 : gL A A60 := by rw [eA60]; exact glA57.U (by decide)
                refine lv_aload_n hx hb d_MM_then_129 rfl (lv_at hl 1 rfl) ?_
                refine g_get hx hb hts i_MM hown hK.1 hP (show A60 (20, 0) = some (h, .inr (5, [.ref (ad 0), .ref (ad 1), .int (nI ((kBu σ).length)), .ref (ad 3), .ref (ad 4), .ref (ad 5), .ref (ad 6), .ref (ad 7), .ref (ad 8), .ref (ad 9), .ref (ad 10), .int (nI ((kRs σ).length)), .ref (ad 12), .ref (ad 13), .ref (ad 14), .ref (ad 15), .ref (ad 16), .ref (ad 17), .ref (ad 18), .ref (ad 19), .ref (ad 20), .ref (ad 21), .int (nI ((kIs σ).length)), .int (nI (kMk σ) - 1)])) from hM61.1) rfl 10 (by decide) (hts _ k_453) (fun _ h9 => h9) rfl d_MM_then_130 ?_
                refine lv_iload_n hx hb d_MM_then_133 rfl (lv_at hl 2 rfl) ?_
                refine lv_dup2_11 hx hb d_MM_then_134 rfl rfl ?_
                obtain ⟨bz62a, bz62b, bz62c, bz62d, bz62e, -⟩ := w3 j (by omega)
                refine g_iald (v := nI (uAc ((kRs σ).getD j u0)).length) hx hb hK.1 hP 0 (show A60 (31, 0) = some (ad 10, .inl (cI, 24, .inl (F 10))) from hM61.2.1 10 rfl) rfl (vp_in_nI (show j < 24 by omega) (by omega)) (by rw [(nI_clamp (show j < 2 ^ 31 by omega))]; exact (hru j (by omega)).2.2.2.1) d_MM_then_135 ?_
                refine lv_iconst (v := 1) hx hb d_MM_then_136 (by decide) ?_
                refine lv_iadd hx hb d_MM_then_137 ?_
                rw [nI_1 _]
                refine g_iast (k := j) hx hb hK.1 hP hS 0 (show A60 (31, 0) = some (ad 10, .inl (cI, 24, .inl (F 10))) from hM61.2.1 10 rfl) rfl (vp_in_nI (show j < 24 by omega) (by omega)) (nI_clamp (show j < 2 ^ 31 by omega)) d_MM_then_138 (fun H locs hP hS => ?_)
                obtain ⟨A63, eA63⟩ : ∃ z, z = gU A60 (31, 0) (ad 10, .inl (cI, 24, .inl (upd (F 10) (j) (nI ((uAc ((kRs σ).getD j u0)).length + 1))))) := ⟨_, rfl⟩
                replace hP : gP D classes b A63 H := by rw [eA63]; exact hP
                have hM64 : rMM cI cZ cL A63 h ad (va_up (va_up (va_up F 8 (upd (F 8) (4 * j + ((uAc ((kRs σ).getD j u0)).length)) (nI 3))) 9 (upd (F 9) (4 * j + ((uAc ((kRs σ).getD j u0)).length)) (v))) 10 (upd (F 10) (j) (nI ((uAc ((kRs σ).getD j u0)).length + 1)))) G ((kBu σ).length) ((kRs σ).length) ((kIs σ).length) (kMk σ) := by rw [eA63]; exact hM61.put 10 rfl _
                have glA63 : gL A A63 := by rw [eA63]; exact glA60.U (by decide)
                refine lv_aload_n hx hb d_MM_then_139 rfl (lv_at hl 1 rfl) ?_
                refine g_get hx hb hts i_MM hown hK.1 hP (show A63 (20, 0) = some (h, .inr (5, [.ref (ad 0), .ref (ad 1), .int (nI ((kBu σ).length)), .ref (ad 3), .ref (ad 4), .ref (ad 5), .ref (ad 6), .ref (ad 7), .ref (ad 8), .ref (ad 9), .ref (ad 10), .int (nI ((kRs σ).length)), .ref (ad 12), .ref (ad 13), .ref (ad 14), .ref (ad 15), .ref (ad 16), .ref (ad 17), .ref (ad 18), .ref (ad 19), .ref (ad 20), .ref (ad 21), .int (nI ((kIs σ).length)), .int (nI (kMk σ) - 1)])) from hM64.1) rfl 10 (by decide) (hts _ k_453) (fun _ h9 => h9) rfl d_MM_then_140 ?_
                refine lv_iload_n hx hb d_MM_then_143 rfl (lv_at hl 2 rfl) ?_
                refine g_iald (v := nI ((uAc ((kRs σ).getD j u0)).length + 1)) hx hb hK.1 hP 0 (show A63 (31, 0) = some (ad 10, .inl (cI, 24, .inl (upd (F 10) (j) (nI ((uAc ((kRs σ).getD j u0)).length + 1))))) from hM64.2.1 10 rfl) rfl (vp_in_nI (show j < 24 by omega) (by omega)) (by rw [(nI_clamp (show j < 2 ^ 31 by omega))]; exact pk_us) d_MM_then_144 ?_
                have e9 : sThen σ (nI j) (nI 3) v = (((kRs σ).set j (uAdd ((kRs σ).getD j u0) (nI 3) v), kIs σ, kSt σ, kBu σ, kMk σ), nI ((uAc ((kRs σ).getD j u0)).length + 1)) := by unfold sThen; rw [if_pos hjn, hcl, hal, Bool.and_true, if_pos (by simpa using hlv), if_neg (by omega), len1, nI_1]
                refine W.widen (k := 0) (n := 0) (by decide) (by decide) ?_
                exact W.iret hx hb hr (fun t ht _ => ⟨⟨_, A63, rfl, ⟨by rw [e9], by rw [e9]; exact ⟨ad, (va_up (va_up (va_up F 8 (upd (F 8) (4 * j + ((uAc ((kRs σ).getD j u0)).length)) (nI 3))) 9 (upd (F 9) (4 * j + ((uAc ((kRs σ).getD j u0)).length)) (v))) 10 (upd (F 10) (j) (nI ((uAc ((kRs σ).getD j u0)).length + 1)))), G, (by rw [show ((kRs σ).set j (uAdd ((kRs σ).getD j u0) (nI 3) v)).length = (kRs σ).length from List.length_set]; exact hM64), hR.act hw hj (by omega)⟩, glA63⟩, show gP D classes b A63 t.heap by rw [ht]; exact hP⟩, hS.F ht⟩) hS.2.2 d_MM_then_145
              · skip
                replace c55 : (uAc ((kRs σ).getD j u0)).length = 4 := (nI_eq (a := (uAc ((kRs σ).getD j u0)).length) (b := 4) (by omega) (by decide)).mp c55
                refine lv_bipush (v := (-2)) hx hb d_MM_then_94 (by decide) ?_
                have e9 : sThen σ (nI j) (nI 3) v = (σ, -2) := by unfold sThen; rw [if_pos hjn, hcl, hal, Bool.and_true, if_pos (by simpa using hlv), if_pos (by omega)]
                refine W.widen (k := 0) (n := 0) (by decide) (by decide) ?_
                exact W.iret hx hb hr (fun t ht _ => ⟨⟨_, A, rfl, ⟨by rw [e9], by rw [e9]; exact hB, gL.rf⟩, show gP D classes b A t.heap by rw [ht]; exact hP⟩, hS.F ht⟩) hS.2.2 d_MM_then_96
            · skip
              refine lv_aload_n hx hb d_MM_then_32 rfl (lv_at hl 0 rfl) ?_
              refine g_get hx hb hts i_MM hown hK.1 hP (show A (20, 0) = some (h, .inr (5, [.ref (ad 0), .ref (ad 1), .int (nI ((kBu σ).length)), .ref (ad 3), .ref (ad 4), .ref (ad 5), .ref (ad 6), .ref (ad 7), .ref (ad 8), .ref (ad 9), .ref (ad 10), .int (nI ((kRs σ).length)), .ref (ad 12), .ref (ad 13), .ref (ad 14), .ref (ad 15), .ref (ad 16), .ref (ad 17), .ref (ad 18), .ref (ad 19), .ref (ad 20), .ref (ad 21), .int (nI ((kIs σ).length)), .int (nI (kMk σ) - 1)])) from hM.1) rfl 4 (by decide) (hts _ k_447) (fun _ h9 => h9) rfl d_MM_then_33 ?_
              refine lv_iload_n hx hb d_MM_then_36 rfl (lv_at hl 1 rfl) ?_
              obtain ⟨bz65a, bz65b, bz65c, bz65d, bz65e, -⟩ := w3 j (by omega)
              refine g_iald (v := nI (uMt ((kRs σ).getD j u0))) hx hb hK.1 hP 0 (show A (25, 0) = some (ad 4, .inl (cI, 24, .inl (F 4))) from hM.2.1 4 rfl) rfl (vp_in_nI (show j < 24 by omega) (by omega)) (by rw [(nI_clamp (show j < 2 ^ 31 by omega))]; exact (hru j (by omega)).2.1) d_MM_then_37 ?_
              refine lv_iconst (v := 4) hx hb d_MM_then_38 (by decide) ?_
              refine lv_irem hx hb d_MM_then_39 (by decide) ?_
              rw [rem4 (show uMt ((kRs σ).getD j u0) < 2 ^ 31 by omega)]
              refine lv_istore (lv' := [(4, .int (nI ((uMt ((kRs σ).getD j u0)) % 4))), (0, .ref h), (1, .int (nI j)), (2, .int (nI 4)), (3, .int v)]) hx hb d_MM_then_40 hl (by decide) rfl (fun ls hl => ?_)
              refine lv_iload_n hx hb d_MM_then_42 rfl (lv_at hl 3 rfl) ?_
              refine lv_iconst (v := 1) hx hb d_MM_then_43 (by decide) ?_
              refine lv_icmp_ne (tgt := 59) hx hb d_MM_then_44 (by decide) (fun _ => ?_) (fun h9 => absurd h9 (by decide))
              refine lv_iload_n hx hb d_MM_then_59 rfl (lv_at hl 3 rfl) ?_
              refine lv_iconst (v := 4) hx hb d_MM_then_60 (by decide) ?_
              refine lv_icmp_ne (tgt := 84) hx hb d_MM_then_61 (by decide) (fun h9 => absurd h9 (by decide)) (fun _ => ?_)
              refine lv_iload_n hx hb d_MM_then_64 rfl (lv_at hl 4 rfl) ?_
              refine lv_if_lt (tgt := 82) hx hb d_MM_then_65 (by decide) (fun c68 => ?_) (fun c68 => ?_)
              · skip
                refine lv_iconst (v := (-1)) hx hb d_MM_then_82 (by decide) ?_
                have e9 : sThen σ (nI j) (nI 4) v = (σ, -1) := by unfold sThen; rw [if_pos hjn, hcl, allw_4, inM0 c68, Bool.false_and, Bool.and_false]; rfl
                refine W.widen (k := 0) (n := 0) (by decide) (by decide) ?_
                exact W.iret hx hb hr (fun t ht _ => ⟨⟨_, A, rfl, ⟨by rw [e9], by rw [e9]; exact hB, gL.rf⟩, show gP D classes b A t.heap by rw [ht]; exact hP⟩, hS.F ht⟩) hS.2.2 d_MM_then_83
              · skip
                refine lv_iload_n hx hb d_MM_then_68 rfl (lv_at hl 4 rfl) ?_
                refine lv_bipush (v := 31) hx hb d_MM_then_69 (by decide) ?_
                refine lv_icmp_gt (tgt := 82) hx hb d_MM_then_71 (by decide) (fun c69 => ?_) (fun c69 => ?_)
                · skip
                  refine lv_iconst (v := (-1)) hx hb d_MM_then_82 (by decide) ?_
                  have e9 : sThen σ (nI j) (nI 4) v = (σ, -1) := by unfold sThen; rw [if_pos hjn, hcl, allw_4, show inR v 0 31 = false by simp_all [inR], Bool.false_and, Bool.and_false]; rfl
                  refine W.widen (k := 0) (n := 0) (by decide) (by decide) ?_
                  exact W.iret hx hb hr (fun t ht _ => ⟨⟨_, A, rfl, ⟨by rw [e9], by rw [e9]; exact hB, gL.rf⟩, show gP D classes b A t.heap by rw [ht]; exact hP⟩, hS.F ht⟩) hS.2.2 d_MM_then_83
                · skip
                  have hin1 : inR v 0 31 = true := by simp_all [inR, ← Int32.not_lt]
                  obtain ⟨vv, hvv, rfl⟩ := inR_of (M := 31) (n := 31) (by decide) hin1
                  have hal : allw (uMt ((kRs σ).getD j u0)) (nI 4) (nI vv) = decide (vv % 4 ≤ uMt ((kRs σ).getD j u0) % 4) := by rw [allw_4, hin1, nI_clamp (show vv < 2 ^ 31 by omega)]; rfl
                  refine lv_iload_n hx hb d_MM_then_74 rfl (lv_at hl 4 rfl) ?_
                  refine lv_iconst (v := 4) hx hb d_MM_then_75 (by decide) ?_
                  refine lv_irem hx hb d_MM_then_76 (by decide) ?_
                  rw [rem4 (show vv < 2 ^ 31 by omega)]
                  refine lv_iload hx hb d_MM_then_77 (lv_at hl 0 rfl) ?_
                  refine lv_icmp_le (tgt := 84) hx hb d_MM_then_79 (by decide) (fun c70 => ?_) (fun c70 => ?_)
                  · skip
                    replace c70 : vv % 4 ≤ (uMt ((kRs σ).getD j u0)) % 4 := (nI_leI (a := vv % 4) (b := (uMt ((kRs σ).getD j u0)) % 4) (by omega) (by omega)).mp c70
                    rw [decide_eq_true c70] at hal
                    refine lv_aload_n hx hb d_MM_then_84 rfl (lv_at hl 1 rfl) ?_
                    refine g_get hx hb hts i_MM hown hK.1 hP (show A (20, 0) = some (h, .inr (5, [.ref (ad 0), .ref (ad 1), .int (nI ((kBu σ).length)), .ref (ad 3), .ref (ad 4), .ref (ad 5), .ref (ad 6), .ref (ad 7), .ref (ad 8), .ref (ad 9), .ref (ad 10), .int (nI ((kRs σ).length)), .ref (ad 12), .ref (ad 13), .ref (ad 14), .ref (ad 15), .ref (ad 16), .ref (ad 17), .ref (ad 18), .ref (ad 19), .ref (ad 20), .ref (ad 21), .int (nI ((kIs σ).length)), .int (nI (kMk σ) - 1)])) from hM.1) rfl 10 (by decide) (hts _ k_453) (fun _ h9 => h9) rfl d_MM_then_85 ?_
                    refine lv_iload_n hx hb d_MM_then_88 rfl (lv_at hl 2 rfl) ?_
                    obtain ⟨bz71a, bz71b, bz71c, bz71d, bz71e, -⟩ := w3 j (by omega)
                    refine g_iald (v := nI (uAc ((kRs σ).getD j u0)).length) hx hb hK.1 hP 0 (show A (31, 0) = some (ad 10, .inl (cI, 24, .inl (F 10))) from hM.2.1 10 rfl) rfl (vp_in_nI (show j < 24 by omega) (by omega)) (by rw [(nI_clamp (show j < 2 ^ 31 by omega))]; exact (hru j (by omega)).2.2.2.1) d_MM_then_89 ?_
                    refine lv_iconst (v := 4) hx hb d_MM_then_90 (by decide) ?_
                    refine lv_icmp_ne (tgt := 97) hx hb d_MM_then_91 (by decide) (fun c72 => ?_) (fun c72 => ?_)
                    · skip
                      replace c72 : ¬ (uAc ((kRs σ).getD j u0)).length = 4 := fun q => c72 ((nI_eq (a := (uAc ((kRs σ).getD j u0)).length) (b := 4) (by omega) (by decide)).mpr q)
                      refine lv_aload_n hx hb d_MM_then_97 rfl (lv_at hl 1 rfl) ?_
                      refine g_get hx hb hts i_MM hown hK.1 hP (show A (20, 0) = some (h, .inr (5, [.ref (ad 0), .ref (ad 1), .int (nI ((kBu σ).length)), .ref (ad 3), .ref (ad 4), .ref (ad 5), .ref (ad 6), .ref (ad 7), .ref (ad 8), .ref (ad 9), .ref (ad 10), .int (nI ((kRs σ).length)), .ref (ad 12), .ref (ad 13), .ref (ad 14), .ref (ad 15), .ref (ad 16), .ref (ad 17), .ref (ad 18), .ref (ad 19), .ref (ad 20), .ref (ad 21), .int (nI ((kIs σ).length)), .int (nI (kMk σ) - 1)])) from hM.1) rfl 8 (by decide) (hts _ k_451) (fun _ h9 => h9) rfl d_MM_then_98 ?_
                      refine lv_iconst (v := 4) hx hb d_MM_then_101 (by decide) ?_
                      refine lv_iload_n hx hb d_MM_then_102 rfl (lv_at hl 2 rfl) ?_
                      refine lv_imul hx hb d_MM_then_103 ?_
                      rw [mul4 _]
                      refine lv_aload_n hx hb d_MM_then_104 rfl (lv_at hl 1 rfl) ?_
                      refine g_get hx hb hts i_MM hown hK.1 hP (show A (20, 0) = some (h, .inr (5, [.ref (ad 0), .ref (ad 1), .int (nI ((kBu σ).length)), .ref (ad 3), .ref (ad 4), .ref (ad 5), .ref (ad 6), .ref (ad 7), .ref (ad 8), .ref (ad 9), .ref (ad 10), .int (nI ((kRs σ).length)), .ref (ad 12), .ref (ad 13), .ref (ad 14), .ref (ad 15), .ref (ad 16), .ref (ad 17), .ref (ad 18), .ref (ad 19), .ref (ad 20), .ref (ad 21), .int (nI ((kIs σ).length)), .int (nI (kMk σ) - 1)])) from hM.1) rfl 10 (by decide) (hts _ k_453) (fun _ h9 => h9) rfl d_MM_then_105 ?_
                      refine lv_iload_n hx hb d_MM_then_108 rfl (lv_at hl 2 rfl) ?_
                      obtain ⟨bz73a, bz73b, bz73c, bz73d, bz73e, -⟩ := w3 j (by omega)
                      refine g_iald (v := nI (uAc ((kRs σ).getD j u0)).length) hx hb hK.1 hP 0 (show A (31, 0) = some (ad 10, .inl (cI, 24, .inl (F 10))) from hM.2.1 10 rfl) rfl (vp_in_nI (show j < 24 by omega) (by omega)) (by rw [(nI_clamp (show j < 2 ^ 31 by omega))]; exact (hru j (by omega)).2.2.2.1) d_MM_then_109 ?_
                      refine lv_iadd hx hb d_MM_then_110 ?_
                      rw [nI_add _ _]
                      refine lv_iload_n hx hb d_MM_then_111 rfl (lv_at hl 3 rfl) ?_
                      refine g_iast (k := 4 * j + ((uAc ((kRs σ).getD j u0)).length)) hx hb hK.1 hP hS 0 (show A (29, 0) = some (ad 8, .inl (cI, 96, .inl (F 8))) from hM.2.1 8 rfl) rfl (vp_in_nI (show 4 * j + ((uAc ((kRs σ).getD j u0)).length) < 96 by omega) (by omega)) (nI_clamp (show 4 * j + ((uAc ((kRs σ).getD j u0)).length) < 2 ^ 31 by omega)) d_MM_then_112 (fun H locs hP hS => ?_)
                      obtain ⟨A74, eA74⟩ : ∃ z, z = gU A (29, 0) (ad 8, .inl (cI, 96, .inl (upd (F 8) (4 * j + ((uAc ((kRs σ).getD j u0)).length)) (nI 4)))) := ⟨_, rfl⟩
                      replace hP : gP D classes b A74 H := by rw [eA74]; exact hP
                      have hM75 : rMM cI cZ cL A74 h ad (va_up F 8 (upd (F 8) (4 * j + ((uAc ((kRs σ).getD j u0)).length)) (nI 4))) G ((kBu σ).length) ((kRs σ).length) ((kIs σ).length) (kMk σ) := by rw [eA74]; exact hM.put 8 rfl _
                      have glA74 : gL A A74 := by rw [eA74]; exact gL.rf.U (by decide)
                      refine lv_aload_n hx hb d_MM_then_113 rfl (lv_at hl 1 rfl) ?_
                      refine g_get hx hb hts i_MM hown hK.1 hP (show A74 (20, 0) = some (h, .inr (5, [.ref (ad 0), .ref (ad 1), .int (nI ((kBu σ).length)), .ref (ad 3), .ref (ad 4), .ref (ad 5), .ref (ad 6), .ref (ad 7), .ref (ad 8), .ref (ad 9), .ref (ad 10), .int (nI ((kRs σ).length)), .ref (ad 12), .ref (ad 13), .ref (ad 14), .ref (ad 15), .ref (ad 16), .ref (ad 17), .ref (ad 18), .ref (ad 19), .ref (ad 20), .ref (ad 21), .int (nI ((kIs σ).length)), .int (nI (kMk σ) - 1)])) from hM75.1) rfl 9 (by decide) (hts _ k_452) (fun _ h9 => h9) rfl d_MM_then_114 ?_
                      refine lv_iconst (v := 4) hx hb d_MM_then_117 (by decide) ?_
                      refine lv_iload_n hx hb d_MM_then_118 rfl (lv_at hl 2 rfl) ?_
                      refine lv_imul hx hb d_MM_then_119 ?_
                      rw [mul4 _]
                      refine lv_aload_n hx hb d_MM_then_120 rfl (lv_at hl 1 rfl) ?_
                      refine g_get hx hb hts i_MM hown hK.1 hP (show A74 (20, 0) = some (h, .inr (5, [.ref (ad 0), .ref (ad 1), .int (nI ((kBu σ).length)), .ref (ad 3), .ref (ad 4), .ref (ad 5), .ref (ad 6), .ref (ad 7), .ref (ad 8), .ref (ad 9), .ref (ad 10), .int (nI ((kRs σ).length)), .ref (ad 12), .ref (ad 13), .ref (ad 14), .ref (ad 15), .ref (ad 16), .ref (ad 17), .ref (ad 18), .ref (ad 19), .ref (ad 20), .ref (ad 21), .int (nI ((kIs σ).length)), .int (nI (kMk σ) - 1)])) from hM75.1) rfl 10 (by decide) (hts _ k_453) (fun _ h9 => h9) rfl d_MM_then_121 ?_
                      refine lv_iload_n hx hb d_MM_then_124 rfl (lv_at hl 2 rfl) ?_
                      obtain ⟨bz76a, bz76b, bz76c, bz76d, bz76e, -⟩ := w3 j (by omega)
                      refine g_iald (v := nI (uAc ((kRs σ).getD j u0)).length) hx hb hK.1 hP 0 (show A74 (31, 0) = some (ad 10, .inl (cI, 24, .inl (F 10))) from hM75.2.1 10 rfl) rfl (vp_in_nI (show j < 24 by omega) (by omega)) (by rw [(nI_clamp (show j < 2 ^ 31 by omega))]; exact (hru j (by omega)).2.2.2.1) d_MM_then_125 ?_
                      refine lv_iadd hx hb d_MM_then_126 ?_
                      rw [nI_add _ _]
                      refine lv_iload_n hx hb d_MM_then_127 rfl (lv_at hl 4 rfl) ?_
                      refine g_iast (k := 4 * j + ((uAc ((kRs σ).getD j u0)).length)) hx hb hK.1 hP hS 0 (show A74 (30, 0) = some (ad 9, .inl (cI, 96, .inl (F 9))) from hM75.2.1 9 rfl) rfl (vp_in_nI (show 4 * j + ((uAc ((kRs σ).getD j u0)).length) < 96 by omega) (by omega)) (nI_clamp (show 4 * j + ((uAc ((kRs σ).getD j u0)).length) < 2 ^ 31 by omega)) d_MM_then_128 (fun H locs hP hS => ?_)
                      obtain ⟨A77, eA77⟩ : ∃ z, z = gU A74 (30, 0) (ad 9, .inl (cI, 96, .inl (upd (F 9) (4 * j + ((uAc ((kRs σ).getD j u0)).length)) (nI vv)))) := ⟨_, rfl⟩
                      replace hP : gP D classes b A77 H := by rw [eA77]; exact hP
                      have hM78 : rMM cI cZ cL A77 h ad (va_up (va_up F 8 (upd (F 8) (4 * j + ((uAc ((kRs σ).getD j u0)).length)) (nI 4))) 9 (upd (F 9) (4 * j + ((uAc ((kRs σ).getD j u0)).length)) (nI vv))) G ((kBu σ).length) ((kRs σ).length) ((kIs σ).length) (kMk σ) := by rw [eA77]; exact hM75.put 9 rfl _
                      have glA77 : gL A A77 := by rw [eA77]; exact glA74.U (by decide)
                      refine lv_aload_n hx hb d_MM_then_129 rfl (lv_at hl 1 rfl) ?_
                      refine g_get hx hb hts i_MM hown hK.1 hP (show A77 (20, 0) = some (h, .inr (5, [.ref (ad 0), .ref (ad 1), .int (nI ((kBu σ).length)), .ref (ad 3), .ref (ad 4), .ref (ad 5), .ref (ad 6), .ref (ad 7), .ref (ad 8), .ref (ad 9), .ref (ad 10), .int (nI ((kRs σ).length)), .ref (ad 12), .ref (ad 13), .ref (ad 14), .ref (ad 15), .ref (ad 16), .ref (ad 17), .ref (ad 18), .ref (ad 19), .ref (ad 20), .ref (ad 21), .int (nI ((kIs σ).length)), .int (nI (kMk σ) - 1)])) from hM78.1) rfl 10 (by decide) (hts _ k_453) (fun _ h9 => h9) rfl d_MM_then_130 ?_
                      refine lv_iload_n hx hb d_MM_then_133 rfl (lv_at hl 2 rfl) ?_
                      refine lv_dup2_11 hx hb d_MM_then_134 rfl rfl ?_
                      obtain ⟨bz79a, bz79b, bz79c, bz79d, bz79e, -⟩ := w3 j (by omega)
                      refine g_iald (v := nI (uAc ((kRs σ).getD j u0)).length) hx hb hK.1 hP 0 (show A77 (31, 0) = some (ad 10, .inl (cI, 24, .inl (F 10))) from hM78.2.1 10 rfl) rfl (vp_in_nI (show j < 24 by omega) (by omega)) (by rw [(nI_clamp (show j < 2 ^ 31 by omega))]; exact (hru j (by omega)).2.2.2.1) d_MM_then_135 ?_
                      refine lv_iconst (v := 1) hx hb d_MM_then_136 (by decide) ?_
                      refine lv_iadd hx hb d_MM_then_137 ?_
                      rw [nI_1 _]
                      refine g_iast (k := j) hx hb hK.1 hP hS 0 (show A77 (31, 0) = some (ad 10, .inl (cI, 24, .inl (F 10))) from hM78.2.1 10 rfl) rfl (vp_in_nI (show j < 24 by omega) (by omega)) (nI_clamp (show j < 2 ^ 31 by omega)) d_MM_then_138 (fun H locs hP hS => ?_)
                      obtain ⟨A80, eA80⟩ : ∃ z, z = gU A77 (31, 0) (ad 10, .inl (cI, 24, .inl (upd (F 10) (j) (nI ((uAc ((kRs σ).getD j u0)).length + 1))))) := ⟨_, rfl⟩
                      replace hP : gP D classes b A80 H := by rw [eA80]; exact hP
                      have hM81 : rMM cI cZ cL A80 h ad (va_up (va_up (va_up F 8 (upd (F 8) (4 * j + ((uAc ((kRs σ).getD j u0)).length)) (nI 4))) 9 (upd (F 9) (4 * j + ((uAc ((kRs σ).getD j u0)).length)) (nI vv))) 10 (upd (F 10) (j) (nI ((uAc ((kRs σ).getD j u0)).length + 1)))) G ((kBu σ).length) ((kRs σ).length) ((kIs σ).length) (kMk σ) := by rw [eA80]; exact hM78.put 10 rfl _
                      have glA80 : gL A A80 := by rw [eA80]; exact glA77.U (by decide)
                      refine lv_aload_n hx hb d_MM_then_139 rfl (lv_at hl 1 rfl) ?_
                      refine g_get hx hb hts i_MM hown hK.1 hP (show A80 (20, 0) = some (h, .inr (5, [.ref (ad 0), .ref (ad 1), .int (nI ((kBu σ).length)), .ref (ad 3), .ref (ad 4), .ref (ad 5), .ref (ad 6), .ref (ad 7), .ref (ad 8), .ref (ad 9), .ref (ad 10), .int (nI ((kRs σ).length)), .ref (ad 12), .ref (ad 13), .ref (ad 14), .ref (ad 15), .ref (ad 16), .ref (ad 17), .ref (ad 18), .ref (ad 19), .ref (ad 20), .ref (ad 21), .int (nI ((kIs σ).length)), .int (nI (kMk σ) - 1)])) from hM81.1) rfl 10 (by decide) (hts _ k_453) (fun _ h9 => h9) rfl d_MM_then_140 ?_
                      refine lv_iload_n hx hb d_MM_then_143 rfl (lv_at hl 2 rfl) ?_
                      refine g_iald (v := nI ((uAc ((kRs σ).getD j u0)).length + 1)) hx hb hK.1 hP 0 (show A80 (31, 0) = some (ad 10, .inl (cI, 24, .inl (upd (F 10) (j) (nI ((uAc ((kRs σ).getD j u0)).length + 1))))) from hM81.2.1 10 rfl) rfl (vp_in_nI (show j < 24 by omega) (by omega)) (by rw [(nI_clamp (show j < 2 ^ 31 by omega))]; exact pk_us) d_MM_then_144 ?_
                      have e9 : sThen σ (nI j) (nI 4) (nI vv) = (((kRs σ).set j (uAdd ((kRs σ).getD j u0) (nI 4) (nI vv)), kIs σ, kSt σ, kBu σ, kMk σ), nI ((uAc ((kRs σ).getD j u0)).length + 1)) := by unfold sThen; rw [if_pos hjn, hcl, hal, Bool.and_true, if_pos (by simpa using hlv), if_neg (by omega), len1, nI_1]
                      refine W.widen (k := 0) (n := 0) (by decide) (by decide) ?_
                      exact W.iret hx hb hr (fun t ht _ => ⟨⟨_, A80, rfl, ⟨by rw [e9], by rw [e9]; exact ⟨ad, (va_up (va_up (va_up F 8 (upd (F 8) (4 * j + ((uAc ((kRs σ).getD j u0)).length)) (nI 4))) 9 (upd (F 9) (4 * j + ((uAc ((kRs σ).getD j u0)).length)) (nI vv))) 10 (upd (F 10) (j) (nI ((uAc ((kRs σ).getD j u0)).length + 1)))), G, (by rw [show ((kRs σ).set j (uAdd ((kRs σ).getD j u0) (nI 4) (nI vv))).length = (kRs σ).length from List.length_set]; exact hM81), hR.act hw hj (by omega)⟩, glA80⟩, show gP D classes b A80 t.heap by rw [ht]; exact hP⟩, hS.F ht⟩) hS.2.2 d_MM_then_145
                    · skip
                      replace c72 : (uAc ((kRs σ).getD j u0)).length = 4 := (nI_eq (a := (uAc ((kRs σ).getD j u0)).length) (b := 4) (by omega) (by decide)).mp c72
                      refine lv_bipush (v := (-2)) hx hb d_MM_then_94 (by decide) ?_
                      have e9 : sThen σ (nI j) (nI 4) (nI vv) = (σ, -2) := by unfold sThen; rw [if_pos hjn, hcl, hal, Bool.and_true, if_pos (by simpa using hlv), if_pos (by omega)]
                      refine W.widen (k := 0) (n := 0) (by decide) (by decide) ?_
                      exact W.iret hx hb hr (fun t ht _ => ⟨⟨_, A, rfl, ⟨by rw [e9], by rw [e9]; exact hB, gL.rf⟩, show gP D classes b A t.heap by rw [ht]; exact hP⟩, hS.F ht⟩) hS.2.2 d_MM_then_96
                  · skip
                    replace c70 : ¬ vv % 4 ≤ (uMt ((kRs σ).getD j u0)) % 4 := fun q => c70 ((nI_leI (a := vv % 4) (b := (uMt ((kRs σ).getD j u0)) % 4) (by omega) (by omega)).mpr q)
                    refine lv_iconst (v := (-1)) hx hb d_MM_then_82 (by decide) ?_
                    have e9 : sThen σ (nI j) (nI 4) (nI vv) = (σ, -1) := by unfold sThen; rw [if_pos hjn, hcl, hal, decide_eq_false c70, Bool.and_false]; rfl
                    refine W.widen (k := 0) (n := 0) (by decide) (by decide) ?_
                    exact W.iret hx hb hr (fun t ht _ => ⟨⟨_, A, rfl, ⟨by rw [e9], by rw [e9]; exact hB, gL.rf⟩, show gP D classes b A t.heap by rw [ht]; exact hP⟩, hS.F ht⟩) hS.2.2 d_MM_then_83
          · skip
            refine lv_iconst (v := (-1)) hx hb d_MM_then_30 (by decide) ?_
            have e9 : sThen σ (nI j) k v = (σ, -1) := by unfold sThen; rw [if_pos hjn, hcl, allw_hi c6, Bool.and_false]; rfl
            refine W.widen (k := 0) (n := 0) (by decide) (by decide) ?_
            exact W.iret hx hb hr (fun t ht _ => ⟨⟨_, A, rfl, ⟨by rw [e9], by rw [e9]; exact hB, gL.rf⟩, show gP D classes b A t.heap by rw [ht]; exact hP⟩, hS.F ht⟩) hS.2.2 d_MM_then_31
