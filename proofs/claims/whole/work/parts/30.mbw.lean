set_option maxHeartbeats 4000000 in
set_option maxRecDepth 100000 in
theorem c_AL_add (l : Launch) {D : va_G} {cI cZ cO cL : ClassId} {b e0 : Nat} {A : gW} {w kk ci h n : Nat} {ad : Nat → Nat} (hL : rAL cO e0 A w kk ci h n ad) (hn : n < 160) (hkk : kk ≠ 1 ∧ kk ≠ 2 ∧ kk ≠ 12) (hci : ci = 2 ∨ ci = 3) {x : Nat} {fsx : List Value} (hx0 : A (kk, n) = some (x, .inr (ci, fsx))) : Met l y_AL_add (Cond.code y_AL_add b_AL_add 2 (some .boolean) :: TT) ({ frames := 6, cells := 1, slots := 240, locals := 150 }) (va_Pc [.ref h, .ref x] (gI D [(cI, .int), (cZ, .boolean), (cO, .object "java/lang/Object"), (cL, .long)] b e0 A)) (va_Qi (fun (z : Int32) (A2 : gW) => rAL cO e0 A2 w kk ci h (n + 1) (va_up ad n x) ∧ gF [1, 2, 12] w A A2) (fun A2 t => gP D classes b A2 t.heap) (fun q => b ≤ q)) 1 240 (fun q => b ≤ q) := by
  refine Met.ofG (own := R_AL) (by decide +kernel) rfl (Nat.le_of_ble_eq_true rfl) ?_
  intro p e s m below meth c ls hx hb hr hlk hml hown hnm hts hI hl
  have hl : lv_has ls 2 [(0, .ref h), (1, .ref x)] := hl
  have hS : gS b s.heap s.heap [] := va_S.rf
  obtain ⟨hP, hK⟩ := hI
  obtain ⟨mo, q, cap, f, fL, hq, fE, hel⟩ := id hL
  refine lv_aload_n hx hb d_AL_add_0 rfl (lv_at hl 0 rfl) ?_
  refine lv_dup hx hb d_AL_add_1 rfl ?_
  refine g_get hx hb hts i_AL hown hK.1 hP fL rfl 0 (by decide) (hts _ k_40) (fun x9 h9 => u_same (hts _ k_41) x9 h9) rfl d_AL_add_2 ?_
  refine lv_iconst (v := 1) hx hb d_AL_add_5 (by decide) ?_
  refine lv_iadd hx hb d_AL_add_6 ?_
  refine g_put (ty := .int) (v := .int (mo + 1)) hx hb hts i_AL t_AL t_AL_ok n_AL hown hK.1 hP hS fL rfl 0 (by decide) (hts _ k_40) (fun x9 h9 => u_same (hts _ k_41) x9 h9) rfl (by decide +kernel) rfl rfl (Nat.le_of_ble_eq_true rfl) d_AL_add_7 (fun H locs hP hS => ?_)
  obtain ⟨A1, eA1⟩ : ∃ z, z = gU A (1, w) (h, .inr (4, [.int (mo + 1), .ref q, .int (nI n)])) := ⟨_, rfl⟩
  replace hP : gP D classes b A1 H := by rw [eA1]; exact hP
  have f2 : A1 (1, w) = some (h, .inr (4, [.int (mo + 1), .ref q, .int (nI n)])) := by rw [eA1]; exact gU_s
  have gA1 : gF [1, 2, 12] w A A1 := by rw [eA1]; exact gF_U gF.rf (by decide)
  refine lv_aload_n hx hb d_AL_add_10 rfl (lv_at hl 0 rfl) ?_
  refine lv_aload_n hx hb d_AL_add_11 rfl (lv_at hl 1 rfl) ?_
  refine lv_aload_n hx hb d_AL_add_12 rfl (lv_at hl 0 rfl) ?_
  refine g_get hx hb hts i_AL hown hK.1 hP f2 rfl 1 (by decide) (hts _ k_37) (fun _ h9 => h9) rfl d_AL_add_13 ?_
  refine lv_aload_n hx hb d_AL_add_16 rfl (lv_at hl 0 rfl) ?_
  refine g_get hx hb hts i_AL hown hK.1 hP f2 rfl 2 (by decide) (hts _ k_38) (fun _ h9 => h9) rfl d_AL_add_17 ?_
  have hq1 : n = 0 ∧ q = e0 ∨ (A1 (2, w) = some (q, .inl (cO, cap, .inr (.inr (.inr (.inr f))))) ∧ 2 ≤ cap ∧ n ≤ cap ∧ cap ≤ 240 ∧ ∀ i, i < n → f i = some (ad i)) := hq.imp id (fun z => ⟨((by rw [eA1]; exact gU_n (gne (show (2 : Nat) ≠ 1 by decide)) : A1 (2, w) = A (2, w))).trans z.1, z.2⟩)
  have hel1 : ∀ i, i < n → ∃ fs, A1 (kk, i) = some (ad i, .inr (ci, fs)) := fun i hi => (hel i hi).elim fun fs h => ⟨fs, (gA1 (kk, i) (fun z => by simp at z; omega)).trans h⟩
  have hx1 := (gA1 (kk, n) (fun z => by simp at z; omega)).trans hx0
  refine g_cv (B := fun A2 H => gP D classes b A2 H) (g_runV (As := [.ref x, .ref q, .int (nI n)]) (rest := []) ⟨hx, hb, hml, hown, hts⟩ (c_AL_add3 l f2 hq1 ((gA1.at (n := 3) (j := 0) (by decide)).trans fE) hel1 hn hkk hci hx1) st_AL_add3 k_165 ⟨rfl, rfl, by decide, by decide⟩ rfl (gI.preV hK hS hP f2 rfl _) rfl hl.1 rfl (Nat.le_of_ble_eq_true rfl) d_AL_add_20 ⟨by decide, by decide⟩) hS (fun A3 H locs hp4 hP hS => ?_)
  replace hP : gP D classes b A3 H := hP
  refine W.widen (k := 1) (n := 240) (by decide) (by decide) ?_
  obtain ⟨hL2, gL2⟩ := hp4
  have gL3 := gA1.trans gL2
  refine lv_iconst (v := 1) hx hb d_AL_add_23 (by decide) ?_
  refine W.widen (k := 1) (n := 240) (by decide) (by decide) ?_
  exact W.zret hx hb hr rfl (fun t ht _ => ⟨⟨_, A3, rfl, ⟨hL2, gL3⟩, show gP D classes b A3 t.heap by rw [ht]; exact hP⟩, hS.F ht⟩) hS.2.2 d_AL_add_24
set_option maxHeartbeats 4000000 in
set_option maxRecDepth 100000 in
theorem c_MB_matcher (l : Launch) {D : va_G} {cI cZ cO cL : ClassId} {b e0 : Nat} {A : gW} {h : Nat} {σ : Bk} (hB : rBk cI cZ cO e0 A h σ) (hw : wf σ) (k v : Int32) : Met l y_MB_matcher (Cond.code y_MB_matcher b_MB_matcher 3 (some .int) :: TT) ({ frames := 1, cells := 0, slots := 0, locals := 22 }) (va_Pc [.ref h, .int k, .int v] (gI D [(cI, .int), (cZ, .boolean), (cO, .object "java/lang/Object"), (cL, .long)] b e0 A)) (va_Qi (fun (z : Int32) (A2 : gW) => z = (sMatcher σ k v).2 ∧ rBk cI cZ cO e0 A2 h (sMatcher σ k v).1 ∧ gO A A2) (fun A2 t => gP D classes b A2 t.heap) (fun q => b ≤ q)) 0 0 (fun q => b ≤ q) := by
  refine Met.ofG (own := R_MB) (by decide +kernel) rfl (Nat.le_of_ble_eq_true rfl) ?_
  intro p e s m below meth c ls hx hb hr hlk hml hown hnm hts hI hl
  have hl : lv_has ls 3 [(0, .ref h), (1, .int k), (2, .int v)] := hl
  have hS : gS b s.heap s.heap [] := va_S.rf
  obtain ⟨hP, hK⟩ := hI
  obtain ⟨ra, ia, sa, ua, aR, aI, aM, fs, fB, hLR, hLI, fS, hfs, hBu, hRs, hIs⟩ := id hB
  obtain ⟨w1, w2, w3, w4, w5, w6, w7, w8⟩ := id hw
  obtain ⟨moR, qR, capR, efR, fLR, -⟩ := id hLR
  obtain ⟨moI, qI, capI, efI, fLI, -⟩ := id hLI
  obtain ⟨hk, hv, fk, fv, fM, fK, fV, hn3, hms⟩ := id hBu
  have hQ : rBq cI cZ cO e0 A h ra ia sa ua aR aI aM fs σ := ⟨fB, hLR, hLI, fS, hfs, hBu, hRs, hIs⟩
  refine lv_iload_n hx hb d_MB_matcher_0 rfl (lv_at hl 1 rfl) ?_
  refine lv_iconst (v := 0) hx hb d_MB_matcher_1 (by decide) ?_
  refine lv_iconst (v := 5) hx hb d_MB_matcher_2 (by decide) ?_
  refine g_ri (g_runS (As := [.int k, .int 0, .int 5]) (rest := []) ⟨hx, hb, hml, hown, hts⟩ (c_MB_isWithin l k 0 5) st_MB_isWithin k_88 ⟨rfl, rfl, by decide, by decide⟩ (gT_pre _) rfl hl.1 rfl (Nat.le_of_ble_eq_true rfl) d_MB_matcher_3 ⟨by decide, by decide⟩) (fun r1 hr1 => ?_)
  subst hr1
  refine lv_if_ne (tgt := 11) hx hb d_MB_matcher_6 (by decide) (fun c2 => ?_) (fun c2 => ?_)
  · skip
    rw [bI_0] at c2
    refine lv_aload_n hx hb d_MB_matcher_11 rfl (lv_at hl 0 rfl) ?_
    refine g_get hx hb hts i_MB hown hK.1 hP fB rfl 3 (by decide) (hts _ k_71) (fun _ h9 => h9) rfl d_MB_matcher_12 ?_
    refine g_get hx hb hts i_Ma hown hK.1 hP fM rfl 2 (by decide) (hts _ k_58) (fun _ h9 => h9) rfl d_MB_matcher_15 ?_
    refine lv_iconst (v := 3) hx hb d_MB_matcher_18 (by decide) ?_
    refine lv_icmp_lt (tgt := 25) hx hb d_MB_matcher_19 (by decide) (fun c3 => ?_) (fun c3 => ?_)
    · skip
      replace c3 : (kBu σ).length < 3 := (nI_ltI (a := (kBu σ).length) (b := 3) (by omega) (by decide)).mp c3
      refine lv_aload_n hx hb d_MB_matcher_25 rfl (lv_at hl 0 rfl) ?_
      refine g_get hx hb hts i_MB hown hK.1 hP fB rfl 3 (by decide) (hts _ k_71) (fun _ h9 => h9) rfl d_MB_matcher_26 ?_
      refine lv_iload_n hx hb d_MB_matcher_29 rfl (lv_at hl 1 rfl) ?_
      refine lv_iload_n hx hb d_MB_matcher_30 rfl (lv_at hl 2 rfl) ?_
      refine g_cv (B := fun A2 H => gP D classes b A2 H) (g_runV (As := [.int k, .int v]) (rest := []) ⟨hx, hb, hml, hown, hts⟩ (c_Ma_add l hBu (by omega) k v) st_Ma_add k_91 ⟨rfl, rfl, by decide, by decide⟩ rfl (gI.preV hK hS hP fM rfl _) rfl hl.1 rfl (Nat.le_of_ble_eq_true rfl) d_MB_matcher_31 ⟨by decide, by decide⟩) hS (fun A4 H locs hp5 hP hS => ?_)
      replace hP : gP D classes b A4 H := hP
      refine W.widen (k := 0) (n := 0) (by decide) (by decide) ?_
      obtain ⟨hm2, gm2⟩ := hp5
      have f6 : A4 (0, 0) = some (h, .inr (0, [.ref ra, .ref ia, .ref sa, .ref ua, .int (nI (kMk σ) - 1)])) := (gm2.at (n := 0) (j := 0) (by decide)).trans fB
      have f7 : A4 (1, 0) = some (ra, .inr (4, [.int moR, .ref qR, .int (nI (kRs σ).length)])) := (gm2.at (n := 1) (j := 0) (by decide)).trans fLR
      have f8 : A4 (1, 1) = some (ia, .inr (4, [.int moI, .ref qI, .int (nI (kIs σ).length)])) := (gm2.at (n := 1) (j := 1) (by decide)).trans fLI
      have f9 : A4 (4, 0) = some (sa, .inl (cZ, 4, .inl fs)) := (gm2.at (n := 4) (j := 0) (by decide)).trans fS
      obtain ⟨hk2, hv2, fk2, fv2, fM2, fK2, fV2, hn32, hms2⟩ := id hm2
      refine lv_aload_n hx hb d_MB_matcher_34 rfl (lv_at hl 0 rfl) ?_
      refine g_get hx hb hts i_MB hown hK.1 hP f6 rfl 3 (by decide) (hts _ k_71) (fun _ h9 => h9) rfl d_MB_matcher_35 ?_
      refine g_get hx hb hts i_Ma hown hK.1 hP fM2 rfl 2 (by decide) (hts _ k_58) (fun _ h9 => h9) rfl d_MB_matcher_38 ?_
      have e9 : sMatcher σ k v = ((kRs σ, kIs σ, kSt σ, kBu σ ++ [(k, v)], kMk σ), nI (kBu σ ++ [(k, v)]).length) := by unfold sMatcher; rw [if_pos (by simp_all), if_neg (by omega)]
      refine W.widen (k := 0) (n := 0) (by decide) (by decide) ?_
      exact W.iret hx hb hr (fun t ht _ => ⟨⟨_, A4, rfl, ⟨by rw [e9], by rw [e9]; exact (hQ.bu gm2 hm2).k, gm2.out rfl⟩, show gP D classes b A4 t.heap by rw [ht]; exact hP⟩, hS.F ht⟩) hS.2.2 d_MB_matcher_41
    · skip
      replace c3 : ¬ (kBu σ).length < 3 := fun q => c3 ((nI_ltI (a := (kBu σ).length) (b := 3) (by omega) (by decide)).mpr q)
      refine lv_bipush (v := (-2)) hx hb d_MB_matcher_22 (by decide) ?_
      have e9 : sMatcher σ k v = (σ, -2) := by unfold sMatcher; rw [if_pos (by simp_all), if_pos (by omega)]
      refine W.widen (k := 0) (n := 0) (by decide) (by decide) ?_
      exact W.iret hx hb hr (fun t ht _ => ⟨⟨_, A, rfl, ⟨by rw [e9], by rw [e9]; exact hB, gO.rf⟩, show gP D classes b A t.heap by rw [ht]; exact hP⟩, hS.F ht⟩) hS.2.2 d_MB_matcher_24
  · skip
    rw [bI_0] at c2
    refine lv_iconst (v := (-1)) hx hb d_MB_matcher_9 (by decide) ?_
    have e9 : sMatcher σ k v = (σ, -1) := by simp_all [sMatcher]
    refine W.widen (k := 0) (n := 0) (by decide) (by decide) ?_
    exact W.iret hx hb hr (fun t ht _ => ⟨⟨_, A, rfl, ⟨by rw [e9], by rw [e9]; exact hB, gO.rf⟩, show gP D classes b A t.heap by rw [ht]; exact hP⟩, hS.F ht⟩) hS.2.2 d_MB_matcher_10
set_option maxHeartbeats 4000000 in
set_option maxRecDepth 100000 in
theorem c_MB_drop (l : Launch) {D : va_G} {cI cZ cO cL : ClassId} {b e0 : Nat} {A : gW} {h : Nat} {σ : Bk} (hB : rBk cI cZ cO e0 A h σ) (hw : wf σ)  : Met l y_MB_drop (Cond.code y_MB_drop b_MB_drop 1 none :: TT) ({ frames := 1, cells := 0, slots := 0, locals := 20 }) (va_Pc [.ref h] (gI D [(cI, .int), (cZ, .boolean), (cO, .object "java/lang/Object"), (cL, .long)] b e0 A)) (va_Qv (fun A2 : gW => rBk cI cZ cO e0 A2 h (sDrop σ) ∧ gO A A2) (fun A2 t => gP D classes b A2 t.heap) (fun q => b ≤ q)) 0 0 (fun q => b ≤ q) := by
  refine Met.ofG (own := R_MB) (by decide +kernel) rfl (Nat.le_of_ble_eq_true rfl) ?_
  intro p e s m below meth c ls hx hb hr hlk hml hown hnm hts hI hl
  have hl : lv_has ls 1 [(0, .ref h)] := hl
  have hS : gS b s.heap s.heap [] := va_S.rf
  obtain ⟨hP, hK⟩ := hI
  obtain ⟨ra, ia, sa, ua, aR, aI, aM, fs, fB, hLR, hLI, fS, hfs, hBu, hRs, hIs⟩ := id hB
  obtain ⟨w1, w2, w3, w4, w5, w6, w7, w8⟩ := id hw
  obtain ⟨moR, qR, capR, efR, fLR, -⟩ := id hLR
  obtain ⟨moI, qI, capI, efI, fLI, -⟩ := id hLI
  obtain ⟨hk, hv, fk, fv, fM, fK, fV, hn3, hms⟩ := id hBu
  have hQ : rBq cI cZ cO e0 A h ra ia sa ua aR aI aM fs σ := ⟨fB, hLR, hLI, fS, hfs, hBu, hRs, hIs⟩
  refine lv_aload_n hx hb d_MB_drop_0 rfl (lv_at hl 0 rfl) ?_
  refine g_get hx hb hts i_MB hown hK.1 hP fB rfl 3 (by decide) (hts _ k_71) (fun _ h9 => h9) rfl d_MB_drop_1 ?_
  refine g_cv (B := fun A2 H => gP D classes b A2 H) (g_runV (As := []) (rest := []) ⟨hx, hb, hml, hown, hts⟩ (c_Ma_clear l hBu) st_Ma_clear k_99 ⟨rfl, rfl, by decide, by decide⟩ rfl (gI.preV hK hS hP fM rfl _) rfl hl.1 rfl (Nat.le_of_ble_eq_true rfl) d_MB_drop_4 ⟨by decide, by decide⟩) hS (fun A1 H locs hp2 hP hS => ?_)
  replace hP : gP D classes b A1 H := hP
  refine W.widen (k := 0) (n := 0) (by decide) (by decide) ?_
  obtain ⟨hm2, gm2⟩ := hp2
  have f3 : A1 (0, 0) = some (h, .inr (0, [.ref ra, .ref ia, .ref sa, .ref ua, .int (nI (kMk σ) - 1)])) := (gm2.at (n := 0) (j := 0) (by decide)).trans fB
  have f4 : A1 (1, 0) = some (ra, .inr (4, [.int moR, .ref qR, .int (nI (kRs σ).length)])) := (gm2.at (n := 1) (j := 0) (by decide)).trans fLR
  have f5 : A1 (1, 1) = some (ia, .inr (4, [.int moI, .ref qI, .int (nI (kIs σ).length)])) := (gm2.at (n := 1) (j := 1) (by decide)).trans fLI
  have f6 : A1 (4, 0) = some (sa, .inl (cZ, 4, .inl fs)) := (gm2.at (n := 4) (j := 0) (by decide)).trans fS
  obtain ⟨hk2, hv2, fk2, fv2, fM2, fK2, fV2, hn32, hms2⟩ := id hm2
  refine W.widen (k := 0) (n := 0) (by decide) (by decide) ?_
  exact W.vret hx hb hr (fun t ht _ => ⟨⟨A1, rfl, ⟨(hQ.bu gm2 hm2).k, gm2.out rfl⟩, show gP D classes b A1 t.heap by rw [ht]; exact hP⟩, hS.F ht⟩) hS.2.2 d_MB_drop_7
set_option maxHeartbeats 4000000 in
set_option maxRecDepth 100000 in
theorem c_MB_rewind (l : Launch) {D : va_G} {cI cZ cO cL : ClassId} {b e0 : Nat} {A : gW} {h : Nat} {σ : Bk} (hB : rBk cI cZ cO e0 A h σ) (hw : wf σ)  : Met l y_MB_rewind (Cond.code y_MB_rewind b_MB_rewind 2 (some .int) :: TT) ({ frames := 0, cells := 0, slots := 0, locals := 0 }) (va_Pc [.ref h] (gI D [(cI, .int), (cZ, .boolean), (cO, .object "java/lang/Object"), (cL, .long)] b e0 A)) (va_Qi (fun (z : Int32) (A2 : gW) => z = (sRewind σ).2 ∧ rBk cI cZ cO e0 A2 h (sRewind σ).1 ∧ gO A A2) (fun A2 t => gP D classes b A2 t.heap) (fun q => b ≤ q)) 0 0 (fun q => b ≤ q) := by
  refine Met.ofG (own := R_MB) (by decide +kernel) rfl (Nat.le_of_ble_eq_true rfl) ?_
  intro p e s m below meth c ls hx hb hr hlk hml hown hnm hts hI hl
  have hl : lv_has ls 2 [(0, .ref h)] := hl
  have hS : gS b s.heap s.heap [] := va_S.rf
  obtain ⟨hP, hK⟩ := hI
  obtain ⟨ra, ia, sa, ua, aR, aI, aM, fs, fB, hLR, hLI, fS, hfs, hBu, hRs, hIs⟩ := id hB
  obtain ⟨w1, w2, w3, w4, w5, w6, w7, w8⟩ := id hw
  obtain ⟨moR, qR, capR, efR, fLR, -⟩ := id hLR
  obtain ⟨moI, qI, capI, efI, fLI, -⟩ := id hLI
  obtain ⟨hk, hv, fk, fv, fM, fK, fV, hn3, hms⟩ := id hBu
  have hQ : rBq cI cZ cO e0 A h ra ia sa ua aR aI aM fs σ := ⟨fB, hLR, hLI, fS, hfs, hBu, hRs, hIs⟩
  refine lv_aload_n hx hb d_MB_rewind_0 rfl (lv_at hl 0 rfl) ?_
  refine g_get hx hb hts i_MB hown hK.1 hP fB rfl 4 (by decide) (hts _ k_72) (fun _ h9 => h9) rfl d_MB_rewind_1 ?_
  refine lv_istore_n (lv' := [(1, .int (nI (kMk σ) - 1)), (0, .ref h)]) hx hb d_MB_rewind_4 rfl hl (by decide) rfl (fun ls hl => ?_)
  refine lv_aload_n hx hb d_MB_rewind_5 rfl (lv_at hl 1 rfl) ?_
  refine lv_iconst (v := (-1)) hx hb d_MB_rewind_6 (by decide) ?_
  refine g_put (ty := .int) (v := .int (-1)) hx hb hts i_MB t_MB t_MB_ok n_MB hown hK.1 hP hS fB rfl 4 (by decide) (hts _ k_72) (fun _ h9 => h9) rfl (by decide +kernel) rfl rfl (Nat.le_of_ble_eq_true rfl) d_MB_rewind_7 (fun H locs hP hS => ?_)
  obtain ⟨A1, eA1⟩ : ∃ z, z = gU A (0, 0) (h, .inr (0, [.ref ra, .ref ia, .ref sa, .ref ua, .int (-1)])) := ⟨_, rfl⟩
  replace hP : gP D classes b A1 H := by rw [eA1]; exact hP
  have f2 : A1 (1, 0) = some (ra, .inr (4, [.int moR, .ref qR, .int (nI (kRs σ).length)])) := (by rw [eA1]; exact gU_n (gne (show (1 : Nat) ≠ 0 by decide)) : A1 (1, 0) = A (1, 0)).trans fLR
  have f3 : A1 (1, 1) = some (ia, .inr (4, [.int moI, .ref qI, .int (nI (kIs σ).length)])) := (by rw [eA1]; exact gU_n (gne (show (1 : Nat) ≠ 0 by decide)) : A1 (1, 1) = A (1, 1)).trans fLI
  have f4 : A1 (4, 0) = some (sa, .inl (cZ, 4, .inl fs)) := (by rw [eA1]; exact gU_n (gne (show (4 : Nat) ≠ 0 by decide)) : A1 (4, 0) = A (4, 0)).trans fS
  have f5 : A1 (5, (kRs σ).length) = some (ua, .inr (1, [.ref hk, .ref hv, .int (nI (kBu σ).length)])) := (by rw [eA1]; exact gU_n (gne (show (5 : Nat) ≠ 0 by decide)) : A1 (5, (kRs σ).length) = A (5, (kRs σ).length)).trans fM
  have f6 : A1 (6, (kRs σ).length) = some (hk, .inl (cI, 3, .inl fk)) := (by rw [eA1]; exact gU_n (gne (show (6 : Nat) ≠ 0 by decide)) : A1 (6, (kRs σ).length) = A (6, (kRs σ).length)).trans fK
  have f7 : A1 (7, (kRs σ).length) = some (hv, .inl (cI, 3, .inl fv)) := (by rw [eA1]; exact gU_n (gne (show (7 : Nat) ≠ 0 by decide)) : A1 (7, (kRs σ).length) = A (7, (kRs σ).length)).trans fV
  have f8 : A1 (0, 0) = some (h, .inr (0, [.ref ra, .ref ia, .ref sa, .ref ua, .int (-1)])) := by rw [eA1]; exact gU_s
  have gA1 : gF [0] 0 A A1 := by rw [eA1]; exact gF_U gF.rf (by decide)
  refine lv_iload_n hx hb d_MB_rewind_10 rfl (lv_at hl 0 rfl) ?_
  have e9 : sRewind σ = ((kRs σ, kIs σ, kSt σ, kBu σ, 0), nI (kMk σ) - 1) := by rfl
  refine W.widen (k := 0) (n := 0) (by decide) (by decide) ?_
  exact W.iret hx hb hr (fun t ht _ => ⟨⟨_, A1, rfl, ⟨by rw [e9], by rw [e9]; exact (hQ.ma (m := 0) gA1 f8).k, gA1.out rfl⟩, show gP D classes b A1 t.heap by rw [ht]; exact hP⟩, hS.F ht⟩) hS.2.2 d_MB_rewind_11
set_option maxHeartbeats 4000000 in
set_option maxRecDepth 100000 in
theorem c_MB_strict (l : Launch) {D : va_G} {cI cZ cO cL : ClassId} {b e0 : Nat} {A : gW} {h : Nat} {σ : Bk} (hB : rBk cI cZ cO e0 A h σ) (hw : wf σ) (x : Int32) (on : Bool) : Met l y_MB_strict (Cond.code y_MB_strict b_MB_strict 4 (some .int) :: TT) ({ frames := 2, cells := 0, slots := 0, locals := 42 }) (va_Pc [.ref h, .int x, .int (bI on)] (gI D [(cI, .int), (cZ, .boolean), (cO, .object "java/lang/Object"), (cL, .long)] b e0 A)) (va_Qi (fun (z : Int32) (A2 : gW) => z = (sStrict σ x on).2 ∧ rBk cI cZ cO e0 A2 h (sStrict σ x on).1 ∧ gO A A2) (fun A2 t => gP D classes b A2 t.heap) (fun q => b ≤ q)) 0 0 (fun q => b ≤ q) := by
  refine Met.ofG (own := R_MB) (by decide +kernel) rfl (Nat.le_of_ble_eq_true rfl) ?_
  intro p e s m below meth c ls hx hb hr hlk hml hown hnm hts hI hl
  have hl : lv_has ls 4 [(0, .ref h), (1, .int x), (2, .int (bI on))] := hl
  have hS : gS b s.heap s.heap [] := va_S.rf
  obtain ⟨hP, hK⟩ := hI
  obtain ⟨ra, ia, sa, ua, aR, aI, aM, fs, fB, hLR, hLI, fS, hfs, hBu, hRs, hIs⟩ := id hB
  obtain ⟨w1, w2, w3, w4, w5, w6, w7, w8⟩ := id hw
  obtain ⟨moR, qR, capR, efR, fLR, -⟩ := id hLR
  obtain ⟨moI, qI, capI, efI, fLI, -⟩ := id hLI
  obtain ⟨hk, hv, fk, fv, fM, fK, fV, hn3, hms⟩ := id hBu
  have hQ : rBq cI cZ cO e0 A h ra ia sa ua aR aI aM fs σ := ⟨fB, hLR, hLI, fS, hfs, hBu, hRs, hIs⟩
  refine lv_iload_n hx hb d_MB_strict_0 rfl (lv_at hl 1 rfl) ?_
  refine g_ri (g_runS (As := [.int x]) (rest := []) ⟨hx, hb, hml, hown, hts⟩ (c_MB_isMock l x) st_MB_isMock k_110 ⟨rfl, rfl, by decide, by decide⟩ (gT_pre _) rfl hl.1 rfl (Nat.le_of_ble_eq_true rfl) d_MB_strict_1 ⟨by decide, by decide⟩) (fun r1 hr1 => ?_)
  subst hr1
  refine lv_if_ne (tgt := 9) hx hb d_MB_strict_4 (by decide) (fun c2 => ?_) (fun c2 => ?_)
  · skip
    rw [bI_0] at c2
    obtain ⟨mk, hmk, rfl⟩ := inR_of (M := 3) (n := 3) (by decide) (by simpa using c2 : inR x 0 3 = true)
    have hcl := nI_clamp (show mk < 2 ^ 31 by omega)
    refine lv_aload_n hx hb d_MB_strict_9 rfl (lv_at hl 0 rfl) ?_
    refine g_get hx hb hts i_MB hown hK.1 hP fB rfl 2 (by decide) (hts _ k_70) (fun _ h9 => h9) rfl d_MB_strict_10 ?_
    refine lv_iload_n hx hb d_MB_strict_13 rfl (lv_at hl 1 rfl) ?_
    refine g_zald (v := bI (kSt σ mk)) hx hb hK.1 hP 1 fS rfl (vp_in_nI (show mk < 4 by omega) (by omega)) (by rw [hcl]; exact hfs mk (by omega)) d_MB_strict_14 ?_
    refine lv_istore_n (lv' := [(3, .int (bI (kSt σ mk))), (0, .ref h), (1, .int (nI mk)), (2, .int (bI on))]) hx hb d_MB_strict_15 rfl hl (by decide) rfl (fun ls hl => ?_)
    refine lv_aload_n hx hb d_MB_strict_16 rfl (lv_at hl 1 rfl) ?_
    refine g_get hx hb hts i_MB hown hK.1 hP fB rfl 2 (by decide) (hts _ k_70) (fun _ h9 => h9) rfl d_MB_strict_17 ?_
    refine lv_iload_n hx hb d_MB_strict_20 rfl (lv_at hl 2 rfl) ?_
    refine lv_iload_n hx hb d_MB_strict_21 rfl (lv_at hl 3 rfl) ?_
    refine g_zast (k := mk) hx hb hK.1 hP hS 1 fS rfl (vp_in_nI (show mk < 4 by omega) (by omega)) hcl (bI_nar _) d_MB_strict_22 (fun H locs hP hS => ?_)
    obtain ⟨A3, eA3⟩ : ∃ z, z = gU A (4, 0) (sa, .inl (cZ, 4, .inl (upd fs (mk) (bI on)))) := ⟨_, rfl⟩
    replace hP : gP D classes b A3 H := by rw [eA3]; exact hP
    have f4 : A3 (0, 0) = some (h, .inr (0, [.ref ra, .ref ia, .ref sa, .ref ua, .int (nI (kMk σ) - 1)])) := (by rw [eA3]; exact gU_n (gne (show (0 : Nat) ≠ 4 by decide)) : A3 (0, 0) = A (0, 0)).trans fB
    have f5 : A3 (1, 0) = some (ra, .inr (4, [.int moR, .ref qR, .int (nI (kRs σ).length)])) := (by rw [eA3]; exact gU_n (gne (show (1 : Nat) ≠ 4 by decide)) : A3 (1, 0) = A (1, 0)).trans fLR
    have f6 : A3 (1, 1) = some (ia, .inr (4, [.int moI, .ref qI, .int (nI (kIs σ).length)])) := (by rw [eA3]; exact gU_n (gne (show (1 : Nat) ≠ 4 by decide)) : A3 (1, 1) = A (1, 1)).trans fLI
    have f7 : A3 (5, (kRs σ).length) = some (ua, .inr (1, [.ref hk, .ref hv, .int (nI (kBu σ).length)])) := (by rw [eA3]; exact gU_n (gne (show (5 : Nat) ≠ 4 by decide)) : A3 (5, (kRs σ).length) = A (5, (kRs σ).length)).trans fM
    have f8 : A3 (6, (kRs σ).length) = some (hk, .inl (cI, 3, .inl fk)) := (by rw [eA3]; exact gU_n (gne (show (6 : Nat) ≠ 4 by decide)) : A3 (6, (kRs σ).length) = A (6, (kRs σ).length)).trans fK
    have f9 : A3 (7, (kRs σ).length) = some (hv, .inl (cI, 3, .inl fv)) := (by rw [eA3]; exact gU_n (gne (show (7 : Nat) ≠ 4 by decide)) : A3 (7, (kRs σ).length) = A (7, (kRs σ).length)).trans fV
    have f10 : A3 (4, 0) = some (sa, .inl (cZ, 4, .inl (upd fs (mk) (bI on)))) := by rw [eA3]; exact gU_s
    have gA3 : gF [4] 0 A A3 := by rw [eA3]; exact gF_U gF.rf (by decide)
    refine lv_iload_n hx hb d_MB_strict_23 rfl (lv_at hl 0 rfl) ?_
    refine g_ri (g_runS (As := [.int (bI (kSt σ mk))]) (rest := []) ⟨hx, hb, hml, hown, hts⟩ (c_MB_asB l (kSt σ mk)) st_MB_asNumber k_250 ⟨rfl, rfl, by decide, by decide⟩ (gT_pre _) rfl hl.1 rfl (Nat.le_of_ble_eq_true rfl) d_MB_strict_24 ⟨by decide, by decide⟩) (fun r11 hr11 => ?_)
    subst hr11
    have e9 : sStrict σ (nI mk) on = ((kRs σ, kIs σ, va_up (kSt σ) mk on, kBu σ, kMk σ), bI (kSt σ mk)) := by unfold sStrict; rw [if_pos (by simp_all), hcl]
    refine W.widen (k := 0) (n := 0) (by decide) (by decide) ?_
    exact W.iret hx hb hr (fun t ht _ => ⟨⟨_, A3, rfl, ⟨by rw [e9], by rw [e9]; exact (hQ.st gA3 f10).k, gA3.out rfl⟩, show gP D classes b A3 t.heap by rw [ht]; exact hP⟩, hS.F ht⟩) hS.2.2 d_MB_strict_27
  · skip
    rw [bI_0] at c2
    refine lv_iconst (v := (-1)) hx hb d_MB_strict_7 (by decide) ?_
    have e9 : sStrict σ x on = (σ, -1) := by simp_all [sStrict]
    refine W.widen (k := 0) (n := 0) (by decide) (by decide) ?_
    exact W.iret hx hb hr (fun t ht _ => ⟨⟨_, A, rfl, ⟨by rw [e9], by rw [e9]; exact hB, gO.rf⟩, show gP D classes b A t.heap by rw [ht]; exact hP⟩, hS.F ht⟩) hS.2.2 d_MB_strict_8
