set_option maxHeartbeats 4000000 in
set_option maxRecDepth 100000 in
theorem c_MB_reset (l : Launch) {D : va_G} {cI cZ cO cL : ClassId} {b e0 : Nat} {A : gW} {h : Nat} {σ : Bk} (hB : rBk cI cZ cO e0 A h σ) (hw : wf σ) (x : Int32) : Met l y_MB_reset (Cond.code y_MB_reset b_MB_reset 2 (some .int) :: TT) ({ frames := 4, cells := 0, slots := 0, locals := 88 }) (va_Pc [.ref h, .int x] (gI D [(cI, .int), (cZ, .boolean), (cO, .object "java/lang/Object"), (cL, .long)] b e0 A)) (va_Qi (fun (z : Int32) (A2 : gW) => z = (sReset σ x).2 ∧ rBk cI cZ cO e0 A2 h (sReset σ x).1 ∧ gO A A2) (fun A2 t => gP D classes b A2 t.heap) (fun q => b ≤ q)) 0 0 (fun q => b ≤ q) := by
  refine Met.ofG (own := R_MB) (by decide +kernel) rfl (Nat.le_of_ble_eq_true rfl) ?_
  intro p e s m below meth c ls hx hb hr hlk hml hown hnm hts hI hl
  have hl : lv_has ls 2 [(0, .ref h), (1, .int x)] := hl
  have hS : gS b s.heap s.heap [] := va_S.rf
  obtain ⟨hP, hK⟩ := hI
  obtain ⟨ra, ia, sa, ua, aR, aI, aM, fs, fB, hLR, hLI, fS, hfs, hBu, hRs, hIs⟩ := id hB
  obtain ⟨w1, w2, w3, w4, w5, w6, w7, w8⟩ := id hw
  obtain ⟨moR, qR, capR, efR, fLR, -⟩ := id hLR
  obtain ⟨moI, qI, capI, efI, fLI, -⟩ := id hLI
  obtain ⟨hk, hv, fk, fv, fM, fK, fV, hn3, hms⟩ := id hBu
  have hQ : rBq cI cZ cO e0 A h ra ia sa ua aR aI aM fs σ := ⟨fB, hLR, hLI, fS, hfs, hBu, hRs, hIs⟩
  refine lv_iload_n hx hb d_MB_reset_0 rfl (lv_at hl 1 rfl) ?_
  refine g_ri (g_runS (As := [.int x]) (rest := []) ⟨hx, hb, hml, hown, hts⟩ (c_MB_isMock l x) st_MB_isMock k_110 ⟨rfl, rfl, by decide, by decide⟩ (gT_pre _) rfl hl.1 rfl (Nat.le_of_ble_eq_true rfl) d_MB_reset_1 ⟨by decide, by decide⟩) (fun r1 hr1 => ?_)
  subst hr1
  refine lv_if_ne (tgt := 9) hx hb d_MB_reset_4 (by decide) (fun c2 => ?_) (fun c2 => ?_)
  · skip
    rw [bI_0] at c2
    obtain ⟨mk, hmk, rfl⟩ := inR_of (M := 3) (n := 3) (by decide) (by simpa using c2 : inR x 0 3 = true)
    have hcl := nI_clamp (show mk < 2 ^ 31 by omega)
    refine lv_aload_n hx hb d_MB_reset_9 rfl (lv_at hl 0 rfl) ?_
    refine lv_iload_n hx hb d_MB_reset_10 rfl (lv_at hl 1 rfl) ?_
    refine g_cv (B := fun A2 H => gP D classes b A2 H) (g_runV (As := [.int (nI mk)]) (rest := []) ⟨hx, hb, hml, hown, hts⟩ (c_MB_endRules l hQ w1 (fun i hi => (w3 i hi).1) (by omega)) st_MB_endRules k_401 ⟨rfl, rfl, by decide, by decide⟩ rfl (gI.preV hK hS hP fB rfl _) rfl hl.1 rfl (Nat.le_of_ble_eq_true rfl) d_MB_reset_11 ⟨by decide, by decide⟩) hS (fun A3 H locs hp4 hP hS => ?_)
    replace hP : gP D classes b A3 H := hP
    refine W.widen (k := 0) (n := 0) (by decide) (by decide) ?_
    obtain ⟨hQ2, go2⟩ := hp4
    obtain ⟨fB2, -⟩ := id hQ2
    refine lv_aload_n hx hb d_MB_reset_14 rfl (lv_at hl 0 rfl) ?_
    refine lv_iload_n hx hb d_MB_reset_15 rfl (lv_at hl 1 rfl) ?_
    refine g_ci (B := fun A2 H => gP D classes b A2 H) (g_runV (As := [.int (nI mk)]) (rest := []) ⟨hx, hb, hml, hown, hts⟩ (c_MB_endInteractions l hQ2 w2 (fun i hi => (w4 i hi).1) (by omega)) st_MB_endInteractions k_405 ⟨rfl, rfl, by decide, by decide⟩ rfl (gI.preV hK hS hP fB2 rfl _) rfl hl.1 rfl (Nat.le_of_ble_eq_true rfl) d_MB_reset_16 ⟨by decide, by decide⟩) hS (fun r7 A5 H locs hp6 hP hS => ?_)
    replace hP : gP D classes b A5 H := hP
    refine W.widen (k := 0) (n := 0) (by decide) (by decide) ?_
    obtain ⟨hz3, hQ3, go3⟩ := hp6
    have e9 : sReset σ (nI mk) = (((kRs σ).map (gEndR mk), (kIs σ).map (gEndI mk), kSt σ, kBu σ, kMk σ), r7) := by unfold sReset; rw [if_pos (by simp_all), hcl, hz3]
    refine W.widen (k := 0) (n := 0) (by decide) (by decide) ?_
    exact W.iret hx hb hr (fun t ht _ => ⟨⟨_, A5, rfl, ⟨by rw [e9], by rw [e9]; exact hQ3.k, go2.trans go3⟩, show gP D classes b A5 t.heap by rw [ht]; exact hP⟩, hS.F ht⟩) hS.2.2 d_MB_reset_19
  · skip
    rw [bI_0] at c2
    refine lv_iconst (v := (-1)) hx hb d_MB_reset_7 (by decide) ?_
    have e9 : sReset σ x = (σ, -1) := by unfold sReset; rw [if_neg (by simp_all)]
    refine W.widen (k := 0) (n := 0) (by decide) (by decide) ?_
    exact W.iret hx hb hr (fun t ht _ => ⟨⟨_, A, rfl, ⟨by rw [e9], by rw [e9]; exact hB, gO.rf⟩, show gP D classes b A t.heap by rw [ht]; exact hP⟩, hS.F ht⟩) hS.2.2 d_MB_reset_8
set_option maxHeartbeats 4000000 in
set_option maxRecDepth 100000 in
theorem c_MB_verify (l : Launch) {D : va_G} {cI cZ cO cL : ClassId} {b e0 : Nat} {A : gW} {h : Nat} {σ : Bk} (hB : rBk cI cZ cO e0 A h σ) (hw : wf σ) (x y md n : Int32) : Met l y_MB_verify (Cond.code y_MB_verify b_MB_verify 7 (some .int) :: TT) ({ frames := 5, cells := 0, slots := 0, locals := 113 }) (va_Pc [.ref h, .int x, .int y, .int md, .int n] (gI D [(cI, .int), (cZ, .boolean), (cO, .object "java/lang/Object"), (cL, .long)] b e0 A)) (va_Qi (fun (z : Int32) (A2 : gW) => z = (sVerify σ x y md n).2 ∧ rBk cI cZ cO e0 A2 h (sVerify σ x y md n).1 ∧ gO A A2) (fun A2 t => gP D classes b A2 t.heap) (fun q => b ≤ q)) 0 0 (fun q => b ≤ q) := by
  refine Met.ofG (own := R_MB) (by decide +kernel) rfl (Nat.le_of_ble_eq_true rfl) ?_
  intro p e s m below meth c ls hx hb hr hlk hml hown hnm hts hI hl
  have hl : lv_has ls 7 [(0, .ref h), (1, .int x), (2, .int y), (3, .int md), (4, .int n)] := hl
  have hS : gS b s.heap s.heap [] := va_S.rf
  obtain ⟨hP, hK⟩ := hI
  obtain ⟨ra, ia, sa, ua, aR, aI, aM, fs, fB, hLR, hLI, fS, hfs, hBu, hRs, hIs⟩ := id hB
  obtain ⟨w1, w2, w3, w4, w5, w6, w7, w8⟩ := id hw
  obtain ⟨moR, qR, capR, efR, fLR, -⟩ := id hLR
  obtain ⟨moI, qI, capI, efI, fLI, -⟩ := id hLI
  obtain ⟨hk, hv, fk, fv, fM, fK, fV, hn3, hms⟩ := id hBu
  have hQ : rBq cI cZ cO e0 A h ra ia sa ua aR aI aM fs σ := ⟨fB, hLR, hLI, fS, hfs, hBu, hRs, hIs⟩
  refine lv_iload_n hx hb d_MB_verify_0 rfl (lv_at hl 1 rfl) ?_
  refine lv_iload_n hx hb d_MB_verify_1 rfl (lv_at hl 2 rfl) ?_
  refine g_ri (g_runS (As := [.int x, .int y]) (rest := []) ⟨hx, hb, hml, hown, hts⟩ (c_MB_isMethod l x y) st_MB_isMethod k_107 ⟨rfl, rfl, by decide, by decide⟩ (gT_pre _) rfl hl.1 rfl (Nat.le_of_ble_eq_true rfl) d_MB_verify_2 ⟨by decide, by decide⟩) (fun r1 hr1 => ?_)
  subst hr1
  refine lv_if_eq (tgt := 28) hx hb d_MB_verify_5 (by decide) (fun c2 => ?_) (fun c2 => ?_)
  · skip
    rw [bI_0] at c2
    refine lv_iconst (v := (-1)) hx hb d_MB_verify_28 (by decide) ?_
    have e9 : sVerify σ x y md n = (σ, -1) := by unfold sVerify; rw [if_neg (by simp_all)]
    refine W.widen (k := 0) (n := 0) (by decide) (by decide) ?_
    exact W.iret hx hb hr (fun t ht _ => ⟨⟨_, A, rfl, ⟨by rw [e9], by rw [e9]; exact hB, gO.rf⟩, show gP D classes b A t.heap by rw [ht]; exact hP⟩, hS.F ht⟩) hS.2.2 d_MB_verify_29
  · skip
    rw [bI_0] at c2
    have hin : inR x 0 3 = true ∧ inR y 0 7 = true := by simpa using c2
    obtain ⟨mk, hmk, rfl⟩ := inR_of (M := 3) (n := 3) (by decide) hin.1
    obtain ⟨mt, hmt, rfl⟩ := inR_of (M := 7) (n := 7) (by decide) hin.2
    have hc1 := nI_clamp (show mk < 2 ^ 31 by omega)
    have hc2 := nI_clamp (show mt < 2 ^ 31 by omega)
    refine lv_iload_n hx hb d_MB_verify_8 rfl (lv_at hl 3 rfl) ?_
    refine lv_iconst (v := 0) hx hb d_MB_verify_9 (by decide) ?_
    refine lv_iconst (v := 2) hx hb d_MB_verify_10 (by decide) ?_
    refine g_ri (g_runS (As := [.int md, .int 0, .int 2]) (rest := []) ⟨hx, hb, hml, hown, hts⟩ (c_MB_isWithin l md 0 2) st_MB_isWithin k_88 ⟨rfl, rfl, by decide, by decide⟩ (gT_pre _) rfl hl.1 rfl (Nat.le_of_ble_eq_true rfl) d_MB_verify_11 ⟨by decide, by decide⟩) (fun r3 hr3 => ?_)
    subst hr3
    refine lv_if_eq (tgt := 28) hx hb d_MB_verify_14 (by decide) (fun c4 => ?_) (fun c4 => ?_)
    · skip
      rw [bI_0] at c4
      refine lv_iconst (v := (-1)) hx hb d_MB_verify_28 (by decide) ?_
      have e9 : sVerify σ (nI mk) (nI mt) md n = (σ, -1) := by unfold sVerify; rw [if_neg (by simp_all)]
      refine W.widen (k := 0) (n := 0) (by decide) (by decide) ?_
      exact W.iret hx hb hr (fun t ht _ => ⟨⟨_, A, rfl, ⟨by rw [e9], by rw [e9]; exact hB, gO.rf⟩, show gP D classes b A t.heap by rw [ht]; exact hP⟩, hS.F ht⟩) hS.2.2 d_MB_verify_29
    · skip
      rw [bI_0] at c4
      refine lv_aload_n hx hb d_MB_verify_17 rfl (lv_at hl 0 rfl) ?_
      refine g_get hx hb hts i_MB hown hK.1 hP fB rfl 3 (by decide) (hts _ k_71) (fun _ h9 => h9) rfl d_MB_verify_18 ?_
      refine lv_iload_n hx hb d_MB_verify_21 rfl (lv_at hl 2 rfl) ?_
      refine g_ri (g_runV (As := [.int (nI mt)]) (rest := []) ⟨hx, hb, hml, hown, hts⟩ (c_Ma_suits l hBu (by omega)) st_Ma_suits k_113 ⟨rfl, rfl, by decide, by decide⟩ rfl (gI.preV hK hS hP fM rfl _) rfl hl.1 rfl (Nat.le_of_ble_eq_true rfl) d_MB_verify_22 ⟨by decide, by decide⟩) (fun r5 hr5 => ?_)
      subst hr5
      refine lv_if_ne (tgt := 30) hx hb d_MB_verify_25 (by decide) (fun c6 => ?_) (fun c6 => ?_)
      · skip
        rw [bI_0] at c6
        refine lv_aload_n hx hb d_MB_verify_30 rfl (lv_at hl 0 rfl) ?_
        refine lv_iload_n hx hb d_MB_verify_31 rfl (lv_at hl 1 rfl) ?_
        refine lv_iload_n hx hb d_MB_verify_32 rfl (lv_at hl 2 rfl) ?_
        refine g_ri (g_runV (As := [.int (nI mk), .int (nI mt)]) (rest := []) ⟨hx, hb, hml, hown, hts⟩ (c_MB_countSought l hB hw (by omega) (by omega)) st_MB_countSought k_361 ⟨rfl, rfl, by decide, by decide⟩ rfl (gI.preV hK hS hP fB rfl _) rfl hl.1 rfl (Nat.le_of_ble_eq_true rfl) d_MB_verify_33 ⟨by decide, by decide⟩) (fun r7 hr7 => ?_)
        subst hr7
        refine lv_istore (lv' := [(5, .int (nI (cnt (qAsk σ mk mt) (kIs σ).length))), (0, .ref h), (1, .int (nI mk)), (2, .int (nI mt)), (3, .int md), (4, .int n)]) hx hb d_MB_verify_36 hl (by decide) rfl (fun ls hl => ?_)
        refine lv_iload hx hb d_MB_verify_38 (lv_at hl 0 rfl) ?_
        refine lv_iload_n hx hb d_MB_verify_40 rfl (lv_at hl 4 rfl) ?_
        refine lv_iload hx hb d_MB_verify_41 (lv_at hl 5 rfl) ?_
        refine g_ri (g_runS (As := [.int (nI (cnt (qAsk σ mk mt) (kIs σ).length)), .int md, .int n]) (rest := []) ⟨hx, hb, hml, hown, hts⟩ (c_MB_isWanted l (nI (cnt (qAsk σ mk mt) (kIs σ).length)) md n) st_MB_isWanted k_370 ⟨rfl, rfl, by decide, by decide⟩ (gT_pre _) rfl hl.1 rfl (Nat.le_of_ble_eq_true rfl) d_MB_verify_43 ⟨by decide, by decide⟩) (fun r8 hr8 => ?_)
        subst hr8
        refine lv_istore (lv' := [(6, .int (bI (wantd (nI (cnt (qAsk σ mk mt) (kIs σ).length)) md n))), (5, .int (nI (cnt (qAsk σ mk mt) (kIs σ).length))), (0, .ref h), (1, .int (nI mk)), (2, .int (nI mt)), (3, .int md), (4, .int n)]) hx hb d_MB_verify_46 hl (by decide) rfl (fun ls hl => ?_)
        refine lv_iload hx hb d_MB_verify_48 (lv_at hl 0 rfl) ?_
        refine lv_if_eq (tgt := 59) hx hb d_MB_verify_50 (by decide) (fun c9 => ?_) (fun c9 => ?_)
        · skip
          rw [bI_0] at c9
          refine lv_aload_n hx hb d_MB_verify_59 rfl (lv_at hl 2 rfl) ?_
          refine g_get hx hb hts i_MB hown hK.1 hP fB rfl 3 (by decide) (hts _ k_71) (fun _ h9 => h9) rfl d_MB_verify_60 ?_
          refine g_cv (B := fun A2 H => gP D classes b A2 H) (g_runV (As := []) (rest := []) ⟨hx, hb, hml, hown, hts⟩ (c_Ma_clear l hBu) st_Ma_clear k_99 ⟨rfl, rfl, by decide, by decide⟩ rfl (gI.preV hK hS hP fM rfl _) rfl hl.1 rfl (Nat.le_of_ble_eq_true rfl) d_MB_verify_63 ⟨by decide, by decide⟩) hS (fun A10 H locs hp11 hP hS => ?_)
          replace hP : gP D classes b A10 H := hP
          refine W.widen (k := 0) (n := 0) (by decide) (by decide) ?_
          obtain ⟨hm4, gm4⟩ := hp11
          refine lv_iload hx hb d_MB_verify_66 (lv_at hl 0 rfl) ?_
          refine lv_if_eq (tgt := 76) hx hb d_MB_verify_68 (by decide) (fun _ => ?_) (fun h9 => absurd (by rw [bI_0]; exact c9) h9)
          refine lv_bipush (v := (-10)) hx hb d_MB_verify_76 (by decide) ?_
          refine lv_iload hx hb d_MB_verify_78 (lv_at hl 1 rfl) ?_
          refine lv_isub hx hb d_MB_verify_80 ?_
          have e9 : sVerify σ (nI mk) (nI mt) md n = ((kRs σ, kIs σ, kSt σ, [], kMk σ), (-10) - (nI (cnt (qAsk σ mk mt) (kIs σ).length))) := by unfold sVerify; rw [if_pos (by simp_all), hc1, hc2, if_pos (by simp_all), if_neg (by simp_all)]
          refine W.widen (k := 0) (n := 0) (by decide) (by decide) ?_
          exact W.iret hx hb hr (fun t ht _ => ⟨⟨_, A10, rfl, ⟨by rw [e9], by rw [e9]; exact (hQ.bu gm4 hm4).k, gm4.out rfl⟩, show gP D classes b A10 t.heap by rw [ht]; exact hP⟩, hS.F ht⟩) hS.2.2 d_MB_verify_81
        · skip
          rw [bI_0] at c9
          refine lv_aload_n hx hb d_MB_verify_53 rfl (lv_at hl 2 rfl) ?_
          refine lv_iload_n hx hb d_MB_verify_54 rfl (lv_at hl 3 rfl) ?_
          refine lv_iload_n hx hb d_MB_verify_55 rfl (lv_at hl 4 rfl) ?_
          refine g_cv (B := fun A2 H => gP D classes b A2 H) (g_runV (As := [.int (nI mk), .int (nI mt)]) (rest := []) ⟨hx, hb, hml, hown, hts⟩ (c_MB_verifySought l hQ w2 (fun i hi => (w4 i hi).1) (by omega) (by omega)) st_MB_verifySought k_373 ⟨rfl, rfl, by decide, by decide⟩ rfl (gI.preV hK hS hP fB rfl _) rfl hl.1 rfl (Nat.le_of_ble_eq_true rfl) d_MB_verify_56 ⟨by decide, by decide⟩) hS (fun A13 H locs hp14 hP hS => ?_)
          replace hP : gP D classes b A13 H := hP
          refine W.widen (k := 0) (n := 0) (by decide) (by decide) ?_
          obtain ⟨hQ2, go2⟩ := hp14
          obtain ⟨fB2, hLR2, hLI2, fS2, hfs2, hBu2, hRs2, hIs2⟩ := id hQ2
          obtain ⟨moR2, qR2, capR2, efR2, fLR2, -⟩ := id hLR2
          obtain ⟨moI2, qI2, capI2, efI2, fLI2, -⟩ := id hLI2
          obtain ⟨hk2, hv2, fk2, fv2, fM2, fK2, fV2, hn32, hms2⟩ := id hBu2
          refine lv_aload_n hx hb d_MB_verify_59 rfl (lv_at hl 2 rfl) ?_
          refine g_get hx hb hts i_MB hown hK.1 hP fB2 rfl 3 (by decide) (hts _ k_71) (fun _ h9 => h9) rfl d_MB_verify_60 ?_
          refine g_cv (B := fun A2 H => gP D classes b A2 H) (g_runV (As := []) (rest := []) ⟨hx, hb, hml, hown, hts⟩ (c_Ma_clear l hBu2) st_Ma_clear k_99 ⟨rfl, rfl, by decide, by decide⟩ rfl (gI.preV hK hS hP fM2 rfl _) rfl hl.1 rfl (Nat.le_of_ble_eq_true rfl) d_MB_verify_63 ⟨by decide, by decide⟩) hS (fun A15 H locs hp16 hP hS => ?_)
          replace hP : gP D classes b A15 H := hP
          refine W.widen (k := 0) (n := 0) (by decide) (by decide) ?_
          obtain ⟨hm4, gm4⟩ := hp16
          refine lv_iload hx hb d_MB_verify_66 (lv_at hl 0 rfl) ?_
          refine lv_if_eq (tgt := 76) hx hb d_MB_verify_68 (by decide) (fun h9 => absurd h9 (by rw [bI_0]; exact c9)) (fun _ => ?_)
          refine lv_iload hx hb d_MB_verify_71 (lv_at hl 1 rfl) ?_
          refine lv_goto (tgt := 81) hx hb d_MB_verify_73 (by decide) ?_
          have e9 : sVerify σ (nI mk) (nI mt) md n = ((kRs σ, (kIs σ).map (gVer (kBu σ) mk mt), kSt σ, [], kMk σ), nI (cnt (qAsk σ mk mt) (kIs σ).length)) := by unfold sVerify; rw [if_pos (by simp_all), hc1, hc2, if_pos (by simp_all), if_pos (by simp_all)]
          refine W.widen (k := 0) (n := 0) (by decide) (by decide) ?_
          exact W.iret hx hb hr (fun t ht _ => ⟨⟨_, A15, rfl, ⟨by rw [e9], by rw [e9]; exact (hQ2.bu gm4 hm4).k, go2.trans (gm4.out rfl)⟩, show gP D classes b A15 t.heap by rw [ht]; exact hP⟩, hS.F ht⟩) hS.2.2 d_MB_verify_81
      · skip
        rw [bI_0] at c6
        refine lv_iconst (v := (-1)) hx hb d_MB_verify_28 (by decide) ?_
        have e9 : sVerify σ (nI mk) (nI mt) md n = (σ, -1) := by unfold sVerify; rw [if_pos (by simp_all), hc1, hc2, if_neg (by simp_all)]
        refine W.widen (k := 0) (n := 0) (by decide) (by decide) ?_
        exact W.iret hx hb hr (fun t ht _ => ⟨⟨_, A, rfl, ⟨by rw [e9], by rw [e9]; exact hB, gO.rf⟩, show gP D classes b A t.heap by rw [ht]; exact hP⟩, hS.F ht⟩) hS.2.2 d_MB_verify_29
set_option maxHeartbeats 4000000 in
set_option maxRecDepth 100000 in
theorem c_MB_inOrder (l : Launch) {D : va_G} {cI cZ cO cL : ClassId} {b e0 : Nat} {A : gW} {h : Nat} {σ : Bk} (hB : rBk cI cZ cO e0 A h σ) (hw : wf σ) (x y : Int32) : Met l y_MB_inOrder (Cond.code y_MB_inOrder b_MB_inOrder 4 (some .int) :: TT) ({ frames := 5, cells := 0, slots := 0, locals := 112 }) (va_Pc [.ref h, .int x, .int y] (gI D [(cI, .int), (cZ, .boolean), (cO, .object "java/lang/Object"), (cL, .long)] b e0 A)) (va_Qi (fun (z : Int32) (A2 : gW) => z = (sInOrder σ x y).2 ∧ rBk cI cZ cO e0 A2 h (sInOrder σ x y).1 ∧ gO A A2) (fun A2 t => gP D classes b A2 t.heap) (fun q => b ≤ q)) 0 0 (fun q => b ≤ q) := by
  refine Met.ofG (own := R_MB) (by decide +kernel) rfl (Nat.le_of_ble_eq_true rfl) ?_
  intro p e s m below meth c ls hx hb hr hlk hml hown hnm hts hI hl
  have hl : lv_has ls 4 [(0, .ref h), (1, .int x), (2, .int y)] := hl
  have hS : gS b s.heap s.heap [] := va_S.rf
  obtain ⟨hP, hK⟩ := hI
  obtain ⟨ra, ia, sa, ua, aR, aI, aM, fs, fB, hLR, hLI, fS, hfs, hBu, hRs, hIs⟩ := id hB
  obtain ⟨w1, w2, w3, w4, w5, w6, w7, w8⟩ := id hw
  obtain ⟨moR, qR, capR, efR, fLR, -⟩ := id hLR
  obtain ⟨moI, qI, capI, efI, fLI, -⟩ := id hLI
  obtain ⟨hk, hv, fk, fv, fM, fK, fV, hn3, hms⟩ := id hBu
  have hQ : rBq cI cZ cO e0 A h ra ia sa ua aR aI aM fs σ := ⟨fB, hLR, hLI, fS, hfs, hBu, hRs, hIs⟩
  refine lv_iload_n hx hb d_MB_inOrder_0 rfl (lv_at hl 1 rfl) ?_
  refine lv_iload_n hx hb d_MB_inOrder_1 rfl (lv_at hl 2 rfl) ?_
  refine g_ri (g_runS (As := [.int x, .int y]) (rest := []) ⟨hx, hb, hml, hown, hts⟩ (c_MB_isMethod l x y) st_MB_isMethod k_107 ⟨rfl, rfl, by decide, by decide⟩ (gT_pre _) rfl hl.1 rfl (Nat.le_of_ble_eq_true rfl) d_MB_inOrder_2 ⟨by decide, by decide⟩) (fun r1 hr1 => ?_)
  subst hr1
  refine lv_if_eq (tgt := 19) hx hb d_MB_inOrder_5 (by decide) (fun c2 => ?_) (fun c2 => ?_)
  · skip
    rw [bI_0] at c2
    refine lv_iconst (v := (-1)) hx hb d_MB_inOrder_19 (by decide) ?_
    have e9 : sInOrder σ x y = (σ, -1) := by unfold sInOrder; rw [if_neg (by simp_all)]
    refine W.widen (k := 0) (n := 0) (by decide) (by decide) ?_
    exact W.iret hx hb hr (fun t ht _ => ⟨⟨_, A, rfl, ⟨by rw [e9], by rw [e9]; exact hB, gO.rf⟩, show gP D classes b A t.heap by rw [ht]; exact hP⟩, hS.F ht⟩) hS.2.2 d_MB_inOrder_20
  · skip
    rw [bI_0] at c2
    have hin : inR x 0 3 = true ∧ inR y 0 7 = true := by simpa using c2
    obtain ⟨mk, hmk, rfl⟩ := inR_of (M := 3) (n := 3) (by decide) hin.1
    obtain ⟨mt, hmt, rfl⟩ := inR_of (M := 7) (n := 7) (by decide) hin.2
    have hc1 := nI_clamp (show mk < 2 ^ 31 by omega)
    have hc2 := nI_clamp (show mt < 2 ^ 31 by omega)
    refine lv_aload_n hx hb d_MB_inOrder_8 rfl (lv_at hl 0 rfl) ?_
    refine g_get hx hb hts i_MB hown hK.1 hP fB rfl 3 (by decide) (hts _ k_71) (fun _ h9 => h9) rfl d_MB_inOrder_9 ?_
    refine lv_iload_n hx hb d_MB_inOrder_12 rfl (lv_at hl 2 rfl) ?_
    refine g_ri (g_runV (As := [.int (nI mt)]) (rest := []) ⟨hx, hb, hml, hown, hts⟩ (c_Ma_suits l hBu (by omega)) st_Ma_suits k_113 ⟨rfl, rfl, by decide, by decide⟩ rfl (gI.preV hK hS hP fM rfl _) rfl hl.1 rfl (Nat.le_of_ble_eq_true rfl) d_MB_inOrder_13 ⟨by decide, by decide⟩) (fun r3 hr3 => ?_)
    subst hr3
    refine lv_if_ne (tgt := 21) hx hb d_MB_inOrder_16 (by decide) (fun c4 => ?_) (fun c4 => ?_)
    · skip
      rw [bI_0] at c4
      refine lv_aload_n hx hb d_MB_inOrder_21 rfl (lv_at hl 0 rfl) ?_
      refine lv_iload_n hx hb d_MB_inOrder_22 rfl (lv_at hl 1 rfl) ?_
      refine lv_iload_n hx hb d_MB_inOrder_23 rfl (lv_at hl 2 rfl) ?_
      refine g_ri (g_runV (As := [.int (nI mk), .int (nI mt)]) (rest := []) ⟨hx, hb, hml, hown, hts⟩ (c_MB_firstSoughtAfterMark l hB hw (by omega) (by omega)) st_MB_firstSoughtAfterMark k_381 ⟨rfl, rfl, by decide, by decide⟩ rfl (gI.preV hK hS hP fB rfl _) rfl hl.1 rfl (Nat.le_of_ble_eq_true rfl) d_MB_inOrder_24 ⟨by decide, by decide⟩) (fun r5 hr5 => ?_)
      subst hr5
      refine lv_istore_n (lv' := [(3, .int (fst' (qAsk σ mk mt) ((kIs σ).length - kMk σ) (kMk σ))), (0, .ref h), (1, .int (nI mk)), (2, .int (nI mt))]) hx hb d_MB_inOrder_27 rfl hl (by decide) rfl (fun ls hl => ?_)
      refine lv_aload_n hx hb d_MB_inOrder_28 rfl (lv_at hl 1 rfl) ?_
      refine g_get hx hb hts i_MB hown hK.1 hP fB rfl 3 (by decide) (hts _ k_71) (fun _ h9 => h9) rfl d_MB_inOrder_29 ?_
      refine g_cv (B := fun A2 H => gP D classes b A2 H) (g_runV (As := []) (rest := []) ⟨hx, hb, hml, hown, hts⟩ (c_Ma_clear l hBu) st_Ma_clear k_99 ⟨rfl, rfl, by decide, by decide⟩ rfl (gI.preV hK hS hP fM rfl _) rfl hl.1 rfl (Nat.le_of_ble_eq_true rfl) d_MB_inOrder_32 ⟨by decide, by decide⟩) hS (fun A6 H locs hp7 hP hS => ?_)
      replace hP : gP D classes b A6 H := hP
      refine W.widen (k := 0) (n := 0) (by decide) (by decide) ?_
      obtain ⟨hm4, gm4⟩ := hp7
      have hQ2 := hQ.bu gm4 hm4
      obtain ⟨fB2, hLR2, hLI2, fS2, hfs2, hBu2, hRs2, hIs2⟩ := id hQ2
      replace hLI2 : rAL cO e0 A6 1 11 3 ia (kIs σ).length aI := hLI2
      obtain ⟨moI2, qI2, capI2, efI2, fLI2, -⟩ := id hLI2
      refine lv_iload_n hx hb d_MB_inOrder_35 rfl (lv_at hl 0 rfl) ?_
      refine lv_bipush (v := (-10)) hx hb d_MB_inOrder_36 (by decide) ?_
      refine lv_icmp_ne (tgt := 44) hx hb d_MB_inOrder_38 (by decide) (fun c8 => ?_) (fun c8 => ?_)
      · skip
        obtain ⟨j, hj1, hj2, hj3⟩ := (fst_or (qAsk σ mk mt) ((kIs σ).length - kMk σ) (kMk σ)).resolve_left c8
        have hcj := nI_clamp (show j < 2 ^ 31 by omega)
        rw [hj3] at hl
        refine lv_aload_n hx hb d_MB_inOrder_44 rfl (lv_at hl 1 rfl) ?_
        refine g_get hx hb hts i_MB hown hK.1 hP fB2 rfl 1 (by decide) (hts _ k_69) (fun _ h9 => h9) rfl d_MB_inOrder_45 ?_
        refine lv_iload_n hx hb d_MB_inOrder_48 rfl (lv_at hl 0 rfl) ?_
        refine g_rr (g_runV (As := [.int (nI j)]) (rest := []) ⟨hx, hb, hml, hown, hts⟩ (c_AL_get l hLI2 (i := j) (by omega)) st_AL_get k_222 ⟨rfl, rfl, by decide, by decide⟩ rfl (gI.preV hK hS hP fLI2 rfl _) rfl hl.1 rfl (Nat.le_of_ble_eq_true rfl) d_MB_inOrder_49 ⟨by decide, by decide⟩) ?_
        obtain ⟨t9, ht9⟩ : ∃ z, z = (kIs σ).getD j i0 := ⟨_, rfl⟩
        have ft9 : rIn A6 j (aI j) t9 := by rw [ht9]; exact hIs2 j (by show j < (kIs σ).length; omega)
        refine va_castY (C := R_In) hx hb hown (hts _ k_263) (hK.2.1 _ (List.mem_of_getElem? (i := 6) rfl)) (va_recv (q0 := 0) hK.1 (hP.one ft9) rfl rfl) d_MB_inOrder_52 ?_
        refine lv_iconst (v := 1) hx hb d_MB_inOrder_55 (by decide) ?_
        refine g_put (ty := .boolean) (v := .int 1) hx hb hts i_In t_In t_In_ok n_In hown hK.1 hP hS ft9 rfl 9 (by decide) (hts _ k_292) (fun _ h9 => h9) rfl (by decide +kernel) rfl rfl (Nat.le_of_ble_eq_true rfl) d_MB_inOrder_56 (fun H locs hP hS => ?_)
        obtain ⟨A10, eA10⟩ : ∃ z, z = gU A6 (11, j) ((aI j), .inr (3, [.int (nI (iMk t9)), .int (nI (iMt t9)), .int ((iX t9).1), .int ((iX t9).2.1), .int ((iX t9).2.2), .int (nI (iDp t9)), .int (iFr t9), .int (nI (iRu t9) - 1), .long (iAn t9), .int 1, .int (bI (iLv t9))])) := ⟨_, rfl⟩
        replace hP : gP D classes b A10 H := by rw [eA10]; exact hP
        have f11 : A10 (0, 0) = some (h, .inr (0, [.ref ra, .ref ia, .ref sa, .ref ua, .int (nI (kMk σ) - 1)])) := (by rw [eA10]; exact gU_n (gne (show (0 : Nat) ≠ 11 by decide)) : A10 (0, 0) = A6 (0, 0)).trans fB2
        have f12 : A10 (1, 1) = some (ia, .inr (4, [.int moI2, .ref qI2, .int (nI (kIs σ).length)])) := (by rw [eA10]; exact gU_n (gne (show (1 : Nat) ≠ 11 by decide)) : A10 (1, 1) = A6 (1, 1)).trans fLI2
        have f13 : A10 (11, j) = some ((aI j), .inr (3, [.int (nI (iMk t9)), .int (nI (iMt t9)), .int ((iX t9).1), .int ((iX t9).2.1), .int ((iX t9).2.2), .int (nI (iDp t9)), .int (iFr t9), .int (nI (iRu t9) - 1), .long (iAn t9), .int 1, .int (bI (iLv t9))])) := by rw [eA10]; exact gU_s
        have gA10 : gF [11] j A6 A10 := by rw [eA10]; exact gF_U gF.rf (by decide)
        have hQ3 := hQ2.it (i := j) (t := iVer t9) (by show j < (kIs σ).length; omega) gA10 (show rIn A10 j (aI j) _ from f13)
        refine lv_aload_n hx hb d_MB_inOrder_59 rfl (lv_at hl 1 rfl) ?_
        refine lv_iload_n hx hb d_MB_inOrder_60 rfl (lv_at hl 0 rfl) ?_
        refine g_put (ty := .int) (v := .int (nI j)) hx hb hts i_MB t_MB t_MB_ok n_MB hown hK.1 hP hS f11 rfl 4 (by decide) (hts _ k_72) (fun _ h9 => h9) rfl (by decide +kernel) rfl rfl (Nat.le_of_ble_eq_true rfl) d_MB_inOrder_61 (fun H locs hP hS => ?_)
        obtain ⟨A14, eA14⟩ : ∃ z, z = gU A10 (0, 0) (h, .inr (0, [.ref ra, .ref ia, .ref sa, .ref ua, .int (nI j)])) := ⟨_, rfl⟩
        replace hP : gP D classes b A14 H := by rw [eA14]; exact hP
        have f15 : A14 (1, 1) = some (ia, .inr (4, [.int moI2, .ref qI2, .int (nI (kIs σ).length)])) := (by rw [eA14]; exact gU_n (gne (show (1 : Nat) ≠ 0 by decide)) : A14 (1, 1) = A10 (1, 1)).trans f12
        have f16 : A14 (11, j) = some ((aI j), .inr (3, [.int (nI (iMk t9)), .int (nI (iMt t9)), .int ((iX t9).1), .int ((iX t9).2.1), .int ((iX t9).2.2), .int (nI (iDp t9)), .int (iFr t9), .int (nI (iRu t9) - 1), .long (iAn t9), .int 1, .int (bI (iLv t9))])) := (by rw [eA14]; exact gU_n (gne (show (11 : Nat) ≠ 0 by decide)) : A14 (11, j) = A10 (11, j)).trans f13
        have f17 : A14 (0, 0) = some (h, .inr (0, [.ref ra, .ref ia, .ref sa, .ref ua, .int (nI j)])) := by rw [eA14]; exact gU_s
        have gA14 : gF [0] 0 A10 A14 := by rw [eA14]; exact gF_U gF.rf (by decide)
        refine lv_iload_n hx hb d_MB_inOrder_64 rfl (lv_at hl 0 rfl) ?_
        have e9 : sInOrder σ (nI mk) (nI mt) = ((kRs σ, (kIs σ).set j (iVer t9), kSt σ, [], j + 1), nI j) := by unfold sInOrder; rw [if_pos (by simp_all), hc1, hc2, if_pos (by simp_all), hj3, if_neg (nI_n10 (by omega)), hcj, ht9]
        refine W.widen (k := 0) (n := 0) (by decide) (by decide) ?_
        exact W.iret hx hb hr (fun t ht _ => ⟨⟨_, A14, rfl, ⟨by rw [e9], by rw [e9]; exact (hQ3.ma (m := j + 1) gA14 (by rw [nI_pred]; exact f17)).k, (gm4.out rfl).trans ((gA10.out rfl).trans (gA14.out rfl))⟩, show gP D classes b A14 t.heap by rw [ht]; exact hP⟩, hS.F ht⟩) hS.2.2 d_MB_inOrder_65
      · skip
        refine lv_bipush (v := (-10)) hx hb d_MB_inOrder_41 (by decide) ?_
        have e9 : sInOrder σ (nI mk) (nI mt) = ((kRs σ, kIs σ, kSt σ, [], kMk σ), -10) := by unfold sInOrder; rw [if_pos (by simp_all), hc1, hc2, if_pos (by simp_all), if_pos (by assumption)]
        refine W.widen (k := 0) (n := 0) (by decide) (by decide) ?_
        exact W.iret hx hb hr (fun t ht _ => ⟨⟨_, A6, rfl, ⟨by rw [e9], by rw [e9]; exact hQ2.k, gm4.out rfl⟩, show gP D classes b A6 t.heap by rw [ht]; exact hP⟩, hS.F ht⟩) hS.2.2 d_MB_inOrder_43
    · skip
      rw [bI_0] at c4
      refine lv_iconst (v := (-1)) hx hb d_MB_inOrder_19 (by decide) ?_
      have e9 : sInOrder σ (nI mk) (nI mt) = (σ, -1) := by unfold sInOrder; rw [if_pos (by simp_all), hc1, hc2, if_neg (by simp_all)]
      refine W.widen (k := 0) (n := 0) (by decide) (by decide) ?_
      exact W.iret hx hb hr (fun t ht _ => ⟨⟨_, A, rfl, ⟨by rw [e9], by rw [e9]; exact hB, gO.rf⟩, show gP D classes b A t.heap by rw [ht]; exact hP⟩, hS.F ht⟩) hS.2.2 d_MB_inOrder_20
