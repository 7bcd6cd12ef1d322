set_option maxHeartbeats 4000000 in
set_option maxRecDepth 100000 in
theorem c_MB_then (l : Launch) {D : va_G} {cI cZ cO cL : ClassId} {b e0 : Nat} {A : gW} {h : Nat} {σ : Bk} (hB : rBk cI cZ cO e0 A h σ) (hw : wf σ) (x k v : Int32) : Met l y_MB_then (Cond.code y_MB_then b_MB_then 5 (some .int) :: TT) ({ frames := 3, cells := 0, slots := 0, locals := 64 }) (va_Pc [.ref h, .int x, .int k, .int v] (gI D [(cI, .int), (cZ, .boolean), (cO, .object "java/lang/Object"), (cL, .long)] b e0 A)) (va_Qi (fun (z : Int32) (A2 : gW) => z = (sThen σ x k v).2 ∧ rBk cI cZ cO e0 A2 h (sThen σ x k v).1 ∧ gO A A2) (fun A2 t => gP D classes b A2 t.heap) (fun q => b ≤ q)) 0 0 (fun q => b ≤ q) := by
  refine Met.ofG (own := R_MB) (by decide +kernel) rfl (Nat.le_of_ble_eq_true rfl) ?_
  intro p e s m below meth c ls hx hb hr hlk hml hown hnm hts hI hl
  have hl : lv_has ls 5 [(0, .ref h), (1, .int x), (2, .int k), (3, .int v)] := hl
  have hS : gS b s.heap s.heap [] := va_S.rf
  obtain ⟨hP, hK⟩ := hI
  obtain ⟨ra, ia, sa, ua, aR, aI, aM, fs, fB, hLR, hLI, fS, hfs, hBu, hRs, hIs⟩ := id hB
  obtain ⟨w1, w2, w3, w4, w5, w6, w7, w8⟩ := id hw
  obtain ⟨moR, qR, capR, efR, fLR, -⟩ := id hLR
  obtain ⟨moI, qI, capI, efI, fLI, -⟩ := id hLI
  obtain ⟨hk, hv, fk, fv, fM, fK, fV, hn3, hms⟩ := id hBu
  have hQ : rBq cI cZ cO e0 A h ra ia sa ua aR aI aM fs σ := ⟨fB, hLR, hLI, fS, hfs, hBu, hRs, hIs⟩
  refine lv_aload_n hx hb d_MB_then_0 rfl (lv_at hl 0 rfl) ?_
  refine lv_iload_n hx hb d_MB_then_1 rfl (lv_at hl 1 rfl) ?_
  refine g_ri (g_runV (As := [.int x]) (rest := []) ⟨hx, hb, hml, hown, hts⟩ (c_MB_isRule l hB hw x) st_MB_isRule k_218 ⟨rfl, rfl, by decide, by decide⟩ rfl (gI.preV hK hS hP fB rfl _) rfl hl.1 rfl (Nat.le_of_ble_eq_true rfl) d_MB_then_2 ⟨by decide, by decide⟩) (fun r1 hr1 => ?_)
  subst hr1
  refine lv_if_ne (tgt := 10) hx hb d_MB_then_5 (by decide) (fun c2 => ?_) (fun c2 => ?_)
  · skip
    rw [bI_0] at c2
    obtain ⟨j, hj, rfl⟩ := inN (by omega) (by simpa using c2 : inR x 0 (nI (kRs σ).length - 1) = true)
    have hcl := nI_clamp (show j < 2 ^ 31 by omega)
    refine lv_aload_n hx hb d_MB_then_10 rfl (lv_at hl 0 rfl) ?_
    refine g_get hx hb hts i_MB hown hK.1 hP fB rfl 0 (by decide) (hts _ k_68) (fun _ h9 => h9) rfl d_MB_then_11 ?_
    refine lv_iload_n hx hb d_MB_then_14 rfl (lv_at hl 1 rfl) ?_
    refine g_rr (g_runV (As := [.int (nI j)]) (rest := []) ⟨hx, hb, hml, hown, hts⟩ (c_AL_get l hLR (i := j) (by omega)) st_AL_get k_222 ⟨rfl, rfl, by decide, by decide⟩ rfl (gI.preV hK hS hP fLR rfl _) rfl hl.1 rfl (Nat.le_of_ble_eq_true rfl) d_MB_then_15 ⟨by decide, by decide⟩) ?_
    obtain ⟨r3, hr3⟩ : ∃ z, z = (kRs σ).getD j u0 := ⟨_, rfl⟩
    have fr3 : rRu cI A j (aR j) (aM j) r3 := by rw [hr3]; exact (hRs j (by omega)).2
    have mr3 : rMa cI A j (aM j) (uMs r3) := by rw [hr3]; exact (hRs j (by omega)).1
    have br3 : wfR r3 := by rw [hr3]; exact w3 j (by omega)
    obtain ⟨br31, br32, br33, br34, br35, br36, br37⟩ := br3
    obtain ⟨hk3, hv3, fk3, fv3, fR3, fK3, fV3, hn3, hac3⟩ := id fr3
    refine va_castY (C := R_Ru) hx hb hown (hts _ k_124) (hK.2.1 _ (List.mem_of_getElem? (i := 5) rfl)) (va_recv (q0 := 0) hK.1 (hP.one fR3) rfl rfl) d_MB_then_18 ?_
    refine lv_astore (lv' := [(4, .ref ((aR j))), (0, .ref h), (1, .int (nI j)), (2, .int k), (3, .int v)]) hx hb d_MB_then_21 hl (by decide) rfl (fun ls hl => ?_)
    refine lv_aload hx hb d_MB_then_23 (lv_at hl 0 rfl) ?_
    refine g_get hx hb hts i_Ru hown hK.1 hP fR3 rfl 7 (by decide) (hts _ k_143) (fun _ h9 => h9) rfl d_MB_then_25 ?_
    refine lv_if_eq (tgt := 41) hx hb d_MB_then_28 (by decide) (fun c4 => ?_) (fun c4 => ?_)
    · skip
      rw [bI_0] at c4
      refine lv_iconst (v := (-1)) hx hb d_MB_then_41 (by decide) ?_
      have e9 : sThen σ (nI j) k v = (σ, -1) := by unfold sThen; rw [if_pos (inN_t (by omega) hj), hcl, ← hr3, if_neg (by simp_all)]
      refine W.widen (k := 0) (n := 0) (by decide) (by decide) ?_
      exact W.iret hx hb hr (fun t ht _ => ⟨⟨_, A, rfl, ⟨by rw [e9], by rw [e9]; exact hB, gO.rf⟩, show gP D classes b A t.heap by rw [ht]; exact hP⟩, hS.F ht⟩) hS.2.2 d_MB_then_42
    · skip
      rw [bI_0] at c4
      refine lv_aload hx hb d_MB_then_31 (lv_at hl 0 rfl) ?_
      refine lv_iload_n hx hb d_MB_then_33 rfl (lv_at hl 3 rfl) ?_
      refine lv_iload_n hx hb d_MB_then_34 rfl (lv_at hl 4 rfl) ?_
      refine g_ri (g_runV (As := [.int k, .int v]) (rest := []) ⟨hx, hb, hml, hown, hts⟩ (c_Ru_allows l fr3 (by omega) k v) st_Ru_allows k_236 ⟨rfl, rfl, by decide, by decide⟩ rfl (gI.preV hK hS hP fR3 rfl _) rfl hl.1 rfl (Nat.le_of_ble_eq_true rfl) d_MB_then_35 ⟨by decide, by decide⟩) (fun r5 hr5 => ?_)
      subst hr5
      refine lv_if_ne (tgt := 43) hx hb d_MB_then_38 (by decide) (fun c6 => ?_) (fun c6 => ?_)
      · skip
        rw [bI_0] at c6
        refine lv_aload hx hb d_MB_then_43 (lv_at hl 0 rfl) ?_
        refine g_get hx hb hts i_Ru hown hK.1 hP fR3 rfl 5 (by decide) (hts _ k_139) (fun _ h9 => h9) rfl d_MB_then_45 ?_
        refine lv_iconst (v := 4) hx hb d_MB_then_48 (by decide) ?_
        refine lv_icmp_lt (tgt := 55) hx hb d_MB_then_49 (by decide) (fun c7 => ?_) (fun c7 => ?_)
        · skip
          replace c7 : (uAc r3).length < 4 := (nI_ltI (a := (uAc r3).length) (b := 4) (by omega) (by decide)).mp c7
          refine lv_aload hx hb d_MB_then_55 (lv_at hl 0 rfl) ?_
          refine lv_iload_n hx hb d_MB_then_57 rfl (lv_at hl 3 rfl) ?_
          refine lv_iload_n hx hb d_MB_then_58 rfl (lv_at hl 4 rfl) ?_
          refine g_cv (B := fun A2 H => gP D classes b A2 H) (g_runV (As := [.int k, .int v]) (rest := []) ⟨hx, hb, hml, hown, hts⟩ (c_Ru_addAction l fr3 (by omega) k v) st_Ru_addAction k_242 ⟨rfl, rfl, by decide, by decide⟩ rfl (gI.preV hK hS hP fR3 rfl _) rfl hl.1 rfl (Nat.le_of_ble_eq_true rfl) d_MB_then_59 ⟨by decide, by decide⟩) hS (fun A8 H locs hp9 hP hS => ?_)
          replace hP : gP D classes b A8 H := hP
          refine W.widen (k := 0) (n := 0) (by decide) (by decide) ?_
          obtain ⟨hr2, gr2⟩ := hp9
          obtain ⟨hk10, hv10, fk10, fv10, fR10, fK10, fV10, hn10, hac10⟩ := id hr2
          refine lv_aload hx hb d_MB_then_62 (lv_at hl 0 rfl) ?_
          refine g_get hx hb hts i_Ru hown hK.1 hP fR10 rfl 5 (by decide) (hts _ k_139) (fun _ h9 => h9) rfl d_MB_then_64 ?_
          have e9 : sThen σ (nI j) k v = (((kRs σ).set j (uAdd r3 k v), kIs σ, kSt σ, kBu σ, kMk σ), nI (uAc r3 ++ [(k, v)]).length) := by unfold sThen; rw [if_pos (inN_t (by omega) hj), hcl, ← hr3, if_pos (by simp_all), if_neg (by omega)]
          refine W.widen (k := 0) (n := 0) (by decide) (by decide) ?_
          exact W.iret hx hb hr (fun t ht _ => ⟨⟨_, A8, rfl, ⟨by rw [e9], by rw [e9]; exact (hQ.ru (r := uAdd r3 k v) hj gr2 hr2 (by rw [hr3]; rfl)).k, gr2.out rfl⟩, show gP D classes b A8 t.heap by rw [ht]; exact hP⟩, hS.F ht⟩) hS.2.2 d_MB_then_67
        · skip
          replace c7 : ¬ (uAc r3).length < 4 := fun q => c7 ((nI_ltI (a := (uAc r3).length) (b := 4) (by omega) (by decide)).mpr q)
          refine lv_bipush (v := (-2)) hx hb d_MB_then_52 (by decide) ?_
          have e9 : sThen σ (nI j) k v = (σ, -2) := by unfold sThen; rw [if_pos (inN_t (by omega) hj), hcl, ← hr3, if_pos (by simp_all), if_pos (by omega)]
          refine W.widen (k := 0) (n := 0) (by decide) (by decide) ?_
          exact W.iret hx hb hr (fun t ht _ => ⟨⟨_, A, rfl, ⟨by rw [e9], by rw [e9]; exact hB, gO.rf⟩, show gP D classes b A t.heap by rw [ht]; exact hP⟩, hS.F ht⟩) hS.2.2 d_MB_then_54
      · skip
        rw [bI_0] at c6
        refine lv_iconst (v := (-1)) hx hb d_MB_then_41 (by decide) ?_
        have e9 : sThen σ (nI j) k v = (σ, -1) := by unfold sThen; rw [if_pos (inN_t (by omega) hj), hcl, ← hr3, if_neg (by simp_all)]
        refine W.widen (k := 0) (n := 0) (by decide) (by decide) ?_
        exact W.iret hx hb hr (fun t ht _ => ⟨⟨_, A, rfl, ⟨by rw [e9], by rw [e9]; exact hB, gO.rf⟩, show gP D classes b A t.heap by rw [ht]; exact hP⟩, hS.F ht⟩) hS.2.2 d_MB_then_42
  · skip
    rw [bI_0] at c2
    refine lv_iconst (v := (-1)) hx hb d_MB_then_8 (by decide) ?_
    have e9 : sThen σ x k v = (σ, -1) := by unfold sThen; rw [if_neg (by simp_all)]
    refine W.widen (k := 0) (n := 0) (by decide) (by decide) ?_
    exact W.iret hx hb hr (fun t ht _ => ⟨⟨_, A, rfl, ⟨by rw [e9], by rw [e9]; exact hB, gO.rf⟩, show gP D classes b A t.heap by rw [ht]; exact hP⟩, hS.F ht⟩) hS.2.2 d_MB_then_9
set_option maxHeartbeats 4000000 in
set_option maxRecDepth 100000 in
theorem c_MB_rule (l : Launch) {D : va_G} {cI cZ cO cL : ClassId} {b e0 : Nat} {A : gW} {h : Nat} {σ : Bk} (hB : rBk cI cZ cO e0 A h σ) (hw : wf σ) (x y : Int32) : Met l y_MB_rule (Cond.code y_MB_rule b_MB_rule 3 (some .int) :: TT) ({ frames := 7, cells := 7, slots := 265, locals := 171 }) (va_Pc [.ref h, .int x, .int y] (gI D [(cI, .int), (cZ, .boolean), (cO, .object "java/lang/Object"), (cL, .long)] b e0 A)) (va_Qi (fun (z : Int32) (A2 : gW) => z = (sRule σ x y).2 ∧ rBk cI cZ cO e0 A2 h (sRule σ x y).1 ∧ gO A A2) (fun A2 t => gP D classes b A2 t.heap) (fun q => b ≤ q)) 7 265 (fun q => b ≤ q) := by
  refine Met.ofG (own := R_MB) (by decide +kernel) rfl (Nat.le_of_ble_eq_true rfl) ?_
  intro p e s m below meth c ls hx hb hr hlk hml hown hnm hts hI hl
  have hl : lv_has ls 3 [(0, .ref h), (1, .int x), (2, .int y)] := hl
  have hS : gS b s.heap s.heap [] := va_S.rf
  obtain ⟨hP, hK⟩ := hI
  obtain ⟨ra, ia, sa, ua, aR, aI, aM, fs, fB, hLR, hLI, fS, hfs, hBu, hRs, hIs⟩ := id hB
  obtain ⟨w1, w2, w3, w4, w5, w6, w7, w8⟩ := id hw
  obtain ⟨moR, qR, capR, efR, fLR, -⟩ := id hLR
  obtain ⟨moI, qI, capI, efI, fLI, -⟩ := id hLI
  obtain ⟨hk, hv, fk, fv, fM, fK, fV, hn3, hms⟩ := id hBu
  have hQ : rBq cI cZ cO e0 A h ra ia sa ua aR aI aM fs σ := ⟨fB, hLR, hLI, fS, hfs, hBu, hRs, hIs⟩
  refine lv_iload_n hx hb d_MB_rule_0 rfl (lv_at hl 1 rfl) ?_
  refine lv_iload_n hx hb d_MB_rule_1 rfl (lv_at hl 2 rfl) ?_
  refine g_ri (g_runS (As := [.int x, .int y]) (rest := []) ⟨hx, hb, hml, hown, hts⟩ (c_MB_isMethod l x y) st_MB_isMethod k_107 ⟨rfl, rfl, by decide, by decide⟩ (gT_pre _) rfl hl.1 rfl (Nat.le_of_ble_eq_true rfl) d_MB_rule_2 ⟨by decide, by decide⟩) (fun r1 hr1 => ?_)
  subst hr1
  refine lv_if_eq (tgt := 19) hx hb d_MB_rule_5 (by decide) (fun c2 => ?_) (fun c2 => ?_)
  · skip
    rw [bI_0] at c2
    refine lv_iconst (v := (-1)) hx hb d_MB_rule_19 (by decide) ?_
    have e9 : sRule σ x y = (σ, -1) := by unfold sRule; rw [if_neg (by simp_all)]
    refine W.widen (k := 7) (n := 265) (by decide) (by decide) ?_
    exact W.iret hx hb hr (fun t ht _ => ⟨⟨_, A, rfl, ⟨by rw [e9], by rw [e9]; exact hB, gO.rf⟩, show gP D classes b A t.heap by rw [ht]; exact hP⟩, hS.F ht⟩) hS.2.2 d_MB_rule_20
  · skip
    rw [bI_0] at c2
    have hin : inR x 0 3 = true ∧ inR y 0 7 = true := by simpa using c2
    obtain ⟨mk, hmk, rfl⟩ := inR_of (M := 3) (n := 3) (by decide) hin.1
    obtain ⟨mt, hmt, rfl⟩ := inR_of (M := 7) (n := 7) (by decide) hin.2
    have hc1 := nI_clamp (show mk < 2 ^ 31 by omega)
    have hc2 := nI_clamp (show mt < 2 ^ 31 by omega)
    refine lv_aload_n hx hb d_MB_rule_8 rfl (lv_at hl 0 rfl) ?_
    refine g_get hx hb hts i_MB hown hK.1 hP fB rfl 3 (by decide) (hts _ k_71) (fun _ h9 => h9) rfl d_MB_rule_9 ?_
    refine lv_iload_n hx hb d_MB_rule_12 rfl (lv_at hl 2 rfl) ?_
    refine g_ri (g_runV (As := [.int (nI mt)]) (rest := []) ⟨hx, hb, hml, hown, hts⟩ (c_Ma_suits l hBu (by omega)) st_Ma_suits k_113 ⟨rfl, rfl, by decide, by decide⟩ rfl (gI.preV hK hS hP fM rfl _) rfl hl.1 rfl (Nat.le_of_ble_eq_true rfl) d_MB_rule_13 ⟨by decide, by decide⟩) (fun r3 hr3 => ?_)
    subst hr3
    refine lv_if_ne (tgt := 21) hx hb d_MB_rule_16 (by decide) (fun c4 => ?_) (fun c4 => ?_)
    · skip
      rw [bI_0] at c4
      refine lv_aload_n hx hb d_MB_rule_21 rfl (lv_at hl 0 rfl) ?_
      refine g_get hx hb hts i_MB hown hK.1 hP fB rfl 0 (by decide) (hts _ k_68) (fun _ h9 => h9) rfl d_MB_rule_22 ?_
      refine g_ri (g_runV (As := []) (rest := []) ⟨hx, hb, hml, hown, hts⟩ (c_AL_size l hLR) st_AL_size k_120 ⟨rfl, rfl, by decide, by decide⟩ rfl (gI.preV hK hS hP fLR rfl _) rfl hl.1 rfl (Nat.le_of_ble_eq_true rfl) d_MB_rule_25 ⟨by decide, by decide⟩) (fun r5 hr5 => ?_)
      subst hr5
      refine lv_bipush (v := 24) hx hb d_MB_rule_28 (by decide) ?_
      refine lv_icmp_lt (tgt := 36) hx hb d_MB_rule_30 (by decide) (fun c6 => ?_) (fun c6 => ?_)
      · skip
        replace c6 : (kRs σ).length < 24 := (nI_ltI (a := (kRs σ).length) (b := 24) (by omega) (by decide)).mp c6
        refine lv_aload_n hx hb d_MB_rule_36 rfl (lv_at hl 0 rfl) ?_
        refine g_get hx hb hts i_MB hown hK.1 hP fB rfl 0 (by decide) (hts _ k_68) (fun _ h9 => h9) rfl d_MB_rule_37 ?_
        refine g_new (ci := 2) (fs := [.int 0, .int 0, .null, .null, .null, .int 0, .int 0, .int 0]) hx hb hts i_Ru t_Ru t_Ru_ok hown (hts _ k_124) (hts _ k_125) (hts _ k_7) hK.1 hP hS (8, (kRs σ).length) rfl (fun j hj => by rcases (show j = 0 ∨ j = 1 ∨ j = 2 ∨ j = 3 ∨ j = 4 ∨ j = 5 ∨ j = 6 ∨ j = 7 by omega) with rfl | rfl | rfl | rfl | rfl | rfl | rfl | rfl <;> rfl) (by decide) (by decide) d_MB_rule_40 (fun q7 H hP hS => ?_)
        refine W.widen (k := 1) (n := 8) (by decide) (by decide) ?_
        obtain ⟨A8, eA8⟩ : ∃ z, z = gU A (8, (kRs σ).length) (q7, .inr (2, [.int 0, .int 0, .null, .null, .null, .int 0, .int 0, .int 0])) := ⟨_, rfl⟩
        replace hP : gP D classes b A8 H := by rw [eA8]; exact hP
        have f9 : A8 (0, 0) = some (h, .inr (0, [.ref ra, .ref ia, .ref sa, .ref ua, .int (nI (kMk σ) - 1)])) := (by rw [eA8]; exact gU_n (gne (show (0 : Nat) ≠ 8 by decide)) : A8 (0, 0) = A (0, 0)).trans fB
        have f10 : A8 (1, 0) = some (ra, .inr (4, [.int moR, .ref qR, .int (nI (kRs σ).length)])) := (by rw [eA8]; exact gU_n (gne (show (1 : Nat) ≠ 8 by decide)) : A8 (1, 0) = A (1, 0)).trans fLR
        have f11 : A8 (1, 1) = some (ia, .inr (4, [.int moI, .ref qI, .int (nI (kIs σ).length)])) := (by rw [eA8]; exact gU_n (gne (show (1 : Nat) ≠ 8 by decide)) : A8 (1, 1) = A (1, 1)).trans fLI
        have f12 : A8 (4, 0) = some (sa, .inl (cZ, 4, .inl fs)) := (by rw [eA8]; exact gU_n (gne (show (4 : Nat) ≠ 8 by decide)) : A8 (4, 0) = A (4, 0)).trans fS
        have f13 : A8 (5, (kRs σ).length) = some (ua, .inr (1, [.ref hk, .ref hv, .int (nI (kBu σ).length)])) := (by rw [eA8]; exact gU_n (gne (show (5 : Nat) ≠ 8 by decide)) : A8 (5, (kRs σ).length) = A (5, (kRs σ).length)).trans fM
        have f14 : A8 (6, (kRs σ).length) = some (hk, .inl (cI, 3, .inl fk)) := (by rw [eA8]; exact gU_n (gne (show (6 : Nat) ≠ 8 by decide)) : A8 (6, (kRs σ).length) = A (6, (kRs σ).length)).trans fK
        have f15 : A8 (7, (kRs σ).length) = some (hv, .inl (cI, 3, .inl fv)) := (by rw [eA8]; exact gU_n (gne (show (7 : Nat) ≠ 8 by decide)) : A8 (7, (kRs σ).length) = A (7, (kRs σ).length)).trans fV
        have f16 : A8 (8, (kRs σ).length) = some (q7, .inr (2, [.int 0, .int 0, .null, .null, .null, .int 0, .int 0, .int 0])) := by rw [eA8]; exact gU_s
        have gA8 : gF [8, 9, 10] ((kRs σ).length) A A8 := by rw [eA8]; exact gF_U gF.rf (by decide)
        refine lv_dup hx hb d_MB_rule_43 rfl ?_
        refine lv_iload_n hx hb d_MB_rule_44 rfl (lv_at hl 1 rfl) ?_
        refine lv_iload_n hx hb d_MB_rule_45 rfl (lv_at hl 2 rfl) ?_
        refine lv_aload_n hx hb d_MB_rule_46 rfl (lv_at hl 0 rfl) ?_
        refine g_get hx hb hts i_MB hown hK.1 hP f9 rfl 3 (by decide) (hts _ k_71) (fun _ h9 => h9) rfl d_MB_rule_47 ?_
        refine g_cv (B := fun A2 H => gP D classes b A2 H) (g_runI (b := q7) (As := [.int (nI mk), .int (nI mt), .ref ua]) (rest := [.ref q7, .ref ra]) ⟨hx, hb, hml, hown, hts⟩ (c_Ru_init l f16 mk mt ua (kBu σ)) st_Ru_init k_126 ⟨rfl, rfl, by decide, by decide⟩ (gI.pre hK hS hP _) rfl hl.1 rfl (Nat.le_of_ble_eq_true rfl) d_MB_rule_50 ⟨by decide, by decide⟩) hS (fun A17 H locs hp18 hP hS => ?_)
        replace hP : gP D classes b A17 H := hP
        refine W.widen (k := 3) (n := 16) (by decide) (by decide) ?_
        obtain ⟨hr2, gr2⟩ := hp18
        have gr3 : gF [8, 9, 10] (kRs σ).length A A17 := gA8.trans gr2
        have f19 : A17 (0, 0) = some (h, .inr (0, [.ref ra, .ref ia, .ref sa, .ref ua, .int (nI (kMk σ) - 1)])) := (gr2.at (n := 0) (j := 0) (by decide)).trans f9
        have f20 : A17 (1, 0) = some (ra, .inr (4, [.int moR, .ref qR, .int (nI (kRs σ).length)])) := (gr2.at (n := 1) (j := 0) (by decide)).trans f10
        have f21 : A17 (1, 1) = some (ia, .inr (4, [.int moI, .ref qI, .int (nI (kIs σ).length)])) := (gr2.at (n := 1) (j := 1) (by decide)).trans f11
        have f22 : A17 (4, 0) = some (sa, .inl (cZ, 4, .inl fs)) := (gr2.at (n := 4) (j := 0) (by decide)).trans f12
        have f23 : A17 (5, (kRs σ).length) = some (ua, .inr (1, [.ref hk, .ref hv, .int (nI (kBu σ).length)])) := (gr2.at (n := 5) (j := (kRs σ).length) (by decide)).trans f13
        have f24 : A17 (6, (kRs σ).length) = some (hk, .inl (cI, 3, .inl fk)) := (gr2.at (n := 6) (j := (kRs σ).length) (by decide)).trans f14
        have f25 : A17 (7, (kRs σ).length) = some (hv, .inl (cI, 3, .inl fv)) := (gr2.at (n := 7) (j := (kRs σ).length) (by decide)).trans f15
        obtain ⟨_, _, _, _, fRn, -⟩ := id hr2
        have hLR2 : rAL cO e0 A17 0 8 2 ra (kRs σ).length aR := hLR.keep' (gr3.at rfl) (gr3.at rfl) (gr3.at rfl) (fun i hi => gr3.at2 (Nat.ne_of_lt hi))
        refine g_ci (B := fun A2 H => gP D classes b A2 H) (g_runV (As := [.ref q7]) (rest := []) ⟨hx, hb, hml, hown, hts⟩ (c_AL_add l hLR2 (by omega) (by decide) (Or.inl rfl) fRn) st_AL_add k_161 ⟨rfl, rfl, by decide, by decide⟩ rfl (gI.preV hK hS hP f20 rfl _) rfl hl.1 rfl (Nat.le_of_ble_eq_true rfl) d_MB_rule_53 ⟨by decide, by decide⟩) hS (fun r28 A26 H locs hp27 hP hS => ?_)
        replace hP : gP D classes b A26 H := hP
        refine W.widen (k := 4) (n := 256) (by decide) (by decide) ?_
        obtain ⟨hL3, gL3⟩ := hp27
        have f29 : A26 (0, 0) = some (h, .inr (0, [.ref ra, .ref ia, .ref sa, .ref ua, .int (nI (kMk σ) - 1)])) := (gL3.at (n := 0) (j := 0) (by decide)).trans f19
        have f30 : A26 (1, 1) = some (ia, .inr (4, [.int moI, .ref qI, .int (nI (kIs σ).length)])) := (gL3.at2 (n := 1) (j := 1) (by omega)).trans f21
        have f31 : A26 (4, 0) = some (sa, .inl (cZ, 4, .inl fs)) := (gL3.at (n := 4) (j := 0) (by decide)).trans f22
        have f32 : A26 (5, (kRs σ).length) = some (ua, .inr (1, [.ref hk, .ref hv, .int (nI (kBu σ).length)])) := (gL3.at (n := 5) (j := (kRs σ).length) (by decide)).trans f23
        have f33 : A26 (6, (kRs σ).length) = some (hk, .inl (cI, 3, .inl fk)) := (gL3.at (n := 6) (j := (kRs σ).length) (by decide)).trans f24
        have f34 : A26 (7, (kRs σ).length) = some (hv, .inl (cI, 3, .inl fv)) := (gL3.at (n := 7) (j := (kRs σ).length) (by decide)).trans f25
        obtain ⟨mo3, q3, cap3, ef3, fL3, -⟩ := id hL3
        refine lv_pop hx hb d_MB_rule_56 rfl ?_
        refine lv_aload_n hx hb d_MB_rule_57 rfl (lv_at hl 0 rfl) ?_
        refine g_new (ci := 1) (fs := [.null, .null, .int 0]) hx hb hts i_Ma t_Ma t_Ma_ok hown (hts _ k_49) (hts _ k_50) (hts _ k_5) hK.1 hP hS (5, (kRs σ).length + 1) rfl (fun j hj => by rcases (show j = 0 ∨ j = 1 ∨ j = 2 by omega) with rfl | rfl | rfl <;> rfl) (by decide) (by decide) d_MB_rule_58 (fun q35 H hP hS => ?_)
        refine W.widen (k := 5) (n := 259) (by decide) (by decide) ?_
        obtain ⟨A36, eA36⟩ : ∃ z, z = gU A26 (5, (kRs σ).length + 1) (q35, .inr (1, [.null, .null, .int 0])) := ⟨_, rfl⟩
        replace hP : gP D classes b A36 H := by rw [eA36]; exact hP
        have f37 : A36 (0, 0) = some (h, .inr (0, [.ref ra, .ref ia, .ref sa, .ref ua, .int (nI (kMk σ) - 1)])) := (by rw [eA36]; exact gU_n (gne (show (0 : Nat) ≠ 5 by decide)) : A36 (0, 0) = A26 (0, 0)).trans f29
        have f38 : A36 (1, 1) = some (ia, .inr (4, [.int moI, .ref qI, .int (nI (kIs σ).length)])) := (by rw [eA36]; exact gU_n (gne (show (1 : Nat) ≠ 5 by decide)) : A36 (1, 1) = A26 (1, 1)).trans f30
        have f39 : A36 (4, 0) = some (sa, .inl (cZ, 4, .inl fs)) := (by rw [eA36]; exact gU_n (gne (show (4 : Nat) ≠ 5 by decide)) : A36 (4, 0) = A26 (4, 0)).trans f31
        have f40 : A36 (5, (kRs σ).length) = some (ua, .inr (1, [.ref hk, .ref hv, .int (nI (kBu σ).length)])) := (by rw [eA36]; exact gU_n (gne2 (show (kRs σ).length ≠ (kRs σ).length + 1 by omega)) : A36 (5, (kRs σ).length) = A26 (5, (kRs σ).length)).trans f32
        have f41 : A36 (6, (kRs σ).length) = some (hk, .inl (cI, 3, .inl fk)) := (by rw [eA36]; exact gU_n (gne (show (6 : Nat) ≠ 5 by decide)) : A36 (6, (kRs σ).length) = A26 (6, (kRs σ).length)).trans f33
        have f42 : A36 (7, (kRs σ).length) = some (hv, .inl (cI, 3, .inl fv)) := (by rw [eA36]; exact gU_n (gne (show (7 : Nat) ≠ 5 by decide)) : A36 (7, (kRs σ).length) = A26 (7, (kRs σ).length)).trans f34
        have f43 : A36 (1, 0) = some (ra, .inr (4, [.int mo3, .ref q3, .int (nI ((kRs σ).length + 1))])) := (by rw [eA36]; exact gU_n (gne (show (1 : Nat) ≠ 5 by decide)) : A36 (1, 0) = A26 (1, 0)).trans fL3
        have f44 : A36 (5, (kRs σ).length + 1) = some (q35, .inr (1, [.null, .null, .int 0])) := by rw [eA36]; exact gU_s
        have gA36 : gF [5, 6, 7] ((kRs σ).length + 1) A26 A36 := by rw [eA36]; exact gF_U gF.rf (by decide)
        refine lv_dup hx hb d_MB_rule_61 rfl ?_
        refine g_cv (B := fun A2 H => gP D classes b A2 H) (g_runIN (b := q35) (As := []) (rest := [.ref q35, .ref h]) ⟨hx, hb, hml, hown, hts⟩ (c_Ma_init l f44) st_Ma_init (hK.2.1 _ (List.mem_of_getElem? (i := 0) rfl)) ⟨rfl, rfl, by decide, by decide⟩ (gI.pre hK hS hP _) rfl hl.1 rfl (Nat.le_of_ble_eq_true rfl) d_MB_rule_62 ⟨by decide, by decide⟩) hS (fun A45 H locs hp46 hP hS => ?_)
        replace hP : gP D classes b A45 H := hP
        refine W.widen (k := 7) (n := 265) (by decide) (by decide) ?_
        obtain ⟨hm4, gm4⟩ := hp46
        have gm5 : gF [5, 6, 7] ((kRs σ).length + 1) A26 A45 := gA36.trans gm4
        have f47 : A45 (0, 0) = some (h, .inr (0, [.ref ra, .ref ia, .ref sa, .ref ua, .int (nI (kMk σ) - 1)])) := (gm4.at (n := 0) (j := 0) (by decide)).trans f37
        have f48 : A45 (1, 1) = some (ia, .inr (4, [.int moI, .ref qI, .int (nI (kIs σ).length)])) := (gm4.at (n := 1) (j := 1) (by decide)).trans f38
        have f49 : A45 (4, 0) = some (sa, .inl (cZ, 4, .inl fs)) := (gm4.at (n := 4) (j := 0) (by decide)).trans f39
        have f50 : A45 (5, (kRs σ).length) = some (ua, .inr (1, [.ref hk, .ref hv, .int (nI (kBu σ).length)])) := (gm4.at2 (n := 5) (j := (kRs σ).length) (by omega)).trans f40
        have f51 : A45 (6, (kRs σ).length) = some (hk, .inl (cI, 3, .inl fk)) := (gm4.at2 (n := 6) (j := (kRs σ).length) (by omega)).trans f41
        have f52 : A45 (7, (kRs σ).length) = some (hv, .inl (cI, 3, .inl fv)) := (gm4.at2 (n := 7) (j := (kRs σ).length) (by omega)).trans f42
        have f53 : A45 (1, 0) = some (ra, .inr (4, [.int mo3, .ref q3, .int (nI ((kRs σ).length + 1))])) := (gm4.at (n := 1) (j := 0) (by decide)).trans f43
        refine g_put (ty := (.object "MockBook$Matchers")) (v := .ref q35) hx hb hts i_MB t_MB t_MB_ok n_MB hown hK.1 hP hS f47 rfl 3 (by decide) (hts _ k_71) (fun _ h9 => h9) rfl (by decide +kernel) rfl rfl (Nat.le_of_ble_eq_true rfl) d_MB_rule_65 (fun H locs hP hS => ?_)
        obtain ⟨A54, eA54⟩ : ∃ z, z = gU A45 (0, 0) (h, .inr (0, [.ref ra, .ref ia, .ref sa, .ref q35, .int (nI (kMk σ) - 1)])) := ⟨_, rfl⟩
        replace hP : gP D classes b A54 H := by rw [eA54]; exact hP
        have f55 : A54 (1, 1) = some (ia, .inr (4, [.int moI, .ref qI, .int (nI (kIs σ).length)])) := (by rw [eA54]; exact gU_n (gne (show (1 : Nat) ≠ 0 by decide)) : A54 (1, 1) = A45 (1, 1)).trans f48
        have f56 : A54 (4, 0) = some (sa, .inl (cZ, 4, .inl fs)) := (by rw [eA54]; exact gU_n (gne (show (4 : Nat) ≠ 0 by decide)) : A54 (4, 0) = A45 (4, 0)).trans f49
        have f57 : A54 (5, (kRs σ).length) = some (ua, .inr (1, [.ref hk, .ref hv, .int (nI (kBu σ).length)])) := (by rw [eA54]; exact gU_n (gne (show (5 : Nat) ≠ 0 by decide)) : A54 (5, (kRs σ).length) = A45 (5, (kRs σ).length)).trans f50
        have f58 : A54 (6, (kRs σ).length) = some (hk, .inl (cI, 3, .inl fk)) := (by rw [eA54]; exact gU_n (gne (show (6 : Nat) ≠ 0 by decide)) : A54 (6, (kRs σ).length) = A45 (6, (kRs σ).length)).trans f51
        have f59 : A54 (7, (kRs σ).length) = some (hv, .inl (cI, 3, .inl fv)) := (by rw [eA54]; exact gU_n (gne (show (7 : Nat) ≠ 0 by decide)) : A54 (7, (kRs σ).length) = A45 (7, (kRs σ).length)).trans f52
        have f60 : A54 (1, 0) = some (ra, .inr (4, [.int mo3, .ref q3, .int (nI ((kRs σ).length + 1))])) := (by rw [eA54]; exact gU_n (gne (show (1 : Nat) ≠ 0 by decide)) : A54 (1, 0) = A45 (1, 0)).trans f53
        have f61 : A54 (0, 0) = some (h, .inr (0, [.ref ra, .ref ia, .ref sa, .ref q35, .int (nI (kMk σ) - 1)])) := by rw [eA54]; exact gU_s
        have gA54 : gF [0] 0 A45 A54 := by rw [eA54]; exact gF_U gF.rf (by decide)
        have hL6 : rAL cO e0 A54 0 8 2 ra ((kRs σ).length + 1) _ := hL3.keep' ((gA54.at rfl).trans (gm5.at rfl)) ((gA54.at rfl).trans (gm5.at rfl)) ((gA54.at rfl).trans (gm5.at rfl)) (fun i hi => (gA54.at rfl).trans (gm5.at rfl))
        refine lv_aload_n hx hb d_MB_rule_68 rfl (lv_at hl 0 rfl) ?_
        refine g_get hx hb hts i_MB hown hK.1 hP f61 rfl 0 (by decide) (hts _ k_68) (fun _ h9 => h9) rfl d_MB_rule_69 ?_
        refine g_ri (g_runV (As := []) (rest := []) ⟨hx, hb, hml, hown, hts⟩ (c_AL_size l hL6) st_AL_size k_120 ⟨rfl, rfl, by decide, by decide⟩ rfl (gI.preV hK hS hP f60 rfl _) rfl hl.1 rfl (Nat.le_of_ble_eq_true rfl) d_MB_rule_72 ⟨by decide, by decide⟩) (fun r62 hr62 => ?_)
        subst hr62
        refine lv_iconst (v := 1) hx hb d_MB_rule_75 (by decide) ?_
        refine lv_isub hx hb d_MB_rule_76 ?_
        rw [nI_pred]
        have e9 : sRule σ (nI mk) (nI mt) = ((kRs σ ++ [(mk, mt, kBu σ, [], 0, true)], kIs σ, kSt σ, [], kMk σ), nI (kRs σ).length) := by unfold sRule; rw [if_pos (by simp_all), hc1, hc2, if_pos (by simp_all), if_neg (by omega)]
        refine W.widen (k := 7) (n := 265) (by decide) (by decide) ?_
        exact W.iret hx hb hr (fun t ht _ => ⟨⟨_, A54, rfl, ⟨by rw [e9], by rw [e9]; exact (hQ.ar gr3 gL3 gm5 gA54 hL3 hr2 rfl hm4 f61).k, (gr3.out rfl).trans ((gL3.out rfl).trans ((gm5.out rfl).trans (gA54.out rfl)))⟩, show gP D classes b A54 t.heap by rw [ht]; exact hP⟩, hS.F ht⟩) hS.2.2 d_MB_rule_77
      · skip
        replace c6 : ¬ (kRs σ).length < 24 := fun q => c6 ((nI_ltI (a := (kRs σ).length) (b := 24) (by omega) (by decide)).mpr q)
        refine lv_bipush (v := (-2)) hx hb d_MB_rule_33 (by decide) ?_
        have e9 : sRule σ (nI mk) (nI mt) = (σ, -2) := by unfold sRule; rw [if_pos (by simp_all), hc1, hc2, if_pos (by simp_all), if_pos (by omega)]
        refine W.widen (k := 7) (n := 265) (by decide) (by decide) ?_
        exact W.iret hx hb hr (fun t ht _ => ⟨⟨_, A, rfl, ⟨by rw [e9], by rw [e9]; exact hB, gO.rf⟩, show gP D classes b A t.heap by rw [ht]; exact hP⟩, hS.F ht⟩) hS.2.2 d_MB_rule_35
    · skip
      rw [bI_0] at c4
      refine lv_iconst (v := (-1)) hx hb d_MB_rule_19 (by decide) ?_
      have e9 : sRule σ (nI mk) (nI mt) = (σ, -1) := by unfold sRule; rw [if_pos (by simp_all), hc1, hc2, if_neg (by simp_all)]
      refine W.widen (k := 7) (n := 265) (by decide) (by decide) ?_
      exact W.iret hx hb hr (fun t ht _ => ⟨⟨_, A, rfl, ⟨by rw [e9], by rw [e9]; exact hB, gO.rf⟩, show gP D classes b A t.heap by rw [ht]; exact hP⟩, hS.F ht⟩) hS.2.2 d_MB_rule_20
