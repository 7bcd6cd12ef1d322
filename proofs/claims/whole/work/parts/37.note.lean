set_option maxHeartbeats 4000000 in
set_option maxRecDepth 100000 in
theorem NR_0 (l : Launch) {D : va_G} {cI cZ cO cL : ClassId} {b e0 : Nat} : NRc l D cI cZ cO cL b e0 0 := by
  intro A h ra ia sa ua aR aI aM fs σ mk mt dp xa xb xc fr hQ hw hmk hmt hdp
  refine Met.ofG (own := R_MB) (by decide +kernel) rfl (Nat.le_of_ble_eq_true rfl) ?_
  intro p e s m below meth c ls hx hb hr hlk hml hown hnm hts hI hl
  have hl : lv_has ls 10 [(0, .ref h), (1, .int (nI mk)), (2, .int (nI mt)), (3, .int xa), (4, .int xb), (5, .int xc), (6, .int (nI dp)), (7, .int fr)] := hl
  have hS : gS b s.heap s.heap [] := va_S.rf
  obtain ⟨hP, hK⟩ := hI
  refine lv_iload hx hb d_MB_noteAndRespond_0 (lv_at hl 6 rfl) ?_
  refine lv_iconst (v := 3) hx hb d_MB_noteAndRespond_2 (by decide) ?_
  refine lv_icmp_gt (tgt := 19) hx hb d_MB_noteAndRespond_3 (by decide) (fun _ => ?_) (fun h9 => absurd (nI_lt (show 3 < dp by omega) (by omega)) h9)
  refine lv_ldc2 (v := 20000000001) hx hb hown (hts _ k_262) d_MB_noteAndRespond_19 ?_
  have e9 : calS (kSt σ) 0 (kRs σ) (kIs σ).length mk mt (xa, xb, xc) dp fr = (kRs σ, [], xDEEP) := rfl
  refine W.widen (k := 2 * 0) (n := 251 * 0) (by omega) (by omega) ?_
  exact W.lret hx hb hr (fun t ht _ => ⟨⟨_, A, rfl, (by show NRq cI cZ cO e0 h ra ia sa ua aR aI aM fs σ A (calS (kSt σ) 0 (kRs σ) (kIs σ).length mk mt (xa, xb, xc) dp fr) _ _; rw [e9]; exact ⟨rfl, ⟨aI, fun _ _ => rfl, (by show rBq cI cZ cO e0 A h ra ia sa ua aR aI aM fs (kRs σ, kIs σ ++ [], kSt σ, kBu σ, kMk σ); rw [List.append_nil]; exact hQ)⟩, gO.rf⟩), show gP D classes b A t.heap by rw [ht]; exact hP⟩, hS.F ht⟩) hS.2.2 d_MB_noteAndRespond_22
set_option maxHeartbeats 4000000 in
set_option maxRecDepth 100000 in
theorem NR_s (l : Launch) {D : va_G} {cI cZ cO cL : ClassId} {b e0 : Nat} {f : Nat} (ih : NRc l D cI cZ cO cL b e0 f) : NRc l D cI cZ cO cL b e0 (f + 1) := by
  intro A h ra ia sa ua aR aI aM fs σ mk mt dp xa xb xc fr hQ hw hmk hmt hdp
  refine Met.ofG (own := R_MB) (by decide +kernel) rfl (Nat.le_of_ble_eq_true rfl) ?_
  intro p e s m below meth c ls hx hb hr hlk hml hown hnm hts hI hl
  have hl : lv_has ls 10 [(0, .ref h), (1, .int (nI mk)), (2, .int (nI mt)), (3, .int xa), (4, .int xb), (5, .int xc), (6, .int (nI dp)), (7, .int fr)] := hl
  have hS : gS b s.heap s.heap [] := va_S.rf
  obtain ⟨hP, hK⟩ := hI
  obtain ⟨fB, hLR, hLI, fS, hfs, hBu, hRs, hIs⟩ := id hQ
  obtain ⟨moR, qR, capR, efR, fLR, -⟩ := id hLR
  obtain ⟨moI, qI, capI, efI, fLI, -⟩ := id hLI
  obtain ⟨w1, w2, w3a, w4⟩ := id hw
  have w3 : ∀ i, i < (kRs σ).length → wfR ((kRs σ).getD i u0) := fun i hi => (w3a i hi).1
  refine lv_iload hx hb d_MB_noteAndRespond_0 (lv_at hl 6 rfl) ?_
  refine lv_iconst (v := 3) hx hb d_MB_noteAndRespond_2 (by decide) ?_
  refine lv_icmp_gt (tgt := 19) hx hb d_MB_noteAndRespond_3 (by decide) (fun h9 => absurd h9 (nI_nlt (show dp ≤ 3 by omega) (by decide))) (fun _ => ?_)
  refine lv_aload_n hx hb d_MB_noteAndRespond_6 rfl (lv_at hl 0 rfl) ?_
  refine g_get hx hb hts i_MB hown hK.1 hP fB rfl 1 (by decide) (hts _ k_69) (fun _ h9 => h9) rfl d_MB_noteAndRespond_7 ?_
  refine g_ri (g_runV (As := []) (rest := []) ⟨hx, hb, hml, hown, hts⟩ (c_AL_size l hLI) st_AL_size k_120 ⟨rfl, rfl, (by show 0 + 1 ≤ 20 + 3 * (f + 1); omega), (by show 8 + (1 + 11) + (0) ≤ 600 + 82 * (f + 1); omega)⟩ rfl (gI.preV hK hS hP fLI rfl _) rfl hl.1 rfl (Nat.le_of_ble_eq_true rfl) d_MB_noteAndRespond_10 ⟨(by show 0 + 0 ≤ 2 * (f + 1); omega), (by show 0 + 0 ≤ 251 * (f + 1); omega)⟩) (fun r2 hr2 => ?_)
  subst hr2
  refine lv_sipush (v := 160) hx hb d_MB_noteAndRespond_13 (by decide) ?_
  refine lv_icmp_lt (tgt := 23) hx hb d_MB_noteAndRespond_16 (by decide) (fun c3 => ?_) (fun c3 => ?_)
  · skip
    replace c3 : (kIs σ).length < 160 := (nI_ltI (a := (kIs σ).length) (b := 160) (by omega) (by decide)).mp c3
    refine lv_aload_n hx hb d_MB_noteAndRespond_23 rfl (lv_at hl 0 rfl) ?_
    refine g_get hx hb hts i_MB hown hK.1 hP fB rfl 1 (by decide) (hts _ k_69) (fun _ h9 => h9) rfl d_MB_noteAndRespond_24 ?_
    refine g_ri (g_runV (As := []) (rest := []) ⟨hx, hb, hml, hown, hts⟩ (c_AL_size l hLI) st_AL_size k_120 ⟨rfl, rfl, (by show 0 + 1 ≤ 20 + 3 * (f + 1); omega), (by show 8 + (1 + 11) + (0) ≤ 600 + 82 * (f + 1); omega)⟩ rfl (gI.preV hK hS hP fLI rfl _) rfl hl.1 rfl (Nat.le_of_ble_eq_true rfl) d_MB_noteAndRespond_27 ⟨(by show 0 + 0 ≤ 2 * (f + 1); omega), (by show 0 + 0 ≤ 251 * (f + 1); omega)⟩) (fun r4 hr4 => ?_)
    subst hr4
    refine lv_istore (lv' := [(8, .int (nI (kIs σ).length)), (0, .ref h), (1, .int (nI mk)), (2, .int (nI mt)), (3, .int xa), (4, .int xb), (5, .int xc), (6, .int (nI dp)), (7, .int fr)]) hx hb d_MB_noteAndRespond_30 hl (by decide) rfl (fun ls hl => ?_)
    refine g_new (ci := 3) (fs := [.int 0, .int 0, .int 0, .int 0, .int 0, .int 0, .int 0, .int 0, .long 0, .int 0, .int 0]) hx hb hts i_In t_In t_In_ok hown (hts _ k_263) (hts _ k_264) (hts _ k_14) hK.1 hP hS (11, (kIs σ).length) rfl (fun j hj => by rcases (show j = 0 ∨ j = 1 ∨ j = 2 ∨ j = 3 ∨ j = 4 ∨ j = 5 ∨ j = 6 ∨ j = 7 ∨ j = 8 ∨ j = 9 ∨ j = 10 by omega) with rfl | rfl | rfl | rfl | rfl | rfl | rfl | rfl | rfl | rfl | rfl <;> rfl) (by show 0 + 1 ≤ 2 * (f + 1); omega) (by show 0 + 11 ≤ 251 * (f + 1); omega) d_MB_noteAndRespond_32 (fun q5 H hP hS => ?_)
    refine W.widen (k := 1) (n := 11) (by omega) (by omega) ?_
    obtain ⟨A6, eA6⟩ : ∃ z, z = gU A (11, (kIs σ).length) (q5, .inr (3, [.int 0, .int 0, .int 0, .int 0, .int 0, .int 0, .int 0, .int 0, .long 0, .int 0, .int 0])) := ⟨_, rfl⟩
    replace hP : gP D classes b A6 H := by rw [eA6]; exact hP
    have f7 : A6 (0, 0) = some (h, .inr (0, [.ref ra, .ref ia, .ref sa, .ref ua, .int (nI (kMk σ) - 1)])) := (by rw [eA6]; exact gU_n (gne (show (0 : Nat) ≠ 11 by decide)) : A6 (0, 0) = A (0, 0)).trans fB
    have f8 : A6 (1, 1) = some (ia, .inr (4, [.int moI, .ref qI, .int (nI (kIs σ).length)])) := (by rw [eA6]; exact gU_n (gne (show (1 : Nat) ≠ 11 by decide)) : A6 (1, 1) = A (1, 1)).trans fLI
    have f9 : A6 (11, (kIs σ).length) = some (q5, .inr (3, [.int 0, .int 0, .int 0, .int 0, .int 0, .int 0, .int 0, .int 0, .long 0, .int 0, .int 0])) := by rw [eA6]; exact gU_s
    have gA6 : gF [11] ((kIs σ).length) A A6 := by rw [eA6]; exact gF_U gF.rf (by decide)
    refine lv_dup hx hb d_MB_noteAndRespond_35 rfl ?_
    refine lv_iload_n hx hb d_MB_noteAndRespond_36 rfl (lv_at hl 2 rfl) ?_
    refine lv_iload_n hx hb d_MB_noteAndRespond_37 rfl (lv_at hl 3 rfl) ?_
    refine lv_iload_n hx hb d_MB_noteAndRespond_38 rfl (lv_at hl 4 rfl) ?_
    refine lv_iload hx hb d_MB_noteAndRespond_39 (lv_at hl 5 rfl) ?_
    refine lv_iload hx hb d_MB_noteAndRespond_41 (lv_at hl 6 rfl) ?_
    refine lv_iload hx hb d_MB_noteAndRespond_43 (lv_at hl 7 rfl) ?_
    refine lv_iload hx hb d_MB_noteAndRespond_45 (lv_at hl 8 rfl) ?_
    refine g_cv (B := fun A2 H => gP D classes b A2 H) (g_runI (b := q5) (As := [.int (nI mk), .int (nI mt), .int xa, .int xb, .int xc, .int (nI dp), .int fr]) (rest := [.ref q5]) ⟨hx, hb, hml, hown, hts⟩ (c_In_init l f9 hmt xa xb xc dp fr) st_In_init k_265 ⟨rfl, rfl, (by show 1 + 1 ≤ 20 + 3 * (f + 1); omega), (by show 8 + (9 + 11) + (20) ≤ 600 + 82 * (f + 1); omega)⟩ (gI.pre hK hS hP _) rfl hl.1 rfl (Nat.le_of_ble_eq_true rfl) d_MB_noteAndRespond_47 ⟨(by show 1 + 0 ≤ 2 * (f + 1); omega), (by show 11 + 0 ≤ 251 * (f + 1); omega)⟩) hS (fun A10 H locs hp11 hP hS => ?_)
    replace hP : gP D classes b A10 H := hP
    refine W.widen (k := 1) (n := 11) (by omega) (by omega) ?_
    obtain ⟨ht0, gI0⟩ := hp11
    have gI1 : gF [11] (kIs σ).length A A10 := gA6.trans gI0
    have f12 : A10 (0, 0) = some (h, .inr (0, [.ref ra, .ref ia, .ref sa, .ref ua, .int (nI (kMk σ) - 1)])) := (gI0.at (n := 0) (j := 0) (by decide)).trans f7
    have f13 : A10 (1, 1) = some (ia, .inr (4, [.int moI, .ref qI, .int (nI (kIs σ).length)])) := (gI0.at (n := 1) (j := 1) (by decide)).trans f8
    obtain ⟨t0, et0⟩ : ∃ z : It, z = (mk, mt, cut mt (xa, xb, xc), dp, fr, 0, xNONE, false, true) := ⟨_, rfl⟩
    rw [← et0] at ht0
    have hLI2 : rAL cO e0 A10 1 11 3 ia (kIs σ).length aI := hLI.keep' (gI1.at rfl) (gI1.at rfl) (gI1.at rfl) (fun i hi => gI1.at2 (Nat.ne_of_lt hi))
    refine lv_astore (lv' := [(9, .ref q5), (8, .int (nI (kIs σ).length)), (0, .ref h), (1, .int (nI mk)), (2, .int (nI mt)), (3, .int xa), (4, .int xb), (5, .int xc), (6, .int (nI dp)), (7, .int fr)]) hx hb d_MB_noteAndRespond_50 hl (by decide) rfl (fun ls hl => ?_)
    refine lv_aload_n hx hb d_MB_noteAndRespond_52 rfl (lv_at hl 2 rfl) ?_
    refine g_get hx hb hts i_MB hown hK.1 hP f12 rfl 1 (by decide) (hts _ k_69) (fun _ h9 => h9) rfl d_MB_noteAndRespond_53 ?_
    refine lv_aload hx hb d_MB_noteAndRespond_56 (lv_at hl 0 rfl) ?_
    refine g_ci (B := fun A2 H => gP D classes b A2 H) (g_runV (As := [.ref q5]) (rest := []) ⟨hx, hb, hml, hown, hts⟩ (c_AL_add l hLI2 (by omega) (by decide) (Or.inr rfl) ht0) st_AL_add k_161 ⟨rfl, rfl, (by show 6 + 1 ≤ 20 + 3 * (f + 1); omega), (by show 8 + (2 + 11) + (150) ≤ 600 + 82 * (f + 1); omega)⟩ rfl (gI.preV hK hS hP f13 rfl _) rfl hl.1 rfl (Nat.le_of_ble_eq_true rfl) d_MB_noteAndRespond_58 ⟨(by show 1 + 1 ≤ 2 * (f + 1); omega), (by show 11 + 240 ≤ 251 * (f + 1); omega)⟩) hS (fun r16 A14 H locs hp15 hP hS => ?_)
    replace hP : gP D classes b A14 H := hP
    refine W.widen (k := 2) (n := 251) (by omega) (by omega) ?_
    obtain ⟨hL3, gL3⟩ := hp15
    have hQ1 := hQ.ai gI1 gL3 hL3 ht0
    have ht3 : rIn A14 (kIs σ).length q5 t0 := ht0.keep (gL3.at rfl)
    obtain ⟨fB1, -⟩ := id hQ1
    refine lv_pop hx hb d_MB_noteAndRespond_61 rfl ?_
    refine lv_aload hx hb d_MB_noteAndRespond_62 (lv_at hl 0 rfl) ?_
    refine lv_aload_n hx hb d_MB_noteAndRespond_64 rfl (lv_at hl 2 rfl) ?_
    refine lv_aload hx hb d_MB_noteAndRespond_65 (lv_at hl 0 rfl) ?_
    obtain ⟨r1, er1⟩ : ∃ z : Nat, z = ruFor (kRs σ) (iMk t0) (iMt t0) (iX t0) := ⟨_, rfl⟩
    refine g_ri (g_runV (As := [.ref q5]) (rest := [.ref q5]) ⟨hx, hb, hml, hown, hts⟩ (c_MB_ruleNumberFor2 l hQ1 w1 w3 ht3 (by rw [et0]; exact hmk) (by rw [et0]; exact hmt)) st_MB_ruleNumberFor k_318 ⟨rfl, rfl, (by show 4 + 1 ≤ 20 + 3 * (f + 1); omega), (by show 8 + (3 + 11) + (87) ≤ 600 + 82 * (f + 1); omega)⟩ rfl (gI.preV hK hS hP fB1 rfl _) rfl hl.1 rfl (Nat.le_of_ble_eq_true rfl) d_MB_noteAndRespond_67 ⟨(by show 2 + 0 ≤ 2 * (f + 1); omega), (by show 251 + 0 ≤ 251 * (f + 1); omega)⟩) (fun r17 hr17 => ?_)
    replace hr17 : r17 = nI r1 - 1 := by rw [er1]; exact hr17
    rw [hr17]
    refine g_put (ty := .int) (v := .int (nI r1 - 1)) hx hb hts i_In t_In t_In_ok n_In hown hK.1 hP hS ht3 rfl 7 (by decide) (hts _ k_288) (fun _ h9 => h9) rfl (by decide +kernel) rfl rfl (Nat.le_of_ble_eq_true rfl) d_MB_noteAndRespond_70 (fun H locs hP hS => ?_)
    obtain ⟨A18, eA18⟩ : ∃ z, z = gU A14 (11, (kIs σ).length) (q5, .inr (3, [.int (nI (iMk t0)), .int (nI (iMt t0)), .int ((iX t0).1), .int ((iX t0).2.1), .int ((iX t0).2.2), .int (nI (iDp t0)), .int (iFr t0), .int (nI r1 - 1), .long (iAn t0), .int (bI (iVe t0)), .int (bI (iLv t0))])) := ⟨_, rfl⟩
    replace hP : gP D classes b A18 H := by rw [eA18]; exact hP
    have f19 : A18 (0, 0) = some (h, .inr (0, [.ref ra, .ref ia, .ref sa, .ref ua, .int (nI (kMk σ) - 1)])) := (by rw [eA18]; exact gU_n (gne (show (0 : Nat) ≠ 11 by decide)) : A18 (0, 0) = A14 (0, 0)).trans fB1
    have f20 : A18 (11, (kIs σ).length) = some (q5, .inr (3, [.int (nI (iMk t0)), .int (nI (iMt t0)), .int ((iX t0).1), .int ((iX t0).2.1), .int ((iX t0).2.2), .int (nI (iDp t0)), .int (iFr t0), .int (nI r1 - 1), .long (iAn t0), .int (bI (iVe t0)), .int (bI (iLv t0))])) := by rw [eA18]; exact gU_s
    have gA18 : gF [11] ((kIs σ).length) A14 A18 := by rw [eA18]; exact gF_U gF.rf (by decide)
    obtain ⟨t1, et1⟩ : ∃ z : It, z = (mk, mt, cut mt (xa, xb, xc), dp, fr, r1, xNONE, false, true) := ⟨_, rfl⟩
    have ht4 : rIn A18 (kIs σ).length q5 t1 := by have e7 := f20; rw [et0] at e7; rw [et1]; exact e7
    have hQ2 : rBq cI cZ cO e0 A18 h ra ia sa ua aR (va_up aI (kIs σ).length q5) aM fs (kRs σ, kIs σ ++ [t1], kSt σ, kBu σ, kMk σ) := by
      have e8 : rBq cI cZ cO e0 A18 h ra ia sa ua aR (va_up aI (kIs σ).length q5) aM fs (kRs σ, (kIs σ ++ [t0]).set (kIs σ).length t1, kSt σ, kBu σ, kMk σ) := hQ1.it (i := (kIs σ).length) (t := t1) (by show (kIs σ).length < (kIs σ ++ [t0]).length; simp) gA18 (by rw [show va_up aI (kIs σ).length q5 (kIs σ).length = q5 from if_pos rfl]; exact ht4)
      rw [set_l] at e8
      exact e8
    have hw2 : wfC (kRs σ, kIs σ ++ [t1], kSt σ, kBu σ, kMk σ) (kIs σ).length := hw.it (by omega) (by rw [et1]; exact ⟨hmk, hmt⟩) (by rw [et1]; show r1 ≤ _; rw [er1]; exact ruFor_le _ _ _ _)
    obtain ⟨fB4, -⟩ := id hQ2
    refine lv_aload hx hb d_MB_noteAndRespond_73 (lv_at hl 0 rfl) ?_
    refine lv_aload_n hx hb d_MB_noteAndRespond_75 rfl (lv_at hl 2 rfl) ?_
    refine lv_aload hx hb d_MB_noteAndRespond_76 (lv_at hl 0 rfl) ?_
    refine lv_iload hx hb d_MB_noteAndRespond_78 (lv_at hl 1 rfl) ?_
    refine lv_iload hx hb d_MB_noteAndRespond_80 (lv_at hl 8 rfl) ?_
    refine g_cl (B := fun A2 H => gP D classes b A2 H) (g_runV (As := [.ref q5, .int (nI (kIs σ).length), .int (nI dp)]) (rest := [.ref q5]) ⟨hx, hb, hml, hown, hts⟩ (c_MB_respond l ih hQ2 (u := (kIs σ).length) hw2 (by show _ ≤ (kIs σ ++ [t1]).length; simp) (i := (kIs σ).length) (q := q5) (dp := dp) (by show (kIs σ).length < (kIs σ ++ [t1]).length; simp) (if_pos rfl) (by omega)) st_MB_respond k_340 ⟨rfl, rfl, (by show (22 + 3 * f) + 1 ≤ 20 + 3 * (f + 1); omega), (by show 8 + (8 + 11) + (655 + 82 * f) ≤ 600 + 82 * (f + 1); omega)⟩ rfl (gI.preV hK hS hP fB4 rfl _) rfl hl.1 rfl (Nat.le_of_ble_eq_true rfl) d_MB_noteAndRespond_82 ⟨(by show 2 + 2 * f ≤ 2 * (f + 1); omega), (by show 251 + 251 * f ≤ 251 * (f + 1); omega)⟩) hS (fun r23 A21 H locs hp22 hP hS => ?_)
    replace hP : gP D classes b A21 H := hP
    refine W.widen (k := (2 + 2 * f)) (n := (251 + 251 * f)) (by omega) (by omega) ?_
    obtain ⟨Z, eZ⟩ : ∃ z, z = respG (kSt σ) (calS (kSt σ) f) (kRs σ) ((kIs σ).length + 1) (kIs σ).length mk (cut mt (xa, xb, xc)) dp (ruFor (kRs σ) mk mt (cut mt (xa, xb, xc))) := ⟨_, rfl⟩
    have eR : respG (kSt σ) (calS (kSt σ) f) (kRs σ) (kIs σ ++ [t1]).length (kIs σ).length (iMk ((kIs σ ++ [t1]).getD (kIs σ).length i0)) (iX ((kIs σ ++ [t1]).getD (kIs σ).length i0)) dp (iRu ((kIs σ ++ [t1]).getD (kIs σ).length i0)) = Z := by rw [getD_r, List.length_append, et1, er1, et0, eZ]; rfl
    obtain ⟨hz, ⟨aI5, haI5, hQ5⟩, go5⟩ : NRq cI cZ cO e0 h ra ia sa ua aR (va_up aI (kIs σ).length q5) aM fs (kRs σ, kIs σ ++ [t1], kSt σ, kBu σ, kMk σ) A18 Z r23 A21 := by rw [← eR]; exact hp22
    have hq5 : aI5 (kIs σ).length = q5 := (haI5 (kIs σ).length (by show (kIs σ).length < (kIs σ ++ [t1]).length; simp)).trans (if_pos rfl)
    have ht5 : rIn A21 (kIs σ).length q5 t1 := by have e7 := hQ5.2.2.2.2.2.2.2 (kIs σ).length (by show (kIs σ).length < (kIs σ ++ [t1] ++ Z.2.1).length; simp only [List.length_append, List.length_singleton]; omega); rw [hq5] at e7; rw [show t1 = (kIs σ ++ [t1] ++ Z.2.1).getD (kIs σ).length i0 from (getD_m _ _ _ _).symm]; exact e7
    refine g_put (ty := .long) (v := .long r23) hx hb hts i_In t_In t_In_ok n_In hown hK.1 hP hS ht5 rfl 8 (by decide) (hts _ k_290) (fun _ h9 => h9) rfl (by decide +kernel) rfl rfl (Nat.le_of_ble_eq_true rfl) d_MB_noteAndRespond_85 (fun H locs hP hS => ?_)
    obtain ⟨A24, eA24⟩ : ∃ z, z = gU A21 (11, (kIs σ).length) (q5, .inr (3, [.int (nI (iMk t1)), .int (nI (iMt t1)), .int ((iX t1).1), .int ((iX t1).2.1), .int ((iX t1).2.2), .int (nI (iDp t1)), .int (iFr t1), .int (nI (iRu t1) - 1), .long r23, .int (bI (iVe t1)), .int (bI (iLv t1))])) := ⟨_, rfl⟩
    replace hP : gP D classes b A24 H := by rw [eA24]; exact hP
    have f25 : A24 (11, (kIs σ).length) = some (q5, .inr (3, [.int (nI (iMk t1)), .int (nI (iMt t1)), .int ((iX t1).1), .int ((iX t1).2.1), .int ((iX t1).2.2), .int (nI (iDp t1)), .int (iFr t1), .int (nI (iRu t1) - 1), .long r23, .int (bI (iVe t1)), .int (bI (iLv t1))])) := by rw [eA24]; exact gU_s
    have gA24 : gF [11] ((kIs σ).length) A21 A24 := by rw [eA24]; exact gF_U gF.rf (by decide)
    refine lv_aload hx hb d_MB_noteAndRespond_88 (lv_at hl 0 rfl) ?_
    refine g_get hx hb hts i_In hown hK.1 hP f25 rfl 8 (by decide) (hts _ k_290) (fun _ h9 => h9) rfl d_MB_noteAndRespond_90 ?_
    have e9 : calS (kSt σ) (f + 1) (kRs σ) (kIs σ).length mk mt (xa, xb, xc) dp fr = (Z.1, (mk, mt, cut mt (xa, xb, xc), dp, fr, ruFor (kRs σ) mk mt (cut mt (xa, xb, xc)), Z.2.2, false, true) :: Z.2.1, Z.2.2) := by show (if 160 ≤ (kIs σ).length then _ else _) = _; rw [if_neg (by omega), ← eZ]
    obtain ⟨t2, et2⟩ : ∃ z : It, z = (mk, mt, cut mt (xa, xb, xc), dp, fr, ruFor (kRs σ) mk mt (cut mt (xa, xb, xc)), Z.2.2, false, true) := ⟨_, rfl⟩
    have ht6 : rIn A24 (kIs σ).length q5 t2 := by have e7 := f25; rw [et1, er1, et0, hz] at e7; rw [et2]; exact e7
    have hQ6 : rBq cI cZ cO e0 A24 h ra ia sa ua aR aI5 aM fs (Z.1, kIs σ ++ (t2 :: Z.2.1), kSt σ, kBu σ, kMk σ) := by
      have e8 : rBq cI cZ cO e0 A24 h ra ia sa ua aR aI5 aM fs (Z.1, (kIs σ ++ [t1] ++ Z.2.1).set (kIs σ).length t2, kSt σ, kBu σ, kMk σ) := hQ5.it (i := (kIs σ).length) (t := t2) (by show (kIs σ).length < (kIs σ ++ [t1] ++ Z.2.1).length; simp only [List.length_append, List.length_singleton]; omega) gA24 (by rw [hq5]; exact ht6)
      rw [set_m] at e8
      exact e8
    refine W.widen (k := 2 * (f + 1)) (n := 251 * (f + 1)) (by omega) (by omega) ?_
    exact W.lret hx hb hr (fun t ht _ => ⟨⟨_, A24, rfl, (by show NRq cI cZ cO e0 h ra ia sa ua aR aI aM fs σ A (calS (kSt σ) (f + 1) (kRs σ) (kIs σ).length mk mt (xa, xb, xc) dp fr) _ _; rw [e9]; rw [← et2]; exact ⟨hz, ⟨aI5, fun j hj => (haI5 j (by show j < (kIs σ ++ [t1]).length; simp; omega)).trans (if_neg (by omega)), hQ6⟩, (gI1.out rfl).trans ((gL3.out rfl).trans ((gA18.out rfl).trans (go5.trans (gA24.out rfl))))⟩), show gP D classes b A24 t.heap by rw [ht]; exact hP⟩, hS.F ht⟩) hS.2.2 d_MB_noteAndRespond_93
  · skip
    replace c3 : ¬ (kIs σ).length < 160 := fun q => c3 ((nI_ltI (a := (kIs σ).length) (b := 160) (by omega) (by decide)).mpr q)
    refine lv_ldc2 (v := 20000000001) hx hb hown (hts _ k_262) d_MB_noteAndRespond_19 ?_
    have e9 : calS (kSt σ) (f + 1) (kRs σ) (kIs σ).length mk mt (xa, xb, xc) dp fr = (kRs σ, [], xDEEP) := by show (if 160 ≤ (kIs σ).length then _ else _) = _; rw [if_pos (by omega)]
    refine W.widen (k := 2 * (f + 1)) (n := 251 * (f + 1)) (by omega) (by omega) ?_
    exact W.lret hx hb hr (fun t ht _ => ⟨⟨_, A, rfl, (by show NRq cI cZ cO e0 h ra ia sa ua aR aI aM fs σ A (calS (kSt σ) (f + 1) (kRs σ) (kIs σ).length mk mt (xa, xb, xc) dp fr) _ _; rw [e9]; exact ⟨rfl, ⟨aI, fun _ _ => rfl, (by show rBq cI cZ cO e0 A h ra ia sa ua aR aI aM fs (kRs σ, kIs σ ++ [], kSt σ, kBu σ, kMk σ); rw [List.append_nil]; exact hQ)⟩, gO.rf⟩), show gP D classes b A t.heap by rw [ht]; exact hP⟩, hS.F ht⟩) hS.2.2 d_MB_noteAndRespond_22
theorem NR_all (l : Launch) {D : va_G} {cI cZ cO cL : ClassId} {b e0 : Nat} (f : Nat) : NRc l D cI cZ cO cL b e0 f := by
  induction f with
  | zero => exact NR_0 l
  | succ f ih => exact NR_s l ih
