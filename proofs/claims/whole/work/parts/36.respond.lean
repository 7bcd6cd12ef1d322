set_option maxHeartbeats 4000000 in
set_option maxRecDepth 100000 in
theorem c_MB_respond (l : Launch) {D : va_G} {cI cZ cO cL : ClassId} {b e0 : Nat} {f : Nat} (ih : NRc l D cI cZ cO cL b e0 f) {A : gW} {h ra ia sa ua : Nat} {aR aI aM : Nat → Nat} {fs : Nat → Int32} {σ : Bk} (hQ : rBq cI cZ cO e0 A h ra ia sa ua aR aI aM fs σ) {u : Nat} (hw : wfC σ u) (hu : u + 1 ≤ (kIs σ).length) {i q dp : Nat} (hi : i < (kIs σ).length) (hq : aI i = q) (hdp : dp + 1 + f = 4) : Met l y_MB_respond (Cond.code y_MB_respond b_MB_respond 8 (some .long) :: TT) (rmR f) (va_Pc [.ref h, .ref q, .int (nI i), .int (nI dp)] (gI D [(cI, .int), (cZ, .boolean), (cO, .object "java/lang/Object"), (cL, .long)] b e0 A)) (va_Ql (fun (z : Int64) (A2 : gW) => NRq cI cZ cO e0 h ra ia sa ua aR aI aM fs σ A (respG (kSt σ) (calS (kSt σ) f) (kRs σ) (kIs σ).length i (iMk ((kIs σ).getD i i0)) (iX ((kIs σ).getD i i0)) dp (iRu ((kIs σ).getD i i0))) z A2) (fun A2 t => gP D classes b A2 t.heap) (fun q => b ≤ q)) (2 * f) (251 * f) (fun q => b ≤ q) := by
  refine Met.ofG (own := R_MB) (by decide +kernel) rfl (Nat.le_of_ble_eq_true rfl) ?_
  intro p e s m below meth c ls hx hb hr hlk hml hown hnm hts hI hl
  have hl : lv_has ls 8 [(0, .ref h), (1, .ref q), (2, .int (nI i)), (3, .int (nI dp))] := hl
  have hS : gS b s.heap s.heap [] := va_S.rf
  obtain ⟨hP, hK⟩ := hI
  obtain ⟨fB, hLR, hLI, fS, hfs, hBu, hRs, hIs⟩ := id hQ
  obtain ⟨moR, qR, capR, efR, fLR, -⟩ := id hLR
  obtain ⟨w1, w2, w3a, w4⟩ := id hw
  have w3 : ∀ i, i < (kRs σ).length → wfR ((kRs σ).getD i u0) := fun i hi => (w3a i hi).1
  obtain ⟨tt, htt⟩ : ∃ z, z = (kIs σ).getD i i0 := ⟨_, rfl⟩
  have fI : rIn A i q tt := by rw [htt, ← hq]; exact hIs i hi
  obtain ⟨⟨b1, b2⟩, hr1⟩ : wfI tt ∧ iRu tt ≤ (kRs σ).length := by rw [htt]; exact w4 i hi
  refine lv_aload_n hx hb d_MB_respond_0 rfl (lv_at hl 0 rfl) ?_
  refine lv_aload_n hx hb d_MB_respond_1 rfl (lv_at hl 1 rfl) ?_
  refine g_get hx hb hts i_In hown hK.1 hP fI rfl 7 (by decide) (hts _ k_288) (fun _ h9 => h9) rfl d_MB_respond_2 ?_
  rcases Nat.eq_zero_or_pos (iRu tt) with hz | hz
  · rw [hz]
    refine g_ri (g_runV (As := [.int (nI 0 - 1)]) (rest := []) ⟨hx, hb, hml, hown, hts⟩ (c_MB_isRule2 l fB hLR (nI 0 - 1)) st_MB_isRule k_218 ⟨rfl, rfl, (by show 1 + 1 ≤ 22 + 3 * f; omega), (by show 8 + (2 + 11) + (22) ≤ 655 + 82 * f; omega)⟩ rfl (gI.preV hK hS hP fB rfl _) rfl hl.1 rfl (Nat.le_of_ble_eq_true rfl) d_MB_respond_5 ⟨(by show 0 + 0 ≤ 2 * f; omega), (by show 0 + 0 ≤ 251 * f; omega)⟩) (fun r1 hr1 => ?_)
    subst hr1
    refine lv_if_ne (tgt := 31) hx hb d_MB_respond_8 (by decide) (fun h9 => absurd h9 (fun z => z (by rw [bI_0]; exact inR_m1 _))) (fun _ => ?_)
    refine lv_aload_n hx hb d_MB_respond_11 rfl (lv_at hl 0 rfl) ?_
    refine g_get hx hb hts i_MB hown hK.1 hP fB rfl 2 (by decide) (hts _ k_70) (fun _ h9 => h9) rfl d_MB_respond_12 ?_
    refine lv_aload_n hx hb d_MB_respond_15 rfl (lv_at hl 1 rfl) ?_
    refine g_get hx hb hts i_In hown hK.1 hP fI rfl 0 (by decide) (hts _ k_273) (fun _ h9 => h9) rfl d_MB_respond_16 ?_
    refine g_zald (v := bI (kSt σ (iMk tt))) hx hb hK.1 hP 1 fS rfl (vp_in_nI (show iMk tt < 4 by omega) (by omega)) (by rw [nI_clamp (show iMk tt < 2 ^ 31 by omega)]; exact hfs _ (by omega)) d_MB_respond_19 ?_
    refine lv_if_eq (tgt := 29) hx hb d_MB_respond_20 (by decide) (fun c3 => ?_) (fun c3 => ?_)
    · skip
      rw [bI_0] at c3
      refine lv_lconst (v := 0) hx hb d_MB_respond_29 (by decide) ?_
      have e9 : respG (kSt σ) (calS (kSt σ) f) (kRs σ) (kIs σ).length i (iMk tt) (iX tt) dp (iRu tt) = (kRs σ, [], if kSt σ (iMk tt) then xUNEX else 0) := by unfold respG; rw [if_pos hz]
      refine W.widen (k := 2 * f) (n := 251 * f) (by omega) (by omega) ?_
      exact W.lret hx hb hr (fun t ht _ => ⟨⟨_, A, rfl, (by show NRq cI cZ cO e0 h ra ia sa ua aR aI aM fs σ A (respG (kSt σ) (calS (kSt σ) f) (kRs σ) (kIs σ).length i (iMk ((kIs σ).getD i i0)) (iX ((kIs σ).getD i i0)) dp (iRu ((kIs σ).getD i i0))) _ _; rw [← htt, e9]; exact ⟨by simp_all [xUNEX], ⟨aI, fun _ _ => rfl, (by show rBq cI cZ cO e0 A h ra ia sa ua aR aI aM fs (kRs σ, kIs σ ++ [], kSt σ, kBu σ, kMk σ); rw [List.append_nil]; exact hQ)⟩, gO.rf⟩), show gP D classes b A t.heap by rw [ht]; exact hP⟩, hS.F ht⟩) hS.2.2 d_MB_respond_30
    · skip
      rw [bI_0] at c3
      refine lv_ldc2 (v := 20000000000) hx hb hown (hts _ k_344) d_MB_respond_23 ?_
      refine lv_goto (tgt := 30) hx hb d_MB_respond_26 (by decide) ?_
      have e9 : respG (kSt σ) (calS (kSt σ) f) (kRs σ) (kIs σ).length i (iMk tt) (iX tt) dp (iRu tt) = (kRs σ, [], if kSt σ (iMk tt) then xUNEX else 0) := by unfold respG; rw [if_pos hz]
      refine W.widen (k := 2 * f) (n := 251 * f) (by omega) (by omega) ?_
      exact W.lret hx hb hr (fun t ht _ => ⟨⟨_, A, rfl, (by show NRq cI cZ cO e0 h ra ia sa ua aR aI aM fs σ A (respG (kSt σ) (calS (kSt σ) f) (kRs σ) (kIs σ).length i (iMk ((kIs σ).getD i i0)) (iX ((kIs σ).getD i i0)) dp (iRu ((kIs σ).getD i i0))) _ _; rw [← htt, e9]; exact ⟨by simp_all [xUNEX], ⟨aI, fun _ _ => rfl, (by show rBq cI cZ cO e0 A h ra ia sa ua aR aI aM fs (kRs σ, kIs σ ++ [], kSt σ, kBu σ, kMk σ); rw [List.append_nil]; exact hQ)⟩, gO.rf⟩), show gP D classes b A t.heap by rw [ht]; exact hP⟩, hS.F ht⟩) hS.2.2 d_MB_respond_30
  · obtain ⟨k, hk1⟩ : ∃ k, iRu tt = k + 1 := ⟨iRu tt - 1, by omega⟩
    rw [hk1, nI_pred]
    refine g_ri (g_runV (As := [.int (nI k)]) (rest := []) ⟨hx, hb, hml, hown, hts⟩ (c_MB_isRule2 l fB hLR (nI k)) st_MB_isRule k_218 ⟨rfl, rfl, (by show 1 + 1 ≤ 22 + 3 * f; omega), (by show 8 + (2 + 11) + (22) ≤ 655 + 82 * f; omega)⟩ rfl (gI.preV hK hS hP fB rfl _) rfl hl.1 rfl (Nat.le_of_ble_eq_true rfl) d_MB_respond_5 ⟨(by show 0 + 0 ≤ 2 * f; omega), (by show 0 + 0 ≤ 251 * f; omega)⟩) (fun r4 hr4 => ?_)
    subst hr4
    refine lv_if_ne (tgt := 31) hx hb d_MB_respond_8 (by decide) (fun _ => ?_) (fun h9 => absurd h9 (by rw [bI_0, inN_t (by omega) (show k < (kRs σ).length by omega)]; decide))
    refine lv_aload_n hx hb d_MB_respond_31 rfl (lv_at hl 0 rfl) ?_
    refine g_get hx hb hts i_MB hown hK.1 hP fB rfl 0 (by decide) (hts _ k_68) (fun _ h9 => h9) rfl d_MB_respond_32 ?_
    refine lv_aload_n hx hb d_MB_respond_35 rfl (lv_at hl 1 rfl) ?_
    refine g_get hx hb hts i_In hown hK.1 hP fI rfl 7 (by decide) (hts _ k_288) (fun _ h9 => h9) rfl d_MB_respond_36 ?_
    rw [hk1, nI_pred]
    refine g_rr (g_runV (As := [.int (nI k)]) (rest := []) ⟨hx, hb, hml, hown, hts⟩ (c_AL_get l hLR (i := k) (by omega)) st_AL_get k_222 ⟨rfl, rfl, (by show 2 + 1 ≤ 22 + 3 * f; omega), (by show 8 + (2 + 11) + (43) ≤ 655 + 82 * f; omega)⟩ rfl (gI.preV hK hS hP fLR rfl _) rfl hl.1 rfl (Nat.le_of_ble_eq_true rfl) d_MB_respond_39 ⟨(by show 0 + 0 ≤ 2 * f; omega), (by show 0 + 0 ≤ 251 * f; omega)⟩) ?_
    obtain ⟨r7, hr7⟩ : ∃ z, z = (kRs σ).getD k u0 := ⟨_, rfl⟩
    have fr7 : rRu cI A k (aR k) (aM k) r7 := by rw [hr7]; exact (hRs k (by omega)).2
    have mr7 : rMa cI A k (aM k) (uMs r7) := by rw [hr7]; exact (hRs k (by omega)).1
    have br7 : wfR r7 := by rw [hr7]; exact w3 k (by omega)
    obtain ⟨br71, br72, br73, br74, br75, br76, br77⟩ := br7
    obtain ⟨hk7, hv7, fk7, fv7, fR7, fK7, fV7, hn7, hac7⟩ := id fr7
    refine va_castY (C := R_Ru) hx hb hown (hts _ k_124) (hK.2.1 _ (List.mem_of_getElem? (i := 5) rfl)) (va_recv (q0 := 0) hK.1 (hP.one fR7) rfl rfl) d_MB_respond_42 ?_
    refine lv_astore (lv' := [(4, .ref ((aR k))), (0, .ref h), (1, .ref q), (2, .int (nI i)), (3, .int (nI dp))]) hx hb d_MB_respond_45 hl (by decide) rfl (fun ls hl => ?_)
    refine lv_aload hx hb d_MB_respond_47 (lv_at hl 0 rfl) ?_
    refine g_get hx hb hts i_Ru hown hK.1 hP fR7 rfl 6 (by decide) (hts _ k_141) (fun _ h9 => h9) rfl d_MB_respond_49 ?_
    refine lv_istore (lv' := [(5, .int (nI (uUs r7))), (4, .ref ((aR k))), (0, .ref h), (1, .ref q), (2, .int (nI i)), (3, .int (nI dp))]) hx hb d_MB_respond_52 hl (by decide) rfl (fun ls hl => ?_)
    refine lv_aload hx hb d_MB_respond_54 (lv_at hl 1 rfl) ?_
    refine g_ri (g_runV (As := []) (rest := []) ⟨hx, hb, hml, hown, hts⟩ (c_Ru_placeInTurn l fr7 (by omega)) st_Ru_placeInTurn k_345 ⟨rfl, rfl, (by show 1 + 1 ≤ 22 + 3 * f; omega), (by show 8 + (1 + 11) + (14) ≤ 655 + 82 * f; omega)⟩ rfl (gI.preV hK hS hP fR7 rfl _) rfl hl.1 rfl (Nat.le_of_ble_eq_true rfl) d_MB_respond_56 ⟨(by show 0 + 0 ≤ 2 * f; omega), (by show 0 + 0 ≤ 251 * f; omega)⟩) (fun r8 hr8 => ?_)
    subst hr8
    refine lv_istore (lv' := [(6, .int (nI (min (uUs r7) ((uAc r7).length - 1)))), (5, .int (nI (uUs r7))), (4, .ref ((aR k))), (0, .ref h), (1, .ref q), (2, .int (nI i)), (3, .int (nI dp))]) hx hb d_MB_respond_59 hl (by decide) rfl (fun ls hl => ?_)
    refine lv_aload hx hb d_MB_respond_61 (lv_at hl 2 rfl) ?_
    refine lv_dup hx hb d_MB_respond_63 rfl ?_
    refine g_get hx hb hts i_Ru hown hK.1 hP fR7 rfl 6 (by decide) (hts _ k_141) (fun _ h9 => h9) rfl d_MB_respond_64 ?_
    refine lv_iconst (v := 1) hx hb d_MB_respond_67 (by decide) ?_
    refine lv_iadd hx hb d_MB_respond_68 ?_
    rw [nI_1]
    refine g_put (ty := .int) (v := .int (nI (uUs r7 + 1))) hx hb hts i_Ru t_Ru t_Ru_ok n_Ru hown hK.1 hP hS fR7 rfl 6 (by decide) (hts _ k_141) (fun _ h9 => h9) rfl (by decide +kernel) rfl rfl (Nat.le_of_ble_eq_true rfl) d_MB_respond_69 (fun H locs hP hS => ?_)
    obtain ⟨A9, eA9⟩ : ∃ z, z = gU A (8, k) ((aR k), .inr (2, [.int (nI (uMk r7)), .int (nI (uMt r7)), .ref ((aM k)), .ref hk7, .ref hv7, .int (nI (uAc r7).length), .int (nI (uUs r7 + 1)), .int (bI (uLv r7))])) := ⟨_, rfl⟩
    replace hP : gP D classes b A9 H := by rw [eA9]; exact hP
    have f10 : A9 (0, 0) = some (h, .inr (0, [.ref ra, .ref ia, .ref sa, .ref ua, .int (nI (kMk σ) - 1)])) := (by rw [eA9]; exact gU_n (gne (show (0 : Nat) ≠ 8 by decide)) : A9 (0, 0) = A (0, 0)).trans fB
    have f11 : A9 (1, 0) = some (ra, .inr (4, [.int moR, .ref qR, .int (nI (kRs σ).length)])) := (by rw [eA9]; exact gU_n (gne (show (1 : Nat) ≠ 8 by decide)) : A9 (1, 0) = A (1, 0)).trans fLR
    have f12 : A9 (4, 0) = some (sa, .inl (cZ, 4, .inl fs)) := (by rw [eA9]; exact gU_n (gne (show (4 : Nat) ≠ 8 by decide)) : A9 (4, 0) = A (4, 0)).trans fS
    have f13 : A9 (11, i) = some (q, .inr (3, [.int (nI (iMk tt)), .int (nI (iMt tt)), .int ((iX tt).1), .int ((iX tt).2.1), .int ((iX tt).2.2), .int (nI (iDp tt)), .int (iFr tt), .int (nI (iRu tt) - 1), .long (iAn tt), .int (bI (iVe tt)), .int (bI (iLv tt))])) := (by rw [eA9]; exact gU_n (gne (show (11 : Nat) ≠ 8 by decide)) : A9 (11, i) = A (11, i)).trans fI
    have f14 : A9 (9, k) = some (hk7, .inl (cI, 4, .inl fk7)) := (by rw [eA9]; exact gU_n (gne (show (9 : Nat) ≠ 8 by decide)) : A9 (9, k) = A (9, k)).trans fK7
    have f15 : A9 (10, k) = some (hv7, .inl (cI, 4, .inl fv7)) := (by rw [eA9]; exact gU_n (gne (show (10 : Nat) ≠ 8 by decide)) : A9 (10, k) = A (10, k)).trans fV7
    have f16 : A9 (8, k) = some ((aR k), .inr (2, [.int (nI (uMk r7)), .int (nI (uMt r7)), .ref ((aM k)), .ref hk7, .ref hv7, .int (nI (uAc r7).length), .int (nI (uUs r7 + 1)), .int (bI (uLv r7))])) := by rw [eA9]; exact gU_s
    have gA9 : gF [8, 9, 10] k A A9 := by rw [eA9]; exact gF_U gF.rf (by decide)
    have hQ1 := hQ.ru (i := k) (r := uUse r7) (by omega) gA9 (show rRu cI A9 k (aR k) (aM k) (uUse r7) from ⟨hk7, hv7, fk7, fv7, f16, f14, f15, hn7, hac7⟩) (by rw [hr7]; rfl)
    refine lv_aload hx hb d_MB_respond_72 (lv_at hl 2 rfl) ?_
    refine g_get hx hb hts i_Ru hown hK.1 hP f16 rfl 4 (by decide) (hts _ k_137) (fun _ h9 => h9) rfl d_MB_respond_74 ?_
    refine lv_iload hx hb d_MB_respond_77 (lv_at hl 0 rfl) ?_
    refine g_iald (v := (uAct r7).2) hx hb hK.1 hP 0 f15 rfl (vp_in_nI (show min (uUs r7) ((uAc r7).length - 1) < 4 by omega) (by omega)) (by rw [nI_clamp (show min (uUs r7) ((uAc r7).length - 1) < 2 ^ 31 by omega)]; exact (hac7 (min (uUs r7) ((uAc r7).length - 1)) (by omega)).2) d_MB_respond_79 ?_
    refine lv_istore (lv' := [(7, .int ((uAct r7).2)), (6, .int (nI (min (uUs r7) ((uAc r7).length - 1)))), (5, .int (nI (uUs r7))), (4, .ref ((aR k))), (0, .ref h), (1, .ref q), (2, .int (nI i)), (3, .int (nI dp))]) hx hb d_MB_respond_80 hl (by decide) rfl (fun ls hl => ?_)
    refine lv_aload hx hb d_MB_respond_82 (lv_at hl 3 rfl) ?_
    refine g_get hx hb hts i_Ru hown hK.1 hP f16 rfl 3 (by decide) (hts _ k_135) (fun _ h9 => h9) rfl d_MB_respond_84 ?_
    refine lv_iload hx hb d_MB_respond_87 (lv_at hl 1 rfl) ?_
    refine g_iald (v := (uAct r7).1) hx hb hK.1 hP 0 f14 rfl (vp_in_nI (show min (uUs r7) ((uAc r7).length - 1) < 4 by omega) (by omega)) (by rw [nI_clamp (show min (uUs r7) ((uAc r7).length - 1) < 2 ^ 31 by omega)]; exact (hac7 (min (uUs r7) ((uAc r7).length - 1)) (by omega)).1) d_MB_respond_89 ?_
    by_cases c17 : (uAct r7).1 = 1
    · refine lv_tableIn (off := 30) (tgt := 120) hx hb d_MB_respond_90 (by rw [c17]; decide) (by rw [c17]; decide) (by rw [c17]; rfl) (by decide) ?_
      refine lv_aload_n hx hb d_MB_respond_120 rfl (lv_at hl 5 rfl) ?_
      refine lv_iload hx hb d_MB_respond_121 (lv_at hl 0 rfl) ?_
      refine g_ri (g_runV (As := [.int ((uAct r7).2)]) (rest := []) ⟨hx, hb, hml, hown, hts⟩ (c_In_argument l (i := i) (t := tt) f13 ((uAct r7).2)) st_In_argument k_351 ⟨rfl, rfl, (by show 0 + 1 ≤ 22 + 3 * f; omega), (by show 8 + (2 + 11) + (0) ≤ 655 + 82 * f; omega)⟩ rfl (gI.preV hK hS hP f13 rfl _) rfl hl.1 rfl (Nat.le_of_ble_eq_true rfl) d_MB_respond_123 ⟨(by show 0 + 0 ≤ 2 * f; omega), (by show 0 + 0 ≤ 251 * f; omega)⟩) (fun r18 hr18 => ?_)
      subst hr18
      refine lv_i2l (v := (argP (iX tt) ((uAct r7).2)).toInt64) hx hb d_MB_respond_126 rfl ?_
      have e9 : respG (kSt σ) (calS (kSt σ) f) (kRs σ) (kIs σ).length i (iMk tt) (iX tt) dp (iRu tt) = ((kRs σ).set k (uUse r7), [], ansA (uAct r7).1 (uAct r7).2 (iX tt) (uUs r7)) := by unfold respG; rw [if_neg (by omega), hk1, Nat.add_sub_cancel, ← hr7, if_neg (by simp_all)]
      refine W.widen (k := 2 * f) (n := 251 * f) (by omega) (by omega) ?_
      exact W.lret hx hb hr (fun t ht _ => ⟨⟨_, A9, rfl, (by show NRq cI cZ cO e0 h ra ia sa ua aR aI aM fs σ A (respG (kSt σ) (calS (kSt σ) f) (kRs σ) (kIs σ).length i (iMk ((kIs σ).getD i i0)) (iX ((kIs σ).getD i i0)) dp (iRu ((kIs σ).getD i i0))) _ _; rw [← htt, e9]; exact ⟨by simp_all [ansA, xFAIL], ⟨aI, fun _ _ => rfl, (by show rBq cI cZ cO e0 A9 h ra ia sa ua aR aI aM fs ((kRs σ).set k (uUse r7), kIs σ ++ [], kSt σ, kBu σ, kMk σ); rw [List.append_nil]; exact hQ1)⟩, gA9.out rfl⟩), show gP D classes b A9 t.heap by rw [ht]; exact hP⟩, hS.F ht⟩) hS.2.2 d_MB_respond_127
    by_cases c19 : (uAct r7).1 = 2
    · refine lv_tableIn (off := 38) (tgt := 128) hx hb d_MB_respond_90 (by rw [c19]; decide) (by rw [c19]; decide) (by rw [c19]; rfl) (by decide) ?_
      refine lv_iload hx hb d_MB_respond_128 (lv_at hl 2 rfl) ?_
      refine lv_i2l (v := (nI (uUs r7)).toInt64) hx hb d_MB_respond_130 rfl ?_
      have e9 : respG (kSt σ) (calS (kSt σ) f) (kRs σ) (kIs σ).length i (iMk tt) (iX tt) dp (iRu tt) = ((kRs σ).set k (uUse r7), [], ansA (uAct r7).1 (uAct r7).2 (iX tt) (uUs r7)) := by unfold respG; rw [if_neg (by omega), hk1, Nat.add_sub_cancel, ← hr7, if_neg (by simp_all)]
      refine W.widen (k := 2 * f) (n := 251 * f) (by omega) (by omega) ?_
      exact W.lret hx hb hr (fun t ht _ => ⟨⟨_, A9, rfl, (by show NRq cI cZ cO e0 h ra ia sa ua aR aI aM fs σ A (respG (kSt σ) (calS (kSt σ) f) (kRs σ) (kIs σ).length i (iMk ((kIs σ).getD i i0)) (iX ((kIs σ).getD i i0)) dp (iRu ((kIs σ).getD i i0))) _ _; rw [← htt, e9]; exact ⟨by simp_all [ansA, xFAIL], ⟨aI, fun _ _ => rfl, (by show rBq cI cZ cO e0 A9 h ra ia sa ua aR aI aM fs ((kRs σ).set k (uUse r7), kIs σ ++ [], kSt σ, kBu σ, kMk σ); rw [List.append_nil]; exact hQ1)⟩, gA9.out rfl⟩), show gP D classes b A9 t.heap by rw [ht]; exact hP⟩, hS.F ht⟩) hS.2.2 d_MB_respond_131
    by_cases c20 : (uAct r7).1 = 3
    · refine lv_tableIn (off := 42) (tgt := 132) hx hb d_MB_respond_90 (by rw [c20]; decide) (by rw [c20]; decide) (by rw [c20]; rfl) (by decide) ?_
      refine lv_ldc2 (v := 40000000000) hx hb hown (hts _ k_352) d_MB_respond_132 ?_
      refine lv_iload hx hb d_MB_respond_135 (lv_at hl 0 rfl) ?_
      refine lv_i2l (v := ((uAct r7).2).toInt64) hx hb d_MB_respond_137 rfl ?_
      refine lv_ladd hx hb d_MB_respond_138 ?_
      have e9 : respG (kSt σ) (calS (kSt σ) f) (kRs σ) (kIs σ).length i (iMk tt) (iX tt) dp (iRu tt) = ((kRs σ).set k (uUse r7), [], ansA (uAct r7).1 (uAct r7).2 (iX tt) (uUs r7)) := by unfold respG; rw [if_neg (by omega), hk1, Nat.add_sub_cancel, ← hr7, if_neg (by simp_all)]
      refine W.widen (k := 2 * f) (n := 251 * f) (by omega) (by omega) ?_
      exact W.lret hx hb hr (fun t ht _ => ⟨⟨_, A9, rfl, (by show NRq cI cZ cO e0 h ra ia sa ua aR aI aM fs σ A (respG (kSt σ) (calS (kSt σ) f) (kRs σ) (kIs σ).length i (iMk ((kIs σ).getD i i0)) (iX ((kIs σ).getD i i0)) dp (iRu ((kIs σ).getD i i0))) _ _; rw [← htt, e9]; exact ⟨by simp_all [ansA, xFAIL], ⟨aI, fun _ _ => rfl, (by show rBq cI cZ cO e0 A9 h ra ia sa ua aR aI aM fs ((kRs σ).set k (uUse r7), kIs σ ++ [], kSt σ, kBu σ, kMk σ); rw [List.append_nil]; exact hQ1)⟩, gA9.out rfl⟩), show gP D classes b A9 t.heap by rw [ht]; exact hP⟩, hS.F ht⟩) hS.2.2 d_MB_respond_139
    by_cases c21 : (uAct r7).1 = 4
    · refine lv_tableIn (off := 50) (tgt := 140) hx hb d_MB_respond_90 (by rw [c21]; decide) (by rw [c21]; decide) (by rw [c21]; rfl) (by decide) ?_
      refine lv_aload_n hx hb d_MB_respond_140 rfl (lv_at hl 4 rfl) ?_
      refine lv_aload_n hx hb d_MB_respond_141 rfl (lv_at hl 5 rfl) ?_
      refine lv_iload_n hx hb d_MB_respond_142 rfl (lv_at hl 6 rfl) ?_
      refine lv_iload hx hb d_MB_respond_143 (lv_at hl 0 rfl) ?_
      refine lv_iload_n hx hb d_MB_respond_145 rfl (lv_at hl 7 rfl) ?_
      obtain ⟨tv, htv, hv4⟩ := uAct_ok (w3 k (by omega)) (by rw [← hr7]; exact c21)
      rw [← hr7] at hv4
      rw [hv4]
      have hwu : wfC ((kRs σ).set k (uUse r7), kIs σ, kSt σ, kBu σ, kMk σ) (kIs σ).length := by rw [hr7]; exact hw.use (by omega) hu
      have h00 : 0 + 2 * f = 2 * f := Nat.zero_add _
      refine g_cl (B := fun A2 H => gP D classes b A2 H) (g_runV (As := [.ref q, .int (nI i), .int (nI tv), .int (nI dp)]) (rest := []) ⟨hx, hb, hml, hown, hts⟩ (c_MB_pass l ih hQ1 hwu (i := i) (q := q) (tv := tv) (dp := dp) hi hq htv hdp) st_MB_pass k_353 ⟨rfl, rfl, (by show (21 + 3 * f) + 1 ≤ 22 + 3 * f; omega), (by show 8 + (7 + 11) + (629 + 82 * f) ≤ 655 + 82 * f; omega)⟩ rfl (gI.preV hK hS hP f10 rfl _) rfl hl.1 rfl (Nat.le_of_ble_eq_true rfl) d_MB_respond_146 ⟨(by show 0 + 2 * f ≤ 2 * f; omega), (by show 0 + 251 * f ≤ 251 * f; omega)⟩) hS (fun r24 A22 H locs hp23 hP hS => ?_)
      replace hP : gP D classes b A22 H := hP
      refine W.widen (k := 2 * f) (n := 251 * f) (by omega) (by omega) ?_
      have e9 : respG (kSt σ) (calS (kSt σ) f) (kRs σ) (kIs σ).length i (iMk tt) (iX tt) dp (iRu tt) = calS (kSt σ) f ((kRs σ).set k (uUse r7)) (kIs σ).length (tv / 8) (tv % 8) (iX tt) (dp + 1) (nI i) := by unfold respG; rw [if_neg (by omega), hk1, Nat.add_sub_cancel, ← hr7, if_pos c21, hv4, nI_clamp (show tv < 2 ^ 31 by omega)]
      rw [← htt] at hp23
      refine W.widen (k := 2 * f) (n := 251 * f) (by omega) (by omega) ?_
      exact W.lret hx hb hr (fun t ht _ => ⟨⟨_, A22, rfl, (by show NRq cI cZ cO e0 h ra ia sa ua aR aI aM fs σ A (respG (kSt σ) (calS (kSt σ) f) (kRs σ) (kIs σ).length i (iMk ((kIs σ).getD i i0)) (iX ((kIs σ).getD i i0)) dp (iRu ((kIs σ).getD i i0))) _ _; rw [← htt, e9]; exact ⟨hp23.1, hp23.2.1, (gA9.out rfl).trans hp23.2.2⟩), show gP D classes b A22 t.heap by rw [ht]; exact hP⟩, hS.F ht⟩) hS.2.2 d_MB_respond_149
    refine lv_tableOut (tgt := 150) hx hb d_MB_respond_90 (by have q0 := lv_neT c17 (show (1 : Int32).toInt = 1 by decide); have q1 := lv_neT c19 (show (2 : Int32).toInt = 2 by decide); have q2 := lv_neT c20 (show (3 : Int32).toInt = 3 by decide); have q3 := lv_neT c21 (show (4 : Int32).toInt = 4 by decide); omega) (by decide) ?_
    refine lv_iload hx hb d_MB_respond_150 (lv_at hl 0 rfl) ?_
    refine lv_i2l (v := ((uAct r7).2).toInt64) hx hb d_MB_respond_152 rfl ?_
    have e9 : respG (kSt σ) (calS (kSt σ) f) (kRs σ) (kIs σ).length i (iMk tt) (iX tt) dp (iRu tt) = ((kRs σ).set k (uUse r7), [], ansA (uAct r7).1 (uAct r7).2 (iX tt) (uUs r7)) := by unfold respG; rw [if_neg (by omega), hk1, Nat.add_sub_cancel, ← hr7, if_neg (by simp_all)]
    refine W.widen (k := 2 * f) (n := 251 * f) (by omega) (by omega) ?_
    exact W.lret hx hb hr (fun t ht _ => ⟨⟨_, A9, rfl, (by show NRq cI cZ cO e0 h ra ia sa ua aR aI aM fs σ A (respG (kSt σ) (calS (kSt σ) f) (kRs σ) (kIs σ).length i (iMk ((kIs σ).getD i i0)) (iX ((kIs σ).getD i i0)) dp (iRu ((kIs σ).getD i i0))) _ _; rw [← htt, e9]; exact ⟨by simp_all [ansA, xFAIL], ⟨aI, fun _ _ => rfl, (by show rBq cI cZ cO e0 A9 h ra ia sa ua aR aI aM fs ((kRs σ).set k (uUse r7), kIs σ ++ [], kSt σ, kBu σ, kMk σ); rw [List.append_nil]; exact hQ1)⟩, gA9.out rfl⟩), show gP D classes b A9 t.heap by rw [ht]; exact hP⟩, hS.F ht⟩) hS.2.2 d_MB_respond_153
