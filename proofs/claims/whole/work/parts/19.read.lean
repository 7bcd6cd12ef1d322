theorem c_MB_asB (l : Launch) (x : Bool) : Met l y_MB_asNumber (Cond.code y_MB_asNumber b_MB_asNumber 1 (some .int) :: TT) ({ frames := 0, cells := 0, slots := 0, locals := 0 }) (va_Pc [.int (bI x)] (fun _ => True)) (vp_Si (fun r => r = bI x)) 0 0 (fun _ => False) := by
  have h := c_MB_asNumber l (bI x)
  rw [bI_num] at h
  exact h
set_option maxHeartbeats 4000000 in
set_option maxRecDepth 100000 in
theorem c_MB_isRule (l : Launch) {D : va_G} {cI cZ cO cL : ClassId} {b e0 : Nat} {A : gW} {h : Nat} {σ : Bk} (hB : rBk cI cZ cO e0 A h σ) (hw : wf σ) (x : Int32) : Met l y_MB_isRule (Cond.code y_MB_isRule b_MB_isRule 2 (some .boolean) :: TT) ({ frames := 1, cells := 0, slots := 0, locals := 22 }) (va_Pc [.ref h, .int x] (gI D [(cI, .int), (cZ, .boolean), (cO, .object "java/lang/Object"), (cL, .long)] b e0 A)) (vp_Si (fun z => z = bI (inR x 0 (nI (kRs σ).length - 1)))) 0 0 (fun _ => False) := by
  refine Met.ofG (own := R_MB) (by decide +kernel) rfl (Nat.le_of_ble_eq_true rfl) ?_
  intro p e s m below meth c ls hx hb hr hlk hml hown hnm hts hI hl
  have hl : lv_has ls 2 [(0, .ref h), (1, .int x)] := hl
  obtain ⟨hP, hK⟩ := hI
  obtain ⟨ra, ia, sa, ua, aR, aI, aM, fs, fB, hLR, hLI, fS, hfs, hBu, hRs, hIs⟩ := id hB
  obtain ⟨w1, w2, w3, w4, w5, w6, w7, w8⟩ := id hw
  obtain ⟨moR, qR, capR, efR, fLR, -⟩ := id hLR
  obtain ⟨moI, qI, capI, efI, fLI, -⟩ := id hLI
  obtain ⟨hk, hv, fk, fv, fM, fK, fV, hn3, hms⟩ := id hBu
  refine lv_iload_n hx hb d_MB_isRule_0 rfl (lv_at hl 1 rfl) ?_
  refine lv_iconst (v := 0) hx hb d_MB_isRule_1 (by decide) ?_
  refine lv_aload_n hx hb d_MB_isRule_2 rfl (lv_at hl 0 rfl) ?_
  refine g_get hx hb hts i_MB hown hK.1 hP fB rfl 0 (by decide) (hts _ k_68) (fun _ h9 => h9) rfl d_MB_isRule_3 ?_
  refine g_ri (g_runV (As := []) (rest := [.int 0, .int x]) ⟨hx, hb, hml, hown, hts⟩ (c_AL_size l hLR) st_AL_size k_120 ⟨rfl, rfl, by decide, by decide⟩ rfl (gI.preV hK va_S.rf hP fLR rfl _) rfl hl.1 rfl (Nat.le_of_ble_eq_true rfl) d_MB_isRule_6 ⟨by decide, by decide⟩) (fun r1 hr1 => ?_)
  subst hr1
  refine lv_iconst (v := 1) hx hb d_MB_isRule_9 (by decide) ?_
  refine lv_isub hx hb d_MB_isRule_10 ?_
  refine g_ri (g_runS (As := [.int x, .int 0, .int ((nI (kRs σ).length) - 1)]) (rest := []) ⟨hx, hb, hml, hown, hts⟩ (c_MB_isWithin l x 0 ((nI (kRs σ).length) - 1)) st_MB_isWithin k_88 ⟨rfl, rfl, by decide, by decide⟩ (gT_pre _) rfl hl.1 rfl (Nat.le_of_ble_eq_true rfl) d_MB_isRule_11 ⟨by decide, by decide⟩) (fun r2 hr2 => ?_)
  subst hr2
  exact W.zret hx hb hr (bI_nar _) (fun t ht _ => ⟨_, rfl, rfl, ht⟩) (fun _ h => nomatch h) d_MB_isRule_14
set_option maxHeartbeats 4000000 in
set_option maxRecDepth 100000 in
theorem c_MB_isInteraction (l : Launch) {D : va_G} {cI cZ cO cL : ClassId} {b e0 : Nat} {A : gW} {h : Nat} {σ : Bk} (hB : rBk cI cZ cO e0 A h σ) (hw : wf σ) (x : Int32) : Met l y_MB_isInteraction (Cond.code y_MB_isInteraction b_MB_isInteraction 2 (some .boolean) :: TT) ({ frames := 1, cells := 0, slots := 0, locals := 22 }) (va_Pc [.ref h, .int x] (gI D [(cI, .int), (cZ, .boolean), (cO, .object "java/lang/Object"), (cL, .long)] b e0 A)) (vp_Si (fun z => z = bI (inR x 0 (nI (kIs σ).length - 1)))) 0 0 (fun _ => False) := by
  refine Met.ofG (own := R_MB) (by decide +kernel) rfl (Nat.le_of_ble_eq_true rfl) ?_
  intro p e s m below meth c ls hx hb hr hlk hml hown hnm hts hI hl
  have hl : lv_has ls 2 [(0, .ref h), (1, .int x)] := hl
  obtain ⟨hP, hK⟩ := hI
  obtain ⟨ra, ia, sa, ua, aR, aI, aM, fs, fB, hLR, hLI, fS, hfs, hBu, hRs, hIs⟩ := id hB
  obtain ⟨w1, w2, w3, w4, w5, w6, w7, w8⟩ := id hw
  obtain ⟨moR, qR, capR, efR, fLR, -⟩ := id hLR
  obtain ⟨moI, qI, capI, efI, fLI, -⟩ := id hLI
  obtain ⟨hk, hv, fk, fv, fM, fK, fV, hn3, hms⟩ := id hBu
  refine lv_iload_n hx hb d_MB_isInteraction_0 rfl (lv_at hl 1 rfl) ?_
  refine lv_iconst (v := 0) hx hb d_MB_isInteraction_1 (by decide) ?_
  refine lv_aload_n hx hb d_MB_isInteraction_2 rfl (lv_at hl 0 rfl) ?_
  refine g_get hx hb hts i_MB hown hK.1 hP fB rfl 1 (by decide) (hts _ k_69) (fun _ h9 => h9) rfl d_MB_isInteraction_3 ?_
  refine g_ri (g_runV (As := []) (rest := [.int 0, .int x]) ⟨hx, hb, hml, hown, hts⟩ (c_AL_size l hLI) st_AL_size k_120 ⟨rfl, rfl, by decide, by decide⟩ rfl (gI.preV hK va_S.rf hP fLI rfl _) rfl hl.1 rfl (Nat.le_of_ble_eq_true rfl) d_MB_isInteraction_6 ⟨by decide, by decide⟩) (fun r1 hr1 => ?_)
  subst hr1
  refine lv_iconst (v := 1) hx hb d_MB_isInteraction_9 (by decide) ?_
  refine lv_isub hx hb d_MB_isInteraction_10 ?_
  refine g_ri (g_runS (As := [.int x, .int 0, .int ((nI (kIs σ).length) - 1)]) (rest := []) ⟨hx, hb, hml, hown, hts⟩ (c_MB_isWithin l x 0 ((nI (kIs σ).length) - 1)) st_MB_isWithin k_88 ⟨rfl, rfl, by decide, by decide⟩ (gT_pre _) rfl hl.1 rfl (Nat.le_of_ble_eq_true rfl) d_MB_isInteraction_11 ⟨by decide, by decide⟩) (fun r2 hr2 => ?_)
  subst hr2
  exact W.zret hx hb hr (bI_nar _) (fun t ht _ => ⟨_, rfl, rfl, ht⟩) (fun _ h => nomatch h) d_MB_isInteraction_14
set_option maxHeartbeats 4000000 in
set_option maxRecDepth 100000 in
theorem c_MB_noted (l : Launch) {D : va_G} {cI cZ cO cL : ClassId} {b e0 : Nat} {A : gW} {h : Nat} {σ : Bk} (hB : rBk cI cZ cO e0 A h σ) (hw : wf σ) (x wh : Int32) : Met l y_MB_noted (Cond.code y_MB_noted b_MB_noted 4 (some .long) :: TT) ({ frames := 3, cells := 0, slots := 0, locals := 64 }) (va_Pc [.ref h, .int x, .int wh] (gI D [(cI, .int), (cZ, .boolean), (cO, .object "java/lang/Object"), (cL, .long)] b e0 A)) (vp_Sl (fun z => z = sNoted σ x wh)) 0 0 (fun _ => False) := by
  refine Met.ofG (own := R_MB) (by decide +kernel) rfl (Nat.le_of_ble_eq_true rfl) ?_
  intro p e s m below meth c ls hx hb hr hlk hml hown hnm hts hI hl
  have hl : lv_has ls 4 [(0, .ref h), (1, .int x), (2, .int wh)] := hl
  obtain ⟨hP, hK⟩ := hI
  obtain ⟨ra, ia, sa, ua, aR, aI, aM, fs, fB, hLR, hLI, fS, hfs, hBu, hRs, hIs⟩ := id hB
  obtain ⟨w1, w2, w3, w4, w5, w6, w7, w8⟩ := id hw
  obtain ⟨moR, qR, capR, efR, fLR, -⟩ := id hLR
  obtain ⟨moI, qI, capI, efI, fLI, -⟩ := id hLI
  obtain ⟨hk, hv, fk, fv, fM, fK, fV, hn3, hms⟩ := id hBu
  refine lv_aload_n hx hb d_MB_noted_0 rfl (lv_at hl 0 rfl) ?_
  refine lv_iload_n hx hb d_MB_noted_1 rfl (lv_at hl 1 rfl) ?_
  refine g_ri (g_runV (As := [.int x]) (rest := []) ⟨hx, hb, hml, hown, hts⟩ (c_MB_isInteraction l hB hw x) st_MB_isInteraction k_413 ⟨rfl, rfl, by decide, by decide⟩ rfl (gI.preV hK va_S.rf hP fB rfl _) rfl hl.1 rfl (Nat.le_of_ble_eq_true rfl) d_MB_noted_2 ⟨by decide, by decide⟩) (fun r1 hr1 => ?_)
  subst hr1
  refine lv_if_ne (tgt := 12) hx hb d_MB_noted_5 (by decide) (fun c2 => ?_) (fun c2 => ?_)
  · skip
    rw [bI_0] at c2
    obtain ⟨j, hj, rfl⟩ := inN (by omega) (by simpa using c2 : inR x 0 (nI (kIs σ).length - 1) = true)
    refine lv_aload_n hx hb d_MB_noted_12 rfl (lv_at hl 0 rfl) ?_
    refine g_get hx hb hts i_MB hown hK.1 hP fB rfl 1 (by decide) (hts _ k_69) (fun _ h9 => h9) rfl d_MB_noted_13 ?_
    refine lv_iload_n hx hb d_MB_noted_16 rfl (lv_at hl 1 rfl) ?_
    refine g_rr (g_runV (As := [.int (nI j)]) (rest := []) ⟨hx, hb, hml, hown, hts⟩ (c_AL_get l hLI (i := j) (by omega)) st_AL_get k_222 ⟨rfl, rfl, by decide, by decide⟩ rfl (gI.preV hK va_S.rf hP fLI rfl _) rfl hl.1 rfl (Nat.le_of_ble_eq_true rfl) d_MB_noted_17 ⟨by decide, by decide⟩) ?_
    obtain ⟨t3, ht3⟩ : ∃ z, z = (kIs σ).getD j i0 := ⟨_, rfl⟩
    have ft3 : rIn A j (aI j) t3 := by rw [ht3]; exact hIs j (by omega)
    have bt3 : wfI t3 := by rw [ht3]; exact (w4 j (by omega)).1
    obtain ⟨bt31, bt32⟩ := bt3
    refine va_castY (C := R_In) hx hb hown (hts _ k_263) (hK.2.1 _ (List.mem_of_getElem? (i := 6) rfl)) (va_recv (q0 := 0) hK.1 (hP.one ft3) rfl rfl) d_MB_noted_20 ?_
    refine lv_astore_n (lv' := [(3, .ref ((aI j))), (0, .ref h), (1, .int (nI j)), (2, .int wh)]) hx hb d_MB_noted_23 rfl hl (by decide) rfl (fun ls hl => ?_)
    refine lv_iload_n hx hb d_MB_noted_24 rfl (lv_at hl 3 rfl) ?_
    by_cases c4 : wh = 0
    · refine lv_tableIn (off := 55) (tgt := 80) hx hb d_MB_noted_25 (by rw [c4]; decide) (by rw [c4]; decide) (by rw [c4]; rfl) (by decide) ?_
      refine lv_aload_n hx hb d_MB_noted_80 rfl (lv_at hl 0 rfl) ?_
      refine g_get hx hb hts i_In hown hK.1 hP ft3 rfl 0 (by decide) (hts _ k_273) (fun _ h9 => h9) rfl d_MB_noted_81 ?_
      refine lv_i2l (v := (nI (iMk t3)).toInt64) hx hb d_MB_noted_84 rfl ?_
      exact W.lret hx hb hr (fun t ht _ => ⟨_, rfl, (by have e := nI_clamp (show j < 2 ^ 31 by omega); simp_all [sNoted, notA, xNONE, bI_num]), ht⟩) (fun _ h => nomatch h) d_MB_noted_85
    by_cases c5 : wh = 1
    · refine lv_tableIn (off := 61) (tgt := 86) hx hb d_MB_noted_25 (by rw [c5]; decide) (by rw [c5]; decide) (by rw [c5]; rfl) (by decide) ?_
      refine lv_aload_n hx hb d_MB_noted_86 rfl (lv_at hl 0 rfl) ?_
      refine g_get hx hb hts i_In hown hK.1 hP ft3 rfl 1 (by decide) (hts _ k_276) (fun _ h9 => h9) rfl d_MB_noted_87 ?_
      refine lv_i2l (v := (nI (iMt t3)).toInt64) hx hb d_MB_noted_90 rfl ?_
      exact W.lret hx hb hr (fun t ht _ => ⟨_, rfl, (by have e := nI_clamp (show j < 2 ^ 31 by omega); simp_all [sNoted, notA, xNONE, bI_num]), ht⟩) (fun _ h => nomatch h) d_MB_noted_91
    by_cases c6 : wh = 2
    · refine lv_tableIn (off := 67) (tgt := 92) hx hb d_MB_noted_25 (by rw [c6]; decide) (by rw [c6]; decide) (by rw [c6]; rfl) (by decide) ?_
      refine lv_aload_n hx hb d_MB_noted_92 rfl (lv_at hl 0 rfl) ?_
      refine g_get hx hb hts i_In hown hK.1 hP ft3 rfl 2 (by decide) (hts _ k_278) (fun _ h9 => h9) rfl d_MB_noted_93 ?_
      refine lv_i2l (v := ((iX t3).1).toInt64) hx hb d_MB_noted_96 rfl ?_
      exact W.lret hx hb hr (fun t ht _ => ⟨_, rfl, (by have e := nI_clamp (show j < 2 ^ 31 by omega); simp_all [sNoted, notA, xNONE, bI_num]), ht⟩) (fun _ h => nomatch h) d_MB_noted_97
    by_cases c7 : wh = 3
    · refine lv_tableIn (off := 73) (tgt := 98) hx hb d_MB_noted_25 (by rw [c7]; decide) (by rw [c7]; decide) (by rw [c7]; rfl) (by decide) ?_
      refine lv_aload_n hx hb d_MB_noted_98 rfl (lv_at hl 0 rfl) ?_
      refine g_get hx hb hts i_In hown hK.1 hP ft3 rfl 3 (by decide) (hts _ k_280) (fun _ h9 => h9) rfl d_MB_noted_99 ?_
      refine lv_i2l (v := ((iX t3).2.1).toInt64) hx hb d_MB_noted_102 rfl ?_
      exact W.lret hx hb hr (fun t ht _ => ⟨_, rfl, (by have e := nI_clamp (show j < 2 ^ 31 by omega); simp_all [sNoted, notA, xNONE, bI_num]), ht⟩) (fun _ h => nomatch h) d_MB_noted_103
    by_cases c8 : wh = 4
    · refine lv_tableIn (off := 79) (tgt := 104) hx hb d_MB_noted_25 (by rw [c8]; decide) (by rw [c8]; decide) (by rw [c8]; rfl) (by decide) ?_
      refine lv_aload_n hx hb d_MB_noted_104 rfl (lv_at hl 0 rfl) ?_
      refine g_get hx hb hts i_In hown hK.1 hP ft3 rfl 4 (by decide) (hts _ k_282) (fun _ h9 => h9) rfl d_MB_noted_105 ?_
      refine lv_i2l (v := ((iX t3).2.2).toInt64) hx hb d_MB_noted_108 rfl ?_
      exact W.lret hx hb hr (fun t ht _ => ⟨_, rfl, (by have e := nI_clamp (show j < 2 ^ 31 by omega); simp_all [sNoted, notA, xNONE, bI_num]), ht⟩) (fun _ h => nomatch h) d_MB_noted_109
    by_cases c9 : wh = 5
    · refine lv_tableIn (off := 85) (tgt := 110) hx hb d_MB_noted_25 (by rw [c9]; decide) (by rw [c9]; decide) (by rw [c9]; rfl) (by decide) ?_
      refine lv_aload_n hx hb d_MB_noted_110 rfl (lv_at hl 0 rfl) ?_
      refine g_get hx hb hts i_In hown hK.1 hP ft3 rfl 5 (by decide) (hts _ k_284) (fun _ h9 => h9) rfl d_MB_noted_111 ?_
      refine lv_i2l (v := (nI (iDp t3)).toInt64) hx hb d_MB_noted_114 rfl ?_
      exact W.lret hx hb hr (fun t ht _ => ⟨_, rfl, (by have e := nI_clamp (show j < 2 ^ 31 by omega); simp_all [sNoted, notA, xNONE, bI_num]), ht⟩) (fun _ h => nomatch h) d_MB_noted_115
    by_cases c10 : wh = 6
    · refine lv_tableIn (off := 91) (tgt := 116) hx hb d_MB_noted_25 (by rw [c10]; decide) (by rw [c10]; decide) (by rw [c10]; rfl) (by decide) ?_
      refine lv_aload_n hx hb d_MB_noted_116 rfl (lv_at hl 0 rfl) ?_
      refine g_get hx hb hts i_In hown hK.1 hP ft3 rfl 6 (by decide) (hts _ k_286) (fun _ h9 => h9) rfl d_MB_noted_117 ?_
      refine lv_i2l (v := (iFr t3).toInt64) hx hb d_MB_noted_120 rfl ?_
      exact W.lret hx hb hr (fun t ht _ => ⟨_, rfl, (by have e := nI_clamp (show j < 2 ^ 31 by omega); simp_all [sNoted, notA, xNONE, bI_num]), ht⟩) (fun _ h => nomatch h) d_MB_noted_121
    by_cases c11 : wh = 7
    · refine lv_tableIn (off := 97) (tgt := 122) hx hb d_MB_noted_25 (by rw [c11]; decide) (by rw [c11]; decide) (by rw [c11]; rfl) (by decide) ?_
      refine lv_aload_n hx hb d_MB_noted_122 rfl (lv_at hl 0 rfl) ?_
      refine g_get hx hb hts i_In hown hK.1 hP ft3 rfl 9 (by decide) (hts _ k_292) (fun _ h9 => h9) rfl d_MB_noted_123 ?_
      refine g_ri (g_runS (As := [.int (bI (iVe t3))]) (rest := []) ⟨hx, hb, hml, hown, hts⟩ (c_MB_asB l (iVe t3)) st_MB_asNumber k_250 ⟨rfl, rfl, by decide, by decide⟩ (gT_pre _) rfl hl.1 rfl (Nat.le_of_ble_eq_true rfl) d_MB_noted_126 ⟨by decide, by decide⟩) (fun r12 hr12 => ?_)
      subst hr12
      refine lv_i2l (v := (bI (iVe t3)).toInt64) hx hb d_MB_noted_129 rfl ?_
      exact W.lret hx hb hr (fun t ht _ => ⟨_, rfl, (by have e := nI_clamp (show j < 2 ^ 31 by omega); simp_all [sNoted, notA, xNONE, bI_num]), ht⟩) (fun _ h => nomatch h) d_MB_noted_130
    by_cases c13 : wh = 8
    · refine lv_tableIn (off := 106) (tgt := 131) hx hb d_MB_noted_25 (by rw [c13]; decide) (by rw [c13]; decide) (by rw [c13]; rfl) (by decide) ?_
      refine lv_aload_n hx hb d_MB_noted_131 rfl (lv_at hl 0 rfl) ?_
      refine g_get hx hb hts i_In hown hK.1 hP ft3 rfl 7 (by decide) (hts _ k_288) (fun _ h9 => h9) rfl d_MB_noted_132 ?_
      refine lv_i2l (v := (nI (iRu t3) - 1).toInt64) hx hb d_MB_noted_135 rfl ?_
      exact W.lret hx hb hr (fun t ht _ => ⟨_, rfl, (by have e := nI_clamp (show j < 2 ^ 31 by omega); simp_all [sNoted, notA, xNONE, bI_num]), ht⟩) (fun _ h => nomatch h) d_MB_noted_136
    by_cases c14 : wh = 9
    · refine lv_tableIn (off := 112) (tgt := 137) hx hb d_MB_noted_25 (by rw [c14]; decide) (by rw [c14]; decide) (by rw [c14]; rfl) (by decide) ?_
      refine lv_aload_n hx hb d_MB_noted_137 rfl (lv_at hl 0 rfl) ?_
      refine g_get hx hb hts i_In hown hK.1 hP ft3 rfl 10 (by decide) (hts _ k_294) (fun _ h9 => h9) rfl d_MB_noted_138 ?_
      refine g_ri (g_runS (As := [.int (bI (iLv t3))]) (rest := []) ⟨hx, hb, hml, hown, hts⟩ (c_MB_asB l (iLv t3)) st_MB_asNumber k_250 ⟨rfl, rfl, by decide, by decide⟩ (gT_pre _) rfl hl.1 rfl (Nat.le_of_ble_eq_true rfl) d_MB_noted_141 ⟨by decide, by decide⟩) (fun r15 hr15 => ?_)
      subst hr15
      refine lv_i2l (v := (bI (iLv t3)).toInt64) hx hb d_MB_noted_144 rfl ?_
      exact W.lret hx hb hr (fun t ht _ => ⟨_, rfl, (by have e := nI_clamp (show j < 2 ^ 31 by omega); simp_all [sNoted, notA, xNONE, bI_num]), ht⟩) (fun _ h => nomatch h) d_MB_noted_145
    refine lv_tableOut (tgt := 146) hx hb d_MB_noted_25 (by have q0 := lv_neT c4 (show (0 : Int32).toInt = 0 by decide); have q1 := lv_neT c5 (show (1 : Int32).toInt = 1 by decide); have q2 := lv_neT c6 (show (2 : Int32).toInt = 2 by decide); have q3 := lv_neT c7 (show (3 : Int32).toInt = 3 by decide); have q4 := lv_neT c8 (show (4 : Int32).toInt = 4 by decide); have q5 := lv_neT c9 (show (5 : Int32).toInt = 5 by decide); have q6 := lv_neT c10 (show (6 : Int32).toInt = 6 by decide); have q7 := lv_neT c11 (show (7 : Int32).toInt = 7 by decide); have q8 := lv_neT c13 (show (8 : Int32).toInt = 8 by decide); have q9 := lv_neT c14 (show (9 : Int32).toInt = 9 by decide); omega) (by decide) ?_
    refine lv_ldc2 (v := 60000000000) hx hb hown (hts _ k_257) d_MB_noted_146 ?_
    exact W.lret hx hb hr (fun t ht _ => ⟨_, rfl, (by have e := nI_clamp (show j < 2 ^ 31 by omega); simp_all [sNoted, notA, xNONE, bI_num]), ht⟩) (fun _ h => nomatch h) d_MB_noted_149
  · skip
    rw [bI_0] at c2
    refine lv_ldc2 (v := 60000000000) hx hb hown (hts _ k_257) d_MB_noted_8 ?_
    exact W.lret hx hb hr (fun t ht _ => ⟨_, rfl, (by simp_all [sNoted, notA, xNONE]), ht⟩) (fun _ h => nomatch h) d_MB_noted_11
set_option maxHeartbeats 4000000 in
set_option maxRecDepth 100000 in
theorem c_MB_answer (l : Launch) {D : va_G} {cI cZ cO cL : ClassId} {b e0 : Nat} {A : gW} {h : Nat} {σ : Bk} (hB : rBk cI cZ cO e0 A h σ) (hw : wf σ) (x : Int32) : Met l y_MB_answer (Cond.code y_MB_answer b_MB_answer 2 (some .long) :: TT) ({ frames := 3, cells := 0, slots := 0, locals := 64 }) (va_Pc [.ref h, .int x] (gI D [(cI, .int), (cZ, .boolean), (cO, .object "java/lang/Object"), (cL, .long)] b e0 A)) (vp_Sl (fun z => z = sAnswer σ x)) 0 0 (fun _ => False) := by
  refine Met.ofG (own := R_MB) (by decide +kernel) rfl (Nat.le_of_ble_eq_true rfl) ?_
  intro p e s m below meth c ls hx hb hr hlk hml hown hnm hts hI hl
  have hl : lv_has ls 2 [(0, .ref h), (1, .int x)] := hl
  obtain ⟨hP, hK⟩ := hI
  obtain ⟨ra, ia, sa, ua, aR, aI, aM, fs, fB, hLR, hLI, fS, hfs, hBu, hRs, hIs⟩ := id hB
  obtain ⟨w1, w2, w3, w4, w5, w6, w7, w8⟩ := id hw
  obtain ⟨moR, qR, capR, efR, fLR, -⟩ := id hLR
  obtain ⟨moI, qI, capI, efI, fLI, -⟩ := id hLI
  obtain ⟨hk, hv, fk, fv, fM, fK, fV, hn3, hms⟩ := id hBu
  refine lv_aload_n hx hb d_MB_answer_0 rfl (lv_at hl 0 rfl) ?_
  refine lv_iload_n hx hb d_MB_answer_1 rfl (lv_at hl 1 rfl) ?_
  refine g_ri (g_runV (As := [.int x]) (rest := []) ⟨hx, hb, hml, hown, hts⟩ (c_MB_isInteraction l hB hw x) st_MB_isInteraction k_413 ⟨rfl, rfl, by decide, by decide⟩ rfl (gI.preV hK va_S.rf hP fB rfl _) rfl hl.1 rfl (Nat.le_of_ble_eq_true rfl) d_MB_answer_2 ⟨by decide, by decide⟩) (fun r1 hr1 => ?_)
  subst hr1
  refine lv_if_eq (tgt := 25) hx hb d_MB_answer_5 (by decide) (fun c2 => ?_) (fun c2 => ?_)
  · skip
    rw [bI_0] at c2
    refine lv_ldc2 (v := 60000000000) hx hb hown (hts _ k_257) d_MB_answer_25 ?_
    exact W.lret hx hb hr (fun t ht _ => ⟨_, rfl, (by first | (simp_all [sAnswer, xNONE]; done) | (have e := nI_clamp (show j < 2 ^ 31 by omega); simp_all [sAnswer, xNONE])), ht⟩) (fun _ h => nomatch h) d_MB_answer_28
  · skip
    rw [bI_0] at c2
    obtain ⟨j, hj, rfl⟩ := inN (by omega) (by simpa using c2 : inR x 0 (nI (kIs σ).length - 1) = true)
    refine lv_aload_n hx hb d_MB_answer_8 rfl (lv_at hl 0 rfl) ?_
    refine g_get hx hb hts i_MB hown hK.1 hP fB rfl 1 (by decide) (hts _ k_69) (fun _ h9 => h9) rfl d_MB_answer_9 ?_
    refine lv_iload_n hx hb d_MB_answer_12 rfl (lv_at hl 1 rfl) ?_
    refine g_rr (g_runV (As := [.int (nI j)]) (rest := []) ⟨hx, hb, hml, hown, hts⟩ (c_AL_get l hLI (i := j) (by omega)) st_AL_get k_222 ⟨rfl, rfl, by decide, by decide⟩ rfl (gI.preV hK va_S.rf hP fLI rfl _) rfl hl.1 rfl (Nat.le_of_ble_eq_true rfl) d_MB_answer_13 ⟨by decide, by decide⟩) ?_
    obtain ⟨t3, ht3⟩ : ∃ z, z = (kIs σ).getD j i0 := ⟨_, rfl⟩
    have ft3 : rIn A j (aI j) t3 := by rw [ht3]; exact hIs j (by omega)
    have bt3 : wfI t3 := by rw [ht3]; exact (w4 j (by omega)).1
    obtain ⟨bt31, bt32⟩ := bt3
    refine va_castY (C := R_In) hx hb hown (hts _ k_263) (hK.2.1 _ (List.mem_of_getElem? (i := 6) rfl)) (va_recv (q0 := 0) hK.1 (hP.one ft3) rfl rfl) d_MB_answer_16 ?_
    refine g_get hx hb hts i_In hown hK.1 hP ft3 rfl 8 (by decide) (hts _ k_290) (fun _ h9 => h9) rfl d_MB_answer_19 ?_
    refine lv_goto (tgt := 28) hx hb d_MB_answer_22 (by decide) ?_
    exact W.lret hx hb hr (fun t ht _ => ⟨_, rfl, (by first | (simp_all [sAnswer, xNONE]; done) | (have e := nI_clamp (show j < 2 ^ 31 by omega); simp_all [sAnswer, xNONE])), ht⟩) (fun _ h => nomatch h) d_MB_answer_28
set_option maxHeartbeats 4000000 in
set_option maxRecDepth 100000 in
theorem c_MB_about (l : Launch) {D : va_G} {cI cZ cO cL : ClassId} {b e0 : Nat} {A : gW} {h : Nat} {σ : Bk} (hB : rBk cI cZ cO e0 A h σ) (hw : wf σ) (x wh : Int32) : Met l y_MB_about (Cond.code y_MB_about b_MB_about 4 (some .int) :: TT) ({ frames := 3, cells := 0, slots := 0, locals := 64 }) (va_Pc [.ref h, .int x, .int wh] (gI D [(cI, .int), (cZ, .boolean), (cO, .object "java/lang/Object"), (cL, .long)] b e0 A)) (vp_Si (fun z => z = sAbout σ x wh)) 0 0 (fun _ => False) := by
  refine Met.ofG (own := R_MB) (by decide +kernel) rfl (Nat.le_of_ble_eq_true rfl) ?_
  intro p e s m below meth c ls hx hb hr hlk hml hown hnm hts hI hl
  have hl : lv_has ls 4 [(0, .ref h), (1, .int x), (2, .int wh)] := hl
  obtain ⟨hP, hK⟩ := hI
  obtain ⟨ra, ia, sa, ua, aR, aI, aM, fs, fB, hLR, hLI, fS, hfs, hBu, hRs, hIs⟩ := id hB
  obtain ⟨w1, w2, w3, w4, w5, w6, w7, w8⟩ := id hw
  obtain ⟨moR, qR, capR, efR, fLR, -⟩ := id hLR
  obtain ⟨moI, qI, capI, efI, fLI, -⟩ := id hLI
  obtain ⟨hk, hv, fk, fv, fM, fK, fV, hn3, hms⟩ := id hBu
  refine lv_aload_n hx hb d_MB_about_0 rfl (lv_at hl 0 rfl) ?_
  refine lv_iload_n hx hb d_MB_about_1 rfl (lv_at hl 1 rfl) ?_
  refine g_ri (g_runV (As := [.int x]) (rest := []) ⟨hx, hb, hml, hown, hts⟩ (c_MB_isRule l hB hw x) st_MB_isRule k_218 ⟨rfl, rfl, by decide, by decide⟩ rfl (gI.preV hK va_S.rf hP fB rfl _) rfl hl.1 rfl (Nat.le_of_ble_eq_true rfl) d_MB_about_2 ⟨by decide, by decide⟩) (fun r1 hr1 => ?_)
  subst hr1
  refine lv_if_ne (tgt := 10) hx hb d_MB_about_5 (by decide) (fun c2 => ?_) (fun c2 => ?_)
  · skip
    rw [bI_0] at c2
    obtain ⟨j, hj, rfl⟩ := inN (by omega) (by simpa using c2 : inR x 0 (nI (kRs σ).length - 1) = true)
    refine lv_aload_n hx hb d_MB_about_10 rfl (lv_at hl 0 rfl) ?_
    refine g_get hx hb hts i_MB hown hK.1 hP fB rfl 0 (by decide) (hts _ k_68) (fun _ h9 => h9) rfl d_MB_about_11 ?_
    refine lv_iload_n hx hb d_MB_about_14 rfl (lv_at hl 1 rfl) ?_
    refine g_rr (g_runV (As := [.int (nI j)]) (rest := []) ⟨hx, hb, hml, hown, hts⟩ (c_AL_get l hLR (i := j) (by omega)) st_AL_get k_222 ⟨rfl, rfl, by decide, by decide⟩ rfl (gI.preV hK va_S.rf hP fLR rfl _) rfl hl.1 rfl (Nat.le_of_ble_eq_true rfl) d_MB_about_15 ⟨by decide, by decide⟩) ?_
    obtain ⟨r3, hr3⟩ : ∃ z, z = (kRs σ).getD j u0 := ⟨_, rfl⟩
    have fr3 : rRu cI A j (aR j) (aM j) r3 := by rw [hr3]; exact (hRs j (by omega)).2
    have mr3 : rMa cI A j (aM j) (uMs r3) := by rw [hr3]; exact (hRs j (by omega)).1
    have br3 : wfR r3 := by rw [hr3]; exact w3 j (by omega)
    obtain ⟨br31, br32, br33, br34, br35, br36, br37⟩ := br3
    obtain ⟨hk3, hv3, fk3, fv3, fR3, fK3, fV3, hn3, hac3⟩ := id fr3
    refine va_castY (C := R_Ru) hx hb hown (hts _ k_124) (hK.2.1 _ (List.mem_of_getElem? (i := 5) rfl)) (va_recv (q0 := 0) hK.1 (hP.one fR3) rfl rfl) d_MB_about_18 ?_
    refine lv_astore_n (lv' := [(3, .ref ((aR j))), (0, .ref h), (1, .int (nI j)), (2, .int wh)]) hx hb d_MB_about_21 rfl hl (by decide) rfl (fun ls hl => ?_)
    refine lv_iload_n hx hb d_MB_about_22 rfl (lv_at hl 3 rfl) ?_
    by_cases c4 : wh = 0
    · refine lv_tableIn (off := 25) (tgt := 48) hx hb d_MB_about_23 (by rw [c4]; decide) (by rw [c4]; decide) (by rw [c4]; rfl) (by decide) ?_
      refine lv_aload_n hx hb d_MB_about_48 rfl (lv_at hl 0 rfl) ?_
      refine g_get hx hb hts i_Ru hown hK.1 hP fR3 rfl 5 (by decide) (hts _ k_139) (fun _ h9 => h9) rfl d_MB_about_49 ?_
      exact W.iret hx hb hr (fun t ht _ => ⟨_, rfl, (by first | (simp_all [sAbout]; done) | (have e := nI_clamp (show j < 2 ^ 31 by omega); simp_all [sAbout, bI_num])), ht⟩) (fun _ h => nomatch h) d_MB_about_52
    by_cases c5 : wh = 1
    · refine lv_tableIn (off := 30) (tgt := 53) hx hb d_MB_about_23 (by rw [c5]; decide) (by rw [c5]; decide) (by rw [c5]; rfl) (by decide) ?_
      refine lv_aload_n hx hb d_MB_about_53 rfl (lv_at hl 0 rfl) ?_
      refine g_get hx hb hts i_Ru hown hK.1 hP fR3 rfl 6 (by decide) (hts _ k_141) (fun _ h9 => h9) rfl d_MB_about_54 ?_
      exact W.iret hx hb hr (fun t ht _ => ⟨_, rfl, (by first | (simp_all [sAbout]; done) | (have e := nI_clamp (show j < 2 ^ 31 by omega); simp_all [sAbout, bI_num])), ht⟩) (fun _ h => nomatch h) d_MB_about_57
    by_cases c6 : wh = 2
    · refine lv_tableIn (off := 35) (tgt := 58) hx hb d_MB_about_23 (by rw [c6]; decide) (by rw [c6]; decide) (by rw [c6]; rfl) (by decide) ?_
      refine lv_aload_n hx hb d_MB_about_58 rfl (lv_at hl 0 rfl) ?_
      refine g_get hx hb hts i_Ru hown hK.1 hP fR3 rfl 7 (by decide) (hts _ k_143) (fun _ h9 => h9) rfl d_MB_about_59 ?_
      refine g_ri (g_runS (As := [.int (bI (uLv r3))]) (rest := []) ⟨hx, hb, hml, hown, hts⟩ (c_MB_asB l (uLv r3)) st_MB_asNumber k_250 ⟨rfl, rfl, by decide, by decide⟩ (gT_pre _) rfl hl.1 rfl (Nat.le_of_ble_eq_true rfl) d_MB_about_62 ⟨by decide, by decide⟩) (fun r7 hr7 => ?_)
      subst hr7
      exact W.iret hx hb hr (fun t ht _ => ⟨_, rfl, (by first | (simp_all [sAbout]; done) | (have e := nI_clamp (show j < 2 ^ 31 by omega); simp_all [sAbout, bI_num])), ht⟩) (fun _ h => nomatch h) d_MB_about_65
    refine lv_tableOut (tgt := 66) hx hb d_MB_about_23 (by have q0 := lv_neT c4 (show (0 : Int32).toInt = 0 by decide); have q1 := lv_neT c5 (show (1 : Int32).toInt = 1 by decide); have q2 := lv_neT c6 (show (2 : Int32).toInt = 2 by decide); omega) (by decide) ?_
    refine lv_iconst (v := (-1)) hx hb d_MB_about_66 (by decide) ?_
    exact W.iret hx hb hr (fun t ht _ => ⟨_, rfl, (by first | (simp_all [sAbout]; done) | (have e := nI_clamp (show j < 2 ^ 31 by omega); simp_all [sAbout, bI_num])), ht⟩) (fun _ h => nomatch h) d_MB_about_67
  · skip
    rw [bI_0] at c2
    refine lv_iconst (v := (-1)) hx hb d_MB_about_8 (by decide) ?_
    exact W.iret hx hb hr (fun t ht _ => ⟨_, rfl, (by first | (simp_all [sAbout]; done) | (have e := nI_clamp (show j < 2 ^ 31 by omega); simp_all [sAbout, bI_num])), ht⟩) (fun _ h => nomatch h) d_MB_about_9
set_option maxHeartbeats 4000000 in
set_option maxRecDepth 100000 in
theorem c_MB_isSought (l : Launch) {D : va_G} {cI cZ cO cL : ClassId} {b e0 : Nat} {A : gW} {h : Nat} {σ : Bk} (hB : rBk cI cZ cO e0 A h σ) (hw : wf σ) {j h2 : Nat} {t : It} (hi : rIn A j h2 t) (b3 : iMk t < 4) (b4 : iMt t < 8) {mk mt : Nat} (b1 : mk < 4) (b2 : mt < 8) : Met l y_MB_isSought (Cond.code y_MB_isSought b_MB_isSought 4 (some .boolean) :: TT) ({ frames := 3, cells := 0, slots := 0, locals := 66 }) (va_Pc [.ref h, .ref h2, .int (nI mk), .int (nI mt)] (gI D [(cI, .int), (cZ, .boolean), (cO, .object "java/lang/Object"), (cL, .long)] b e0 A)) (vp_Si (fun z => z = bI (iAsk (kBu σ) mk mt t))) 0 0 (fun _ => False) := by
  refine Met.ofG (own := R_MB) (by decide +kernel) rfl (Nat.le_of_ble_eq_true rfl) ?_
  intro p e s m below meth c ls hx hb hr hlk hml hown hnm hts hI hl
  have hl : lv_has ls 4 [(0, .ref h), (1, .ref h2), (2, .int (nI mk)), (3, .int (nI mt))] := hl
  obtain ⟨hP, hK⟩ := hI
  obtain ⟨ra, ia, sa, ua, aR, aI, aM, fs, fB, hLR, hLI, fS, hfs, hBu, hRs, hIs⟩ := id hB
  obtain ⟨w1, w2, w3, w4, w5, w6, w7, w8⟩ := id hw
  obtain ⟨moR, qR, capR, efR, fLR, -⟩ := id hLR
  obtain ⟨moI, qI, capI, efI, fLI, -⟩ := id hLI
  obtain ⟨hk, hv, fk, fv, fM, fK, fV, hn3, hms⟩ := id hBu
  refine lv_aload_n hx hb d_MB_isSought_0 rfl (lv_at hl 1 rfl) ?_
  refine g_get hx hb hts i_In hown hK.1 hP hi rfl 10 (by decide) (hts _ k_294) (fun _ h9 => h9) rfl d_MB_isSought_1 ?_
  refine lv_if_eq (tgt := 38) hx hb d_MB_isSought_4 (by decide) (fun c1 => ?_) (fun c1 => ?_)
  · skip
    rw [bI_0] at c1
    refine lv_iconst (v := 0) hx hb d_MB_isSought_38 (by decide) ?_
    exact W.zret hx hb hr rfl (fun t ht _ => ⟨_, rfl, (by simp_all [iAsk, bI]), ht⟩) (fun _ h => nomatch h) d_MB_isSought_39
  · skip
    rw [bI_0] at c1
    refine lv_aload_n hx hb d_MB_isSought_7 rfl (lv_at hl 1 rfl) ?_
    refine g_get hx hb hts i_In hown hK.1 hP hi rfl 0 (by decide) (hts _ k_273) (fun _ h9 => h9) rfl d_MB_isSought_8 ?_
    refine lv_iload_n hx hb d_MB_isSought_11 rfl (lv_at hl 2 rfl) ?_
    refine lv_icmp_ne (tgt := 38) hx hb d_MB_isSought_12 (by decide) (fun c2 => ?_) (fun c2 => ?_)
    · skip
      rw [nI_eq (by omega) (by omega)] at c2
      refine lv_iconst (v := 0) hx hb d_MB_isSought_38 (by decide) ?_
      exact W.zret hx hb hr rfl (fun t ht _ => ⟨_, rfl, (by simp_all [iAsk, bI]), ht⟩) (fun _ h => nomatch h) d_MB_isSought_39
    · skip
      rw [nI_eq (by omega) (by omega)] at c2
      refine lv_aload_n hx hb d_MB_isSought_15 rfl (lv_at hl 1 rfl) ?_
      refine g_get hx hb hts i_In hown hK.1 hP hi rfl 1 (by decide) (hts _ k_276) (fun _ h9 => h9) rfl d_MB_isSought_16 ?_
      refine lv_iload_n hx hb d_MB_isSought_19 rfl (lv_at hl 3 rfl) ?_
      refine lv_icmp_ne (tgt := 38) hx hb d_MB_isSought_20 (by decide) (fun c3 => ?_) (fun c3 => ?_)
      · skip
        rw [nI_eq (by omega) (by omega)] at c3
        refine lv_iconst (v := 0) hx hb d_MB_isSought_38 (by decide) ?_
        exact W.zret hx hb hr rfl (fun t ht _ => ⟨_, rfl, (by simp_all [iAsk, bI]), ht⟩) (fun _ h => nomatch h) d_MB_isSought_39
      · skip
        rw [nI_eq (by omega) (by omega)] at c3
        refine lv_aload_n hx hb d_MB_isSought_23 rfl (lv_at hl 0 rfl) ?_
        refine g_get hx hb hts i_MB hown hK.1 hP fB rfl 3 (by decide) (hts _ k_71) (fun _ h9 => h9) rfl d_MB_isSought_24 ?_
        refine lv_aload_n hx hb d_MB_isSought_27 rfl (lv_at hl 1 rfl) ?_
        refine g_ri (g_runV (As := [.ref h2]) (rest := []) ⟨hx, hb, hml, hown, hts⟩ (c_Ma_fit l hBu hi) st_Ma_fit k_369 ⟨rfl, rfl, by decide, by decide⟩ rfl (gI.preV hK va_S.rf hP fM rfl _) rfl hl.1 rfl (Nat.le_of_ble_eq_true rfl) d_MB_isSought_28 ⟨by decide, by decide⟩) (fun r4 hr4 => ?_)
        subst hr4
        refine lv_if_eq (tgt := 38) hx hb d_MB_isSought_31 (by decide) (fun c5 => ?_) (fun c5 => ?_)
        · skip
          rw [bI_0] at c5
          refine lv_iconst (v := 0) hx hb d_MB_isSought_38 (by decide) ?_
          exact W.zret hx hb hr rfl (fun t ht _ => ⟨_, rfl, (by simp_all [iAsk, bI]), ht⟩) (fun _ h => nomatch h) d_MB_isSought_39
        · skip
          rw [bI_0] at c5
          refine lv_iconst (v := 1) hx hb d_MB_isSought_34 (by decide) ?_
          refine lv_goto (tgt := 39) hx hb d_MB_isSought_35 (by decide) ?_
          exact W.zret hx hb hr rfl (fun t ht _ => ⟨_, rfl, (by simp_all [iAsk, bI]), ht⟩) (fun _ h => nomatch h) d_MB_isSought_39
