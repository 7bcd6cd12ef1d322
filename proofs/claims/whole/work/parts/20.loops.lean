theorem nI_z {a : Nat} (h : a < 2 ^ 31) : nI a = 0 ↔ a = 0 := by rw [← nI_0, nI_eq h (by decide)]
set_option maxHeartbeats 4000000 in
set_option maxRecDepth 100000 in
theorem c_MB_ruleNumberFor (l : Launch) {D : va_G} {cI cZ cO cL : ClassId} {b e0 : Nat} {A : gW} {h : Nat} {σ : Bk} (hB : rBk cI cZ cO e0 A h σ) (hw : wf σ) {j h2 : Nat} {t : It} (hi : rIn A j h2 t) (b3 : iMk t < 4) (b4 : iMt t < 8) : Met l y_MB_ruleNumberFor (Cond.code y_MB_ruleNumberFor b_MB_ruleNumberFor 3 (some .int) :: TT) ({ frames := 4, cells := 0, slots := 0, locals := 87 }) (va_Pc [.ref h, .ref h2] (gI D [(cI, .int), (cZ, .boolean), (cO, .object "java/lang/Object"), (cL, .long)] b e0 A)) (vp_Si (fun z => z = nI (ruFor (kRs σ) (iMk t) (iMt t) (iX t)) - 1)) 0 0 (fun _ => False) := by
  refine Met.ofG (own := R_MB) (by decide +kernel) rfl (Nat.le_of_ble_eq_true rfl) ?_
  intro p e s m below meth c ls hx hb hr hlk hml hown hnm hts hI hl
  have hl : lv_has ls 3 [(0, .ref h), (1, .ref h2)] := hl
  obtain ⟨hP, hK⟩ := hI
  obtain ⟨ra, ia, sa, ua, aR, aI, aM, fs, fB, hLR, hLI, fS, hfs, hBu, hRs, hIs⟩ := id hB
  obtain ⟨w1, w2, w3, w4, w5, w6, w7, w8⟩ := id hw
  obtain ⟨moR, qR, capR, efR, fLR, -⟩ := id hLR
  obtain ⟨moI, qI, capI, efI, fLI, -⟩ := id hLI
  obtain ⟨hk, hv, fk, fv, fM, fK, fV, hn3, hms⟩ := id hBu
  refine lv_aload_n hx hb d_MB_ruleNumberFor_0 rfl (lv_at hl 0 rfl) ?_
  refine g_get hx hb hts i_MB hown hK.1 hP fB rfl 0 (by decide) (hts _ k_68) (fun _ h9 => h9) rfl d_MB_ruleNumberFor_1 ?_
  refine g_ri (g_runV (As := []) (rest := []) ⟨hx, hb, hml, hown, hts⟩ (c_AL_size l hLR) st_AL_size k_120 ⟨rfl, rfl, by decide, by decide⟩ rfl (gI.preV hK va_S.rf hP fLR rfl _) rfl hl.1 rfl (Nat.le_of_ble_eq_true rfl) d_MB_ruleNumberFor_4 ⟨by decide, by decide⟩) (fun r1 hr1 => ?_)
  subst hr1
  refine lv_iconst (v := 1) hx hb d_MB_ruleNumberFor_7 (by decide) ?_
  refine lv_isub hx hb d_MB_ruleNumberFor_8 ?_
  refine lv_istore_n (lv' := [(2, .int ((nI (kRs σ).length) - 1)), (0, .ref h), (1, .ref h2)]) hx hb d_MB_ruleNumberFor_9 rfl hl (by decide) rfl (fun ls hl => ?_)
  obtain ⟨n, hn⟩ : ∃ z : Nat, z = (kRs σ).length := ⟨_, rfl⟩
  replace hl : lv_has ls 3 [(2, .int (nI n - 1)), (0, .ref h), (1, .ref h2)] := by rw [hn]; exact hl
  have hinv : lst (fun i => uAns ((kRs σ).getD i u0) (iMk t) (iMt t) (iX t)) n = ruFor (kRs σ) (iMk t) (iMt t) (iX t) := by rw [hn]; rfl
  have hle : n ≤ (kRs σ).length := by omega
  clear hn
  induction n generalizing ls with
  | zero =>
    refine lv_iload_n hx hb d_MB_ruleNumberFor_10 rfl (lv_at hl 0 rfl) ?_
    refine lv_if_lt (tgt := 40) hx hb d_MB_ruleNumberFor_11 (by decide) (fun _ => ?_) (fun h9 => absurd (by decide : nI 0 - 1 < 0) h9)
    refine lv_iconst (v := (-1)) hx hb d_MB_ruleNumberFor_40 (by decide) ?_
    exact W.iret hx hb hr (fun t ht _ => ⟨_, rfl, (by rw [← hinv]; show (-1 : Int32) = nI 0 - 1; decide), ht⟩) (fun _ h => nomatch h) d_MB_ruleNumberFor_41
  | succ n ih =>
    rw [nI_pred] at hl
    refine lv_iload_n hx hb d_MB_ruleNumberFor_10 rfl (lv_at hl 0 rfl) ?_
    refine lv_if_lt (tgt := 40) hx hb d_MB_ruleNumberFor_11 (by decide) (fun h9 => absurd h9 (nI_pos (show n < 2 ^ 31 by omega))) (fun _ => ?_)
    refine lv_aload_n hx hb d_MB_ruleNumberFor_14 rfl (lv_at hl 1 rfl) ?_
    refine g_get hx hb hts i_MB hown hK.1 hP fB rfl 0 (by decide) (hts _ k_68) (fun _ h9 => h9) rfl d_MB_ruleNumberFor_15 ?_
    refine lv_iload_n hx hb d_MB_ruleNumberFor_18 rfl (lv_at hl 0 rfl) ?_
    refine g_rr (g_runV (As := [.int (nI n)]) (rest := []) ⟨hx, hb, hml, hown, hts⟩ (c_AL_get l hLR (i := n) (by omega)) st_AL_get k_222 ⟨rfl, rfl, by decide, by decide⟩ rfl (gI.preV hK va_S.rf hP fLR rfl _) rfl hl.1 rfl (Nat.le_of_ble_eq_true rfl) d_MB_ruleNumberFor_19 ⟨by decide, by decide⟩) ?_
    obtain ⟨r4, hr4⟩ : ∃ z, z = (kRs σ).getD n u0 := ⟨_, rfl⟩
    have fr4 : rRu cI A n (aR n) (aM n) r4 := by rw [hr4]; exact (hRs n (by omega)).2
    have mr4 : rMa cI A n (aM n) (uMs r4) := by rw [hr4]; exact (hRs n (by omega)).1
    have br4 : wfR r4 := by rw [hr4]; exact w3 n (by omega)
    obtain ⟨br41, br42, br43, br44, br45, br46, br47⟩ := br4
    obtain ⟨hk4, hv4, fk4, fv4, fR4, fK4, fV4, hn4, hac4⟩ := id fr4
    refine va_castY (C := R_Ru) hx hb hown (hts _ k_124) (hK.2.1 _ (List.mem_of_getElem? (i := 5) rfl)) (va_recv (q0 := 0) hK.1 (hP.one fR4) rfl rfl) d_MB_ruleNumberFor_22 ?_
    refine lv_aload_n hx hb d_MB_ruleNumberFor_25 rfl (lv_at hl 2 rfl) ?_
    refine g_ri (g_runV (As := [.ref h2]) (rest := []) ⟨hx, hb, hml, hown, hts⟩ (c_Ru_answersTo l fr4 mr4 hi (by omega) (by omega) (by omega) (by omega)) st_Ru_answersTo k_322 ⟨rfl, rfl, by decide, by decide⟩ rfl (gI.preV hK va_S.rf hP fR4 rfl _) rfl hl.1 rfl (Nat.le_of_ble_eq_true rfl) d_MB_ruleNumberFor_26 ⟨by decide, by decide⟩) (fun r5 hr5 => ?_)
    subst hr5
    refine lv_if_eq (tgt := 34) hx hb d_MB_ruleNumberFor_29 (by decide) (fun c6 => ?_) (fun c6 => ?_)
    · skip
      rw [bI_0] at c6
      refine lv_iinc (v := nI n - 1) (lv' := [(2, .int (nI n - 1)), (0, .ref h), (1, .ref h2)]) hx hb d_MB_ruleNumberFor_34 hl (k := 0) rfl (dec1 _) (by decide) rfl (fun ls hl => ?_)
      refine lv_goto (tgt := 10) hx hb d_MB_ruleNumberFor_37 (by decide) ?_
      exact ih _ (lv_sub hl [0, 1, 2] rfl) (by simp_all [lst]) (by omega)
    · skip
      rw [bI_0] at c6
      refine lv_iload_n hx hb d_MB_ruleNumberFor_32 rfl (lv_at hl 0 rfl) ?_
      exact W.iret hx hb hr (fun t ht _ => ⟨_, rfl, (by rw [← hinv]; simp_all [lst, nI_pred]), ht⟩) (fun _ h => nomatch h) d_MB_ruleNumberFor_33
set_option maxHeartbeats 4000000 in
set_option maxRecDepth 100000 in
theorem c_MB_countSought (l : Launch) {D : va_G} {cI cZ cO cL : ClassId} {b e0 : Nat} {A : gW} {h : Nat} {σ : Bk} (hB : rBk cI cZ cO e0 A h σ) (hw : wf σ) {mk mt : Nat} (b1 : mk < 4) (b2 : mt < 8) : Met l y_MB_countSought (Cond.code y_MB_countSought b_MB_countSought 5 (some .int) :: TT) ({ frames := 4, cells := 0, slots := 0, locals := 89 }) (va_Pc [.ref h, .int (nI mk), .int (nI mt)] (gI D [(cI, .int), (cZ, .boolean), (cO, .object "java/lang/Object"), (cL, .long)] b e0 A)) (vp_Si (fun z => z = nI (cnt (qAsk σ mk mt) (kIs σ).length))) 0 0 (fun _ => False) := by
  refine Met.ofG (own := R_MB) (by decide +kernel) rfl (Nat.le_of_ble_eq_true rfl) ?_
  intro p e s m below meth c ls hx hb hr hlk hml hown hnm hts hI hl
  have hl : lv_has ls 5 [(0, .ref h), (1, .int (nI mk)), (2, .int (nI mt))] := hl
  obtain ⟨hP, hK⟩ := hI
  obtain ⟨ra, ia, sa, ua, aR, aI, aM, fs, fB, hLR, hLI, fS, hfs, hBu, hRs, hIs⟩ := id hB
  obtain ⟨w1, w2, w3, w4, w5, w6, w7, w8⟩ := id hw
  obtain ⟨moR, qR, capR, efR, fLR, -⟩ := id hLR
  obtain ⟨moI, qI, capI, efI, fLI, -⟩ := id hLI
  obtain ⟨hk, hv, fk, fv, fM, fK, fV, hn3, hms⟩ := id hBu
  refine lv_iconst (v := 0) hx hb d_MB_countSought_0 (by decide) ?_
  refine lv_istore_n (lv' := [(3, .int 0), (0, .ref h), (1, .int (nI mk)), (2, .int (nI mt))]) hx hb d_MB_countSought_1 rfl hl (by decide) rfl (fun ls hl => ?_)
  refine lv_iconst (v := 0) hx hb d_MB_countSought_2 (by decide) ?_
  refine lv_istore (lv' := [(4, .int 0), (3, .int 0), (0, .ref h), (1, .int (nI mk)), (2, .int (nI mt))]) hx hb d_MB_countSought_3 hl (by decide) rfl (fun ls hl => ?_)
  obtain ⟨i, hi0⟩ : ∃ z : Nat, z = 0 := ⟨_, rfl⟩
  obtain ⟨cn, hcn0⟩ : ∃ z : Nat, z = 0 := ⟨_, rfl⟩
  obtain ⟨n, hn⟩ : ∃ z : Nat, i + z = (kIs σ).length := ⟨(kIs σ).length - i, by omega⟩
  replace hl : lv_has ls 5 [(4, .int (nI i)), (3, .int (nI cn)), (0, .ref h), (1, .int (nI mk)), (2, .int (nI mt))] := by rw [hi0, hcn0, nI_0]; exact hl
  have hinv : cn = cnt (qAsk σ mk mt) i := by subst hi0 hcn0; rfl
  clear hi0 hcn0
  induction n generalizing i cn ls with
  | zero =>
    refine lv_iload hx hb d_MB_countSought_5 (lv_at hl 0 rfl) ?_
    refine lv_aload_n hx hb d_MB_countSought_7 rfl (lv_at hl 2 rfl) ?_
    refine g_get hx hb hts i_MB hown hK.1 hP fB rfl 1 (by decide) (hts _ k_69) (fun _ h9 => h9) rfl d_MB_countSought_8 ?_
    refine g_ri (g_runV (As := []) (rest := [.int (nI i)]) ⟨hx, hb, hml, hown, hts⟩ (c_AL_size l hLI) st_AL_size k_120 ⟨rfl, rfl, by decide, by decide⟩ rfl (gI.preV hK va_S.rf hP fLI rfl _) rfl hl.1 rfl (Nat.le_of_ble_eq_true rfl) d_MB_countSought_11 ⟨by decide, by decide⟩) (fun r1 hr1 => ?_)
    subst hr1
    refine lv_icmp_ge (tgt := 47) hx hb d_MB_countSought_14 (by decide) (fun _ => ?_) (fun h9 => absurd (nI_le (show (kIs σ).length ≤ i by omega) (by omega)) h9)
    refine lv_iload_n hx hb d_MB_countSought_47 rfl (lv_at hl 1 rfl) ?_
    exact W.iret hx hb hr (fun t ht _ => ⟨_, rfl, (by rw [hinv, show i = (kIs σ).length by omega]), ht⟩) (fun _ h => nomatch h) d_MB_countSought_48
  | succ n ih =>
    refine lv_iload hx hb d_MB_countSought_5 (lv_at hl 0 rfl) ?_
    refine lv_aload_n hx hb d_MB_countSought_7 rfl (lv_at hl 2 rfl) ?_
    refine g_get hx hb hts i_MB hown hK.1 hP fB rfl 1 (by decide) (hts _ k_69) (fun _ h9 => h9) rfl d_MB_countSought_8 ?_
    refine g_ri (g_runV (As := []) (rest := [.int (nI i)]) ⟨hx, hb, hml, hown, hts⟩ (c_AL_size l hLI) st_AL_size k_120 ⟨rfl, rfl, by decide, by decide⟩ rfl (gI.preV hK va_S.rf hP fLI rfl _) rfl hl.1 rfl (Nat.le_of_ble_eq_true rfl) d_MB_countSought_11 ⟨by decide, by decide⟩) (fun r3 hr3 => ?_)
    subst hr3
    refine lv_icmp_ge (tgt := 47) hx hb d_MB_countSought_14 (by decide) (fun h9 => absurd h9 (nI_ge (show i < (kIs σ).length by omega) (by omega))) (fun _ => ?_)
    refine lv_aload_n hx hb d_MB_countSought_17 rfl (lv_at hl 2 rfl) ?_
    refine lv_aload_n hx hb d_MB_countSought_18 rfl (lv_at hl 2 rfl) ?_
    refine g_get hx hb hts i_MB hown hK.1 hP fB rfl 1 (by decide) (hts _ k_69) (fun _ h9 => h9) rfl d_MB_countSought_19 ?_
    refine lv_iload hx hb d_MB_countSought_22 (lv_at hl 0 rfl) ?_
    refine g_rr (g_runV (As := [.int (nI i)]) (rest := [.ref h]) ⟨hx, hb, hml, hown, hts⟩ (c_AL_get l hLI (i := i) (by omega)) st_AL_get k_222 ⟨rfl, rfl, by decide, by decide⟩ rfl (gI.preV hK va_S.rf hP fLI rfl _) rfl hl.1 rfl (Nat.le_of_ble_eq_true rfl) d_MB_countSought_24 ⟨by decide, by decide⟩) ?_
    obtain ⟨t5, ht5⟩ : ∃ z, z = (kIs σ).getD i i0 := ⟨_, rfl⟩
    have ft5 : rIn A i (aI i) t5 := by rw [ht5]; exact hIs i (by omega)
    have bt5 : wfI t5 := by rw [ht5]; exact (w4 i (by omega)).1
    obtain ⟨bt51, bt52⟩ := bt5
    refine va_castY (C := R_In) hx hb hown (hts _ k_263) (hK.2.1 _ (List.mem_of_getElem? (i := 6) rfl)) (va_recv (q0 := 0) hK.1 (hP.one ft5) rfl rfl) d_MB_countSought_27 ?_
    refine lv_iload_n hx hb d_MB_countSought_30 rfl (lv_at hl 3 rfl) ?_
    refine lv_iload_n hx hb d_MB_countSought_31 rfl (lv_at hl 4 rfl) ?_
    refine g_ri (g_runV (As := [.ref ((aI i)), .int (nI mk), .int (nI mt)]) (rest := []) ⟨hx, hb, hml, hown, hts⟩ (c_MB_isSought l hB hw ft5 (by omega) (by omega) (by omega) (by omega)) st_MB_isSought k_365 ⟨rfl, rfl, by decide, by decide⟩ rfl (gI.preV hK va_S.rf hP fB rfl _) rfl hl.1 rfl (Nat.le_of_ble_eq_true rfl) d_MB_countSought_32 ⟨by decide, by decide⟩) (fun r6 hr6 => ?_)
    subst hr6
    refine lv_if_eq (tgt := 41) hx hb d_MB_countSought_35 (by decide) (fun c7 => ?_) (fun c7 => ?_)
    · skip
      rw [bI_0] at c7
      refine lv_iinc (v := nI (i + 1)) (lv' := [(4, .int (nI (i + 1))), (3, .int (nI cn)), (0, .ref h), (1, .int (nI mk)), (2, .int (nI mt))]) hx hb d_MB_countSought_41 hl (k := 0) rfl (nI_1 _) (by decide) rfl (fun ls hl => ?_)
      refine lv_goto (tgt := 5) hx hb d_MB_countSought_44 (by decide) ?_
      exact ih _ _ _ (by omega) (lv_sub hl [0, 1, 2, 3, 4] rfl) (by simp_all [cnt, qAsk])
    · skip
      rw [bI_0] at c7
      refine lv_iinc (v := nI (cn + 1)) (lv' := [(3, .int (nI (cn + 1))), (4, .int (nI i)), (0, .ref h), (1, .int (nI mk)), (2, .int (nI mt))]) hx hb d_MB_countSought_38 hl (k := 1) rfl (nI_1 _) (by decide) rfl (fun ls hl => ?_)
      refine lv_iinc (v := nI (i + 1)) (lv' := [(4, .int (nI (i + 1))), (3, .int (nI (cn + 1))), (0, .ref h), (1, .int (nI mk)), (2, .int (nI mt))]) hx hb d_MB_countSought_41 hl (k := 1) rfl (nI_1 _) (by decide) rfl (fun ls hl => ?_)
      refine lv_goto (tgt := 5) hx hb d_MB_countSought_44 (by decide) ?_
      exact ih _ _ _ (by omega) (lv_sub hl [0, 1, 2, 3, 4] rfl) (by simp_all [cnt, qAsk])
set_option maxHeartbeats 4000000 in
set_option maxRecDepth 100000 in
theorem c_MB_countLiveInteractions (l : Launch) {D : va_G} {cI cZ cO cL : ClassId} {b e0 : Nat} {A : gW} {h : Nat} {σ : Bk} (hB : rBk cI cZ cO e0 A h σ) (hw : wf σ) (z : Int32) : Met l y_MB_countLiveInteractions (Cond.code y_MB_countLiveInteractions b_MB_countLiveInteractions 5 (some .int) :: TT) ({ frames := 3, cells := 0, slots := 0, locals := 64 }) (va_Pc [.ref h, .int z] (gI D [(cI, .int), (cZ, .boolean), (cO, .object "java/lang/Object"), (cL, .long)] b e0 A)) (vp_Si (fun y => y = nI (cnt (qCnt σ z) (kIs σ).length))) 0 0 (fun _ => False) := by
  refine Met.ofG (own := R_MB) (by decide +kernel) rfl (Nat.le_of_ble_eq_true rfl) ?_
  intro p e s m below meth c ls hx hb hr hlk hml hown hnm hts hI hl
  have hl : lv_has ls 5 [(0, .ref h), (1, .int z)] := hl
  obtain ⟨hP, hK⟩ := hI
  obtain ⟨ra, ia, sa, ua, aR, aI, aM, fs, fB, hLR, hLI, fS, hfs, hBu, hRs, hIs⟩ := id hB
  obtain ⟨w1, w2, w3, w4, w5, w6, w7, w8⟩ := id hw
  obtain ⟨moR, qR, capR, efR, fLR, -⟩ := id hLR
  obtain ⟨moI, qI, capI, efI, fLI, -⟩ := id hLI
  obtain ⟨hk, hv, fk, fv, fM, fK, fV, hn3, hms⟩ := id hBu
  refine lv_iconst (v := 0) hx hb d_MB_countLiveInteractions_0 (by decide) ?_
  refine lv_istore_n (lv' := [(2, .int 0), (0, .ref h), (1, .int z)]) hx hb d_MB_countLiveInteractions_1 rfl hl (by decide) rfl (fun ls hl => ?_)
  refine lv_iconst (v := 0) hx hb d_MB_countLiveInteractions_2 (by decide) ?_
  refine lv_istore_n (lv' := [(3, .int 0), (2, .int 0), (0, .ref h), (1, .int z)]) hx hb d_MB_countLiveInteractions_3 rfl hl (by decide) rfl (fun ls hl => ?_)
  obtain ⟨i, hi0⟩ : ∃ z : Nat, z = 0 := ⟨_, rfl⟩
  obtain ⟨cn, hcn0⟩ : ∃ z : Nat, z = 0 := ⟨_, rfl⟩
  obtain ⟨n, hn⟩ : ∃ z : Nat, i + z = (kIs σ).length := ⟨(kIs σ).length - i, by omega⟩
  replace hl : lv_has ls 5 [(3, .int (nI i)), (2, .int (nI cn)), (0, .ref h), (1, .int z)] := by rw [hi0, hcn0, nI_0]; exact hl
  have hinv : cn = cnt (qCnt σ z) i := by subst hi0 hcn0; rfl
  clear hi0 hcn0
  induction n generalizing i cn ls with
  | zero =>
    refine lv_iload_n hx hb d_MB_countLiveInteractions_4 rfl (lv_at hl 0 rfl) ?_
    refine lv_aload_n hx hb d_MB_countLiveInteractions_5 rfl (lv_at hl 2 rfl) ?_
    refine g_get hx hb hts i_MB hown hK.1 hP fB rfl 1 (by decide) (hts _ k_69) (fun _ h9 => h9) rfl d_MB_countLiveInteractions_6 ?_
    refine g_ri (g_runV (As := []) (rest := [.int (nI i)]) ⟨hx, hb, hml, hown, hts⟩ (c_AL_size l hLI) st_AL_size k_120 ⟨rfl, rfl, by decide, by decide⟩ rfl (gI.preV hK va_S.rf hP fLI rfl _) rfl hl.1 rfl (Nat.le_of_ble_eq_true rfl) d_MB_countLiveInteractions_9 ⟨by decide, by decide⟩) (fun r1 hr1 => ?_)
    subst hr1
    refine lv_icmp_ge (tgt := 57) hx hb d_MB_countLiveInteractions_12 (by decide) (fun _ => ?_) (fun h9 => absurd (nI_le (show (kIs σ).length ≤ i by omega) (by omega)) h9)
    refine lv_iload_n hx hb d_MB_countLiveInteractions_57 rfl (lv_at hl 1 rfl) ?_
    exact W.iret hx hb hr (fun t ht _ => ⟨_, rfl, (by rw [hinv, show i = (kIs σ).length by omega]), ht⟩) (fun _ h => nomatch h) d_MB_countLiveInteractions_58
  | succ n ih =>
    refine lv_iload_n hx hb d_MB_countLiveInteractions_4 rfl (lv_at hl 0 rfl) ?_
    refine lv_aload_n hx hb d_MB_countLiveInteractions_5 rfl (lv_at hl 2 rfl) ?_
    refine g_get hx hb hts i_MB hown hK.1 hP fB rfl 1 (by decide) (hts _ k_69) (fun _ h9 => h9) rfl d_MB_countLiveInteractions_6 ?_
    refine g_ri (g_runV (As := []) (rest := [.int (nI i)]) ⟨hx, hb, hml, hown, hts⟩ (c_AL_size l hLI) st_AL_size k_120 ⟨rfl, rfl, by decide, by decide⟩ rfl (gI.preV hK va_S.rf hP fLI rfl _) rfl hl.1 rfl (Nat.le_of_ble_eq_true rfl) d_MB_countLiveInteractions_9 ⟨by decide, by decide⟩) (fun r3 hr3 => ?_)
    subst hr3
    refine lv_icmp_ge (tgt := 57) hx hb d_MB_countLiveInteractions_12 (by decide) (fun h9 => absurd h9 (nI_ge (show i < (kIs σ).length by omega) (by omega))) (fun _ => ?_)
    refine lv_aload_n hx hb d_MB_countLiveInteractions_15 rfl (lv_at hl 2 rfl) ?_
    refine g_get hx hb hts i_MB hown hK.1 hP fB rfl 1 (by decide) (hts _ k_69) (fun _ h9 => h9) rfl d_MB_countLiveInteractions_16 ?_
    refine lv_iload_n hx hb d_MB_countLiveInteractions_19 rfl (lv_at hl 0 rfl) ?_
    refine g_rr (g_runV (As := [.int (nI i)]) (rest := []) ⟨hx, hb, hml, hown, hts⟩ (c_AL_get l hLI (i := i) (by omega)) st_AL_get k_222 ⟨rfl, rfl, by decide, by decide⟩ rfl (gI.preV hK va_S.rf hP fLI rfl _) rfl hl.1 rfl (Nat.le_of_ble_eq_true rfl) d_MB_countLiveInteractions_20 ⟨by decide, by decide⟩) ?_
    obtain ⟨t5, ht5⟩ : ∃ z, z = (kIs σ).getD i i0 := ⟨_, rfl⟩
    have ft5 : rIn A i (aI i) t5 := by rw [ht5]; exact hIs i (by omega)
    have bt5 : wfI t5 := by rw [ht5]; exact (w4 i (by omega)).1
    obtain ⟨bt51, bt52⟩ := bt5
    refine va_castY (C := R_In) hx hb hown (hts _ k_263) (hK.2.1 _ (List.mem_of_getElem? (i := 6) rfl)) (va_recv (q0 := 0) hK.1 (hP.one ft5) rfl rfl) d_MB_countLiveInteractions_23 ?_
    refine lv_astore (lv' := [(4, .ref ((aI i))), (3, .int (nI i)), (2, .int (nI cn)), (0, .ref h), (1, .int z)]) hx hb d_MB_countLiveInteractions_26 hl (by decide) rfl (fun ls hl => ?_)
    refine lv_aload hx hb d_MB_countLiveInteractions_28 (lv_at hl 0 rfl) ?_
    refine g_get hx hb hts i_In hown hK.1 hP ft5 rfl 10 (by decide) (hts _ k_294) (fun _ h9 => h9) rfl d_MB_countLiveInteractions_30 ?_
    refine lv_if_eq (tgt := 51) hx hb d_MB_countLiveInteractions_33 (by decide) (fun c6 => ?_) (fun c6 => ?_)
    · skip
      rw [bI_0] at c6
      refine lv_iinc (v := nI (i + 1)) (lv' := [(3, .int (nI (i + 1))), (4, .ref ((aI i))), (2, .int (nI cn)), (0, .ref h), (1, .int z)]) hx hb d_MB_countLiveInteractions_51 hl (k := 1) rfl (nI_1 _) (by decide) rfl (fun ls hl => ?_)
      refine lv_goto (tgt := 4) hx hb d_MB_countLiveInteractions_54 (by decide) ?_
      exact ih _ _ _ (by omega) (lv_sub hl [0, 2, 3, 4] rfl) (by simp_all [cnt, qCnt])
    · skip
      rw [bI_0] at c6
      refine lv_aload hx hb d_MB_countLiveInteractions_36 (lv_at hl 0 rfl) ?_
      refine g_get hx hb hts i_In hown hK.1 hP ft5 rfl 9 (by decide) (hts _ k_292) (fun _ h9 => h9) rfl d_MB_countLiveInteractions_38 ?_
      refine lv_if_ne (tgt := 48) hx hb d_MB_countLiveInteractions_41 (by decide) (fun c7 => ?_) (fun c7 => ?_)
      · skip
        rw [bI_0] at c7
        refine lv_iinc (v := nI (cn + 1)) (lv' := [(2, .int (nI (cn + 1))), (4, .ref ((aI i))), (3, .int (nI i)), (0, .ref h), (1, .int z)]) hx hb d_MB_countLiveInteractions_48 hl (k := 2) rfl (nI_1 _) (by decide) rfl (fun ls hl => ?_)
        refine lv_iinc (v := nI (i + 1)) (lv' := [(3, .int (nI (i + 1))), (2, .int (nI (cn + 1))), (4, .ref ((aI i))), (0, .ref h), (1, .int z)]) hx hb d_MB_countLiveInteractions_51 hl (k := 2) rfl (nI_1 _) (by decide) rfl (fun ls hl => ?_)
        refine lv_goto (tgt := 4) hx hb d_MB_countLiveInteractions_54 (by decide) ?_
        exact ih _ _ _ (by omega) (lv_sub hl [0, 1, 3, 4] rfl) (by simp_all [cnt, qCnt])
      · skip
        rw [bI_0] at c7
        refine lv_iload_n hx hb d_MB_countLiveInteractions_44 rfl (lv_at hl 4 rfl) ?_
        refine lv_if_ne (tgt := 51) hx hb d_MB_countLiveInteractions_45 (by decide) (fun c8 => ?_) (fun c8 => ?_)
        · skip
          refine lv_iinc (v := nI (i + 1)) (lv' := [(3, .int (nI (i + 1))), (4, .ref ((aI i))), (2, .int (nI cn)), (0, .ref h), (1, .int z)]) hx hb d_MB_countLiveInteractions_51 hl (k := 1) rfl (nI_1 _) (by decide) rfl (fun ls hl => ?_)
          refine lv_goto (tgt := 4) hx hb d_MB_countLiveInteractions_54 (by decide) ?_
          exact ih _ _ _ (by omega) (lv_sub hl [0, 2, 3, 4] rfl) (by simp_all [cnt, qCnt])
        · skip
          refine lv_iinc (v := nI (cn + 1)) (lv' := [(2, .int (nI (cn + 1))), (4, .ref ((aI i))), (3, .int (nI i)), (0, .ref h), (1, .int z)]) hx hb d_MB_countLiveInteractions_48 hl (k := 2) rfl (nI_1 _) (by decide) rfl (fun ls hl => ?_)
          refine lv_iinc (v := nI (i + 1)) (lv' := [(3, .int (nI (i + 1))), (2, .int (nI (cn + 1))), (4, .ref ((aI i))), (0, .ref h), (1, .int z)]) hx hb d_MB_countLiveInteractions_51 hl (k := 2) rfl (nI_1 _) (by decide) rfl (fun ls hl => ?_)
          refine lv_goto (tgt := 4) hx hb d_MB_countLiveInteractions_54 (by decide) ?_
          exact ih _ _ _ (by omega) (lv_sub hl [0, 1, 3, 4] rfl) (by simp_all [cnt, qCnt])
set_option maxHeartbeats 4000000 in
set_option maxRecDepth 100000 in
theorem c_MB_countLiveRules (l : Launch) {D : va_G} {cI cZ cO cL : ClassId} {b e0 : Nat} {A : gW} {h : Nat} {σ : Bk} (hB : rBk cI cZ cO e0 A h σ) (hw : wf σ)  : Met l y_MB_countLiveRules (Cond.code y_MB_countLiveRules b_MB_countLiveRules 3 (some .int) :: TT) ({ frames := 3, cells := 0, slots := 0, locals := 64 }) (va_Pc [.ref h] (gI D [(cI, .int), (cZ, .boolean), (cO, .object "java/lang/Object"), (cL, .long)] b e0 A)) (vp_Si (fun y => y = nI (cnt (qRul σ) (kRs σ).length))) 0 0 (fun _ => False) := by
  refine Met.ofG (own := R_MB) (by decide +kernel) rfl (Nat.le_of_ble_eq_true rfl) ?_
  intro p e s m below meth c ls hx hb hr hlk hml hown hnm hts hI hl
  have hl : lv_has ls 3 [(0, .ref h)] := hl
  obtain ⟨hP, hK⟩ := hI
  obtain ⟨ra, ia, sa, ua, aR, aI, aM, fs, fB, hLR, hLI, fS, hfs, hBu, hRs, hIs⟩ := id hB
  obtain ⟨w1, w2, w3, w4, w5, w6, w7, w8⟩ := id hw
  obtain ⟨moR, qR, capR, efR, fLR, -⟩ := id hLR
  obtain ⟨moI, qI, capI, efI, fLI, -⟩ := id hLI
  obtain ⟨hk, hv, fk, fv, fM, fK, fV, hn3, hms⟩ := id hBu
  refine lv_iconst (v := 0) hx hb d_MB_countLiveRules_0 (by decide) ?_
  refine lv_istore_n (lv' := [(1, .int 0), (0, .ref h)]) hx hb d_MB_countLiveRules_1 rfl hl (by decide) rfl (fun ls hl => ?_)
  refine lv_iconst (v := 0) hx hb d_MB_countLiveRules_2 (by decide) ?_
  refine lv_istore_n (lv' := [(2, .int 0), (1, .int 0), (0, .ref h)]) hx hb d_MB_countLiveRules_3 rfl hl (by decide) rfl (fun ls hl => ?_)
  obtain ⟨i, hi0⟩ : ∃ z : Nat, z = 0 := ⟨_, rfl⟩
  obtain ⟨cn, hcn0⟩ : ∃ z : Nat, z = 0 := ⟨_, rfl⟩
  obtain ⟨n, hn⟩ : ∃ z : Nat, i + z = (kRs σ).length := ⟨(kRs σ).length - i, by omega⟩
  replace hl : lv_has ls 3 [(2, .int (nI i)), (1, .int (nI cn)), (0, .ref h)] := by rw [hi0, hcn0, nI_0]; exact hl
  have hinv : cn = cnt (qRul σ) i := by subst hi0 hcn0; rfl
  clear hi0 hcn0
  induction n generalizing i cn ls with
  | zero =>
    refine lv_iload_n hx hb d_MB_countLiveRules_4 rfl (lv_at hl 0 rfl) ?_
    refine lv_aload_n hx hb d_MB_countLiveRules_5 rfl (lv_at hl 2 rfl) ?_
    refine g_get hx hb hts i_MB hown hK.1 hP fB rfl 0 (by decide) (hts _ k_68) (fun _ h9 => h9) rfl d_MB_countLiveRules_6 ?_
    refine g_ri (g_runV (As := []) (rest := [.int (nI i)]) ⟨hx, hb, hml, hown, hts⟩ (c_AL_size l hLR) st_AL_size k_120 ⟨rfl, rfl, by decide, by decide⟩ rfl (gI.preV hK va_S.rf hP fLR rfl _) rfl hl.1 rfl (Nat.le_of_ble_eq_true rfl) d_MB_countLiveRules_9 ⟨by decide, by decide⟩) (fun r1 hr1 => ?_)
    subst hr1
    refine lv_icmp_ge (tgt := 41) hx hb d_MB_countLiveRules_12 (by decide) (fun _ => ?_) (fun h9 => absurd (nI_le (show (kRs σ).length ≤ i by omega) (by omega)) h9)
    refine lv_iload_n hx hb d_MB_countLiveRules_41 rfl (lv_at hl 1 rfl) ?_
    exact W.iret hx hb hr (fun t ht _ => ⟨_, rfl, (by rw [hinv, show i = (kRs σ).length by omega]), ht⟩) (fun _ h => nomatch h) d_MB_countLiveRules_42
  | succ n ih =>
    refine lv_iload_n hx hb d_MB_countLiveRules_4 rfl (lv_at hl 0 rfl) ?_
    refine lv_aload_n hx hb d_MB_countLiveRules_5 rfl (lv_at hl 2 rfl) ?_
    refine g_get hx hb hts i_MB hown hK.1 hP fB rfl 0 (by decide) (hts _ k_68) (fun _ h9 => h9) rfl d_MB_countLiveRules_6 ?_
    refine g_ri (g_runV (As := []) (rest := [.int (nI i)]) ⟨hx, hb, hml, hown, hts⟩ (c_AL_size l hLR) st_AL_size k_120 ⟨rfl, rfl, by decide, by decide⟩ rfl (gI.preV hK va_S.rf hP fLR rfl _) rfl hl.1 rfl (Nat.le_of_ble_eq_true rfl) d_MB_countLiveRules_9 ⟨by decide, by decide⟩) (fun r3 hr3 => ?_)
    subst hr3
    refine lv_icmp_ge (tgt := 41) hx hb d_MB_countLiveRules_12 (by decide) (fun h9 => absurd h9 (nI_ge (show i < (kRs σ).length by omega) (by omega))) (fun _ => ?_)
    refine lv_aload_n hx hb d_MB_countLiveRules_15 rfl (lv_at hl 2 rfl) ?_
    refine g_get hx hb hts i_MB hown hK.1 hP fB rfl 0 (by decide) (hts _ k_68) (fun _ h9 => h9) rfl d_MB_countLiveRules_16 ?_
    refine lv_iload_n hx hb d_MB_countLiveRules_19 rfl (lv_at hl 0 rfl) ?_
    refine g_rr (g_runV (As := [.int (nI i)]) (rest := []) ⟨hx, hb, hml, hown, hts⟩ (c_AL_get l hLR (i := i) (by omega)) st_AL_get k_222 ⟨rfl, rfl, by decide, by decide⟩ rfl (gI.preV hK va_S.rf hP fLR rfl _) rfl hl.1 rfl (Nat.le_of_ble_eq_true rfl) d_MB_countLiveRules_20 ⟨by decide, by decide⟩) ?_
    obtain ⟨r5, hr5⟩ : ∃ z, z = (kRs σ).getD i u0 := ⟨_, rfl⟩
    have fr5 : rRu cI A i (aR i) (aM i) r5 := by rw [hr5]; exact (hRs i (by omega)).2
    have mr5 : rMa cI A i (aM i) (uMs r5) := by rw [hr5]; exact (hRs i (by omega)).1
    have br5 : wfR r5 := by rw [hr5]; exact w3 i (by omega)
    obtain ⟨br51, br52, br53, br54, br55, br56, br57⟩ := br5
    obtain ⟨hk5, hv5, fk5, fv5, fR5, fK5, fV5, hn5, hac5⟩ := id fr5
    refine va_castY (C := R_Ru) hx hb hown (hts _ k_124) (hK.2.1 _ (List.mem_of_getElem? (i := 5) rfl)) (va_recv (q0 := 0) hK.1 (hP.one fR5) rfl rfl) d_MB_countLiveRules_23 ?_
    refine g_get hx hb hts i_Ru hown hK.1 hP fR5 rfl 7 (by decide) (hts _ k_143) (fun _ h9 => h9) rfl d_MB_countLiveRules_26 ?_
    refine lv_if_eq (tgt := 35) hx hb d_MB_countLiveRules_29 (by decide) (fun c6 => ?_) (fun c6 => ?_)
    · skip
      rw [bI_0] at c6
      refine lv_iinc (v := nI (i + 1)) (lv' := [(2, .int (nI (i + 1))), (1, .int (nI cn)), (0, .ref h)]) hx hb d_MB_countLiveRules_35 hl (k := 0) rfl (nI_1 _) (by decide) rfl (fun ls hl => ?_)
      refine lv_goto (tgt := 4) hx hb d_MB_countLiveRules_38 (by decide) ?_
      exact ih _ _ _ (by omega) (lv_sub hl [0, 1, 2] rfl) (by simp_all [cnt, qRul])
    · skip
      rw [bI_0] at c6
      refine lv_iinc (v := nI (cn + 1)) (lv' := [(1, .int (nI (cn + 1))), (2, .int (nI i)), (0, .ref h)]) hx hb d_MB_countLiveRules_32 hl (k := 1) rfl (nI_1 _) (by decide) rfl (fun ls hl => ?_)
      refine lv_iinc (v := nI (i + 1)) (lv' := [(2, .int (nI (i + 1))), (1, .int (nI (cn + 1))), (0, .ref h)]) hx hb d_MB_countLiveRules_35 hl (k := 1) rfl (nI_1 _) (by decide) rfl (fun ls hl => ?_)
      refine lv_goto (tgt := 4) hx hb d_MB_countLiveRules_38 (by decide) ?_
      exact ih _ _ _ (by omega) (lv_sub hl [0, 1, 2] rfl) (by simp_all [cnt, qRul])
set_option maxHeartbeats 4000000 in
set_option maxRecDepth 100000 in
theorem c_MB_unused (l : Launch) {D : va_G} {cI cZ cO cL : ClassId} {b e0 : Nat} {A : gW} {h : Nat} {σ : Bk} (hB : rBk cI cZ cO e0 A h σ) (hw : wf σ)  : Met l y_MB_unused (Cond.code y_MB_unused b_MB_unused 3 (some .int) :: TT) ({ frames := 3, cells := 0, slots := 0, locals := 64 }) (va_Pc [.ref h] (gI D [(cI, .int), (cZ, .boolean), (cO, .object "java/lang/Object"), (cL, .long)] b e0 A)) (vp_Si (fun y => y = sUnused σ)) 0 0 (fun _ => False) := by
  refine Met.ofG (own := R_MB) (by decide +kernel) rfl (Nat.le_of_ble_eq_true rfl) ?_
  intro p e s m below meth c ls hx hb hr hlk hml hown hnm hts hI hl
  have hl : lv_has ls 3 [(0, .ref h)] := hl
  obtain ⟨hP, hK⟩ := hI
  obtain ⟨ra, ia, sa, ua, aR, aI, aM, fs, fB, hLR, hLI, fS, hfs, hBu, hRs, hIs⟩ := id hB
  obtain ⟨w1, w2, w3, w4, w5, w6, w7, w8⟩ := id hw
  obtain ⟨moR, qR, capR, efR, fLR, -⟩ := id hLR
  obtain ⟨moI, qI, capI, efI, fLI, -⟩ := id hLI
  obtain ⟨hk, hv, fk, fv, fM, fK, fV, hn3, hms⟩ := id hBu
  refine lv_iconst (v := 0) hx hb d_MB_unused_0 (by decide) ?_
  refine lv_istore_n (lv' := [(1, .int 0), (0, .ref h)]) hx hb d_MB_unused_1 rfl hl (by decide) rfl (fun ls hl => ?_)
  obtain ⟨i, hi0⟩ : ∃ z : Nat, z = 0 := ⟨_, rfl⟩
  obtain ⟨n, hn⟩ : ∃ z : Nat, i + z = (kRs σ).length := ⟨(kRs σ).length - i, by omega⟩
  replace hl : lv_has ls 3 [(1, .int (nI i)), (0, .ref h)] := by rw [hi0, nI_0]; exact hl
  have hinv : fst' (qUnus σ) n i = sUnused σ := by subst hi0; rw [Nat.zero_add] at hn; rw [hn]; rfl
  clear hi0
  induction n generalizing i ls with
  | zero =>
    refine lv_iload_n hx hb d_MB_unused_2 rfl (lv_at hl 0 rfl) ?_
    refine lv_aload_n hx hb d_MB_unused_3 rfl (lv_at hl 1 rfl) ?_
    refine g_get hx hb hts i_MB hown hK.1 hP fB rfl 0 (by decide) (hts _ k_68) (fun _ h9 => h9) rfl d_MB_unused_4 ?_
    refine g_ri (g_runV (As := []) (rest := [.int (nI i)]) ⟨hx, hb, hml, hown, hts⟩ (c_AL_size l hLR) st_AL_size k_120 ⟨rfl, rfl, by decide, by decide⟩ rfl (gI.preV hK va_S.rf hP fLR rfl _) rfl hl.1 rfl (Nat.le_of_ble_eq_true rfl) d_MB_unused_7 ⟨by decide, by decide⟩) (fun r1 hr1 => ?_)
    subst hr1
    refine lv_icmp_ge (tgt := 47) hx hb d_MB_unused_10 (by decide) (fun _ => ?_) (fun h9 => absurd (nI_le (show (kRs σ).length ≤ i by omega) (by omega)) h9)
    refine lv_bipush (v := (-10)) hx hb d_MB_unused_47 (by decide) ?_
    exact W.iret hx hb hr (fun t ht _ => ⟨_, rfl, (by rw [← hinv]; first | rfl | simp_all [fst', qUnus]), ht⟩) (fun _ h => nomatch h) d_MB_unused_49
  | succ n ih =>
    refine lv_iload_n hx hb d_MB_unused_2 rfl (lv_at hl 0 rfl) ?_
    refine lv_aload_n hx hb d_MB_unused_3 rfl (lv_at hl 1 rfl) ?_
    refine g_get hx hb hts i_MB hown hK.1 hP fB rfl 0 (by decide) (hts _ k_68) (fun _ h9 => h9) rfl d_MB_unused_4 ?_
    refine g_ri (g_runV (As := []) (rest := [.int (nI i)]) ⟨hx, hb, hml, hown, hts⟩ (c_AL_size l hLR) st_AL_size k_120 ⟨rfl, rfl, by decide, by decide⟩ rfl (gI.preV hK va_S.rf hP fLR rfl _) rfl hl.1 rfl (Nat.le_of_ble_eq_true rfl) d_MB_unused_7 ⟨by decide, by decide⟩) (fun r3 hr3 => ?_)
    subst hr3
    refine lv_icmp_ge (tgt := 47) hx hb d_MB_unused_10 (by decide) (fun h9 => absurd h9 (nI_ge (show i < (kRs σ).length by omega) (by omega))) (fun _ => ?_)
    refine lv_aload_n hx hb d_MB_unused_13 rfl (lv_at hl 1 rfl) ?_
    refine g_get hx hb hts i_MB hown hK.1 hP fB rfl 0 (by decide) (hts _ k_68) (fun _ h9 => h9) rfl d_MB_unused_14 ?_
    refine lv_iload_n hx hb d_MB_unused_17 rfl (lv_at hl 0 rfl) ?_
    refine g_rr (g_runV (As := [.int (nI i)]) (rest := []) ⟨hx, hb, hml, hown, hts⟩ (c_AL_get l hLR (i := i) (by omega)) st_AL_get k_222 ⟨rfl, rfl, by decide, by decide⟩ rfl (gI.preV hK va_S.rf hP fLR rfl _) rfl hl.1 rfl (Nat.le_of_ble_eq_true rfl) d_MB_unused_18 ⟨by decide, by decide⟩) ?_
    obtain ⟨r5, hr5⟩ : ∃ z, z = (kRs σ).getD i u0 := ⟨_, rfl⟩
    have fr5 : rRu cI A i (aR i) (aM i) r5 := by rw [hr5]; exact (hRs i (by omega)).2
    have mr5 : rMa cI A i (aM i) (uMs r5) := by rw [hr5]; exact (hRs i (by omega)).1
    have br5 : wfR r5 := by rw [hr5]; exact w3 i (by omega)
    obtain ⟨br51, br52, br53, br54, br55, br56, br57⟩ := br5
    obtain ⟨hk5, hv5, fk5, fv5, fR5, fK5, fV5, hn5, hac5⟩ := id fr5
    refine va_castY (C := R_Ru) hx hb hown (hts _ k_124) (hK.2.1 _ (List.mem_of_getElem? (i := 5) rfl)) (va_recv (q0 := 0) hK.1 (hP.one fR5) rfl rfl) d_MB_unused_21 ?_
    refine lv_astore_n (lv' := [(2, .ref ((aR i))), (1, .int (nI i)), (0, .ref h)]) hx hb d_MB_unused_24 rfl hl (by decide) rfl (fun ls hl => ?_)
    refine lv_aload_n hx hb d_MB_unused_25 rfl (lv_at hl 0 rfl) ?_
    refine g_get hx hb hts i_Ru hown hK.1 hP fR5 rfl 7 (by decide) (hts _ k_143) (fun _ h9 => h9) rfl d_MB_unused_26 ?_
    refine lv_if_eq (tgt := 41) hx hb d_MB_unused_29 (by decide) (fun c6 => ?_) (fun c6 => ?_)
    · skip
      rw [bI_0] at c6
      refine lv_iinc (v := nI (i + 1)) (lv' := [(1, .int (nI (i + 1))), (2, .ref ((aR i))), (0, .ref h)]) hx hb d_MB_unused_41 hl (k := 1) rfl (nI_1 _) (by decide) rfl (fun ls hl => ?_)
      refine lv_goto (tgt := 2) hx hb d_MB_unused_44 (by decide) ?_
      exact ih _ _ (by omega) (lv_sub hl [0, 2] rfl) (by simp_all [fst', qUnus])
    · skip
      rw [bI_0] at c6
      refine lv_aload_n hx hb d_MB_unused_32 rfl (lv_at hl 0 rfl) ?_
      refine g_get hx hb hts i_Ru hown hK.1 hP fR5 rfl 6 (by decide) (hts _ k_141) (fun _ h9 => h9) rfl d_MB_unused_33 ?_
      refine lv_if_ne (tgt := 41) hx hb d_MB_unused_36 (by decide) (fun c7 => ?_) (fun c7 => ?_)
      · skip
        rw [nI_z (by omega)] at c7
        refine lv_iinc (v := nI (i + 1)) (lv' := [(1, .int (nI (i + 1))), (2, .ref ((aR i))), (0, .ref h)]) hx hb d_MB_unused_41 hl (k := 1) rfl (nI_1 _) (by decide) rfl (fun ls hl => ?_)
        refine lv_goto (tgt := 2) hx hb d_MB_unused_44 (by decide) ?_
        exact ih _ _ (by omega) (lv_sub hl [0, 2] rfl) (by simp_all [fst', qUnus])
      · skip
        rw [nI_z (by omega)] at c7
        refine lv_iload_n hx hb d_MB_unused_39 rfl (lv_at hl 1 rfl) ?_
        exact W.iret hx hb hr (fun t ht _ => ⟨_, rfl, (by rw [← hinv]; first | rfl | simp_all [fst', qUnus]), ht⟩) (fun _ h => nomatch h) d_MB_unused_40
set_option maxHeartbeats 4000000 in
set_option maxRecDepth 100000 in
theorem c_MB_open (l : Launch) {D : va_G} {cI cZ cO cL : ClassId} {b e0 : Nat} {A : gW} {h : Nat} {σ : Bk} (hB : rBk cI cZ cO e0 A h σ) (hw : wf σ) (x : Int32) : Met l y_MB_open (Cond.code y_MB_open b_MB_open 4 (some .int) :: TT) ({ frames := 3, cells := 0, slots := 0, locals := 64 }) (va_Pc [.ref h, .int x] (gI D [(cI, .int), (cZ, .boolean), (cO, .object "java/lang/Object"), (cL, .long)] b e0 A)) (vp_Si (fun y => y = sOpen σ x)) 0 0 (fun _ => False) := by
  refine Met.ofG (own := R_MB) (by decide +kernel) rfl (Nat.le_of_ble_eq_true rfl) ?_
  intro p e s m below meth c ls hx hb hr hlk hml hown hnm hts hI hl
  have hl : lv_has ls 4 [(0, .ref h), (1, .int x)] := hl
  obtain ⟨hP, hK⟩ := hI
  obtain ⟨ra, ia, sa, ua, aR, aI, aM, fs, fB, hLR, hLI, fS, hfs, hBu, hRs, hIs⟩ := id hB
  obtain ⟨w1, w2, w3, w4, w5, w6, w7, w8⟩ := id hw
  obtain ⟨moR, qR, capR, efR, fLR, -⟩ := id hLR
  obtain ⟨moI, qI, capI, efI, fLI, -⟩ := id hLI
  obtain ⟨hk, hv, fk, fv, fM, fK, fV, hn3, hms⟩ := id hBu
  refine lv_iload_n hx hb d_MB_open_0 rfl (lv_at hl 1 rfl) ?_
  refine g_ri (g_runS (As := [.int x]) (rest := []) ⟨hx, hb, hml, hown, hts⟩ (c_MB_isMock l x) st_MB_isMock k_110 ⟨rfl, rfl, by decide, by decide⟩ (gT_pre _) rfl hl.1 rfl (Nat.le_of_ble_eq_true rfl) d_MB_open_1 ⟨by decide, by decide⟩) (fun r1 hr1 => ?_)
  subst hr1
  refine lv_if_ne (tgt := 9) hx hb d_MB_open_4 (by decide) (fun c2 => ?_) (fun c2 => ?_)
  · skip
    rw [bI_0] at c2
    obtain ⟨mk, hmk, rfl⟩ := inR_of (M := 3) (n := 3) (by decide) (by simpa using c2 : inR x 0 3 = true)
    have hsp : sOpen σ (nI mk) = fst' (qOpen σ mk) (kIs σ).length 0 := by simp_all [sOpen, nI_clamp (show mk < 2 ^ 31 by omega)]
    refine lv_iconst (v := 0) hx hb d_MB_open_9 (by decide) ?_
    refine lv_istore_n (lv' := [(2, .int 0), (0, .ref h), (1, .int (nI mk))]) hx hb d_MB_open_10 rfl hl (by decide) rfl (fun ls hl => ?_)
    obtain ⟨i, hi0⟩ : ∃ z : Nat, z = 0 := ⟨_, rfl⟩
    obtain ⟨n, hn⟩ : ∃ z : Nat, i + z = (kIs σ).length := ⟨(kIs σ).length - i, by omega⟩
    replace hl : lv_has ls 4 [(2, .int (nI i)), (0, .ref h), (1, .int (nI mk))] := by rw [hi0, nI_0]; exact hl
    have hinv : fst' (qOpen σ mk) n i = sOpen σ (nI mk) := by subst hi0; rw [Nat.zero_add] at hn; rw [hn]; exact hsp.symm
    clear hi0
    induction n generalizing i ls with
    | zero =>
      refine lv_iload_n hx hb d_MB_open_11 rfl (lv_at hl 0 rfl) ?_
      refine lv_aload_n hx hb d_MB_open_12 rfl (lv_at hl 1 rfl) ?_
      refine g_get hx hb hts i_MB hown hK.1 hP fB rfl 1 (by decide) (hts _ k_69) (fun _ h9 => h9) rfl d_MB_open_13 ?_
      refine g_ri (g_runV (As := []) (rest := [.int (nI i)]) ⟨hx, hb, hml, hown, hts⟩ (c_AL_size l hLI) st_AL_size k_120 ⟨rfl, rfl, by decide, by decide⟩ rfl (gI.preV hK va_S.rf hP fLI rfl _) rfl hl.1 rfl (Nat.le_of_ble_eq_true rfl) d_MB_open_16 ⟨by decide, by decide⟩) (fun r3 hr3 => ?_)
      subst hr3
      refine lv_icmp_ge (tgt := 64) hx hb d_MB_open_19 (by decide) (fun _ => ?_) (fun h9 => absurd (nI_le (show (kIs σ).length ≤ i by omega) (by omega)) h9)
      refine lv_bipush (v := (-10)) hx hb d_MB_open_64 (by decide) ?_
      exact W.iret hx hb hr (fun t ht _ => ⟨_, rfl, (by first | (rw [← hinv]; rfl) | (rw [← hinv]; simp_all [fst', qOpen]; done) | (simp_all [sOpen]; done)), ht⟩) (fun _ h => nomatch h) d_MB_open_66
    | succ n ih =>
      refine lv_iload_n hx hb d_MB_open_11 rfl (lv_at hl 0 rfl) ?_
      refine lv_aload_n hx hb d_MB_open_12 rfl (lv_at hl 1 rfl) ?_
      refine g_get hx hb hts i_MB hown hK.1 hP fB rfl 1 (by decide) (hts _ k_69) (fun _ h9 => h9) rfl d_MB_open_13 ?_
      refine g_ri (g_runV (As := []) (rest := [.int (nI i)]) ⟨hx, hb, hml, hown, hts⟩ (c_AL_size l hLI) st_AL_size k_120 ⟨rfl, rfl, by decide, by decide⟩ rfl (gI.preV hK va_S.rf hP fLI rfl _) rfl hl.1 rfl (Nat.le_of_ble_eq_true rfl) d_MB_open_16 ⟨by decide, by decide⟩) (fun r5 hr5 => ?_)
      subst hr5
      refine lv_icmp_ge (tgt := 64) hx hb d_MB_open_19 (by decide) (fun h9 => absurd h9 (nI_ge (show i < (kIs σ).length by omega) (by omega))) (fun _ => ?_)
      refine lv_aload_n hx hb d_MB_open_22 rfl (lv_at hl 1 rfl) ?_
      refine g_get hx hb hts i_MB hown hK.1 hP fB rfl 1 (by decide) (hts _ k_69) (fun _ h9 => h9) rfl d_MB_open_23 ?_
      refine lv_iload_n hx hb d_MB_open_26 rfl (lv_at hl 0 rfl) ?_
      refine g_rr (g_runV (As := [.int (nI i)]) (rest := []) ⟨hx, hb, hml, hown, hts⟩ (c_AL_get l hLI (i := i) (by omega)) st_AL_get k_222 ⟨rfl, rfl, by decide, by decide⟩ rfl (gI.preV hK va_S.rf hP fLI rfl _) rfl hl.1 rfl (Nat.le_of_ble_eq_true rfl) d_MB_open_27 ⟨by decide, by decide⟩) ?_
      obtain ⟨t7, ht7⟩ : ∃ z, z = (kIs σ).getD i i0 := ⟨_, rfl⟩
      have ft7 : rIn A i (aI i) t7 := by rw [ht7]; exact hIs i (by omega)
      have bt7 : wfI t7 := by rw [ht7]; exact (w4 i (by omega)).1
      obtain ⟨bt71, bt72⟩ := bt7
      refine va_castY (C := R_In) hx hb hown (hts _ k_263) (hK.2.1 _ (List.mem_of_getElem? (i := 6) rfl)) (va_recv (q0 := 0) hK.1 (hP.one ft7) rfl rfl) d_MB_open_30 ?_
      refine lv_astore_n (lv' := [(3, .ref ((aI i))), (2, .int (nI i)), (0, .ref h), (1, .int (nI mk))]) hx hb d_MB_open_33 rfl hl (by decide) rfl (fun ls hl => ?_)
      refine lv_aload_n hx hb d_MB_open_34 rfl (lv_at hl 0 rfl) ?_
      refine g_get hx hb hts i_In hown hK.1 hP ft7 rfl 10 (by decide) (hts _ k_294) (fun _ h9 => h9) rfl d_MB_open_35 ?_
      refine lv_if_eq (tgt := 58) hx hb d_MB_open_38 (by decide) (fun c8 => ?_) (fun c8 => ?_)
      · skip
        rw [bI_0] at c8
        refine lv_iinc (v := nI (i + 1)) (lv' := [(2, .int (nI (i + 1))), (3, .ref ((aI i))), (0, .ref h), (1, .int (nI mk))]) hx hb d_MB_open_58 hl (k := 1) rfl (nI_1 _) (by decide) rfl (fun ls hl => ?_)
        refine lv_goto (tgt := 11) hx hb d_MB_open_61 (by decide) ?_
        exact ih _ _ (by omega) (lv_sub hl [0, 2, 3] rfl) (by simp_all [fst', qOpen])
      · skip
        rw [bI_0] at c8
        refine lv_aload_n hx hb d_MB_open_41 rfl (lv_at hl 0 rfl) ?_
        refine g_get hx hb hts i_In hown hK.1 hP ft7 rfl 0 (by decide) (hts _ k_273) (fun _ h9 => h9) rfl d_MB_open_42 ?_
        refine lv_iload_n hx hb d_MB_open_45 rfl (lv_at hl 3 rfl) ?_
        refine lv_icmp_ne (tgt := 58) hx hb d_MB_open_46 (by decide) (fun c9 => ?_) (fun c9 => ?_)
        · skip
          rw [nI_eq (by omega) (by omega)] at c9
          refine lv_iinc (v := nI (i + 1)) (lv' := [(2, .int (nI (i + 1))), (3, .ref ((aI i))), (0, .ref h), (1, .int (nI mk))]) hx hb d_MB_open_58 hl (k := 1) rfl (nI_1 _) (by decide) rfl (fun ls hl => ?_)
          refine lv_goto (tgt := 11) hx hb d_MB_open_61 (by decide) ?_
          exact ih _ _ (by omega) (lv_sub hl [0, 2, 3] rfl) (by simp_all [fst', qOpen])
        · skip
          rw [nI_eq (by omega) (by omega)] at c9
          refine lv_aload_n hx hb d_MB_open_49 rfl (lv_at hl 0 rfl) ?_
          refine g_get hx hb hts i_In hown hK.1 hP ft7 rfl 9 (by decide) (hts _ k_292) (fun _ h9 => h9) rfl d_MB_open_50 ?_
          refine lv_if_ne (tgt := 58) hx hb d_MB_open_53 (by decide) (fun c10 => ?_) (fun c10 => ?_)
          · skip
            rw [bI_0] at c10
            refine lv_iinc (v := nI (i + 1)) (lv' := [(2, .int (nI (i + 1))), (3, .ref ((aI i))), (0, .ref h), (1, .int (nI mk))]) hx hb d_MB_open_58 hl (k := 1) rfl (nI_1 _) (by decide) rfl (fun ls hl => ?_)
            refine lv_goto (tgt := 11) hx hb d_MB_open_61 (by decide) ?_
            exact ih _ _ (by omega) (lv_sub hl [0, 2, 3] rfl) (by simp_all [fst', qOpen])
          · skip
            rw [bI_0] at c10
            refine lv_iload_n hx hb d_MB_open_56 rfl (lv_at hl 1 rfl) ?_
            exact W.iret hx hb hr (fun t ht _ => ⟨_, rfl, (by first | (rw [← hinv]; rfl) | (rw [← hinv]; simp_all [fst', qOpen]; done) | (simp_all [sOpen]; done)), ht⟩) (fun _ h => nomatch h) d_MB_open_57
  · skip
    rw [bI_0] at c2
    refine lv_iconst (v := (-1)) hx hb d_MB_open_7 (by decide) ?_
    exact W.iret hx hb hr (fun t ht _ => ⟨_, rfl, (by first | (rw [← hinv]; rfl) | (rw [← hinv]; simp_all [fst', qOpen]; done) | (simp_all [sOpen]; done)), ht⟩) (fun _ h => nomatch h) d_MB_open_8
set_option maxHeartbeats 4000000 in
set_option maxRecDepth 100000 in
theorem c_MB_firstSoughtAfterMark (l : Launch) {D : va_G} {cI cZ cO cL : ClassId} {b e0 : Nat} {A : gW} {h : Nat} {σ : Bk} (hB : rBk cI cZ cO e0 A h σ) (hw : wf σ) {mk mt : Nat} (b1 : mk < 4) (b2 : mt < 8) : Met l y_MB_firstSoughtAfterMark (Cond.code y_MB_firstSoughtAfterMark b_MB_firstSoughtAfterMark 4 (some .int) :: TT) ({ frames := 4, cells := 0, slots := 0, locals := 89 }) (va_Pc [.ref h, .int (nI mk), .int (nI mt)] (gI D [(cI, .int), (cZ, .boolean), (cO, .object "java/lang/Object"), (cL, .long)] b e0 A)) (vp_Si (fun y => y = fst' (qAsk σ mk mt) ((kIs σ).length - kMk σ) (kMk σ))) 0 0 (fun _ => False) := by
  refine Met.ofG (own := R_MB) (by decide +kernel) rfl (Nat.le_of_ble_eq_true rfl) ?_
  intro p e s m below meth c ls hx hb hr hlk hml hown hnm hts hI hl
  have hl : lv_has ls 4 [(0, .ref h), (1, .int (nI mk)), (2, .int (nI mt))] := hl
  obtain ⟨hP, hK⟩ := hI
  obtain ⟨ra, ia, sa, ua, aR, aI, aM, fs, fB, hLR, hLI, fS, hfs, hBu, hRs, hIs⟩ := id hB
  obtain ⟨w1, w2, w3, w4, w5, w6, w7, w8⟩ := id hw
  obtain ⟨moR, qR, capR, efR, fLR, -⟩ := id hLR
  obtain ⟨moI, qI, capI, efI, fLI, -⟩ := id hLI
  obtain ⟨hk, hv, fk, fv, fM, fK, fV, hn3, hms⟩ := id hBu
  refine lv_aload_n hx hb d_MB_firstSoughtAfterMark_0 rfl (lv_at hl 0 rfl) ?_
  refine g_get hx hb hts i_MB hown hK.1 hP fB rfl 4 (by decide) (hts _ k_72) (fun _ h9 => h9) rfl d_MB_firstSoughtAfterMark_1 ?_
  refine lv_iconst (v := 1) hx hb d_MB_firstSoughtAfterMark_4 (by decide) ?_
  refine lv_iadd hx hb d_MB_firstSoughtAfterMark_5 ?_
  rw [show nI (kMk σ) - 1 + 1 = nI (kMk σ) from Int32.sub_add_cancel _ _] 
  refine lv_istore_n (lv' := [(3, .int (nI (kMk σ))), (0, .ref h), (1, .int (nI mk)), (2, .int (nI mt))]) hx hb d_MB_firstSoughtAfterMark_6 rfl hl (by decide) rfl (fun ls hl => ?_)
  obtain ⟨i, hi0⟩ : ∃ z : Nat, z = kMk σ := ⟨_, rfl⟩
  obtain ⟨n, hn⟩ : ∃ z : Nat, i + z = (kIs σ).length := ⟨(kIs σ).length - i, by omega⟩
  replace hl : lv_has ls 4 [(3, .int (nI i)), (0, .ref h), (1, .int (nI mk)), (2, .int (nI mt))] := by rw [hi0]; exact hl
  have hinv : fst' (qAsk σ mk mt) n i = fst' (qAsk σ mk mt) ((kIs σ).length - kMk σ) (kMk σ) := by subst hi0; rw [show n = (kIs σ).length - kMk σ by omega]
  clear hi0
  induction n generalizing i ls with
  | zero =>
    refine lv_iload_n hx hb d_MB_firstSoughtAfterMark_7 rfl (lv_at hl 0 rfl) ?_
    refine lv_aload_n hx hb d_MB_firstSoughtAfterMark_8 rfl (lv_at hl 1 rfl) ?_
    refine g_get hx hb hts i_MB hown hK.1 hP fB rfl 1 (by decide) (hts _ k_69) (fun _ h9 => h9) rfl d_MB_firstSoughtAfterMark_9 ?_
    refine g_ri (g_runV (As := []) (rest := [.int (nI i)]) ⟨hx, hb, hml, hown, hts⟩ (c_AL_size l hLI) st_AL_size k_120 ⟨rfl, rfl, by decide, by decide⟩ rfl (gI.preV hK va_S.rf hP fLI rfl _) rfl hl.1 rfl (Nat.le_of_ble_eq_true rfl) d_MB_firstSoughtAfterMark_12 ⟨by decide, by decide⟩) (fun r1 hr1 => ?_)
    subst hr1
    refine lv_icmp_ge (tgt := 46) hx hb d_MB_firstSoughtAfterMark_15 (by decide) (fun _ => ?_) (fun h9 => absurd (nI_le (show (kIs σ).length ≤ i by omega) (by omega)) h9)
    refine lv_bipush (v := (-10)) hx hb d_MB_firstSoughtAfterMark_46 (by decide) ?_
    exact W.iret hx hb hr (fun t ht _ => ⟨_, rfl, (by first | (rw [← hinv]; rfl) | (rw [← hinv]; simp_all [fst', qAsk]; done)), ht⟩) (fun _ h => nomatch h) d_MB_firstSoughtAfterMark_48
  | succ n ih =>
    refine lv_iload_n hx hb d_MB_firstSoughtAfterMark_7 rfl (lv_at hl 0 rfl) ?_
    refine lv_aload_n hx hb d_MB_firstSoughtAfterMark_8 rfl (lv_at hl 1 rfl) ?_
    refine g_get hx hb hts i_MB hown hK.1 hP fB rfl 1 (by decide) (hts _ k_69) (fun _ h9 => h9) rfl d_MB_firstSoughtAfterMark_9 ?_
    refine g_ri (g_runV (As := []) (rest := [.int (nI i)]) ⟨hx, hb, hml, hown, hts⟩ (c_AL_size l hLI) st_AL_size k_120 ⟨rfl, rfl, by decide, by decide⟩ rfl (gI.preV hK va_S.rf hP fLI rfl _) rfl hl.1 rfl (Nat.le_of_ble_eq_true rfl) d_MB_firstSoughtAfterMark_12 ⟨by decide, by decide⟩) (fun r3 hr3 => ?_)
    subst hr3
    refine lv_icmp_ge (tgt := 46) hx hb d_MB_firstSoughtAfterMark_15 (by decide) (fun h9 => absurd h9 (nI_ge (show i < (kIs σ).length by omega) (by omega))) (fun _ => ?_)
    refine lv_aload_n hx hb d_MB_firstSoughtAfterMark_18 rfl (lv_at hl 1 rfl) ?_
    refine lv_aload_n hx hb d_MB_firstSoughtAfterMark_19 rfl (lv_at hl 1 rfl) ?_
    refine g_get hx hb hts i_MB hown hK.1 hP fB rfl 1 (by decide) (hts _ k_69) (fun _ h9 => h9) rfl d_MB_firstSoughtAfterMark_20 ?_
    refine lv_iload_n hx hb d_MB_firstSoughtAfterMark_23 rfl (lv_at hl 0 rfl) ?_
    refine g_rr (g_runV (As := [.int (nI i)]) (rest := [.ref h]) ⟨hx, hb, hml, hown, hts⟩ (c_AL_get l hLI (i := i) (by omega)) st_AL_get k_222 ⟨rfl, rfl, by decide, by decide⟩ rfl (gI.preV hK va_S.rf hP fLI rfl _) rfl hl.1 rfl (Nat.le_of_ble_eq_true rfl) d_MB_firstSoughtAfterMark_24 ⟨by decide, by decide⟩) ?_
    obtain ⟨t5, ht5⟩ : ∃ z, z = (kIs σ).getD i i0 := ⟨_, rfl⟩
    have ft5 : rIn A i (aI i) t5 := by rw [ht5]; exact hIs i (by omega)
    have bt5 : wfI t5 := by rw [ht5]; exact (w4 i (by omega)).1
    obtain ⟨bt51, bt52⟩ := bt5
    refine va_castY (C := R_In) hx hb hown (hts _ k_263) (hK.2.1 _ (List.mem_of_getElem? (i := 6) rfl)) (va_recv (q0 := 0) hK.1 (hP.one ft5) rfl rfl) d_MB_firstSoughtAfterMark_27 ?_
    refine lv_iload_n hx hb d_MB_firstSoughtAfterMark_30 rfl (lv_at hl 2 rfl) ?_
    refine lv_iload_n hx hb d_MB_firstSoughtAfterMark_31 rfl (lv_at hl 3 rfl) ?_
    refine g_ri (g_runV (As := [.ref ((aI i)), .int (nI mk), .int (nI mt)]) (rest := []) ⟨hx, hb, hml, hown, hts⟩ (c_MB_isSought l hB hw ft5 (by omega) (by omega) (by omega) (by omega)) st_MB_isSought k_365 ⟨rfl, rfl, by decide, by decide⟩ rfl (gI.preV hK va_S.rf hP fB rfl _) rfl hl.1 rfl (Nat.le_of_ble_eq_true rfl) d_MB_firstSoughtAfterMark_32 ⟨by decide, by decide⟩) (fun r6 hr6 => ?_)
    subst hr6
    refine lv_if_eq (tgt := 40) hx hb d_MB_firstSoughtAfterMark_35 (by decide) (fun c7 => ?_) (fun c7 => ?_)
    · skip
      rw [bI_0] at c7
      refine lv_iinc (v := nI (i + 1)) (lv' := [(3, .int (nI (i + 1))), (0, .ref h), (1, .int (nI mk)), (2, .int (nI mt))]) hx hb d_MB_firstSoughtAfterMark_40 hl (k := 0) rfl (nI_1 _) (by decide) rfl (fun ls hl => ?_)
      refine lv_goto (tgt := 7) hx hb d_MB_firstSoughtAfterMark_43 (by decide) ?_
      exact ih _ _ (by omega) (lv_sub hl [0, 1, 2, 3] rfl) (by simp_all [fst', qAsk])
    · skip
      rw [bI_0] at c7
      refine lv_iload_n hx hb d_MB_firstSoughtAfterMark_38 rfl (lv_at hl 0 rfl) ?_
      exact W.iret hx hb hr (fun t ht _ => ⟨_, rfl, (by first | (rw [← hinv]; rfl) | (rw [← hinv]; simp_all [fst', qAsk]; done)), ht⟩) (fun _ h => nomatch h) d_MB_firstSoughtAfterMark_39
set_option maxHeartbeats 4000000 in
set_option maxRecDepth 100000 in
theorem c_MB_count (l : Launch) {D : va_G} {cI cZ cO cL : ClassId} {b e0 : Nat} {A : gW} {h : Nat} {σ : Bk} (hB : rBk cI cZ cO e0 A h σ) (hw : wf σ) (wh : Int32) : Met l y_MB_count (Cond.code y_MB_count b_MB_count 2 (some .int) :: TT) ({ frames := 4, cells := 0, slots := 0, locals := 88 }) (va_Pc [.ref h, .int wh] (gI D [(cI, .int), (cZ, .boolean), (cO, .object "java/lang/Object"), (cL, .long)] b e0 A)) (vp_Si (fun y => y = sCount σ wh)) 0 0 (fun _ => False) := by
  refine Met.ofG (own := R_MB) (by decide +kernel) rfl (Nat.le_of_ble_eq_true rfl) ?_
  intro p e s m below meth c ls hx hb hr hlk hml hown hnm hts hI hl
  have hl : lv_has ls 2 [(0, .ref h), (1, .int wh)] := hl
  obtain ⟨hP, hK⟩ := hI
  obtain ⟨ra, ia, sa, ua, aR, aI, aM, fs, fB, hLR, hLI, fS, hfs, hBu, hRs, hIs⟩ := id hB
  obtain ⟨w1, w2, w3, w4, w5, w6, w7, w8⟩ := id hw
  obtain ⟨moR, qR, capR, efR, fLR, -⟩ := id hLR
  obtain ⟨moI, qI, capI, efI, fLI, -⟩ := id hLI
  obtain ⟨hk, hv, fk, fv, fM, fK, fV, hn3, hms⟩ := id hBu
  refine lv_iload_n hx hb d_MB_count_0 rfl (lv_at hl 1 rfl) ?_
  by_cases c1 : wh = 0
  · refine lv_tableIn (off := 39) (tgt := 40) hx hb d_MB_count_1 (by rw [c1]; decide) (by rw [c1]; decide) (by rw [c1]; rfl) (by decide) ?_
    refine lv_aload_n hx hb d_MB_count_40 rfl (lv_at hl 0 rfl) ?_
    refine g_get hx hb hts i_MB hown hK.1 hP fB rfl 1 (by decide) (hts _ k_69) (fun _ h9 => h9) rfl d_MB_count_41 ?_
    refine g_ri (g_runV (As := []) (rest := []) ⟨hx, hb, hml, hown, hts⟩ (c_AL_size l hLI) st_AL_size k_120 ⟨rfl, rfl, by decide, by decide⟩ rfl (gI.preV hK va_S.rf hP fLI rfl _) rfl hl.1 rfl (Nat.le_of_ble_eq_true rfl) d_MB_count_44 ⟨by decide, by decide⟩) (fun r2 hr2 => ?_)
    subst hr2
    exact W.iret hx hb hr (fun t ht _ => ⟨_, rfl, (by simp_all [sCount]), ht⟩) (fun _ h => nomatch h) d_MB_count_47
  by_cases c3 : wh = 1
  · refine lv_tableIn (off := 47) (tgt := 48) hx hb d_MB_count_1 (by rw [c3]; decide) (by rw [c3]; decide) (by rw [c3]; rfl) (by decide) ?_
    refine lv_aload_n hx hb d_MB_count_48 rfl (lv_at hl 0 rfl) ?_
    refine lv_iconst (v := 0) hx hb d_MB_count_49 (by decide) ?_
    refine g_ri (g_runV (As := [.int 0]) (rest := []) ⟨hx, hb, hml, hown, hts⟩ (c_MB_countLiveInteractions l hB hw 0) st_MB_countLiveInteractions k_429 ⟨rfl, rfl, by decide, by decide⟩ rfl (gI.preV hK va_S.rf hP fB rfl _) rfl hl.1 rfl (Nat.le_of_ble_eq_true rfl) d_MB_count_50 ⟨by decide, by decide⟩) (fun r4 hr4 => ?_)
    subst hr4
    exact W.iret hx hb hr (fun t ht _ => ⟨_, rfl, (by simp_all [sCount]), ht⟩) (fun _ h => nomatch h) d_MB_count_53
  by_cases c5 : wh = 2
  · refine lv_tableIn (off := 53) (tgt := 54) hx hb d_MB_count_1 (by rw [c5]; decide) (by rw [c5]; decide) (by rw [c5]; rfl) (by decide) ?_
    refine lv_aload_n hx hb d_MB_count_54 rfl (lv_at hl 0 rfl) ?_
    refine lv_iconst (v := 1) hx hb d_MB_count_55 (by decide) ?_
    refine g_ri (g_runV (As := [.int 1]) (rest := []) ⟨hx, hb, hml, hown, hts⟩ (c_MB_countLiveInteractions l hB hw 1) st_MB_countLiveInteractions k_429 ⟨rfl, rfl, by decide, by decide⟩ rfl (gI.preV hK va_S.rf hP fB rfl _) rfl hl.1 rfl (Nat.le_of_ble_eq_true rfl) d_MB_count_56 ⟨by decide, by decide⟩) (fun r6 hr6 => ?_)
    subst hr6
    exact W.iret hx hb hr (fun t ht _ => ⟨_, rfl, (by simp_all [sCount]), ht⟩) (fun _ h => nomatch h) d_MB_count_59
  by_cases c7 : wh = 3
  · refine lv_tableIn (off := 59) (tgt := 60) hx hb d_MB_count_1 (by rw [c7]; decide) (by rw [c7]; decide) (by rw [c7]; rfl) (by decide) ?_
    refine lv_aload_n hx hb d_MB_count_60 rfl (lv_at hl 0 rfl) ?_
    refine g_get hx hb hts i_MB hown hK.1 hP fB rfl 0 (by decide) (hts _ k_68) (fun _ h9 => h9) rfl d_MB_count_61 ?_
    refine g_ri (g_runV (As := []) (rest := []) ⟨hx, hb, hml, hown, hts⟩ (c_AL_size l hLR) st_AL_size k_120 ⟨rfl, rfl, by decide, by decide⟩ rfl (gI.preV hK va_S.rf hP fLR rfl _) rfl hl.1 rfl (Nat.le_of_ble_eq_true rfl) d_MB_count_64 ⟨by decide, by decide⟩) (fun r8 hr8 => ?_)
    subst hr8
    exact W.iret hx hb hr (fun t ht _ => ⟨_, rfl, (by simp_all [sCount]), ht⟩) (fun _ h => nomatch h) d_MB_count_67
  by_cases c9 : wh = 4
  · refine lv_tableIn (off := 67) (tgt := 68) hx hb d_MB_count_1 (by rw [c9]; decide) (by rw [c9]; decide) (by rw [c9]; rfl) (by decide) ?_
    refine lv_aload_n hx hb d_MB_count_68 rfl (lv_at hl 0 rfl) ?_
    refine g_ri (g_runV (As := []) (rest := []) ⟨hx, hb, hml, hown, hts⟩ (c_MB_countLiveRules l hB hw) st_MB_countLiveRules k_433 ⟨rfl, rfl, by decide, by decide⟩ rfl (gI.preV hK va_S.rf hP fB rfl _) rfl hl.1 rfl (Nat.le_of_ble_eq_true rfl) d_MB_count_69 ⟨by decide, by decide⟩) (fun r10 hr10 => ?_)
    subst hr10
    exact W.iret hx hb hr (fun t ht _ => ⟨_, rfl, (by simp_all [sCount]), ht⟩) (fun _ h => nomatch h) d_MB_count_72
  by_cases c11 : wh = 5
  · refine lv_tableIn (off := 72) (tgt := 73) hx hb d_MB_count_1 (by rw [c11]; decide) (by rw [c11]; decide) (by rw [c11]; rfl) (by decide) ?_
    refine lv_aload_n hx hb d_MB_count_73 rfl (lv_at hl 0 rfl) ?_
    refine g_get hx hb hts i_MB hown hK.1 hP fB rfl 3 (by decide) (hts _ k_71) (fun _ h9 => h9) rfl d_MB_count_74 ?_
    refine g_get hx hb hts i_Ma hown hK.1 hP fM rfl 2 (by decide) (hts _ k_58) (fun _ h9 => h9) rfl d_MB_count_77 ?_
    exact W.iret hx hb hr (fun t ht _ => ⟨_, rfl, (by simp_all [sCount]), ht⟩) (fun _ h => nomatch h) d_MB_count_80
  refine lv_tableOut (tgt := 81) hx hb d_MB_count_1 (by have q0 := lv_neT c1 (show (0 : Int32).toInt = 0 by decide); have q1 := lv_neT c3 (show (1 : Int32).toInt = 1 by decide); have q2 := lv_neT c5 (show (2 : Int32).toInt = 2 by decide); have q3 := lv_neT c7 (show (3 : Int32).toInt = 3 by decide); have q4 := lv_neT c9 (show (4 : Int32).toInt = 4 by decide); have q5 := lv_neT c11 (show (5 : Int32).toInt = 5 by decide); omega) (by decide) ?_
  refine lv_iconst (v := (-1)) hx hb d_MB_count_81 (by decide) ?_
  exact W.iret hx hb hr (fun t ht _ => ⟨_, rfl, (by simp_all [sCount]), ht⟩) (fun _ h => nomatch h) d_MB_count_82
